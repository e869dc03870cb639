theorem dX0_init_0 : decode cX0_init 0 = .ok (.aload_n 0, 1) := by decide +kernel
theorem dX0_init_1 : decode cX0_init 1 = .ok (.invokespecial 3, 3) := by decide +kernel
theorem dX0_init_4 : decode cX0_init 4 = .ok (.aload_n 0, 1) := by decide +kernel
theorem dX0_init_5 : decode cX0_init 5 = .ok (.iconst 4, 1) := by decide +kernel
theorem dX0_init_6 : decode cX0_init 6 = .ok (.newarray .long, 2) := by decide +kernel
theorem dX0_init_8 : decode cX0_init 8 = .ok (.putfield 9, 3) := by decide +kernel
theorem dX0_init_11 : decode cX0_init 11 = .ok (.aload_n 0, 1) := by decide +kernel
theorem dX0_init_12 : decode cX0_init 12 = .ok (.iconst 4, 1) := by decide +kernel
theorem dX0_init_13 : decode cX0_init 13 = .ok (.newarray .long, 2) := by decide +kernel
theorem dX0_init_15 : decode cX0_init 15 = .ok (.putfield 15, 3) := by decide +kernel
theorem dX0_init_18 : decode cX0_init 18 = .ok (.return_, 1) := by decide +kernel
theorem dX0_survey_0 : decode cX0_survey 0 = .ok (.aload_n 0, 1) := by decide +kernel
theorem dX0_survey_1 : decode cX0_survey 1 = .ok (.invokevirtual 18, 3) := by decide +kernel
theorem dX0_survey_4 : decode cX0_survey 4 = .ok (.aload_n 0, 1) := by decide +kernel
theorem dX0_survey_5 : decode cX0_survey 5 = .ok (.aload_n 0, 1) := by decide +kernel
theorem dX0_survey_6 : decode cX0_survey 6 = .ok (.aload_n 1, 1) := by decide +kernel
theorem dX0_survey_7 : decode cX0_survey 7 = .ok (.iload_n 2, 1) := by decide +kernel
theorem dX0_survey_8 : decode cX0_survey 8 = .ok (.invokevirtual 21, 3) := by decide +kernel
theorem dX0_survey_11 : decode cX0_survey 11 = .ok (.putfield 25, 3) := by decide +kernel
theorem dX0_survey_14 : decode cX0_survey 14 = .ok (.aload_n 0, 1) := by decide +kernel
theorem dX0_survey_15 : decode cX0_survey 15 = .ok (.getfield 25, 3) := by decide +kernel
theorem dX0_survey_18 : decode cX0_survey 18 = .ok (.iconst (-1), 1) := by decide +kernel
theorem dX0_survey_19 : decode cX0_survey 19 = .ok (.if_icmp .eq 7, 3) := by decide +kernel
theorem dX0_survey_22 : decode cX0_survey 22 = .ok (.aload_n 0, 1) := by decide +kernel
theorem dX0_survey_23 : decode cX0_survey 23 = .ok (.invokevirtual 18, 3) := by decide +kernel
theorem dX0_survey_26 : decode cX0_survey 26 = .ok (.aload_n 0, 1) := by decide +kernel
theorem dX0_survey_27 : decode cX0_survey 27 = .ok (.iload_n 3, 1) := by decide +kernel
theorem dX0_survey_28 : decode cX0_survey 28 = .ok (.invokevirtual 29, 3) := by decide +kernel
theorem dX0_survey_31 : decode cX0_survey 31 = .ok (.aload_n 0, 1) := by decide +kernel
theorem dX0_survey_32 : decode cX0_survey 32 = .ok (.aload_n 0, 1) := by decide +kernel
theorem dX0_survey_33 : decode cX0_survey 33 = .ok (.getfield 33, 3) := by decide +kernel
theorem dX0_survey_36 : decode cX0_survey 36 = .ok (.aload_n 0, 1) := by decide +kernel
theorem dX0_survey_37 : decode cX0_survey 37 = .ok (.getfield 37, 3) := by decide +kernel
theorem dX0_survey_40 : decode cX0_survey 40 = .ok (.aload_n 0, 1) := by decide +kernel
theorem dX0_survey_41 : decode cX0_survey 41 = .ok (.aload_n 0, 1) := by decide +kernel
theorem dX0_survey_42 : decode cX0_survey 42 = .ok (.getfield 33, 3) := by decide +kernel
theorem dX0_survey_45 : decode cX0_survey 45 = .ok (.invokevirtual 40, 3) := by decide +kernel
theorem dX0_survey_48 : decode cX0_survey 48 = .ok (.ldc2_w 44, 3) := by decide +kernel
theorem dX0_survey_51 : decode cX0_survey 51 = .ok (.lxor, 1) := by decide +kernel
theorem dX0_survey_52 : decode cX0_survey 52 = .ok (.lor, 1) := by decide +kernel
theorem dX0_survey_53 : decode cX0_survey 53 = .ok (.land, 1) := by decide +kernel
theorem dX0_survey_54 : decode cX0_survey 54 = .ok (.putfield 46, 3) := by decide +kernel
theorem dX0_survey_57 : decode cX0_survey 57 = .ok (.aload_n 0, 1) := by decide +kernel
theorem dX0_survey_58 : decode cX0_survey 58 = .ok (.aload_n 0, 1) := by decide +kernel
theorem dX0_survey_59 : decode cX0_survey 59 = .ok (.aload_n 0, 1) := by decide +kernel
theorem dX0_survey_60 : decode cX0_survey 60 = .ok (.getfield 33, 3) := by decide +kernel
theorem dX0_survey_63 : decode cX0_survey 63 = .ok (.aload_n 0, 1) := by decide +kernel
theorem dX0_survey_64 : decode cX0_survey 64 = .ok (.getfield 49, 3) := by decide +kernel
theorem dX0_survey_67 : decode cX0_survey 67 = .ok (.invokevirtual 52, 3) := by decide +kernel
theorem dX0_survey_70 : decode cX0_survey 70 = .ok (.putfield 56, 3) := by decide +kernel
theorem dX0_survey_73 : decode cX0_survey 73 = .ok (.aload_n 0, 1) := by decide +kernel
theorem dX0_survey_74 : decode cX0_survey 74 = .ok (.invokevirtual 59, 3) := by decide +kernel
theorem dX0_survey_77 : decode cX0_survey 77 = .ok (.return_, 1) := by decide +kernel
theorem dX0_clear_0 : decode cX0_clear 0 = .ok (.aload_n 0, 1) := by decide +kernel
theorem dX0_clear_1 : decode cX0_clear 1 = .ok (.iconst 0, 1) := by decide +kernel
theorem dX0_clear_2 : decode cX0_clear 2 = .ok (.putfield 62, 3) := by decide +kernel
theorem dX0_clear_5 : decode cX0_clear 5 = .ok (.aload_n 0, 1) := by decide +kernel
theorem dX0_clear_6 : decode cX0_clear 6 = .ok (.iconst 0, 1) := by decide +kernel
theorem dX0_clear_7 : decode cX0_clear 7 = .ok (.putfield 65, 3) := by decide +kernel
theorem dX0_clear_10 : decode cX0_clear 10 = .ok (.aload_n 0, 1) := by decide +kernel
theorem dX0_clear_11 : decode cX0_clear 11 = .ok (.iconst 0, 1) := by decide +kernel
theorem dX0_clear_12 : decode cX0_clear 12 = .ok (.putfield 68, 3) := by decide +kernel
theorem dX0_clear_15 : decode cX0_clear 15 = .ok (.aload_n 0, 1) := by decide +kernel
theorem dX0_clear_16 : decode cX0_clear 16 = .ok (.lconst 0, 1) := by decide +kernel
theorem dX0_clear_17 : decode cX0_clear 17 = .ok (.putfield 33, 3) := by decide +kernel
theorem dX0_clear_20 : decode cX0_clear 20 = .ok (.aload_n 0, 1) := by decide +kernel
theorem dX0_clear_21 : decode cX0_clear 21 = .ok (.lconst 0, 1) := by decide +kernel
theorem dX0_clear_22 : decode cX0_clear 22 = .ok (.putfield 37, 3) := by decide +kernel
theorem dX0_clear_25 : decode cX0_clear 25 = .ok (.aload_n 0, 1) := by decide +kernel
theorem dX0_clear_26 : decode cX0_clear 26 = .ok (.lconst 0, 1) := by decide +kernel
theorem dX0_clear_27 : decode cX0_clear 27 = .ok (.putfield 49, 3) := by decide +kernel
theorem dX0_clear_30 : decode cX0_clear 30 = .ok (.aload_n 0, 1) := by decide +kernel
theorem dX0_clear_31 : decode cX0_clear 31 = .ok (.lconst 0, 1) := by decide +kernel
theorem dX0_clear_32 : decode cX0_clear 32 = .ok (.putfield 71, 3) := by decide +kernel
theorem dX0_clear_35 : decode cX0_clear 35 = .ok (.aload_n 0, 1) := by decide +kernel
theorem dX0_clear_36 : decode cX0_clear 36 = .ok (.lconst 0, 1) := by decide +kernel
theorem dX0_clear_37 : decode cX0_clear 37 = .ok (.putfield 74, 3) := by decide +kernel
theorem dX0_clear_40 : decode cX0_clear 40 = .ok (.aload_n 0, 1) := by decide +kernel
theorem dX0_clear_41 : decode cX0_clear 41 = .ok (.lconst 0, 1) := by decide +kernel
theorem dX0_clear_42 : decode cX0_clear 42 = .ok (.putfield 77, 3) := by decide +kernel
theorem dX0_clear_45 : decode cX0_clear 45 = .ok (.return_, 1) := by decide +kernel
theorem dX0_markRows_0 : decode cX0_markRows 0 = .ok (.iconst 0, 1) := by decide +kernel
theorem dX0_markRows_1 : decode cX0_markRows 1 = .ok (.istore_n 2, 1) := by decide +kernel
theorem dX0_markRows_2 : decode cX0_markRows 2 = .ok (.iload_n 2, 1) := by decide +kernel
theorem dX0_markRows_3 : decode cX0_markRows 3 = .ok (.aload_n 0, 1) := by decide +kernel
theorem dX0_markRows_4 : decode cX0_markRows 4 = .ok (.getfield 62, 3) := by decide +kernel
theorem dX0_markRows_7 : decode cX0_markRows 7 = .ok (.if_icmp .ge 74, 3) := by decide +kernel
theorem dX0_markRows_10 : decode cX0_markRows 10 = .ok (.iload_n 2, 1) := by decide +kernel
theorem dX0_markRows_11 : decode cX0_markRows 11 = .ok (.aload_n 0, 1) := by decide +kernel
theorem dX0_markRows_12 : decode cX0_markRows 12 = .ok (.getfield 65, 3) := by decide +kernel
theorem dX0_markRows_15 : decode cX0_markRows 15 = .ok (.imul, 1) := by decide +kernel
theorem dX0_markRows_16 : decode cX0_markRows 16 = .ok (.istore_n 3, 1) := by decide +kernel
theorem dX0_markRows_17 : decode cX0_markRows 17 = .ok (.aload_n 0, 1) := by decide +kernel
theorem dX0_markRows_18 : decode cX0_markRows 18 = .ok (.dup, 1) := by decide +kernel
theorem dX0_markRows_19 : decode cX0_markRows 19 = .ok (.getfield 71, 3) := by decide +kernel
theorem dX0_markRows_22 : decode cX0_markRows 22 = .ok (.iload_n 3, 1) := by decide +kernel
theorem dX0_markRows_23 : decode cX0_markRows 23 = .ok (.invokestatic 80, 3) := by decide +kernel
theorem dX0_markRows_26 : decode cX0_markRows 26 = .ok (.lor, 1) := by decide +kernel
theorem dX0_markRows_27 : decode cX0_markRows 27 = .ok (.putfield 71, 3) := by decide +kernel
theorem dX0_markRows_30 : decode cX0_markRows 30 = .ok (.aload_n 0, 1) := by decide +kernel
theorem dX0_markRows_31 : decode cX0_markRows 31 = .ok (.dup, 1) := by decide +kernel
theorem dX0_markRows_32 : decode cX0_markRows 32 = .ok (.getfield 74, 3) := by decide +kernel
theorem dX0_markRows_35 : decode cX0_markRows 35 = .ok (.iload_n 3, 1) := by decide +kernel
theorem dX0_markRows_36 : decode cX0_markRows 36 = .ok (.aload_n 0, 1) := by decide +kernel
theorem dX0_markRows_37 : decode cX0_markRows 37 = .ok (.getfield 65, 3) := by decide +kernel
theorem dX0_markRows_40 : decode cX0_markRows 40 = .ok (.iadd, 1) := by decide +kernel
theorem dX0_markRows_41 : decode cX0_markRows 41 = .ok (.iconst 1, 1) := by decide +kernel
theorem dX0_markRows_42 : decode cX0_markRows 42 = .ok (.isub, 1) := by decide +kernel
theorem dX0_markRows_43 : decode cX0_markRows 43 = .ok (.invokestatic 80, 3) := by decide +kernel
theorem dX0_markRows_46 : decode cX0_markRows 46 = .ok (.lor, 1) := by decide +kernel
theorem dX0_markRows_47 : decode cX0_markRows 47 = .ok (.putfield 74, 3) := by decide +kernel
theorem dX0_markRows_50 : decode cX0_markRows 50 = .ok (.iload_n 2, 1) := by decide +kernel
theorem dX0_markRows_51 : decode cX0_markRows 51 = .ok (.iload_n 1, 1) := by decide +kernel
theorem dX0_markRows_52 : decode cX0_markRows 52 = .ok (.if_icmp .ge 23, 3) := by decide +kernel
theorem dX0_markRows_55 : decode cX0_markRows 55 = .ok (.aload_n 0, 1) := by decide +kernel
theorem dX0_markRows_56 : decode cX0_markRows 56 = .ok (.dup, 1) := by decide +kernel
theorem dX0_markRows_57 : decode cX0_markRows 57 = .ok (.getfield 77, 3) := by decide +kernel
theorem dX0_markRows_60 : decode cX0_markRows 60 = .ok (.aload_n 0, 1) := by decide +kernel
theorem dX0_markRows_61 : decode cX0_markRows 61 = .ok (.getfield 65, 3) := by decide +kernel
theorem dX0_markRows_64 : decode cX0_markRows 64 = .ok (.invokestatic 80, 3) := by decide +kernel
theorem dX0_markRows_67 : decode cX0_markRows 67 = .ok (.lconst 1, 1) := by decide +kernel
theorem dX0_markRows_68 : decode cX0_markRows 68 = .ok (.lsub, 1) := by decide +kernel
theorem dX0_markRows_69 : decode cX0_markRows 69 = .ok (.iload_n 3, 1) := by decide +kernel
theorem dX0_markRows_70 : decode cX0_markRows 70 = .ok (.lshl, 1) := by decide +kernel
theorem dX0_markRows_71 : decode cX0_markRows 71 = .ok (.lor, 1) := by decide +kernel
theorem dX0_markRows_72 : decode cX0_markRows 72 = .ok (.putfield 77, 3) := by decide +kernel
theorem dX0_markRows_75 : decode cX0_markRows 75 = .ok (.iinc 2 1, 3) := by decide +kernel
theorem dX0_markRows_78 : decode cX0_markRows 78 = .ok (.goto (-76), 3) := by decide +kernel
theorem dX0_markRows_81 : decode cX0_markRows 81 = .ok (.return_, 1) := by decide +kernel
theorem dX0_markMoves_0 : decode cX0_markMoves 0 = .ok (.aload_n 0, 1) := by decide +kernel
theorem dX0_markMoves_1 : decode cX0_markMoves 1 = .ok (.getfield 33, 3) := by decide +kernel
theorem dX0_markMoves_4 : decode cX0_markMoves 4 = .ok (.aload_n 0, 1) := by decide +kernel
theorem dX0_markMoves_5 : decode cX0_markMoves 5 = .ok (.getfield 46, 3) := by decide +kernel
theorem dX0_markMoves_8 : decode cX0_markMoves 8 = .ok (.ldc2_w 44, 3) := by decide +kernel
theorem dX0_markMoves_11 : decode cX0_markMoves 11 = .ok (.lxor, 1) := by decide +kernel
theorem dX0_markMoves_12 : decode cX0_markMoves 12 = .ok (.land, 1) := by decide +kernel
theorem dX0_markMoves_13 : decode cX0_markMoves 13 = .ok (.lstore_n 1, 1) := by decide +kernel
theorem dX0_markMoves_14 : decode cX0_markMoves 14 = .ok (.aload_n 0, 1) := by decide +kernel
theorem dX0_markMoves_15 : decode cX0_markMoves 15 = .ok (.getfield 46, 3) := by decide +kernel
theorem dX0_markMoves_18 : decode cX0_markMoves 18 = .ok (.aload_n 0, 1) := by decide +kernel
theorem dX0_markMoves_19 : decode cX0_markMoves 19 = .ok (.getfield 33, 3) := by decide +kernel
theorem dX0_markMoves_22 : decode cX0_markMoves 22 = .ok (.aload_n 0, 1) := by decide +kernel
theorem dX0_markMoves_23 : decode cX0_markMoves 23 = .ok (.getfield 65, 3) := by decide +kernel
theorem dX0_markMoves_26 : decode cX0_markMoves 26 = .ok (.lshl, 1) := by decide +kernel
theorem dX0_markMoves_27 : decode cX0_markMoves 27 = .ok (.land, 1) := by decide +kernel
theorem dX0_markMoves_28 : decode cX0_markMoves 28 = .ok (.aload_n 0, 1) := by decide +kernel
theorem dX0_markMoves_29 : decode cX0_markMoves 29 = .ok (.getfield 37, 3) := by decide +kernel
theorem dX0_markMoves_32 : decode cX0_markMoves 32 = .ok (.aload_n 0, 1) := by decide +kernel
theorem dX0_markMoves_33 : decode cX0_markMoves 33 = .ok (.getfield 37, 3) := by decide +kernel
theorem dX0_markMoves_36 : decode cX0_markMoves 36 = .ok (.aload_n 0, 1) := by decide +kernel
theorem dX0_markMoves_37 : decode cX0_markMoves 37 = .ok (.getfield 65, 3) := by decide +kernel
theorem dX0_markMoves_40 : decode cX0_markMoves 40 = .ok (.lshl, 1) := by decide +kernel
theorem dX0_markMoves_41 : decode cX0_markMoves 41 = .ok (.lor, 1) := by decide +kernel
theorem dX0_markMoves_42 : decode cX0_markMoves 42 = .ok (.land, 1) := by decide +kernel
theorem dX0_markMoves_43 : decode cX0_markMoves 43 = .ok (.lstore_n 3, 1) := by decide +kernel
theorem dX0_markMoves_44 : decode cX0_markMoves 44 = .ok (.aload_n 0, 1) := by decide +kernel
theorem dX0_markMoves_45 : decode cX0_markMoves 45 = .ok (.getfield 46, 3) := by decide +kernel
theorem dX0_markMoves_48 : decode cX0_markMoves 48 = .ok (.aload_n 0, 1) := by decide +kernel
theorem dX0_markMoves_49 : decode cX0_markMoves 49 = .ok (.getfield 33, 3) := by decide +kernel
theorem dX0_markMoves_52 : decode cX0_markMoves 52 = .ok (.aload_n 0, 1) := by decide +kernel
theorem dX0_markMoves_53 : decode cX0_markMoves 53 = .ok (.getfield 65, 3) := by decide +kernel
theorem dX0_markMoves_56 : decode cX0_markMoves 56 = .ok (.lushr, 1) := by decide +kernel
theorem dX0_markMoves_57 : decode cX0_markMoves 57 = .ok (.land, 1) := by decide +kernel
theorem dX0_markMoves_58 : decode cX0_markMoves 58 = .ok (.aload_n 0, 1) := by decide +kernel
theorem dX0_markMoves_59 : decode cX0_markMoves 59 = .ok (.getfield 37, 3) := by decide +kernel
theorem dX0_markMoves_62 : decode cX0_markMoves 62 = .ok (.aload_n 0, 1) := by decide +kernel
theorem dX0_markMoves_63 : decode cX0_markMoves 63 = .ok (.getfield 37, 3) := by decide +kernel
theorem dX0_markMoves_66 : decode cX0_markMoves 66 = .ok (.aload_n 0, 1) := by decide +kernel
theorem dX0_markMoves_67 : decode cX0_markMoves 67 = .ok (.getfield 65, 3) := by decide +kernel
theorem dX0_markMoves_70 : decode cX0_markMoves 70 = .ok (.lushr, 1) := by decide +kernel
theorem dX0_markMoves_71 : decode cX0_markMoves 71 = .ok (.lor, 1) := by decide +kernel
theorem dX0_markMoves_72 : decode cX0_markMoves 72 = .ok (.land, 1) := by decide +kernel
theorem dX0_markMoves_73 : decode cX0_markMoves 73 = .ok (.lstore 5, 2) := by decide +kernel
theorem dX0_markMoves_75 : decode cX0_markMoves 75 = .ok (.aload_n 0, 1) := by decide +kernel
theorem dX0_markMoves_76 : decode cX0_markMoves 76 = .ok (.getfield 9, 3) := by decide +kernel
theorem dX0_markMoves_79 : decode cX0_markMoves 79 = .ok (.iconst 0, 1) := by decide +kernel
theorem dX0_markMoves_80 : decode cX0_markMoves 80 = .ok (.lload_n 3, 1) := by decide +kernel
theorem dX0_markMoves_81 : decode cX0_markMoves 81 = .ok (.lload_n 1, 1) := by decide +kernel
theorem dX0_markMoves_82 : decode cX0_markMoves 82 = .ok (.aload_n 0, 1) := by decide +kernel
theorem dX0_markMoves_83 : decode cX0_markMoves 83 = .ok (.getfield 77, 3) := by decide +kernel
theorem dX0_markMoves_86 : decode cX0_markMoves 86 = .ok (.land, 1) := by decide +kernel
theorem dX0_markMoves_87 : decode cX0_markMoves 87 = .ok (.lor, 1) := by decide +kernel
theorem dX0_markMoves_88 : decode cX0_markMoves 88 = .ok (.lastore, 1) := by decide +kernel
theorem dX0_markMoves_89 : decode cX0_markMoves 89 = .ok (.aload_n 0, 1) := by decide +kernel
theorem dX0_markMoves_90 : decode cX0_markMoves 90 = .ok (.getfield 9, 3) := by decide +kernel
theorem dX0_markMoves_93 : decode cX0_markMoves 93 = .ok (.iconst 1, 1) := by decide +kernel
theorem dX0_markMoves_94 : decode cX0_markMoves 94 = .ok (.aload_n 0, 1) := by decide +kernel
theorem dX0_markMoves_95 : decode cX0_markMoves 95 = .ok (.getfield 46, 3) := by decide +kernel
theorem dX0_markMoves_98 : decode cX0_markMoves 98 = .ok (.aload_n 0, 1) := by decide +kernel
theorem dX0_markMoves_99 : decode cX0_markMoves 99 = .ok (.getfield 71, 3) := by decide +kernel
theorem dX0_markMoves_102 : decode cX0_markMoves 102 = .ok (.ldc2_w 44, 3) := by decide +kernel
theorem dX0_markMoves_105 : decode cX0_markMoves 105 = .ok (.lxor, 1) := by decide +kernel
theorem dX0_markMoves_106 : decode cX0_markMoves 106 = .ok (.land, 1) := by decide +kernel
theorem dX0_markMoves_107 : decode cX0_markMoves 107 = .ok (.aload_n 0, 1) := by decide +kernel
theorem dX0_markMoves_108 : decode cX0_markMoves 108 = .ok (.getfield 33, 3) := by decide +kernel
theorem dX0_markMoves_111 : decode cX0_markMoves 111 = .ok (.iconst 1, 1) := by decide +kernel
theorem dX0_markMoves_112 : decode cX0_markMoves 112 = .ok (.lshl, 1) := by decide +kernel
theorem dX0_markMoves_113 : decode cX0_markMoves 113 = .ok (.land, 1) := by decide +kernel
theorem dX0_markMoves_114 : decode cX0_markMoves 114 = .ok (.lastore, 1) := by decide +kernel
theorem dX0_markMoves_115 : decode cX0_markMoves 115 = .ok (.aload_n 0, 1) := by decide +kernel
theorem dX0_markMoves_116 : decode cX0_markMoves 116 = .ok (.getfield 9, 3) := by decide +kernel
theorem dX0_markMoves_119 : decode cX0_markMoves 119 = .ok (.iconst 2, 1) := by decide +kernel
theorem dX0_markMoves_120 : decode cX0_markMoves 120 = .ok (.aload_n 0, 1) := by decide +kernel
theorem dX0_markMoves_121 : decode cX0_markMoves 121 = .ok (.getfield 46, 3) := by decide +kernel
theorem dX0_markMoves_124 : decode cX0_markMoves 124 = .ok (.aload_n 0, 1) := by decide +kernel
theorem dX0_markMoves_125 : decode cX0_markMoves 125 = .ok (.getfield 74, 3) := by decide +kernel
theorem dX0_markMoves_128 : decode cX0_markMoves 128 = .ok (.ldc2_w 44, 3) := by decide +kernel
theorem dX0_markMoves_131 : decode cX0_markMoves 131 = .ok (.lxor, 1) := by decide +kernel
theorem dX0_markMoves_132 : decode cX0_markMoves 132 = .ok (.land, 1) := by decide +kernel
theorem dX0_markMoves_133 : decode cX0_markMoves 133 = .ok (.aload_n 0, 1) := by decide +kernel
theorem dX0_markMoves_134 : decode cX0_markMoves 134 = .ok (.getfield 33, 3) := by decide +kernel
theorem dX0_markMoves_137 : decode cX0_markMoves 137 = .ok (.iconst 1, 1) := by decide +kernel
theorem dX0_markMoves_138 : decode cX0_markMoves 138 = .ok (.lushr, 1) := by decide +kernel
theorem dX0_markMoves_139 : decode cX0_markMoves 139 = .ok (.land, 1) := by decide +kernel
theorem dX0_markMoves_140 : decode cX0_markMoves 140 = .ok (.lastore, 1) := by decide +kernel
theorem dX0_markMoves_141 : decode cX0_markMoves 141 = .ok (.aload_n 0, 1) := by decide +kernel
theorem dX0_markMoves_142 : decode cX0_markMoves 142 = .ok (.getfield 9, 3) := by decide +kernel
theorem dX0_markMoves_145 : decode cX0_markMoves 145 = .ok (.iconst 3, 1) := by decide +kernel
theorem dX0_markMoves_146 : decode cX0_markMoves 146 = .ok (.lload 5, 2) := by decide +kernel
theorem dX0_markMoves_148 : decode cX0_markMoves 148 = .ok (.lload_n 1, 1) := by decide +kernel
theorem dX0_markMoves_149 : decode cX0_markMoves 149 = .ok (.aload_n 0, 1) := by decide +kernel
theorem dX0_markMoves_150 : decode cX0_markMoves 150 = .ok (.getfield 77, 3) := by decide +kernel
theorem dX0_markMoves_153 : decode cX0_markMoves 153 = .ok (.ldc2_w 44, 3) := by decide +kernel
theorem dX0_markMoves_156 : decode cX0_markMoves 156 = .ok (.lxor, 1) := by decide +kernel
theorem dX0_markMoves_157 : decode cX0_markMoves 157 = .ok (.land, 1) := by decide +kernel
theorem dX0_markMoves_158 : decode cX0_markMoves 158 = .ok (.lor, 1) := by decide +kernel
theorem dX0_markMoves_159 : decode cX0_markMoves 159 = .ok (.lastore, 1) := by decide +kernel
theorem dX0_markMoves_160 : decode cX0_markMoves 160 = .ok (.aload_n 0, 1) := by decide +kernel
theorem dX0_markMoves_161 : decode cX0_markMoves 161 = .ok (.getfield 15, 3) := by decide +kernel
theorem dX0_markMoves_164 : decode cX0_markMoves 164 = .ok (.iconst 0, 1) := by decide +kernel
theorem dX0_markMoves_165 : decode cX0_markMoves 165 = .ok (.aload_n 0, 1) := by decide +kernel
theorem dX0_markMoves_166 : decode cX0_markMoves 166 = .ok (.getfield 77, 3) := by decide +kernel
theorem dX0_markMoves_169 : decode cX0_markMoves 169 = .ok (.ldc2_w 44, 3) := by decide +kernel
theorem dX0_markMoves_172 : decode cX0_markMoves 172 = .ok (.lxor, 1) := by decide +kernel
theorem dX0_markMoves_173 : decode cX0_markMoves 173 = .ok (.aload_n 0, 1) := by decide +kernel
theorem dX0_markMoves_174 : decode cX0_markMoves 174 = .ok (.getfield 77, 3) := by decide +kernel
theorem dX0_markMoves_177 : decode cX0_markMoves 177 = .ok (.aload_n 0, 1) := by decide +kernel
theorem dX0_markMoves_178 : decode cX0_markMoves 178 = .ok (.getfield 65, 3) := by decide +kernel
theorem dX0_markMoves_181 : decode cX0_markMoves 181 = .ok (.lshl, 1) := by decide +kernel
theorem dX0_markMoves_182 : decode cX0_markMoves 182 = .ok (.land, 1) := by decide +kernel
theorem dX0_markMoves_183 : decode cX0_markMoves 183 = .ok (.lastore, 1) := by decide +kernel
theorem dX0_markMoves_184 : decode cX0_markMoves 184 = .ok (.aload_n 0, 1) := by decide +kernel
theorem dX0_markMoves_185 : decode cX0_markMoves 185 = .ok (.getfield 15, 3) := by decide +kernel
theorem dX0_markMoves_188 : decode cX0_markMoves 188 = .ok (.iconst 3, 1) := by decide +kernel
theorem dX0_markMoves_189 : decode cX0_markMoves 189 = .ok (.aload_n 0, 1) := by decide +kernel
theorem dX0_markMoves_190 : decode cX0_markMoves 190 = .ok (.getfield 77, 3) := by decide +kernel
theorem dX0_markMoves_193 : decode cX0_markMoves 193 = .ok (.aload_n 0, 1) := by decide +kernel
theorem dX0_markMoves_194 : decode cX0_markMoves 194 = .ok (.getfield 77, 3) := by decide +kernel
theorem dX0_markMoves_197 : decode cX0_markMoves 197 = .ok (.aload_n 0, 1) := by decide +kernel
theorem dX0_markMoves_198 : decode cX0_markMoves 198 = .ok (.getfield 65, 3) := by decide +kernel
theorem dX0_markMoves_201 : decode cX0_markMoves 201 = .ok (.lushr, 1) := by decide +kernel
theorem dX0_markMoves_202 : decode cX0_markMoves 202 = .ok (.ldc2_w 44, 3) := by decide +kernel
theorem dX0_markMoves_205 : decode cX0_markMoves 205 = .ok (.lxor, 1) := by decide +kernel
theorem dX0_markMoves_206 : decode cX0_markMoves 206 = .ok (.land, 1) := by decide +kernel
theorem dX0_markMoves_207 : decode cX0_markMoves 207 = .ok (.lastore, 1) := by decide +kernel
theorem dX0_markMoves_208 : decode cX0_markMoves 208 = .ok (.return_, 1) := by decide +kernel
theorem dX0_spell_0 : decode cX0_spell 0 = .ok (.iload_n 2, 1) := by decide +kernel
theorem dX0_spell_1 : decode cX0_spell 1 = .ok (.ifCond .ne 5, 3) := by decide +kernel
theorem dX0_spell_4 : decode cX0_spell 4 = .ok (.iconst (-1), 1) := by decide +kernel
theorem dX0_spell_5 : decode cX0_spell 5 = .ok (.ireturn, 1) := by decide +kernel
theorem dX0_spell_6 : decode cX0_spell 6 = .ok (.iconst 0, 1) := by decide +kernel
theorem dX0_spell_7 : decode cX0_spell 7 = .ok (.istore_n 3, 1) := by decide +kernel
theorem dX0_spell_8 : decode cX0_spell 8 = .ok (.iconst 0, 1) := by decide +kernel
theorem dX0_spell_9 : decode cX0_spell 9 = .ok (.istore 4, 2) := by decide +kernel
theorem dX0_spell_11 : decode cX0_spell 11 = .ok (.iload 4, 2) := by decide +kernel
theorem dX0_spell_13 : decode cX0_spell 13 = .ok (.iload_n 2, 1) := by decide +kernel
theorem dX0_spell_14 : decode cX0_spell 14 = .ok (.if_icmp .ge 101, 3) := by decide +kernel
theorem dX0_spell_17 : decode cX0_spell 17 = .ok (.iload 4, 2) := by decide +kernel
theorem dX0_spell_19 : decode cX0_spell 19 = .ok (.aload_n 1, 1) := by decide +kernel
theorem dX0_spell_20 : decode cX0_spell 20 = .ok (.arraylength, 1) := by decide +kernel
theorem dX0_spell_21 : decode cX0_spell 21 = .ok (.if_icmp .ge 94, 3) := by decide +kernel
theorem dX0_spell_24 : decode cX0_spell 24 = .ok (.aload_n 1, 1) := by decide +kernel
theorem dX0_spell_25 : decode cX0_spell 25 = .ok (.iload 4, 2) := by decide +kernel
theorem dX0_spell_27 : decode cX0_spell 27 = .ok (.iaload, 1) := by decide +kernel
theorem dX0_spell_28 : decode cX0_spell 28 = .ok (.istore 5, 2) := by decide +kernel
theorem dX0_spell_30 : decode cX0_spell 30 = .ok (.aload_n 0, 1) := by decide +kernel
theorem dX0_spell_31 : decode cX0_spell 31 = .ok (.getfield 62, 3) := by decide +kernel
theorem dX0_spell_34 : decode cX0_spell 34 = .ok (.iconst 5, 1) := by decide +kernel
theorem dX0_spell_35 : decode cX0_spell 35 = .ok (.if_icmp .lt 6, 3) := by decide +kernel
theorem dX0_spell_38 : decode cX0_spell 38 = .ok (.iload 4, 2) := by decide +kernel
theorem dX0_spell_40 : decode cX0_spell 40 = .ok (.ireturn, 1) := by decide +kernel
theorem dX0_spell_41 : decode cX0_spell 41 = .ok (.iload 5, 2) := by decide +kernel
theorem dX0_spell_43 : decode cX0_spell 43 = .ok (.bipush 59, 2) := by decide +kernel
theorem dX0_spell_45 : decode cX0_spell 45 = .ok (.if_icmp .ne 19, 3) := by decide +kernel
theorem dX0_spell_48 : decode cX0_spell 48 = .ok (.aload_n 0, 1) := by decide +kernel
theorem dX0_spell_49 : decode cX0_spell 49 = .ok (.iload_n 3, 1) := by decide +kernel
theorem dX0_spell_50 : decode cX0_spell 50 = .ok (.invokevirtual 84, 3) := by decide +kernel
theorem dX0_spell_53 : decode cX0_spell 53 = .ok (.ifCond .ne 6, 3) := by decide +kernel
theorem dX0_spell_56 : decode cX0_spell 56 = .ok (.iload 4, 2) := by decide +kernel
theorem dX0_spell_58 : decode cX0_spell 58 = .ok (.ireturn, 1) := by decide +kernel
theorem dX0_spell_59 : decode cX0_spell 59 = .ok (.iconst 0, 1) := by decide +kernel
theorem dX0_spell_60 : decode cX0_spell 60 = .ok (.istore_n 3, 1) := by decide +kernel
theorem dX0_spell_61 : decode cX0_spell 61 = .ok (.goto 48, 3) := by decide +kernel
theorem dX0_spell_64 : decode cX0_spell 64 = .ok (.iload 5, 2) := by decide +kernel
theorem dX0_spell_66 : decode cX0_spell 66 = .ok (.invokestatic 88, 3) := by decide +kernel
theorem dX0_spell_69 : decode cX0_spell 69 = .ok (.istore 6, 2) := by decide +kernel
theorem dX0_spell_71 : decode cX0_spell 71 = .ok (.iload 6, 2) := by decide +kernel
theorem dX0_spell_73 : decode cX0_spell 73 = .ok (.iconst (-1), 1) := by decide +kernel
theorem dX0_spell_74 : decode cX0_spell 74 = .ok (.if_icmp .eq 23, 3) := by decide +kernel
theorem dX0_spell_77 : decode cX0_spell 77 = .ok (.iload_n 3, 1) := by decide +kernel
theorem dX0_spell_78 : decode cX0_spell 78 = .ok (.aload_n 0, 1) := by decide +kernel
theorem dX0_spell_79 : decode cX0_spell 79 = .ok (.getfield 62, 3) := by decide +kernel
theorem dX0_spell_82 : decode cX0_spell 82 = .ok (.ifCond .ne 8, 3) := by decide +kernel
theorem dX0_spell_85 : decode cX0_spell 85 = .ok (.bipush 7, 2) := by decide +kernel
theorem dX0_spell_87 : decode cX0_spell 87 = .ok (.goto 7, 3) := by decide +kernel
theorem dX0_spell_90 : decode cX0_spell 90 = .ok (.aload_n 0, 1) := by decide +kernel
theorem dX0_spell_91 : decode cX0_spell 91 = .ok (.getfield 65, 3) := by decide +kernel
theorem dX0_spell_94 : decode cX0_spell 94 = .ok (.if_icmp .lt 6, 3) := by decide +kernel
theorem dX0_spell_97 : decode cX0_spell 97 = .ok (.iload 4, 2) := by decide +kernel
theorem dX0_spell_99 : decode cX0_spell 99 = .ok (.ireturn, 1) := by decide +kernel
theorem dX0_spell_100 : decode cX0_spell 100 = .ok (.aload_n 0, 1) := by decide +kernel
theorem dX0_spell_101 : decode cX0_spell 101 = .ok (.iload 6, 2) := by decide +kernel
theorem dX0_spell_103 : decode cX0_spell 103 = .ok (.invokevirtual 92, 3) := by decide +kernel
theorem dX0_spell_106 : decode cX0_spell 106 = .ok (.iinc 3 1, 3) := by decide +kernel
theorem dX0_spell_109 : decode cX0_spell 109 = .ok (.iinc 4 1, 3) := by decide +kernel
theorem dX0_spell_112 : decode cX0_spell 112 = .ok (.goto (-101), 3) := by decide +kernel
theorem dX0_spell_115 : decode cX0_spell 115 = .ok (.aload_n 0, 1) := by decide +kernel
theorem dX0_spell_116 : decode cX0_spell 116 = .ok (.iload_n 3, 1) := by decide +kernel
theorem dX0_spell_117 : decode cX0_spell 117 = .ok (.invokevirtual 84, 3) := by decide +kernel
theorem dX0_spell_120 : decode cX0_spell 120 = .ok (.ifCond .eq 7, 3) := by decide +kernel
theorem dX0_spell_123 : decode cX0_spell 123 = .ok (.iconst (-1), 1) := by decide +kernel
theorem dX0_spell_124 : decode cX0_spell 124 = .ok (.goto 4, 3) := by decide +kernel
theorem dX0_spell_127 : decode cX0_spell 127 = .ok (.iload_n 2, 1) := by decide +kernel
theorem dX0_spell_128 : decode cX0_spell 128 = .ok (.ireturn, 1) := by decide +kernel
theorem dX0_endsRow_0 : decode cX0_endsRow 0 = .ok (.iload_n 1, 1) := by decide +kernel
theorem dX0_endsRow_1 : decode cX0_endsRow 1 = .ok (.ifCond .eq 18, 3) := by decide +kernel
theorem dX0_endsRow_4 : decode cX0_endsRow 4 = .ok (.aload_n 0, 1) := by decide +kernel
theorem dX0_endsRow_5 : decode cX0_endsRow 5 = .ok (.getfield 62, 3) := by decide +kernel
theorem dX0_endsRow_8 : decode cX0_endsRow 8 = .ok (.ifCond .le 13, 3) := by decide +kernel
theorem dX0_endsRow_11 : decode cX0_endsRow 11 = .ok (.iload_n 1, 1) := by decide +kernel
theorem dX0_endsRow_12 : decode cX0_endsRow 12 = .ok (.aload_n 0, 1) := by decide +kernel
theorem dX0_endsRow_13 : decode cX0_endsRow 13 = .ok (.getfield 65, 3) := by decide +kernel
theorem dX0_endsRow_16 : decode cX0_endsRow 16 = .ok (.if_icmp .ge 5, 3) := by decide +kernel
theorem dX0_endsRow_19 : decode cX0_endsRow 19 = .ok (.iconst 0, 1) := by decide +kernel
theorem dX0_endsRow_20 : decode cX0_endsRow 20 = .ok (.ireturn, 1) := by decide +kernel
theorem dX0_endsRow_21 : decode cX0_endsRow 21 = .ok (.aload_n 0, 1) := by decide +kernel
theorem dX0_endsRow_22 : decode cX0_endsRow 22 = .ok (.iload_n 1, 1) := by decide +kernel
theorem dX0_endsRow_23 : decode cX0_endsRow 23 = .ok (.putfield 65, 3) := by decide +kernel
theorem dX0_endsRow_26 : decode cX0_endsRow 26 = .ok (.aload_n 0, 1) := by decide +kernel
theorem dX0_endsRow_27 : decode cX0_endsRow 27 = .ok (.dup, 1) := by decide +kernel
theorem dX0_endsRow_28 : decode cX0_endsRow 28 = .ok (.getfield 62, 3) := by decide +kernel
theorem dX0_endsRow_31 : decode cX0_endsRow 31 = .ok (.iconst 1, 1) := by decide +kernel
theorem dX0_endsRow_32 : decode cX0_endsRow 32 = .ok (.iadd, 1) := by decide +kernel
theorem dX0_endsRow_33 : decode cX0_endsRow 33 = .ok (.putfield 62, 3) := by decide +kernel
theorem dX0_endsRow_36 : decode cX0_endsRow 36 = .ok (.iconst 1, 1) := by decide +kernel
theorem dX0_endsRow_37 : decode cX0_endsRow 37 = .ok (.ireturn, 1) := by decide +kernel
theorem dX0_kindOf_0 : decode cX0_kindOf 0 = .ok (.iload_n 0, 1) := by decide +kernel
theorem dX0_kindOf_1 : decode cX0_kindOf 1 = .ok (.lookupswitch 51 #[(35, 43), (46, 45), (108, 47), (119, 49)], 43) := by decide +kernel
theorem dX0_kindOf_44 : decode cX0_kindOf 44 = .ok (.iconst 0, 1) := by decide +kernel
theorem dX0_kindOf_45 : decode cX0_kindOf 45 = .ok (.ireturn, 1) := by decide +kernel
theorem dX0_kindOf_46 : decode cX0_kindOf 46 = .ok (.iconst 1, 1) := by decide +kernel
theorem dX0_kindOf_47 : decode cX0_kindOf 47 = .ok (.ireturn, 1) := by decide +kernel
theorem dX0_kindOf_48 : decode cX0_kindOf 48 = .ok (.iconst 2, 1) := by decide +kernel
theorem dX0_kindOf_49 : decode cX0_kindOf 49 = .ok (.ireturn, 1) := by decide +kernel
theorem dX0_kindOf_50 : decode cX0_kindOf 50 = .ok (.iconst 3, 1) := by decide +kernel
theorem dX0_kindOf_51 : decode cX0_kindOf 51 = .ok (.ireturn, 1) := by decide +kernel
theorem dX0_kindOf_52 : decode cX0_kindOf 52 = .ok (.iconst (-1), 1) := by decide +kernel
theorem dX0_kindOf_53 : decode cX0_kindOf 53 = .ok (.ireturn, 1) := by decide +kernel
theorem dX0_dig_0 : decode cX0_dig 0 = .ok (.iload_n 1, 1) := by decide +kernel
theorem dX0_dig_1 : decode cX0_dig 1 = .ok (.ifCond .eq 19, 3) := by decide +kernel
theorem dX0_dig_4 : decode cX0_dig 4 = .ok (.aload_n 0, 1) := by decide +kernel
theorem dX0_dig_5 : decode cX0_dig 5 = .ok (.dup, 1) := by decide +kernel
theorem dX0_dig_6 : decode cX0_dig 6 = .ok (.getfield 33, 3) := by decide +kernel
theorem dX0_dig_9 : decode cX0_dig 9 = .ok (.aload_n 0, 1) := by decide +kernel
theorem dX0_dig_10 : decode cX0_dig 10 = .ok (.getfield 68, 3) := by decide +kernel
theorem dX0_dig_13 : decode cX0_dig 13 = .ok (.invokestatic 80, 3) := by decide +kernel
theorem dX0_dig_16 : decode cX0_dig 16 = .ok (.lor, 1) := by decide +kernel
theorem dX0_dig_17 : decode cX0_dig 17 = .ok (.putfield 33, 3) := by decide +kernel
theorem dX0_dig_20 : decode cX0_dig 20 = .ok (.iload_n 1, 1) := by decide +kernel
theorem dX0_dig_21 : decode cX0_dig 21 = .ok (.iconst 2, 1) := by decide +kernel
theorem dX0_dig_22 : decode cX0_dig 22 = .ok (.if_icmp .ne 19, 3) := by decide +kernel
theorem dX0_dig_25 : decode cX0_dig 25 = .ok (.aload_n 0, 1) := by decide +kernel
theorem dX0_dig_26 : decode cX0_dig 26 = .ok (.dup, 1) := by decide +kernel
theorem dX0_dig_27 : decode cX0_dig 27 = .ok (.getfield 37, 3) := by decide +kernel
theorem dX0_dig_30 : decode cX0_dig 30 = .ok (.aload_n 0, 1) := by decide +kernel
theorem dX0_dig_31 : decode cX0_dig 31 = .ok (.getfield 68, 3) := by decide +kernel
theorem dX0_dig_34 : decode cX0_dig 34 = .ok (.invokestatic 80, 3) := by decide +kernel
theorem dX0_dig_37 : decode cX0_dig 37 = .ok (.lor, 1) := by decide +kernel
theorem dX0_dig_38 : decode cX0_dig 38 = .ok (.putfield 37, 3) := by decide +kernel
theorem dX0_dig_41 : decode cX0_dig 41 = .ok (.iload_n 1, 1) := by decide +kernel
theorem dX0_dig_42 : decode cX0_dig 42 = .ok (.iconst 3, 1) := by decide +kernel
theorem dX0_dig_43 : decode cX0_dig 43 = .ok (.if_icmp .ne 19, 3) := by decide +kernel
theorem dX0_dig_46 : decode cX0_dig 46 = .ok (.aload_n 0, 1) := by decide +kernel
theorem dX0_dig_47 : decode cX0_dig 47 = .ok (.dup, 1) := by decide +kernel
theorem dX0_dig_48 : decode cX0_dig 48 = .ok (.getfield 49, 3) := by decide +kernel
theorem dX0_dig_51 : decode cX0_dig 51 = .ok (.aload_n 0, 1) := by decide +kernel
theorem dX0_dig_52 : decode cX0_dig 52 = .ok (.getfield 68, 3) := by decide +kernel
theorem dX0_dig_55 : decode cX0_dig 55 = .ok (.invokestatic 80, 3) := by decide +kernel
theorem dX0_dig_58 : decode cX0_dig 58 = .ok (.lor, 1) := by decide +kernel
theorem dX0_dig_59 : decode cX0_dig 59 = .ok (.putfield 49, 3) := by decide +kernel
theorem dX0_dig_62 : decode cX0_dig 62 = .ok (.aload_n 0, 1) := by decide +kernel
theorem dX0_dig_63 : decode cX0_dig 63 = .ok (.dup, 1) := by decide +kernel
theorem dX0_dig_64 : decode cX0_dig 64 = .ok (.getfield 68, 3) := by decide +kernel
theorem dX0_dig_67 : decode cX0_dig 67 = .ok (.iconst 1, 1) := by decide +kernel
theorem dX0_dig_68 : decode cX0_dig 68 = .ok (.iadd, 1) := by decide +kernel
theorem dX0_dig_69 : decode cX0_dig 69 = .ok (.putfield 68, 3) := by decide +kernel
theorem dX0_dig_72 : decode cX0_dig 72 = .ok (.return_, 1) := by decide +kernel
theorem dX0_isCell_0 : decode cX0_isCell 0 = .ok (.iload_n 1, 1) := by decide +kernel
theorem dX0_isCell_1 : decode cX0_isCell 1 = .ok (.ifCond .lt 21, 3) := by decide +kernel
theorem dX0_isCell_4 : decode cX0_isCell 4 = .ok (.iload_n 1, 1) := by decide +kernel
theorem dX0_isCell_5 : decode cX0_isCell 5 = .ok (.aload_n 0, 1) := by decide +kernel
theorem dX0_isCell_6 : decode cX0_isCell 6 = .ok (.getfield 68, 3) := by decide +kernel
theorem dX0_isCell_9 : decode cX0_isCell 9 = .ok (.if_icmp .ge 13, 3) := by decide +kernel
theorem dX0_isCell_12 : decode cX0_isCell 12 = .ok (.iload_n 1, 1) := by decide +kernel
theorem dX0_isCell_13 : decode cX0_isCell 13 = .ok (.bipush 35, 2) := by decide +kernel
theorem dX0_isCell_15 : decode cX0_isCell 15 = .ok (.if_icmp .ge 7, 3) := by decide +kernel
theorem dX0_isCell_18 : decode cX0_isCell 18 = .ok (.iconst 1, 1) := by decide +kernel
theorem dX0_isCell_19 : decode cX0_isCell 19 = .ok (.goto 4, 3) := by decide +kernel
theorem dX0_isCell_22 : decode cX0_isCell 22 = .ok (.iconst 0, 1) := by decide +kernel
theorem dX0_isCell_23 : decode cX0_isCell 23 = .ok (.ireturn, 1) := by decide +kernel
theorem dX0_kind_0 : decode cX0_kind 0 = .ok (.aload_n 0, 1) := by decide +kernel
theorem dX0_kind_1 : decode cX0_kind 1 = .ok (.getfield 33, 3) := by decide +kernel
theorem dX0_kind_4 : decode cX0_kind 4 = .ok (.iload_n 1, 1) := by decide +kernel
theorem dX0_kind_5 : decode cX0_kind 5 = .ok (.invokestatic 95, 3) := by decide +kernel
theorem dX0_kind_8 : decode cX0_kind 8 = .ok (.ifCond .ne 5, 3) := by decide +kernel
theorem dX0_kind_11 : decode cX0_kind 11 = .ok (.iconst 0, 1) := by decide +kernel
theorem dX0_kind_12 : decode cX0_kind 12 = .ok (.ireturn, 1) := by decide +kernel
theorem dX0_kind_13 : decode cX0_kind 13 = .ok (.aload_n 0, 1) := by decide +kernel
theorem dX0_kind_14 : decode cX0_kind 14 = .ok (.getfield 37, 3) := by decide +kernel
theorem dX0_kind_17 : decode cX0_kind 17 = .ok (.iload_n 1, 1) := by decide +kernel
theorem dX0_kind_18 : decode cX0_kind 18 = .ok (.invokestatic 95, 3) := by decide +kernel
theorem dX0_kind_21 : decode cX0_kind 21 = .ok (.ifCond .eq 5, 3) := by decide +kernel
theorem dX0_kind_24 : decode cX0_kind 24 = .ok (.iconst 2, 1) := by decide +kernel
theorem dX0_kind_25 : decode cX0_kind 25 = .ok (.ireturn, 1) := by decide +kernel
theorem dX0_kind_26 : decode cX0_kind 26 = .ok (.aload_n 0, 1) := by decide +kernel
theorem dX0_kind_27 : decode cX0_kind 27 = .ok (.getfield 49, 3) := by decide +kernel
theorem dX0_kind_30 : decode cX0_kind 30 = .ok (.iload_n 1, 1) := by decide +kernel
theorem dX0_kind_31 : decode cX0_kind 31 = .ok (.invokestatic 95, 3) := by decide +kernel
theorem dX0_kind_34 : decode cX0_kind 34 = .ok (.ifCond .eq 7, 3) := by decide +kernel
theorem dX0_kind_37 : decode cX0_kind 37 = .ok (.iconst 3, 1) := by decide +kernel
theorem dX0_kind_38 : decode cX0_kind 38 = .ok (.goto 4, 3) := by decide +kernel
theorem dX0_kind_41 : decode cX0_kind 41 = .ok (.iconst 1, 1) := by decide +kernel
theorem dX0_kind_42 : decode cX0_kind 42 = .ok (.ireturn, 1) := by decide +kernel
theorem dX0_loose_0 : decode cX0_loose 0 = .ok (.lload_n 1, 1) := by decide +kernel
theorem dX0_loose_1 : decode cX0_loose 1 = .ok (.aload_n 0, 1) := by decide +kernel
theorem dX0_loose_2 : decode cX0_loose 2 = .ok (.getfield 77, 3) := by decide +kernel
theorem dX0_loose_5 : decode cX0_loose 5 = .ok (.lload_n 1, 1) := by decide +kernel
theorem dX0_loose_6 : decode cX0_loose 6 = .ok (.aload_n 0, 1) := by decide +kernel
theorem dX0_loose_7 : decode cX0_loose 7 = .ok (.getfield 65, 3) := by decide +kernel
theorem dX0_loose_10 : decode cX0_loose 10 = .ok (.lshl, 1) := by decide +kernel
theorem dX0_loose_11 : decode cX0_loose 11 = .ok (.land, 1) := by decide +kernel
theorem dX0_loose_12 : decode cX0_loose 12 = .ok (.aload_n 0, 1) := by decide +kernel
theorem dX0_loose_13 : decode cX0_loose 13 = .ok (.getfield 77, 3) := by decide +kernel
theorem dX0_loose_16 : decode cX0_loose 16 = .ok (.ldc2_w 44, 3) := by decide +kernel
theorem dX0_loose_19 : decode cX0_loose 19 = .ok (.lxor, 1) := by decide +kernel
theorem dX0_loose_20 : decode cX0_loose 20 = .ok (.lload_n 1, 1) := by decide +kernel
theorem dX0_loose_21 : decode cX0_loose 21 = .ok (.aload_n 0, 1) := by decide +kernel
theorem dX0_loose_22 : decode cX0_loose 22 = .ok (.getfield 65, 3) := by decide +kernel
theorem dX0_loose_25 : decode cX0_loose 25 = .ok (.lushr, 1) := by decide +kernel
theorem dX0_loose_26 : decode cX0_loose 26 = .ok (.land, 1) := by decide +kernel
theorem dX0_loose_27 : decode cX0_loose 27 = .ok (.lor, 1) := by decide +kernel
theorem dX0_loose_28 : decode cX0_loose 28 = .ok (.land, 1) := by decide +kernel
theorem dX0_loose_29 : decode cX0_loose 29 = .ok (.lreturn, 1) := by decide +kernel
theorem dX0_fallen_0 : decode cX0_fallen 0 = .ok (.aload_n 0, 1) := by decide +kernel
theorem dX0_fallen_1 : decode cX0_fallen 1 = .ok (.getfield 33, 3) := by decide +kernel
theorem dX0_fallen_4 : decode cX0_fallen 4 = .ok (.aload_n 0, 1) := by decide +kernel
theorem dX0_fallen_5 : decode cX0_fallen 5 = .ok (.getfield 46, 3) := by decide +kernel
theorem dX0_fallen_8 : decode cX0_fallen 8 = .ok (.ldc2_w 44, 3) := by decide +kernel
theorem dX0_fallen_11 : decode cX0_fallen 11 = .ok (.lxor, 1) := by decide +kernel
theorem dX0_fallen_12 : decode cX0_fallen 12 = .ok (.land, 1) := by decide +kernel
theorem dX0_fallen_13 : decode cX0_fallen 13 = .ok (.iload_n 1, 1) := by decide +kernel
theorem dX0_fallen_14 : decode cX0_fallen 14 = .ok (.invokestatic 95, 3) := by decide +kernel
theorem dX0_fallen_17 : decode cX0_fallen 17 = .ok (.ifCond .ne 5, 3) := by decide +kernel
theorem dX0_fallen_20 : decode cX0_fallen 20 = .ok (.iload_n 1, 1) := by decide +kernel
theorem dX0_fallen_21 : decode cX0_fallen 21 = .ok (.ireturn, 1) := by decide +kernel
theorem dX0_fallen_22 : decode cX0_fallen 22 = .ok (.aload_n 0, 1) := by decide +kernel
theorem dX0_fallen_23 : decode cX0_fallen 23 = .ok (.getfield 77, 3) := by decide +kernel
theorem dX0_fallen_26 : decode cX0_fallen 26 = .ok (.iload_n 1, 1) := by decide +kernel
theorem dX0_fallen_27 : decode cX0_fallen 27 = .ok (.invokestatic 95, 3) := by decide +kernel
theorem dX0_fallen_30 : decode cX0_fallen 30 = .ok (.ifCond .eq 12, 3) := by decide +kernel
theorem dX0_fallen_33 : decode cX0_fallen 33 = .ok (.iload_n 1, 1) := by decide +kernel
theorem dX0_fallen_34 : decode cX0_fallen 34 = .ok (.aload_n 0, 1) := by decide +kernel
theorem dX0_fallen_35 : decode cX0_fallen 35 = .ok (.getfield 65, 3) := by decide +kernel
theorem dX0_fallen_38 : decode cX0_fallen 38 = .ok (.isub, 1) := by decide +kernel
theorem dX0_fallen_39 : decode cX0_fallen 39 = .ok (.goto 9, 3) := by decide +kernel
theorem dX0_fallen_42 : decode cX0_fallen 42 = .ok (.iload_n 1, 1) := by decide +kernel
theorem dX0_fallen_43 : decode cX0_fallen 43 = .ok (.aload_n 0, 1) := by decide +kernel
theorem dX0_fallen_44 : decode cX0_fallen 44 = .ok (.getfield 65, 3) := by decide +kernel
theorem dX0_fallen_47 : decode cX0_fallen 47 = .ok (.iadd, 1) := by decide +kernel
theorem dX0_fallen_48 : decode cX0_fallen 48 = .ok (.ireturn, 1) := by decide +kernel
theorem dX0_placeBehind_0 : decode cX0_placeBehind 0 = .ok (.aload_n 0, 1) := by decide +kernel
theorem dX0_placeBehind_1 : decode cX0_placeBehind 1 = .ok (.getfield 33, 3) := by decide +kernel
theorem dX0_placeBehind_4 : decode cX0_placeBehind 4 = .ok (.iload_n 1, 1) := by decide +kernel
theorem dX0_placeBehind_5 : decode cX0_placeBehind 5 = .ok (.invokestatic 95, 3) := by decide +kernel
theorem dX0_placeBehind_8 : decode cX0_placeBehind 8 = .ok (.ifCond .ne 5, 3) := by decide +kernel
theorem dX0_placeBehind_11 : decode cX0_placeBehind 11 = .ok (.iconst (-1), 1) := by decide +kernel
theorem dX0_placeBehind_12 : decode cX0_placeBehind 12 = .ok (.ireturn, 1) := by decide +kernel
theorem dX0_placeBehind_13 : decode cX0_placeBehind 13 = .ok (.iload_n 1, 1) := by decide +kernel
theorem dX0_placeBehind_14 : decode cX0_placeBehind 14 = .ok (.istore_n 3, 1) := by decide +kernel
theorem dX0_placeBehind_15 : decode cX0_placeBehind 15 = .ok (.iconst 0, 1) := by decide +kernel
theorem dX0_placeBehind_16 : decode cX0_placeBehind 16 = .ok (.istore 4, 2) := by decide +kernel
theorem dX0_placeBehind_18 : decode cX0_placeBehind 18 = .ok (.iload 4, 2) := by decide +kernel
theorem dX0_placeBehind_20 : decode cX0_placeBehind 20 = .ok (.iload_n 2, 1) := by decide +kernel
theorem dX0_placeBehind_21 : decode cX0_placeBehind 21 = .ok (.if_icmp .ge 21, 3) := by decide +kernel
theorem dX0_placeBehind_24 : decode cX0_placeBehind 24 = .ok (.iload 4, 2) := by decide +kernel
theorem dX0_placeBehind_26 : decode cX0_placeBehind 26 = .ok (.iconst 5, 1) := by decide +kernel
theorem dX0_placeBehind_27 : decode cX0_placeBehind 27 = .ok (.if_icmp .ge 15, 3) := by decide +kernel
theorem dX0_placeBehind_30 : decode cX0_placeBehind 30 = .ok (.aload_n 0, 1) := by decide +kernel
theorem dX0_placeBehind_31 : decode cX0_placeBehind 31 = .ok (.iload_n 3, 1) := by decide +kernel
theorem dX0_placeBehind_32 : decode cX0_placeBehind 32 = .ok (.invokevirtual 99, 3) := by decide +kernel
theorem dX0_placeBehind_35 : decode cX0_placeBehind 35 = .ok (.istore_n 3, 1) := by decide +kernel
theorem dX0_placeBehind_36 : decode cX0_placeBehind 36 = .ok (.iinc 4 1, 3) := by decide +kernel
theorem dX0_placeBehind_39 : decode cX0_placeBehind 39 = .ok (.goto (-21), 3) := by decide +kernel
theorem dX0_placeBehind_42 : decode cX0_placeBehind 42 = .ok (.iload_n 3, 1) := by decide +kernel
theorem dX0_placeBehind_43 : decode cX0_placeBehind 43 = .ok (.ireturn, 1) := by decide +kernel
theorem dX0_falls_0 : decode cX0_falls 0 = .ok (.iload_n 1, 1) := by decide +kernel
theorem dX0_falls_1 : decode cX0_falls 1 = .ok (.istore_n 2, 1) := by decide +kernel
theorem dX0_falls_2 : decode cX0_falls 2 = .ok (.iconst 0, 1) := by decide +kernel
theorem dX0_falls_3 : decode cX0_falls 3 = .ok (.istore_n 3, 1) := by decide +kernel
theorem dX0_falls_4 : decode cX0_falls 4 = .ok (.iconst 0, 1) := by decide +kernel
theorem dX0_falls_5 : decode cX0_falls 5 = .ok (.istore 4, 2) := by decide +kernel
theorem dX0_falls_7 : decode cX0_falls 7 = .ok (.iload 4, 2) := by decide +kernel
theorem dX0_falls_9 : decode cX0_falls 9 = .ok (.iconst 5, 1) := by decide +kernel
theorem dX0_falls_10 : decode cX0_falls 10 = .ok (.if_icmp .ge 38, 3) := by decide +kernel
theorem dX0_falls_13 : decode cX0_falls 13 = .ok (.aload_n 0, 1) := by decide +kernel
theorem dX0_falls_14 : decode cX0_falls 14 = .ok (.getfield 33, 3) := by decide +kernel
theorem dX0_falls_17 : decode cX0_falls 17 = .ok (.aload_n 0, 1) := by decide +kernel
theorem dX0_falls_18 : decode cX0_falls 18 = .ok (.getfield 46, 3) := by decide +kernel
theorem dX0_falls_21 : decode cX0_falls 21 = .ok (.ldc2_w 44, 3) := by decide +kernel
theorem dX0_falls_24 : decode cX0_falls 24 = .ok (.lxor, 1) := by decide +kernel
theorem dX0_falls_25 : decode cX0_falls 25 = .ok (.land, 1) := by decide +kernel
theorem dX0_falls_26 : decode cX0_falls 26 = .ok (.iload_n 2, 1) := by decide +kernel
theorem dX0_falls_27 : decode cX0_falls 27 = .ok (.invokestatic 95, 3) := by decide +kernel
theorem dX0_falls_30 : decode cX0_falls 30 = .ok (.ifCond .eq 18, 3) := by decide +kernel
theorem dX0_falls_33 : decode cX0_falls 33 = .ok (.aload_n 0, 1) := by decide +kernel
theorem dX0_falls_34 : decode cX0_falls 34 = .ok (.iload_n 2, 1) := by decide +kernel
theorem dX0_falls_35 : decode cX0_falls 35 = .ok (.invokevirtual 99, 3) := by decide +kernel
theorem dX0_falls_38 : decode cX0_falls 38 = .ok (.istore_n 2, 1) := by decide +kernel
theorem dX0_falls_39 : decode cX0_falls 39 = .ok (.iinc 3 1, 3) := by decide +kernel
theorem dX0_falls_42 : decode cX0_falls 42 = .ok (.iinc 4 1, 3) := by decide +kernel
theorem dX0_falls_45 : decode cX0_falls 45 = .ok (.goto (-38), 3) := by decide +kernel
theorem dX0_falls_48 : decode cX0_falls 48 = .ok (.iload_n 3, 1) := by decide +kernel
theorem dX0_falls_49 : decode cX0_falls 49 = .ok (.ireturn, 1) := by decide +kernel
theorem dX0_goneTo_0 : decode cX0_goneTo 0 = .ok (.iload_n 2, 1) := by decide +kernel
theorem dX0_goneTo_1 : decode cX0_goneTo 1 = .ok (.ifCond .lt 21, 3) := by decide +kernel
theorem dX0_goneTo_4 : decode cX0_goneTo 4 = .ok (.iload_n 2, 1) := by decide +kernel
theorem dX0_goneTo_5 : decode cX0_goneTo 5 = .ok (.iconst 4, 1) := by decide +kernel
theorem dX0_goneTo_6 : decode cX0_goneTo 6 = .ok (.if_icmp .ge 16, 3) := by decide +kernel
theorem dX0_goneTo_9 : decode cX0_goneTo 9 = .ok (.aload_n 0, 1) := by decide +kernel
theorem dX0_goneTo_10 : decode cX0_goneTo 10 = .ok (.getfield 9, 3) := by decide +kernel
theorem dX0_goneTo_13 : decode cX0_goneTo 13 = .ok (.iload_n 2, 1) := by decide +kernel
theorem dX0_goneTo_14 : decode cX0_goneTo 14 = .ok (.laload, 1) := by decide +kernel
theorem dX0_goneTo_15 : decode cX0_goneTo 15 = .ok (.iload_n 1, 1) := by decide +kernel
theorem dX0_goneTo_16 : decode cX0_goneTo 16 = .ok (.invokestatic 95, 3) := by decide +kernel
theorem dX0_goneTo_19 : decode cX0_goneTo 19 = .ok (.ifCond .ne 5, 3) := by decide +kernel
theorem dX0_goneTo_22 : decode cX0_goneTo 22 = .ok (.iconst (-1), 1) := by decide +kernel
theorem dX0_goneTo_23 : decode cX0_goneTo 23 = .ok (.ireturn, 1) := by decide +kernel
theorem dX0_goneTo_24 : decode cX0_goneTo 24 = .ok (.iload_n 2, 1) := by decide +kernel
theorem dX0_goneTo_25 : decode cX0_goneTo 25 = .ok (.tableswitch 42 0 2 #[27, 34, 38], 27) := by decide +kernel
theorem dX0_goneTo_52 : decode cX0_goneTo 52 = .ok (.iload_n 1, 1) := by decide +kernel
theorem dX0_goneTo_53 : decode cX0_goneTo 53 = .ok (.aload_n 0, 1) := by decide +kernel
theorem dX0_goneTo_54 : decode cX0_goneTo 54 = .ok (.getfield 65, 3) := by decide +kernel
theorem dX0_goneTo_57 : decode cX0_goneTo 57 = .ok (.isub, 1) := by decide +kernel
theorem dX0_goneTo_58 : decode cX0_goneTo 58 = .ok (.ireturn, 1) := by decide +kernel
theorem dX0_goneTo_59 : decode cX0_goneTo 59 = .ok (.iload_n 1, 1) := by decide +kernel
theorem dX0_goneTo_60 : decode cX0_goneTo 60 = .ok (.iconst 1, 1) := by decide +kernel
theorem dX0_goneTo_61 : decode cX0_goneTo 61 = .ok (.isub, 1) := by decide +kernel
theorem dX0_goneTo_62 : decode cX0_goneTo 62 = .ok (.ireturn, 1) := by decide +kernel
theorem dX0_goneTo_63 : decode cX0_goneTo 63 = .ok (.iload_n 1, 1) := by decide +kernel
theorem dX0_goneTo_64 : decode cX0_goneTo 64 = .ok (.iconst 1, 1) := by decide +kernel
theorem dX0_goneTo_65 : decode cX0_goneTo 65 = .ok (.iadd, 1) := by decide +kernel
theorem dX0_goneTo_66 : decode cX0_goneTo 66 = .ok (.ireturn, 1) := by decide +kernel
theorem dX0_goneTo_67 : decode cX0_goneTo 67 = .ok (.iload_n 1, 1) := by decide +kernel
theorem dX0_goneTo_68 : decode cX0_goneTo 68 = .ok (.aload_n 0, 1) := by decide +kernel
theorem dX0_goneTo_69 : decode cX0_goneTo 69 = .ok (.getfield 65, 3) := by decide +kernel
theorem dX0_goneTo_72 : decode cX0_goneTo 72 = .ok (.iadd, 1) := by decide +kernel
theorem dX0_goneTo_73 : decode cX0_goneTo 73 = .ok (.ireturn, 1) := by decide +kernel
theorem dX0_moveSteps_0 : decode cX0_moveSteps 0 = .ok (.iload_n 2, 1) := by decide +kernel
theorem dX0_moveSteps_1 : decode cX0_moveSteps 1 = .ok (.ifCond .lt 21, 3) := by decide +kernel
theorem dX0_moveSteps_4 : decode cX0_moveSteps 4 = .ok (.iload_n 2, 1) := by decide +kernel
theorem dX0_moveSteps_5 : decode cX0_moveSteps 5 = .ok (.iconst 4, 1) := by decide +kernel
theorem dX0_moveSteps_6 : decode cX0_moveSteps 6 = .ok (.if_icmp .ge 16, 3) := by decide +kernel
theorem dX0_moveSteps_9 : decode cX0_moveSteps 9 = .ok (.aload_n 0, 1) := by decide +kernel
theorem dX0_moveSteps_10 : decode cX0_moveSteps 10 = .ok (.getfield 15, 3) := by decide +kernel
theorem dX0_moveSteps_13 : decode cX0_moveSteps 13 = .ok (.iload_n 2, 1) := by decide +kernel
theorem dX0_moveSteps_14 : decode cX0_moveSteps 14 = .ok (.laload, 1) := by decide +kernel
theorem dX0_moveSteps_15 : decode cX0_moveSteps 15 = .ok (.iload_n 1, 1) := by decide +kernel
theorem dX0_moveSteps_16 : decode cX0_moveSteps 16 = .ok (.invokestatic 95, 3) := by decide +kernel
theorem dX0_moveSteps_19 : decode cX0_moveSteps 19 = .ok (.ifCond .ne 5, 3) := by decide +kernel
theorem dX0_moveSteps_22 : decode cX0_moveSteps 22 = .ok (.iconst 1, 1) := by decide +kernel
theorem dX0_moveSteps_23 : decode cX0_moveSteps 23 = .ok (.ireturn, 1) := by decide +kernel
theorem dX0_moveSteps_24 : decode cX0_moveSteps 24 = .ok (.iconst 1, 1) := by decide +kernel
theorem dX0_moveSteps_25 : decode cX0_moveSteps 25 = .ok (.iload_n 3, 1) := by decide +kernel
theorem dX0_moveSteps_26 : decode cX0_moveSteps 26 = .ok (.iadd, 1) := by decide +kernel
theorem dX0_moveSteps_27 : decode cX0_moveSteps 27 = .ok (.ireturn, 1) := by decide +kernel
theorem dX0_kicked_0 : decode cX0_kicked 0 = .ok (.iload_n 2, 1) := by decide +kernel
theorem dX0_kicked_1 : decode cX0_kicked 1 = .ok (.ifCond .ne 5, 3) := by decide +kernel
theorem dX0_kicked_4 : decode cX0_kicked 4 = .ok (.iload_n 1, 1) := by decide +kernel
theorem dX0_kicked_5 : decode cX0_kicked 5 = .ok (.ireturn, 1) := by decide +kernel
theorem dX0_kicked_6 : decode cX0_kicked 6 = .ok (.aload_n 0, 1) := by decide +kernel
theorem dX0_kicked_7 : decode cX0_kicked 7 = .ok (.iload_n 1, 1) := by decide +kernel
theorem dX0_kicked_8 : decode cX0_kicked 8 = .ok (.iload_n 2, 1) := by decide +kernel
theorem dX0_kicked_9 : decode cX0_kicked 9 = .ok (.iconst 1, 1) := by decide +kernel
theorem dX0_kicked_10 : decode cX0_kicked 10 = .ok (.if_icmp .ne 7, 3) := by decide +kernel
theorem dX0_kicked_13 : decode cX0_kicked 13 = .ok (.iconst 1, 1) := by decide +kernel
theorem dX0_kicked_14 : decode cX0_kicked 14 = .ok (.goto 4, 3) := by decide +kernel
theorem dX0_kicked_17 : decode cX0_kicked 17 = .ok (.iconst 2, 1) := by decide +kernel
theorem dX0_kicked_18 : decode cX0_kicked 18 = .ok (.invokevirtual 102, 3) := by decide +kernel
theorem dX0_kicked_21 : decode cX0_kicked 21 = .ok (.istore_n 3, 1) := by decide +kernel
theorem dX0_kicked_22 : decode cX0_kicked 22 = .ok (.iload_n 3, 1) := by decide +kernel
theorem dX0_kicked_23 : decode cX0_kicked 23 = .ok (.iconst (-1), 1) := by decide +kernel
theorem dX0_kicked_24 : decode cX0_kicked 24 = .ok (.if_icmp .ne 7, 3) := by decide +kernel
theorem dX0_kicked_27 : decode cX0_kicked 27 = .ok (.iload_n 1, 1) := by decide +kernel
theorem dX0_kicked_28 : decode cX0_kicked 28 = .ok (.goto 4, 3) := by decide +kernel
theorem dX0_kicked_31 : decode cX0_kicked 31 = .ok (.iload_n 3, 1) := by decide +kernel
theorem dX0_kicked_32 : decode cX0_kicked 32 = .ok (.ireturn, 1) := by decide +kernel
theorem dX0_soaked_0 : decode cX0_soaked 0 = .ok (.aload_n 0, 1) := by decide +kernel
theorem dX0_soaked_1 : decode cX0_soaked 1 = .ok (.lload_n 1, 1) := by decide +kernel
theorem dX0_soaked_2 : decode cX0_soaked 2 = .ok (.invokevirtual 40, 3) := by decide +kernel
theorem dX0_soaked_5 : decode cX0_soaked 5 = .ok (.lstore 5, 2) := by decide +kernel
theorem dX0_soaked_7 : decode cX0_soaked 7 = .ok (.lload_n 3, 1) := by decide +kernel
theorem dX0_soaked_8 : decode cX0_soaked 8 = .ok (.lload_n 1, 1) := by decide +kernel
theorem dX0_soaked_9 : decode cX0_soaked 9 = .ok (.land, 1) := by decide +kernel
theorem dX0_soaked_10 : decode cX0_soaked 10 = .ok (.lstore 7, 2) := by decide +kernel
theorem dX0_soaked_12 : decode cX0_soaked 12 = .ok (.iconst 0, 1) := by decide +kernel
theorem dX0_soaked_13 : decode cX0_soaked 13 = .ok (.istore 9, 2) := by decide +kernel
theorem dX0_soaked_15 : decode cX0_soaked 15 = .ok (.iload 9, 2) := by decide +kernel
theorem dX0_soaked_17 : decode cX0_soaked 17 = .ok (.bipush 35, 2) := by decide +kernel
theorem dX0_soaked_19 : decode cX0_soaked 19 = .ok (.if_icmp .ge 112, 3) := by decide +kernel
theorem dX0_soaked_22 : decode cX0_soaked 22 = .ok (.lload 7, 2) := by decide +kernel
theorem dX0_soaked_24 : decode cX0_soaked 24 = .ok (.lload 5, 2) := by decide +kernel
theorem dX0_soaked_26 : decode cX0_soaked 26 = .ok (.land, 1) := by decide +kernel
theorem dX0_soaked_27 : decode cX0_soaked 27 = .ok (.lstore 10, 2) := by decide +kernel
theorem dX0_soaked_29 : decode cX0_soaked 29 = .ok (.lload 7, 2) := by decide +kernel
theorem dX0_soaked_31 : decode cX0_soaked 31 = .ok (.lload 5, 2) := by decide +kernel
theorem dX0_soaked_33 : decode cX0_soaked 33 = .ok (.ldc2_w 44, 3) := by decide +kernel
theorem dX0_soaked_36 : decode cX0_soaked 36 = .ok (.lxor, 1) := by decide +kernel
theorem dX0_soaked_37 : decode cX0_soaked 37 = .ok (.land, 1) := by decide +kernel
theorem dX0_soaked_38 : decode cX0_soaked 38 = .ok (.lstore 12, 2) := by decide +kernel
theorem dX0_soaked_40 : decode cX0_soaked 40 = .ok (.lload_n 1, 1) := by decide +kernel
theorem dX0_soaked_41 : decode cX0_soaked 41 = .ok (.lload 10, 2) := by decide +kernel
theorem dX0_soaked_43 : decode cX0_soaked 43 = .ok (.aload_n 0, 1) := by decide +kernel
theorem dX0_soaked_44 : decode cX0_soaked 44 = .ok (.getfield 77, 3) := by decide +kernel
theorem dX0_soaked_47 : decode cX0_soaked 47 = .ok (.land, 1) := by decide +kernel
theorem dX0_soaked_48 : decode cX0_soaked 48 = .ok (.aload_n 0, 1) := by decide +kernel
theorem dX0_soaked_49 : decode cX0_soaked 49 = .ok (.getfield 65, 3) := by decide +kernel
theorem dX0_soaked_52 : decode cX0_soaked 52 = .ok (.lushr, 1) := by decide +kernel
theorem dX0_soaked_53 : decode cX0_soaked 53 = .ok (.lload 10, 2) := by decide +kernel
theorem dX0_soaked_55 : decode cX0_soaked 55 = .ok (.aload_n 0, 1) := by decide +kernel
theorem dX0_soaked_56 : decode cX0_soaked 56 = .ok (.getfield 77, 3) := by decide +kernel
theorem dX0_soaked_59 : decode cX0_soaked 59 = .ok (.ldc2_w 44, 3) := by decide +kernel
theorem dX0_soaked_62 : decode cX0_soaked 62 = .ok (.lxor, 1) := by decide +kernel
theorem dX0_soaked_63 : decode cX0_soaked 63 = .ok (.land, 1) := by decide +kernel
theorem dX0_soaked_64 : decode cX0_soaked 64 = .ok (.aload_n 0, 1) := by decide +kernel
theorem dX0_soaked_65 : decode cX0_soaked 65 = .ok (.getfield 65, 3) := by decide +kernel
theorem dX0_soaked_68 : decode cX0_soaked 68 = .ok (.lshl, 1) := by decide +kernel
theorem dX0_soaked_69 : decode cX0_soaked 69 = .ok (.lor, 1) := by decide +kernel
theorem dX0_soaked_70 : decode cX0_soaked 70 = .ok (.lload 12, 2) := by decide +kernel
theorem dX0_soaked_72 : decode cX0_soaked 72 = .ok (.aload_n 0, 1) := by decide +kernel
theorem dX0_soaked_73 : decode cX0_soaked 73 = .ok (.getfield 71, 3) := by decide +kernel
theorem dX0_soaked_76 : decode cX0_soaked 76 = .ok (.ldc2_w 44, 3) := by decide +kernel
theorem dX0_soaked_79 : decode cX0_soaked 79 = .ok (.lxor, 1) := by decide +kernel
theorem dX0_soaked_80 : decode cX0_soaked 80 = .ok (.land, 1) := by decide +kernel
theorem dX0_soaked_81 : decode cX0_soaked 81 = .ok (.iconst 1, 1) := by decide +kernel
theorem dX0_soaked_82 : decode cX0_soaked 82 = .ok (.lushr, 1) := by decide +kernel
theorem dX0_soaked_83 : decode cX0_soaked 83 = .ok (.lor, 1) := by decide +kernel
theorem dX0_soaked_84 : decode cX0_soaked 84 = .ok (.lload 12, 2) := by decide +kernel
theorem dX0_soaked_86 : decode cX0_soaked 86 = .ok (.aload_n 0, 1) := by decide +kernel
theorem dX0_soaked_87 : decode cX0_soaked 87 = .ok (.getfield 74, 3) := by decide +kernel
theorem dX0_soaked_90 : decode cX0_soaked 90 = .ok (.ldc2_w 44, 3) := by decide +kernel
theorem dX0_soaked_93 : decode cX0_soaked 93 = .ok (.lxor, 1) := by decide +kernel
theorem dX0_soaked_94 : decode cX0_soaked 94 = .ok (.land, 1) := by decide +kernel
theorem dX0_soaked_95 : decode cX0_soaked 95 = .ok (.iconst 1, 1) := by decide +kernel
theorem dX0_soaked_96 : decode cX0_soaked 96 = .ok (.lshl, 1) := by decide +kernel
theorem dX0_soaked_97 : decode cX0_soaked 97 = .ok (.lor, 1) := by decide +kernel
theorem dX0_soaked_98 : decode cX0_soaked 98 = .ok (.land, 1) := by decide +kernel
theorem dX0_soaked_99 : decode cX0_soaked 99 = .ok (.lstore 14, 2) := by decide +kernel
theorem dX0_soaked_101 : decode cX0_soaked 101 = .ok (.lload 14, 2) := by decide +kernel
theorem dX0_soaked_103 : decode cX0_soaked 103 = .ok (.lload 7, 2) := by decide +kernel
theorem dX0_soaked_105 : decode cX0_soaked 105 = .ok (.ldc2_w 44, 3) := by decide +kernel
theorem dX0_soaked_108 : decode cX0_soaked 108 = .ok (.lxor, 1) := by decide +kernel
theorem dX0_soaked_109 : decode cX0_soaked 109 = .ok (.land, 1) := by decide +kernel
theorem dX0_soaked_110 : decode cX0_soaked 110 = .ok (.lconst 0, 1) := by decide +kernel
theorem dX0_soaked_111 : decode cX0_soaked 111 = .ok (.lcmp, 1) := by decide +kernel
theorem dX0_soaked_112 : decode cX0_soaked 112 = .ok (.ifCond .ne 6, 3) := by decide +kernel
theorem dX0_soaked_115 : decode cX0_soaked 115 = .ok (.lload 7, 2) := by decide +kernel
theorem dX0_soaked_117 : decode cX0_soaked 117 = .ok (.lreturn, 1) := by decide +kernel
theorem dX0_soaked_118 : decode cX0_soaked 118 = .ok (.lload 7, 2) := by decide +kernel
theorem dX0_soaked_120 : decode cX0_soaked 120 = .ok (.lload 14, 2) := by decide +kernel
theorem dX0_soaked_122 : decode cX0_soaked 122 = .ok (.lor, 1) := by decide +kernel
theorem dX0_soaked_123 : decode cX0_soaked 123 = .ok (.lstore 7, 2) := by decide +kernel
theorem dX0_soaked_125 : decode cX0_soaked 125 = .ok (.iinc 9 1, 3) := by decide +kernel
theorem dX0_soaked_128 : decode cX0_soaked 128 = .ok (.goto (-113), 3) := by decide +kernel
theorem dX0_soaked_131 : decode cX0_soaked 131 = .ok (.lload 7, 2) := by decide +kernel
theorem dX0_soaked_133 : decode cX0_soaked 133 = .ok (.lreturn, 1) := by decide +kernel
theorem dX0_springsThatWet_0 : decode cX0_springsThatWet 0 = .ok (.iconst 0, 1) := by decide +kernel
theorem dX0_springsThatWet_1 : decode cX0_springsThatWet 1 = .ok (.istore_n 2, 1) := by decide +kernel
theorem dX0_springsThatWet_2 : decode cX0_springsThatWet 2 = .ok (.iconst 0, 1) := by decide +kernel
theorem dX0_springsThatWet_3 : decode cX0_springsThatWet 3 = .ok (.istore_n 3, 1) := by decide +kernel
theorem dX0_springsThatWet_4 : decode cX0_springsThatWet 4 = .ok (.iload_n 3, 1) := by decide +kernel
theorem dX0_springsThatWet_5 : decode cX0_springsThatWet 5 = .ok (.aload_n 0, 1) := by decide +kernel
theorem dX0_springsThatWet_6 : decode cX0_springsThatWet 6 = .ok (.getfield 68, 3) := by decide +kernel
theorem dX0_springsThatWet_9 : decode cX0_springsThatWet 9 = .ok (.if_icmp .ge 42, 3) := by decide +kernel
theorem dX0_springsThatWet_12 : decode cX0_springsThatWet 12 = .ok (.aload_n 0, 1) := by decide +kernel
theorem dX0_springsThatWet_13 : decode cX0_springsThatWet 13 = .ok (.getfield 49, 3) := by decide +kernel
theorem dX0_springsThatWet_16 : decode cX0_springsThatWet 16 = .ok (.iload_n 3, 1) := by decide +kernel
theorem dX0_springsThatWet_17 : decode cX0_springsThatWet 17 = .ok (.invokestatic 95, 3) := by decide +kernel
theorem dX0_springsThatWet_20 : decode cX0_springsThatWet 20 = .ok (.ifCond .eq 25, 3) := by decide +kernel
theorem dX0_springsThatWet_23 : decode cX0_springsThatWet 23 = .ok (.aload_n 0, 1) := by decide +kernel
theorem dX0_springsThatWet_24 : decode cX0_springsThatWet 24 = .ok (.aload_n 0, 1) := by decide +kernel
theorem dX0_springsThatWet_25 : decode cX0_springsThatWet 25 = .ok (.getfield 33, 3) := by decide +kernel
theorem dX0_springsThatWet_28 : decode cX0_springsThatWet 28 = .ok (.iload_n 3, 1) := by decide +kernel
theorem dX0_springsThatWet_29 : decode cX0_springsThatWet 29 = .ok (.invokestatic 80, 3) := by decide +kernel
theorem dX0_springsThatWet_32 : decode cX0_springsThatWet 32 = .ok (.invokevirtual 52, 3) := by decide +kernel
theorem dX0_springsThatWet_35 : decode cX0_springsThatWet 35 = .ok (.iload_n 1, 1) := by decide +kernel
theorem dX0_springsThatWet_36 : decode cX0_springsThatWet 36 = .ok (.invokestatic 95, 3) := by decide +kernel
theorem dX0_springsThatWet_39 : decode cX0_springsThatWet 39 = .ok (.ifCond .eq 6, 3) := by decide +kernel
theorem dX0_springsThatWet_42 : decode cX0_springsThatWet 42 = .ok (.iinc 2 1, 3) := by decide +kernel
theorem dX0_springsThatWet_45 : decode cX0_springsThatWet 45 = .ok (.iinc 3 1, 3) := by decide +kernel
theorem dX0_springsThatWet_48 : decode cX0_springsThatWet 48 = .ok (.goto (-44), 3) := by decide +kernel
theorem dX0_springsThatWet_51 : decode cX0_springsThatWet 51 = .ok (.iload_n 2, 1) := by decide +kernel
theorem dX0_springsThatWet_52 : decode cX0_springsThatWet 52 = .ok (.ireturn, 1) := by decide +kernel
theorem dX0_plugsFor_0 : decode cX0_plugsFor 0 = .ok (.aload_n 0, 1) := by decide +kernel
theorem dX0_plugsFor_1 : decode cX0_plugsFor 1 = .ok (.lconst 0, 1) := by decide +kernel
theorem dX0_plugsFor_2 : decode cX0_plugsFor 2 = .ok (.iload_n 1, 1) := by decide +kernel
theorem dX0_plugsFor_3 : decode cX0_plugsFor 3 = .ok (.invokevirtual 106, 3) := by decide +kernel
theorem dX0_plugsFor_6 : decode cX0_plugsFor 6 = .ok (.ifCond .eq 5, 3) := by decide +kernel
theorem dX0_plugsFor_9 : decode cX0_plugsFor 9 = .ok (.lconst 0, 1) := by decide +kernel
theorem dX0_plugsFor_10 : decode cX0_plugsFor 10 = .ok (.lreturn, 1) := by decide +kernel
theorem dX0_plugsFor_11 : decode cX0_plugsFor 11 = .ok (.aload_n 0, 1) := by decide +kernel
theorem dX0_plugsFor_12 : decode cX0_plugsFor 12 = .ok (.getfield 33, 3) := by decide +kernel
theorem dX0_plugsFor_15 : decode cX0_plugsFor 15 = .ok (.aload_n 0, 1) := by decide +kernel
theorem dX0_plugsFor_16 : decode cX0_plugsFor 16 = .ok (.getfield 49, 3) := by decide +kernel
theorem dX0_plugsFor_19 : decode cX0_plugsFor 19 = .ok (.ldc2_w 44, 3) := by decide +kernel
theorem dX0_plugsFor_22 : decode cX0_plugsFor 22 = .ok (.lxor, 1) := by decide +kernel
theorem dX0_plugsFor_23 : decode cX0_plugsFor 23 = .ok (.land, 1) := by decide +kernel
theorem dX0_plugsFor_24 : decode cX0_plugsFor 24 = .ok (.iload_n 1, 1) := by decide +kernel
theorem dX0_plugsFor_25 : decode cX0_plugsFor 25 = .ok (.invokestatic 80, 3) := by decide +kernel
theorem dX0_plugsFor_28 : decode cX0_plugsFor 28 = .ok (.ldc2_w 44, 3) := by decide +kernel
theorem dX0_plugsFor_31 : decode cX0_plugsFor 31 = .ok (.lxor, 1) := by decide +kernel
theorem dX0_plugsFor_32 : decode cX0_plugsFor 32 = .ok (.land, 1) := by decide +kernel
theorem dX0_plugsFor_33 : decode cX0_plugsFor 33 = .ok (.lstore_n 2, 1) := by decide +kernel
theorem dX0_plugsFor_34 : decode cX0_plugsFor 34 = .ok (.iconst 0, 1) := by decide +kernel
theorem dX0_plugsFor_35 : decode cX0_plugsFor 35 = .ok (.istore 4, 2) := by decide +kernel
theorem dX0_plugsFor_37 : decode cX0_plugsFor 37 = .ok (.iload 4, 2) := by decide +kernel
theorem dX0_plugsFor_39 : decode cX0_plugsFor 39 = .ok (.aload_n 0, 1) := by decide +kernel
theorem dX0_plugsFor_40 : decode cX0_plugsFor 40 = .ok (.getfield 68, 3) := by decide +kernel
theorem dX0_plugsFor_43 : decode cX0_plugsFor 43 = .ok (.if_icmp .ge 37, 3) := by decide +kernel
theorem dX0_plugsFor_46 : decode cX0_plugsFor 46 = .ok (.lload_n 2, 1) := by decide +kernel
theorem dX0_plugsFor_47 : decode cX0_plugsFor 47 = .ok (.iload 4, 2) := by decide +kernel
theorem dX0_plugsFor_49 : decode cX0_plugsFor 49 = .ok (.invokestatic 95, 3) := by decide +kernel
theorem dX0_plugsFor_52 : decode cX0_plugsFor 52 = .ok (.ifCond .eq 22, 3) := by decide +kernel
theorem dX0_plugsFor_55 : decode cX0_plugsFor 55 = .ok (.aload_n 0, 1) := by decide +kernel
theorem dX0_plugsFor_56 : decode cX0_plugsFor 56 = .ok (.iload 4, 2) := by decide +kernel
theorem dX0_plugsFor_58 : decode cX0_plugsFor 58 = .ok (.invokestatic 80, 3) := by decide +kernel
theorem dX0_plugsFor_61 : decode cX0_plugsFor 61 = .ok (.iload_n 1, 1) := by decide +kernel
theorem dX0_plugsFor_62 : decode cX0_plugsFor 62 = .ok (.invokevirtual 106, 3) := by decide +kernel
theorem dX0_plugsFor_65 : decode cX0_plugsFor 65 = .ok (.ifCond .eq 9, 3) := by decide +kernel
theorem dX0_plugsFor_68 : decode cX0_plugsFor 68 = .ok (.iload 4, 2) := by decide +kernel
theorem dX0_plugsFor_70 : decode cX0_plugsFor 70 = .ok (.invokestatic 80, 3) := by decide +kernel
theorem dX0_plugsFor_73 : decode cX0_plugsFor 73 = .ok (.lreturn, 1) := by decide +kernel
theorem dX0_plugsFor_74 : decode cX0_plugsFor 74 = .ok (.iinc 4 1, 3) := by decide +kernel
theorem dX0_plugsFor_77 : decode cX0_plugsFor 77 = .ok (.goto (-40), 3) := by decide +kernel
theorem dX0_plugsFor_80 : decode cX0_plugsFor 80 = .ok (.iconst 0, 1) := by decide +kernel
theorem dX0_plugsFor_81 : decode cX0_plugsFor 81 = .ok (.istore 4, 2) := by decide +kernel
theorem dX0_plugsFor_83 : decode cX0_plugsFor 83 = .ok (.iload 4, 2) := by decide +kernel
theorem dX0_plugsFor_85 : decode cX0_plugsFor 85 = .ok (.aload_n 0, 1) := by decide +kernel
theorem dX0_plugsFor_86 : decode cX0_plugsFor 86 = .ok (.getfield 68, 3) := by decide +kernel
theorem dX0_plugsFor_89 : decode cX0_plugsFor 89 = .ok (.if_icmp .ge 79, 3) := by decide +kernel
theorem dX0_plugsFor_92 : decode cX0_plugsFor 92 = .ok (.iload 4, 2) := by decide +kernel
theorem dX0_plugsFor_94 : decode cX0_plugsFor 94 = .ok (.iconst 1, 1) := by decide +kernel
theorem dX0_plugsFor_95 : decode cX0_plugsFor 95 = .ok (.iadd, 1) := by decide +kernel
theorem dX0_plugsFor_96 : decode cX0_plugsFor 96 = .ok (.istore 5, 2) := by decide +kernel
theorem dX0_plugsFor_98 : decode cX0_plugsFor 98 = .ok (.iload 5, 2) := by decide +kernel
theorem dX0_plugsFor_100 : decode cX0_plugsFor 100 = .ok (.aload_n 0, 1) := by decide +kernel
theorem dX0_plugsFor_101 : decode cX0_plugsFor 101 = .ok (.getfield 68, 3) := by decide +kernel
theorem dX0_plugsFor_104 : decode cX0_plugsFor 104 = .ok (.if_icmp .ge 58, 3) := by decide +kernel
theorem dX0_plugsFor_107 : decode cX0_plugsFor 107 = .ok (.lload_n 2, 1) := by decide +kernel
theorem dX0_plugsFor_108 : decode cX0_plugsFor 108 = .ok (.iload 4, 2) := by decide +kernel
theorem dX0_plugsFor_110 : decode cX0_plugsFor 110 = .ok (.invokestatic 95, 3) := by decide +kernel
theorem dX0_plugsFor_113 : decode cX0_plugsFor 113 = .ok (.ifCond .eq 49, 3) := by decide +kernel
theorem dX0_plugsFor_116 : decode cX0_plugsFor 116 = .ok (.lload_n 2, 1) := by decide +kernel
theorem dX0_plugsFor_117 : decode cX0_plugsFor 117 = .ok (.iload 5, 2) := by decide +kernel
theorem dX0_plugsFor_119 : decode cX0_plugsFor 119 = .ok (.invokestatic 95, 3) := by decide +kernel
theorem dX0_plugsFor_122 : decode cX0_plugsFor 122 = .ok (.ifCond .eq 34, 3) := by decide +kernel
theorem dX0_plugsFor_125 : decode cX0_plugsFor 125 = .ok (.aload_n 0, 1) := by decide +kernel
theorem dX0_plugsFor_126 : decode cX0_plugsFor 126 = .ok (.iload 4, 2) := by decide +kernel
theorem dX0_plugsFor_128 : decode cX0_plugsFor 128 = .ok (.invokestatic 80, 3) := by decide +kernel
theorem dX0_plugsFor_131 : decode cX0_plugsFor 131 = .ok (.iload 5, 2) := by decide +kernel
theorem dX0_plugsFor_133 : decode cX0_plugsFor 133 = .ok (.invokestatic 80, 3) := by decide +kernel
theorem dX0_plugsFor_136 : decode cX0_plugsFor 136 = .ok (.lor, 1) := by decide +kernel
theorem dX0_plugsFor_137 : decode cX0_plugsFor 137 = .ok (.iload_n 1, 1) := by decide +kernel
theorem dX0_plugsFor_138 : decode cX0_plugsFor 138 = .ok (.invokevirtual 106, 3) := by decide +kernel
theorem dX0_plugsFor_141 : decode cX0_plugsFor 141 = .ok (.ifCond .eq 15, 3) := by decide +kernel
theorem dX0_plugsFor_144 : decode cX0_plugsFor 144 = .ok (.iload 4, 2) := by decide +kernel
theorem dX0_plugsFor_146 : decode cX0_plugsFor 146 = .ok (.invokestatic 80, 3) := by decide +kernel
theorem dX0_plugsFor_149 : decode cX0_plugsFor 149 = .ok (.iload 5, 2) := by decide +kernel
theorem dX0_plugsFor_151 : decode cX0_plugsFor 151 = .ok (.invokestatic 80, 3) := by decide +kernel
theorem dX0_plugsFor_154 : decode cX0_plugsFor 154 = .ok (.lor, 1) := by decide +kernel
theorem dX0_plugsFor_155 : decode cX0_plugsFor 155 = .ok (.lreturn, 1) := by decide +kernel
theorem dX0_plugsFor_156 : decode cX0_plugsFor 156 = .ok (.iinc 5 1, 3) := by decide +kernel
theorem dX0_plugsFor_159 : decode cX0_plugsFor 159 = .ok (.goto (-61), 3) := by decide +kernel
theorem dX0_plugsFor_162 : decode cX0_plugsFor 162 = .ok (.iinc 4 1, 3) := by decide +kernel
theorem dX0_plugsFor_165 : decode cX0_plugsFor 165 = .ok (.goto (-82), 3) := by decide +kernel
theorem dX0_plugsFor_168 : decode cX0_plugsFor 168 = .ok (.ldc2_w 44, 3) := by decide +kernel
theorem dX0_plugsFor_171 : decode cX0_plugsFor 171 = .ok (.lreturn, 1) := by decide +kernel
theorem dX0_keepsDry_0 : decode cX0_keepsDry 0 = .ok (.aload_n 0, 1) := by decide +kernel
theorem dX0_keepsDry_1 : decode cX0_keepsDry 1 = .ok (.aload_n 0, 1) := by decide +kernel
theorem dX0_keepsDry_2 : decode cX0_keepsDry 2 = .ok (.getfield 33, 3) := by decide +kernel
theorem dX0_keepsDry_5 : decode cX0_keepsDry 5 = .ok (.lload_n 1, 1) := by decide +kernel
theorem dX0_keepsDry_6 : decode cX0_keepsDry 6 = .ok (.ldc2_w 44, 3) := by decide +kernel
theorem dX0_keepsDry_9 : decode cX0_keepsDry 9 = .ok (.lxor, 1) := by decide +kernel
theorem dX0_keepsDry_10 : decode cX0_keepsDry 10 = .ok (.land, 1) := by decide +kernel
theorem dX0_keepsDry_11 : decode cX0_keepsDry 11 = .ok (.aload_n 0, 1) := by decide +kernel
theorem dX0_keepsDry_12 : decode cX0_keepsDry 12 = .ok (.getfield 49, 3) := by decide +kernel
theorem dX0_keepsDry_15 : decode cX0_keepsDry 15 = .ok (.invokevirtual 52, 3) := by decide +kernel
theorem dX0_keepsDry_18 : decode cX0_keepsDry 18 = .ok (.iload_n 3, 1) := by decide +kernel
theorem dX0_keepsDry_19 : decode cX0_keepsDry 19 = .ok (.invokestatic 95, 3) := by decide +kernel
theorem dX0_keepsDry_22 : decode cX0_keepsDry 22 = .ok (.ifCond .ne 7, 3) := by decide +kernel
theorem dX0_keepsDry_25 : decode cX0_keepsDry 25 = .ok (.iconst 1, 1) := by decide +kernel
theorem dX0_keepsDry_26 : decode cX0_keepsDry 26 = .ok (.goto 4, 3) := by decide +kernel
theorem dX0_keepsDry_29 : decode cX0_keepsDry 29 = .ok (.iconst 0, 1) := by decide +kernel
theorem dX0_keepsDry_30 : decode cX0_keepsDry 30 = .ok (.ireturn, 1) := by decide +kernel
theorem dX1_init_0 : decode cX1_init 0 = .ok (.aload_n 0, 1) := by decide +kernel
theorem dX1_init_1 : decode cX1_init 1 = .ok (.invokespecial 3, 3) := by decide +kernel
theorem dX1_init_4 : decode cX1_init 4 = .ok (.aload_n 0, 1) := by decide +kernel
theorem dX1_init_5 : decode cX1_init 5 = .ok (.iconst 1, 1) := by decide +kernel
theorem dX1_init_6 : decode cX1_init 6 = .ok (.putfield 9, 3) := by decide +kernel
theorem dX1_init_9 : decode cX1_init 9 = .ok (.aload_n 0, 1) := by decide +kernel
theorem dX1_init_10 : decode cX1_init 10 = .ok (.bipush 48, 2) := by decide +kernel
theorem dX1_init_12 : decode cX1_init 12 = .ok (.newarray .int, 2) := by decide +kernel
theorem dX1_init_14 : decode cX1_init 14 = .ok (.putfield 15, 3) := by decide +kernel
theorem dX1_init_17 : decode cX1_init 17 = .ok (.return_, 1) := by decide +kernel
theorem dX1_begin_0 : decode cX1_begin 0 = .ok (.aload_n 0, 1) := by decide +kernel
theorem dX1_begin_1 : decode cX1_begin 1 = .ok (.iconst 0, 1) := by decide +kernel
theorem dX1_begin_2 : decode cX1_begin 2 = .ok (.putfield 9, 3) := by decide +kernel
theorem dX1_begin_5 : decode cX1_begin 5 = .ok (.aload_n 0, 1) := by decide +kernel
theorem dX1_begin_6 : decode cX1_begin 6 = .ok (.iload_n 1, 1) := by decide +kernel
theorem dX1_begin_7 : decode cX1_begin 7 = .ok (.putfield 19, 3) := by decide +kernel
theorem dX1_begin_10 : decode cX1_begin 10 = .ok (.aload_n 0, 1) := by decide +kernel
theorem dX1_begin_11 : decode cX1_begin 11 = .ok (.iload_n 2, 1) := by decide +kernel
theorem dX1_begin_12 : decode cX1_begin 12 = .ok (.putfield 23, 3) := by decide +kernel
theorem dX1_begin_15 : decode cX1_begin 15 = .ok (.iconst 0, 1) := by decide +kernel
theorem dX1_begin_16 : decode cX1_begin 16 = .ok (.istore_n 3, 1) := by decide +kernel
theorem dX1_begin_17 : decode cX1_begin 17 = .ok (.iload_n 3, 1) := by decide +kernel
theorem dX1_begin_18 : decode cX1_begin 18 = .ok (.bipush 48, 2) := by decide +kernel
theorem dX1_begin_20 : decode cX1_begin 20 = .ok (.if_icmp .ge 16, 3) := by decide +kernel
theorem dX1_begin_23 : decode cX1_begin 23 = .ok (.aload_n 0, 1) := by decide +kernel
theorem dX1_begin_24 : decode cX1_begin 24 = .ok (.getfield 15, 3) := by decide +kernel
theorem dX1_begin_27 : decode cX1_begin 27 = .ok (.iload_n 3, 1) := by decide +kernel
theorem dX1_begin_28 : decode cX1_begin 28 = .ok (.iconst 0, 1) := by decide +kernel
theorem dX1_begin_29 : decode cX1_begin 29 = .ok (.iastore, 1) := by decide +kernel
theorem dX1_begin_30 : decode cX1_begin 30 = .ok (.iinc 3 1, 3) := by decide +kernel
theorem dX1_begin_33 : decode cX1_begin 33 = .ok (.goto (-16), 3) := by decide +kernel
theorem dX1_begin_36 : decode cX1_begin 36 = .ok (.return_, 1) := by decide +kernel
theorem dX1_holds_0 : decode cX1_holds 0 = .ok (.iload_n 1, 1) := by decide +kernel
theorem dX1_holds_1 : decode cX1_holds 1 = .ok (.ifCond .lt 29, 3) := by decide +kernel
theorem dX1_holds_4 : decode cX1_holds 4 = .ok (.iload_n 2, 1) := by decide +kernel
theorem dX1_holds_5 : decode cX1_holds 5 = .ok (.ifCond .lt 25, 3) := by decide +kernel
theorem dX1_holds_8 : decode cX1_holds 8 = .ok (.iload_n 1, 1) := by decide +kernel
theorem dX1_holds_9 : decode cX1_holds 9 = .ok (.aload_n 0, 1) := by decide +kernel
theorem dX1_holds_10 : decode cX1_holds 10 = .ok (.getfield 23, 3) := by decide +kernel
theorem dX1_holds_13 : decode cX1_holds 13 = .ok (.if_icmp .gt 17, 3) := by decide +kernel
theorem dX1_holds_16 : decode cX1_holds 16 = .ok (.iload_n 2, 1) := by decide +kernel
theorem dX1_holds_17 : decode cX1_holds 17 = .ok (.aload_n 0, 1) := by decide +kernel
theorem dX1_holds_18 : decode cX1_holds 18 = .ok (.getfield 23, 3) := by decide +kernel
theorem dX1_holds_21 : decode cX1_holds 21 = .ok (.iload_n 1, 1) := by decide +kernel
theorem dX1_holds_22 : decode cX1_holds 22 = .ok (.isub, 1) := by decide +kernel
theorem dX1_holds_23 : decode cX1_holds 23 = .ok (.if_icmp .gt 7, 3) := by decide +kernel
theorem dX1_holds_26 : decode cX1_holds 26 = .ok (.iconst 1, 1) := by decide +kernel
theorem dX1_holds_27 : decode cX1_holds 27 = .ok (.goto 4, 3) := by decide +kernel
theorem dX1_holds_30 : decode cX1_holds 30 = .ok (.iconst 0, 1) := by decide +kernel
theorem dX1_holds_31 : decode cX1_holds 31 = .ok (.ireturn, 1) := by decide +kernel
theorem dX1_store_0 : decode cX1_store 0 = .ok (.aload_n 0, 1) := by decide +kernel
theorem dX1_store_1 : decode cX1_store 1 = .ok (.iload_n 1, 1) := by decide +kernel
theorem dX1_store_2 : decode cX1_store 2 = .ok (.iconst 1, 1) := by decide +kernel
theorem dX1_store_3 : decode cX1_store 3 = .ok (.invokevirtual 26, 3) := by decide +kernel
theorem dX1_store_6 : decode cX1_store 6 = .ok (.ifCond .ne 4, 3) := by decide +kernel
theorem dX1_store_9 : decode cX1_store 9 = .ok (.return_, 1) := by decide +kernel
theorem dX1_store_10 : decode cX1_store 10 = .ok (.aload_n 0, 1) := by decide +kernel
theorem dX1_store_11 : decode cX1_store 11 = .ok (.getfield 19, 3) := by decide +kernel
theorem dX1_store_14 : decode cX1_store 14 = .ok (.ifCond .ne 14, 3) := by decide +kernel
theorem dX1_store_17 : decode cX1_store 17 = .ok (.aload_n 0, 1) := by decide +kernel
theorem dX1_store_18 : decode cX1_store 18 = .ok (.getfield 15, 3) := by decide +kernel
theorem dX1_store_21 : decode cX1_store 21 = .ok (.iload_n 1, 1) := by decide +kernel
theorem dX1_store_22 : decode cX1_store 22 = .ok (.iload_n 2, 1) := by decide +kernel
theorem dX1_store_23 : decode cX1_store 23 = .ok (.i2b, 1) := by decide +kernel
theorem dX1_store_24 : decode cX1_store 24 = .ok (.iastore, 1) := by decide +kernel
theorem dX1_store_25 : decode cX1_store 25 = .ok (.goto 29, 3) := by decide +kernel
theorem dX1_store_28 : decode cX1_store 28 = .ok (.aload_n 0, 1) := by decide +kernel
theorem dX1_store_29 : decode cX1_store 29 = .ok (.getfield 19, 3) := by decide +kernel
theorem dX1_store_32 : decode cX1_store 32 = .ok (.iconst 1, 1) := by decide +kernel
theorem dX1_store_33 : decode cX1_store 33 = .ok (.if_icmp .ne 14, 3) := by decide +kernel
theorem dX1_store_36 : decode cX1_store 36 = .ok (.aload_n 0, 1) := by decide +kernel
theorem dX1_store_37 : decode cX1_store 37 = .ok (.getfield 15, 3) := by decide +kernel
theorem dX1_store_40 : decode cX1_store 40 = .ok (.iload_n 1, 1) := by decide +kernel
theorem dX1_store_41 : decode cX1_store 41 = .ok (.iload_n 2, 1) := by decide +kernel
theorem dX1_store_42 : decode cX1_store 42 = .ok (.i2s, 1) := by decide +kernel
theorem dX1_store_43 : decode cX1_store 43 = .ok (.iastore, 1) := by decide +kernel
theorem dX1_store_44 : decode cX1_store 44 = .ok (.goto 10, 3) := by decide +kernel
theorem dX1_store_47 : decode cX1_store 47 = .ok (.aload_n 0, 1) := by decide +kernel
theorem dX1_store_48 : decode cX1_store 48 = .ok (.getfield 15, 3) := by decide +kernel
theorem dX1_store_51 : decode cX1_store 51 = .ok (.iload_n 1, 1) := by decide +kernel
theorem dX1_store_52 : decode cX1_store 52 = .ok (.iload_n 2, 1) := by decide +kernel
theorem dX1_store_53 : decode cX1_store 53 = .ok (.iastore, 1) := by decide +kernel
theorem dX1_store_54 : decode cX1_store 54 = .ok (.return_, 1) := by decide +kernel
theorem dX2_init_0 : decode cX2_init 0 = .ok (.aload_n 0, 1) := by decide +kernel
theorem dX2_init_1 : decode cX2_init 1 = .ok (.invokespecial 3, 3) := by decide +kernel
theorem dX2_init_4 : decode cX2_init 4 = .ok (.aload_n 0, 1) := by decide +kernel
theorem dX2_init_5 : decode cX2_init 5 = .ok (.aload_n 1, 1) := by decide +kernel
theorem dX2_init_6 : decode cX2_init 6 = .ok (.putfield 9, 3) := by decide +kernel
theorem dX2_init_9 : decode cX2_init 9 = .ok (.aload_n 0, 1) := by decide +kernel
theorem dX2_init_10 : decode cX2_init 10 = .ok (.sipush 1225, 3) := by decide +kernel
theorem dX2_init_13 : decode cX2_init 13 = .ok (.newarray .int, 2) := by decide +kernel
theorem dX2_init_15 : decode cX2_init 15 = .ok (.putfield 15, 3) := by decide +kernel
theorem dX2_init_18 : decode cX2_init 18 = .ok (.return_, 1) := by decide +kernel
theorem dX2_renew_0 : decode cX2_renew 0 = .ok (.aload_n 0, 1) := by decide +kernel
theorem dX2_renew_1 : decode cX2_renew 1 = .ok (.iload_n 1, 1) := by decide +kernel
theorem dX2_renew_2 : decode cX2_renew 2 = .ok (.putfield 19, 3) := by decide +kernel
theorem dX2_renew_5 : decode cX2_renew 5 = .ok (.aload_n 0, 1) := by decide +kernel
theorem dX2_renew_6 : decode cX2_renew 6 = .ok (.lconst 0, 1) := by decide +kernel
theorem dX2_renew_7 : decode cX2_renew 7 = .ok (.putfield 23, 3) := by decide +kernel
theorem dX2_renew_10 : decode cX2_renew 10 = .ok (.return_, 1) := by decide +kernel
theorem dX2_between_0 : decode cX2_between 0 = .ok (.aload_n 0, 1) := by decide +kernel
theorem dX2_between_1 : decode cX2_between 1 = .ok (.getfield 9, 3) := by decide +kernel
theorem dX2_between_4 : decode cX2_between 4 = .ok (.iload_n 1, 1) := by decide +kernel
theorem dX2_between_5 : decode cX2_between 5 = .ok (.invokevirtual 27, 3) := by decide +kernel
theorem dX2_between_8 : decode cX2_between 8 = .ok (.ifCond .eq 14, 3) := by decide +kernel
theorem dX2_between_11 : decode cX2_between 11 = .ok (.aload_n 0, 1) := by decide +kernel
theorem dX2_between_12 : decode cX2_between 12 = .ok (.getfield 9, 3) := by decide +kernel
theorem dX2_between_15 : decode cX2_between 15 = .ok (.iload_n 2, 1) := by decide +kernel
theorem dX2_between_16 : decode cX2_between 16 = .ok (.invokevirtual 27, 3) := by decide +kernel
theorem dX2_between_19 : decode cX2_between 19 = .ok (.ifCond .ne 5, 3) := by decide +kernel
theorem dX2_between_22 : decode cX2_between 22 = .ok (.iconst (-1), 1) := by decide +kernel
theorem dX2_between_23 : decode cX2_between 23 = .ok (.ireturn, 1) := by decide +kernel
theorem dX2_between_24 : decode cX2_between 24 = .ok (.aload_n 0, 1) := by decide +kernel
theorem dX2_between_25 : decode cX2_between 25 = .ok (.getfield 23, 3) := by decide +kernel
theorem dX2_between_28 : decode cX2_between 28 = .ok (.iload_n 1, 1) := by decide +kernel
theorem dX2_between_29 : decode cX2_between 29 = .ok (.invokestatic 33, 3) := by decide +kernel
theorem dX2_between_32 : decode cX2_between 32 = .ok (.ifCond .ne 8, 3) := by decide +kernel
theorem dX2_between_35 : decode cX2_between 35 = .ok (.aload_n 0, 1) := by decide +kernel
theorem dX2_between_36 : decode cX2_between 36 = .ok (.iload_n 1, 1) := by decide +kernel
theorem dX2_between_37 : decode cX2_between 37 = .ok (.invokevirtual 37, 3) := by decide +kernel
theorem dX2_between_40 : decode cX2_between 40 = .ok (.aload_n 0, 1) := by decide +kernel
theorem dX2_between_41 : decode cX2_between 41 = .ok (.getfield 15, 3) := by decide +kernel
theorem dX2_between_44 : decode cX2_between 44 = .ok (.iload_n 1, 1) := by decide +kernel
theorem dX2_between_45 : decode cX2_between 45 = .ok (.bipush 35, 2) := by decide +kernel
theorem dX2_between_47 : decode cX2_between 47 = .ok (.imul, 1) := by decide +kernel
theorem dX2_between_48 : decode cX2_between 48 = .ok (.iload_n 2, 1) := by decide +kernel
theorem dX2_between_49 : decode cX2_between 49 = .ok (.iadd, 1) := by decide +kernel
theorem dX2_between_50 : decode cX2_between 50 = .ok (.iaload, 1) := by decide +kernel
theorem dX2_between_51 : decode cX2_between 51 = .ok (.ireturn, 1) := by decide +kernel
theorem dX2_measure_0 : decode cX2_measure 0 = .ok (.iload_n 1, 1) := by decide +kernel
theorem dX2_measure_1 : decode cX2_measure 1 = .ok (.bipush 35, 2) := by decide +kernel
theorem dX2_measure_3 : decode cX2_measure 3 = .ok (.imul, 1) := by decide +kernel
theorem dX2_measure_4 : decode cX2_measure 4 = .ok (.istore_n 2, 1) := by decide +kernel
theorem dX2_measure_5 : decode cX2_measure 5 = .ok (.iconst 0, 1) := by decide +kernel
theorem dX2_measure_6 : decode cX2_measure 6 = .ok (.istore_n 3, 1) := by decide +kernel
theorem dX2_measure_7 : decode cX2_measure 7 = .ok (.iload_n 3, 1) := by decide +kernel
theorem dX2_measure_8 : decode cX2_measure 8 = .ok (.bipush 35, 2) := by decide +kernel
theorem dX2_measure_10 : decode cX2_measure 10 = .ok (.if_icmp .ge 18, 3) := by decide +kernel
theorem dX2_measure_13 : decode cX2_measure 13 = .ok (.aload_n 0, 1) := by decide +kernel
theorem dX2_measure_14 : decode cX2_measure 14 = .ok (.getfield 15, 3) := by decide +kernel
theorem dX2_measure_17 : decode cX2_measure 17 = .ok (.iload_n 2, 1) := by decide +kernel
theorem dX2_measure_18 : decode cX2_measure 18 = .ok (.iload_n 3, 1) := by decide +kernel
theorem dX2_measure_19 : decode cX2_measure 19 = .ok (.iadd, 1) := by decide +kernel
theorem dX2_measure_20 : decode cX2_measure 20 = .ok (.iconst (-1), 1) := by decide +kernel
theorem dX2_measure_21 : decode cX2_measure 21 = .ok (.iastore, 1) := by decide +kernel
theorem dX2_measure_22 : decode cX2_measure 22 = .ok (.iinc 3 1, 3) := by decide +kernel
theorem dX2_measure_25 : decode cX2_measure 25 = .ok (.goto (-18), 3) := by decide +kernel
theorem dX2_measure_28 : decode cX2_measure 28 = .ok (.aload_n 0, 1) := by decide +kernel
theorem dX2_measure_29 : decode cX2_measure 29 = .ok (.getfield 9, 3) := by decide +kernel
theorem dX2_measure_32 : decode cX2_measure 32 = .ok (.getfield 41, 3) := by decide +kernel
theorem dX2_measure_35 : decode cX2_measure 35 = .ok (.iload_n 1, 1) := by decide +kernel
theorem dX2_measure_36 : decode cX2_measure 36 = .ok (.invokestatic 33, 3) := by decide +kernel
theorem dX2_measure_39 : decode cX2_measure 39 = .ok (.ifCond .eq 12, 3) := by decide +kernel
theorem dX2_measure_42 : decode cX2_measure 42 = .ok (.aload_n 0, 1) := by decide +kernel
theorem dX2_measure_43 : decode cX2_measure 43 = .ok (.getfield 15, 3) := by decide +kernel
theorem dX2_measure_46 : decode cX2_measure 46 = .ok (.iload_n 2, 1) := by decide +kernel
theorem dX2_measure_47 : decode cX2_measure 47 = .ok (.iload_n 1, 1) := by decide +kernel
theorem dX2_measure_48 : decode cX2_measure 48 = .ok (.iadd, 1) := by decide +kernel
theorem dX2_measure_49 : decode cX2_measure 49 = .ok (.iconst 0, 1) := by decide +kernel
theorem dX2_measure_50 : decode cX2_measure 50 = .ok (.iastore, 1) := by decide +kernel
theorem dX2_measure_51 : decode cX2_measure 51 = .ok (.iconst 1, 1) := by decide +kernel
theorem dX2_measure_52 : decode cX2_measure 52 = .ok (.istore_n 3, 1) := by decide +kernel
theorem dX2_measure_53 : decode cX2_measure 53 = .ok (.iconst 0, 1) := by decide +kernel
theorem dX2_measure_54 : decode cX2_measure 54 = .ok (.istore 4, 2) := by decide +kernel
theorem dX2_measure_56 : decode cX2_measure 56 = .ok (.iload 4, 2) := by decide +kernel
theorem dX2_measure_58 : decode cX2_measure 58 = .ok (.bipush 35, 2) := by decide +kernel
theorem dX2_measure_60 : decode cX2_measure 60 = .ok (.if_icmp .ge 19, 3) := by decide +kernel
theorem dX2_measure_63 : decode cX2_measure 63 = .ok (.iload_n 3, 1) := by decide +kernel
theorem dX2_measure_64 : decode cX2_measure 64 = .ok (.ifCond .eq 15, 3) := by decide +kernel
theorem dX2_measure_67 : decode cX2_measure 67 = .ok (.aload_n 0, 1) := by decide +kernel
theorem dX2_measure_68 : decode cX2_measure 68 = .ok (.iload_n 2, 1) := by decide +kernel
theorem dX2_measure_69 : decode cX2_measure 69 = .ok (.invokevirtual 44, 3) := by decide +kernel
theorem dX2_measure_72 : decode cX2_measure 72 = .ok (.istore_n 3, 1) := by decide +kernel
theorem dX2_measure_73 : decode cX2_measure 73 = .ok (.iinc 4 1, 3) := by decide +kernel
theorem dX2_measure_76 : decode cX2_measure 76 = .ok (.goto (-20), 3) := by decide +kernel
theorem dX2_measure_79 : decode cX2_measure 79 = .ok (.aload_n 0, 1) := by decide +kernel
theorem dX2_measure_80 : decode cX2_measure 80 = .ok (.dup, 1) := by decide +kernel
theorem dX2_measure_81 : decode cX2_measure 81 = .ok (.getfield 23, 3) := by decide +kernel
theorem dX2_measure_84 : decode cX2_measure 84 = .ok (.iload_n 1, 1) := by decide +kernel
theorem dX2_measure_85 : decode cX2_measure 85 = .ok (.invokestatic 47, 3) := by decide +kernel
theorem dX2_measure_88 : decode cX2_measure 88 = .ok (.lor, 1) := by decide +kernel
theorem dX2_measure_89 : decode cX2_measure 89 = .ok (.putfield 23, 3) := by decide +kernel
theorem dX2_measure_92 : decode cX2_measure 92 = .ok (.return_, 1) := by decide +kernel
theorem dX2_goOn_0 : decode cX2_goOn 0 = .ok (.iconst 0, 1) := by decide +kernel
theorem dX2_goOn_1 : decode cX2_goOn 1 = .ok (.istore_n 2, 1) := by decide +kernel
theorem dX2_goOn_2 : decode cX2_goOn 2 = .ok (.iconst 0, 1) := by decide +kernel
theorem dX2_goOn_3 : decode cX2_goOn 3 = .ok (.istore_n 3, 1) := by decide +kernel
theorem dX2_goOn_4 : decode cX2_goOn 4 = .ok (.iload_n 3, 1) := by decide +kernel
theorem dX2_goOn_5 : decode cX2_goOn 5 = .ok (.aload_n 0, 1) := by decide +kernel
theorem dX2_goOn_6 : decode cX2_goOn 6 = .ok (.getfield 9, 3) := by decide +kernel
theorem dX2_goOn_9 : decode cX2_goOn 9 = .ok (.getfield 51, 3) := by decide +kernel
theorem dX2_goOn_12 : decode cX2_goOn 12 = .ok (.if_icmp .ge 113, 3) := by decide +kernel
theorem dX2_goOn_15 : decode cX2_goOn 15 = .ok (.iload_n 3, 1) := by decide +kernel
theorem dX2_goOn_16 : decode cX2_goOn 16 = .ok (.bipush 35, 2) := by decide +kernel
theorem dX2_goOn_18 : decode cX2_goOn 18 = .ok (.if_icmp .ge 107, 3) := by decide +kernel
theorem dX2_goOn_21 : decode cX2_goOn 21 = .ok (.aload_n 0, 1) := by decide +kernel
theorem dX2_goOn_22 : decode cX2_goOn 22 = .ok (.getfield 15, 3) := by decide +kernel
theorem dX2_goOn_25 : decode cX2_goOn 25 = .ok (.iload_n 1, 1) := by decide +kernel
theorem dX2_goOn_26 : decode cX2_goOn 26 = .ok (.iload_n 3, 1) := by decide +kernel
theorem dX2_goOn_27 : decode cX2_goOn 27 = .ok (.iadd, 1) := by decide +kernel
theorem dX2_goOn_28 : decode cX2_goOn 28 = .ok (.iaload, 1) := by decide +kernel
theorem dX2_goOn_29 : decode cX2_goOn 29 = .ok (.istore 4, 2) := by decide +kernel
theorem dX2_goOn_31 : decode cX2_goOn 31 = .ok (.iconst 0, 1) := by decide +kernel
theorem dX2_goOn_32 : decode cX2_goOn 32 = .ok (.istore 5, 2) := by decide +kernel
theorem dX2_goOn_34 : decode cX2_goOn 34 = .ok (.iload 5, 2) := by decide +kernel
theorem dX2_goOn_36 : decode cX2_goOn 36 = .ok (.iconst 4, 1) := by decide +kernel
theorem dX2_goOn_37 : decode cX2_goOn 37 = .ok (.if_icmp .ge 82, 3) := by decide +kernel
theorem dX2_goOn_40 : decode cX2_goOn 40 = .ok (.iload 4, 2) := by decide +kernel
theorem dX2_goOn_42 : decode cX2_goOn 42 = .ok (.iconst (-1), 1) := by decide +kernel
theorem dX2_goOn_43 : decode cX2_goOn 43 = .ok (.if_icmp .eq 76, 3) := by decide +kernel
theorem dX2_goOn_46 : decode cX2_goOn 46 = .ok (.aload_n 0, 1) := by decide +kernel
theorem dX2_goOn_47 : decode cX2_goOn 47 = .ok (.getfield 9, 3) := by decide +kernel
theorem dX2_goOn_50 : decode cX2_goOn 50 = .ok (.iload_n 3, 1) := by decide +kernel
theorem dX2_goOn_51 : decode cX2_goOn 51 = .ok (.iload 5, 2) := by decide +kernel
theorem dX2_goOn_53 : decode cX2_goOn 53 = .ok (.invokevirtual 54, 3) := by decide +kernel
theorem dX2_goOn_56 : decode cX2_goOn 56 = .ok (.istore 6, 2) := by decide +kernel
theorem dX2_goOn_58 : decode cX2_goOn 58 = .ok (.iload 4, 2) := by decide +kernel
theorem dX2_goOn_60 : decode cX2_goOn 60 = .ok (.aload_n 0, 1) := by decide +kernel
theorem dX2_goOn_61 : decode cX2_goOn 61 = .ok (.getfield 9, 3) := by decide +kernel
theorem dX2_goOn_64 : decode cX2_goOn 64 = .ok (.iload_n 3, 1) := by decide +kernel
theorem dX2_goOn_65 : decode cX2_goOn 65 = .ok (.iload 5, 2) := by decide +kernel
theorem dX2_goOn_67 : decode cX2_goOn 67 = .ok (.aload_n 0, 1) := by decide +kernel
theorem dX2_goOn_68 : decode cX2_goOn 68 = .ok (.getfield 19, 3) := by decide +kernel
theorem dX2_goOn_71 : decode cX2_goOn 71 = .ok (.invokevirtual 58, 3) := by decide +kernel
theorem dX2_goOn_74 : decode cX2_goOn 74 = .ok (.iadd, 1) := by decide +kernel
theorem dX2_goOn_75 : decode cX2_goOn 75 = .ok (.istore 7, 2) := by decide +kernel
theorem dX2_goOn_77 : decode cX2_goOn 77 = .ok (.iload 6, 2) := by decide +kernel
theorem dX2_goOn_79 : decode cX2_goOn 79 = .ok (.iconst (-1), 1) := by decide +kernel
theorem dX2_goOn_80 : decode cX2_goOn 80 = .ok (.if_icmp .eq 33, 3) := by decide +kernel
theorem dX2_goOn_83 : decode cX2_goOn 83 = .ok (.iload 7, 2) := by decide +kernel
theorem dX2_goOn_85 : decode cX2_goOn 85 = .ok (.aload_n 0, 1) := by decide +kernel
theorem dX2_goOn_86 : decode cX2_goOn 86 = .ok (.getfield 15, 3) := by decide +kernel
theorem dX2_goOn_89 : decode cX2_goOn 89 = .ok (.iload_n 1, 1) := by decide +kernel
theorem dX2_goOn_90 : decode cX2_goOn 90 = .ok (.iload 6, 2) := by decide +kernel
theorem dX2_goOn_92 : decode cX2_goOn 92 = .ok (.iadd, 1) := by decide +kernel
theorem dX2_goOn_93 : decode cX2_goOn 93 = .ok (.iaload, 1) := by decide +kernel
theorem dX2_goOn_94 : decode cX2_goOn 94 = .ok (.invokestatic 62, 3) := by decide +kernel
theorem dX2_goOn_97 : decode cX2_goOn 97 = .ok (.ifCond .eq 16, 3) := by decide +kernel
theorem dX2_goOn_100 : decode cX2_goOn 100 = .ok (.aload_n 0, 1) := by decide +kernel
theorem dX2_goOn_101 : decode cX2_goOn 101 = .ok (.getfield 15, 3) := by decide +kernel
theorem dX2_goOn_104 : decode cX2_goOn 104 = .ok (.iload_n 1, 1) := by decide +kernel
theorem dX2_goOn_105 : decode cX2_goOn 105 = .ok (.iload 6, 2) := by decide +kernel
theorem dX2_goOn_107 : decode cX2_goOn 107 = .ok (.iadd, 1) := by decide +kernel
theorem dX2_goOn_108 : decode cX2_goOn 108 = .ok (.iload 7, 2) := by decide +kernel
theorem dX2_goOn_110 : decode cX2_goOn 110 = .ok (.iastore, 1) := by decide +kernel
theorem dX2_goOn_111 : decode cX2_goOn 111 = .ok (.iconst 1, 1) := by decide +kernel
theorem dX2_goOn_112 : decode cX2_goOn 112 = .ok (.istore_n 2, 1) := by decide +kernel
theorem dX2_goOn_113 : decode cX2_goOn 113 = .ok (.iinc 5 1, 3) := by decide +kernel
theorem dX2_goOn_116 : decode cX2_goOn 116 = .ok (.goto (-82), 3) := by decide +kernel
theorem dX2_goOn_119 : decode cX2_goOn 119 = .ok (.iinc 3 1, 3) := by decide +kernel
theorem dX2_goOn_122 : decode cX2_goOn 122 = .ok (.goto (-118), 3) := by decide +kernel
theorem dX2_goOn_125 : decode cX2_goOn 125 = .ok (.iload_n 2, 1) := by decide +kernel
theorem dX2_goOn_126 : decode cX2_goOn 126 = .ok (.ireturn, 1) := by decide +kernel
theorem dX2_isSooner_0 : decode cX2_isSooner 0 = .ok (.iload_n 1, 1) := by decide +kernel
theorem dX2_isSooner_1 : decode cX2_isSooner 1 = .ok (.iconst (-1), 1) := by decide +kernel
theorem dX2_isSooner_2 : decode cX2_isSooner 2 = .ok (.if_icmp .eq 8, 3) := by decide +kernel
theorem dX2_isSooner_5 : decode cX2_isSooner 5 = .ok (.iload_n 0, 1) := by decide +kernel
theorem dX2_isSooner_6 : decode cX2_isSooner 6 = .ok (.iload_n 1, 1) := by decide +kernel
theorem dX2_isSooner_7 : decode cX2_isSooner 7 = .ok (.if_icmp .ge 7, 3) := by decide +kernel
theorem dX2_isSooner_10 : decode cX2_isSooner 10 = .ok (.iconst 1, 1) := by decide +kernel
theorem dX2_isSooner_11 : decode cX2_isSooner 11 = .ok (.goto 4, 3) := by decide +kernel
theorem dX2_isSooner_14 : decode cX2_isSooner 14 = .ok (.iconst 0, 1) := by decide +kernel
theorem dX2_isSooner_15 : decode cX2_isSooner 15 = .ok (.ireturn, 1) := by decide +kernel
theorem dX3_init_0 : decode cX3_init 0 = .ok (.aload_n 0, 1) := by decide +kernel
theorem dX3_init_1 : decode cX3_init 1 = .ok (.invokespecial 1, 3) := by decide +kernel
theorem dX3_init_4 : decode cX3_init 4 = .ok (.aload_n 0, 1) := by decide +kernel
theorem dX3_init_5 : decode cX3_init 5 = .ok (.bipush 39, 2) := by decide +kernel
theorem dX3_init_7 : decode cX3_init 7 = .ok (.newarray .int, 2) := by decide +kernel
theorem dX3_init_9 : decode cX3_init 9 = .ok (.putfield 9, 3) := by decide +kernel
theorem dX3_init_12 : decode cX3_init 12 = .ok (.aload_n 0, 1) := by decide +kernel
theorem dX3_init_13 : decode cX3_init 13 = .ok (.iconst 2, 1) := by decide +kernel
theorem dX3_init_14 : decode cX3_init 14 = .ok (.putfield 13, 3) := by decide +kernel
theorem dX3_init_17 : decode cX3_init 17 = .ok (.aload_n 0, 1) := by decide +kernel
theorem dX3_init_18 : decode cX3_init 18 = .ok (.iconst 2, 1) := by decide +kernel
theorem dX3_init_19 : decode cX3_init 19 = .ok (.putfield 17, 3) := by decide +kernel
theorem dX3_init_22 : decode cX3_init 22 = .ok (.aload_n 0, 1) := by decide +kernel
theorem dX3_init_23 : decode cX3_init 23 = .ok (.bipush 8, 2) := by decide +kernel
theorem dX3_init_25 : decode cX3_init 25 = .ok (.newarray .int, 2) := by decide +kernel
theorem dX3_init_27 : decode cX3_init 27 = .ok (.putfield 20, 3) := by decide +kernel
theorem dX3_init_30 : decode cX3_init 30 = .ok (.aload_n 0, 1) := by decide +kernel
theorem dX3_init_31 : decode cX3_init 31 = .ok (.bipush 8, 2) := by decide +kernel
theorem dX3_init_33 : decode cX3_init 33 = .ok (.newarray .int, 2) := by decide +kernel
theorem dX3_init_35 : decode cX3_init 35 = .ok (.putfield 23, 3) := by decide +kernel
theorem dX3_init_38 : decode cX3_init 38 = .ok (.aload_n 0, 1) := by decide +kernel
theorem dX3_init_39 : decode cX3_init 39 = .ok (.bipush 63, 2) := by decide +kernel
theorem dX3_init_41 : decode cX3_init 41 = .ok (.putfield 26, 3) := by decide +kernel
theorem dX3_init_44 : decode cX3_init 44 = .ok (.aload_n 0, 1) := by decide +kernel
theorem dX3_init_45 : decode cX3_init 45 = .ok (.iconst 4, 1) := by decide +kernel
theorem dX3_init_46 : decode cX3_init 46 = .ok (.anewarray 29, 3) := by decide +kernel
theorem dX3_init_49 : decode cX3_init 49 = .ok (.putfield 31, 3) := by decide +kernel
theorem dX3_init_52 : decode cX3_init 52 = .ok (.iconst 0, 1) := by decide +kernel
theorem dX3_init_53 : decode cX3_init 53 = .ok (.istore_n 1, 1) := by decide +kernel
theorem dX3_init_54 : decode cX3_init 54 = .ok (.iload_n 1, 1) := by decide +kernel
theorem dX3_init_55 : decode cX3_init 55 = .ok (.iconst 4, 1) := by decide +kernel
theorem dX3_init_56 : decode cX3_init 56 = .ok (.if_icmp .ge 22, 3) := by decide +kernel
theorem dX3_init_59 : decode cX3_init 59 = .ok (.aload_n 0, 1) := by decide +kernel
theorem dX3_init_60 : decode cX3_init 60 = .ok (.getfield 31, 3) := by decide +kernel
theorem dX3_init_63 : decode cX3_init 63 = .ok (.iload_n 1, 1) := by decide +kernel
theorem dX3_init_64 : decode cX3_init 64 = .ok (.new 29, 3) := by decide +kernel
theorem dX3_init_67 : decode cX3_init 67 = .ok (.dup, 1) := by decide +kernel
theorem dX3_init_68 : decode cX3_init 68 = .ok (.invokespecial 35, 3) := by decide +kernel
theorem dX3_init_71 : decode cX3_init 71 = .ok (.aastore, 1) := by decide +kernel
theorem dX3_init_72 : decode cX3_init 72 = .ok (.iinc 1 1, 3) := by decide +kernel
theorem dX3_init_75 : decode cX3_init 75 = .ok (.goto (-21), 3) := by decide +kernel
theorem dX3_init_78 : decode cX3_init 78 = .ok (.aload_n 0, 1) := by decide +kernel
theorem dX3_init_79 : decode cX3_init 79 = .ok (.new 36, 3) := by decide +kernel
theorem dX3_init_82 : decode cX3_init 82 = .ok (.dup, 1) := by decide +kernel
theorem dX3_init_83 : decode cX3_init 83 = .ok (.invokespecial 38, 3) := by decide +kernel
theorem dX3_init_86 : decode cX3_init 86 = .ok (.putfield 39, 3) := by decide +kernel
theorem dX3_init_89 : decode cX3_init 89 = .ok (.aload_n 0, 1) := by decide +kernel
theorem dX3_init_90 : decode cX3_init 90 = .ok (.new 43, 3) := by decide +kernel
theorem dX3_init_93 : decode cX3_init 93 = .ok (.dup, 1) := by decide +kernel
theorem dX3_init_94 : decode cX3_init 94 = .ok (.aload_n 0, 1) := by decide +kernel
theorem dX3_init_95 : decode cX3_init 95 = .ok (.getfield 39, 3) := by decide +kernel
theorem dX3_init_98 : decode cX3_init 98 = .ok (.invokespecial 45, 3) := by decide +kernel
theorem dX3_init_101 : decode cX3_init 101 = .ok (.putfield 48, 3) := by decide +kernel
theorem dX3_init_104 : decode cX3_init 104 = .ok (.aload_n 0, 1) := by decide +kernel
theorem dX3_init_105 : decode cX3_init 105 = .ok (.invokevirtual 52, 3) := by decide +kernel
theorem dX3_init_108 : decode cX3_init 108 = .ok (.return_, 1) := by decide +kernel
theorem dX3_type_0 : decode cX3_type 0 = .ok (.iload_n 1, 1) := by decide +kernel
theorem dX3_type_1 : decode cX3_type 1 = .ok (.ifCond .lt 10, 3) := by decide +kernel
theorem dX3_type_4 : decode cX3_type 4 = .ok (.iload_n 1, 1) := by decide +kernel
theorem dX3_type_5 : decode cX3_type 5 = .ok (.sipush 255, 3) := by decide +kernel
theorem dX3_type_8 : decode cX3_type 8 = .ok (.if_icmp .le 6, 3) := by decide +kernel
theorem dX3_type_11 : decode cX3_type 11 = .ok (.bipush (-2), 2) := by decide +kernel
theorem dX3_type_13 : decode cX3_type 13 = .ok (.ireturn, 1) := by decide +kernel
theorem dX3_type_14 : decode cX3_type 14 = .ok (.aload_n 0, 1) := by decide +kernel
theorem dX3_type_15 : decode cX3_type 15 = .ok (.getfield 55, 3) := by decide +kernel
theorem dX3_type_18 : decode cX3_type 18 = .ok (.bipush 39, 2) := by decide +kernel
theorem dX3_type_20 : decode cX3_type 20 = .ok (.if_icmp .lt 6, 3) := by decide +kernel
theorem dX3_type_23 : decode cX3_type 23 = .ok (.bipush (-4), 2) := by decide +kernel
theorem dX3_type_25 : decode cX3_type 25 = .ok (.ireturn, 1) := by decide +kernel
theorem dX3_type_26 : decode cX3_type 26 = .ok (.aload_n 0, 1) := by decide +kernel
theorem dX3_type_27 : decode cX3_type 27 = .ok (.getfield 9, 3) := by decide +kernel
theorem dX3_type_30 : decode cX3_type 30 = .ok (.aload_n 0, 1) := by decide +kernel
theorem dX3_type_31 : decode cX3_type 31 = .ok (.getfield 55, 3) := by decide +kernel
theorem dX3_type_34 : decode cX3_type 34 = .ok (.iload_n 1, 1) := by decide +kernel
theorem dX3_type_35 : decode cX3_type 35 = .ok (.iastore, 1) := by decide +kernel
theorem dX3_type_36 : decode cX3_type 36 = .ok (.aload_n 0, 1) := by decide +kernel
theorem dX3_type_37 : decode cX3_type 37 = .ok (.dup, 1) := by decide +kernel
theorem dX3_type_38 : decode cX3_type 38 = .ok (.getfield 55, 3) := by decide +kernel
theorem dX3_type_41 : decode cX3_type 41 = .ok (.iconst 1, 1) := by decide +kernel
theorem dX3_type_42 : decode cX3_type 42 = .ok (.iadd, 1) := by decide +kernel
theorem dX3_type_43 : decode cX3_type 43 = .ok (.putfield 55, 3) := by decide +kernel
theorem dX3_type_46 : decode cX3_type 46 = .ok (.aload_n 0, 1) := by decide +kernel
theorem dX3_type_47 : decode cX3_type 47 = .ok (.invokevirtual 52, 3) := by decide +kernel
theorem dX3_type_50 : decode cX3_type 50 = .ok (.aload_n 0, 1) := by decide +kernel
theorem dX3_type_51 : decode cX3_type 51 = .ok (.getfield 55, 3) := by decide +kernel
theorem dX3_type_54 : decode cX3_type 54 = .ok (.ireturn, 1) := by decide +kernel
theorem dX3_wipe_0 : decode cX3_wipe 0 = .ok (.aload_n 0, 1) := by decide +kernel
theorem dX3_wipe_1 : decode cX3_wipe 1 = .ok (.getfield 55, 3) := by decide +kernel
theorem dX3_wipe_4 : decode cX3_wipe 4 = .ok (.istore_n 1, 1) := by decide +kernel
theorem dX3_wipe_5 : decode cX3_wipe 5 = .ok (.aload_n 0, 1) := by decide +kernel
theorem dX3_wipe_6 : decode cX3_wipe 6 = .ok (.iconst 0, 1) := by decide +kernel
theorem dX3_wipe_7 : decode cX3_wipe 7 = .ok (.putfield 55, 3) := by decide +kernel
theorem dX3_wipe_10 : decode cX3_wipe 10 = .ok (.aload_n 0, 1) := by decide +kernel
theorem dX3_wipe_11 : decode cX3_wipe 11 = .ok (.invokevirtual 52, 3) := by decide +kernel
theorem dX3_wipe_14 : decode cX3_wipe 14 = .ok (.iload_n 1, 1) := by decide +kernel
theorem dX3_wipe_15 : decode cX3_wipe 15 = .ok (.ireturn, 1) := by decide +kernel
theorem dX3_undo_0 : decode cX3_undo 0 = .ok (.aload_n 0, 1) := by decide +kernel
theorem dX3_undo_1 : decode cX3_undo 1 = .ok (.getfield 55, 3) := by decide +kernel
theorem dX3_undo_4 : decode cX3_undo 4 = .ok (.ifCond .gt 6, 3) := by decide +kernel
theorem dX3_undo_7 : decode cX3_undo 7 = .ok (.bipush (-3), 2) := by decide +kernel
theorem dX3_undo_9 : decode cX3_undo 9 = .ok (.ireturn, 1) := by decide +kernel
theorem dX3_undo_10 : decode cX3_undo 10 = .ok (.aload_n 0, 1) := by decide +kernel
theorem dX3_undo_11 : decode cX3_undo 11 = .ok (.dup, 1) := by decide +kernel
theorem dX3_undo_12 : decode cX3_undo 12 = .ok (.getfield 55, 3) := by decide +kernel
theorem dX3_undo_15 : decode cX3_undo 15 = .ok (.iconst 1, 1) := by decide +kernel
theorem dX3_undo_16 : decode cX3_undo 16 = .ok (.isub, 1) := by decide +kernel
theorem dX3_undo_17 : decode cX3_undo 17 = .ok (.putfield 55, 3) := by decide +kernel
theorem dX3_undo_20 : decode cX3_undo 20 = .ok (.aload_n 0, 1) := by decide +kernel
theorem dX3_undo_21 : decode cX3_undo 21 = .ok (.invokevirtual 52, 3) := by decide +kernel
theorem dX3_undo_24 : decode cX3_undo 24 = .ok (.aload_n 0, 1) := by decide +kernel
theorem dX3_undo_25 : decode cX3_undo 25 = .ok (.getfield 55, 3) := by decide +kernel
theorem dX3_undo_28 : decode cX3_undo 28 = .ok (.ireturn, 1) := by decide +kernel
theorem dX3_fault_0 : decode cX3_fault 0 = .ok (.aload_n 0, 1) := by decide +kernel
theorem dX3_fault_1 : decode cX3_fault 1 = .ok (.getfield 39, 3) := by decide +kernel
theorem dX3_fault_4 : decode cX3_fault 4 = .ok (.getfield 58, 3) := by decide +kernel
theorem dX3_fault_7 : decode cX3_fault 7 = .ok (.ireturn, 1) := by decide +kernel
theorem dX3_cell_0 : decode cX3_cell 0 = .ok (.aload_n 0, 1) := by decide +kernel
theorem dX3_cell_1 : decode cX3_cell 1 = .ok (.getfield 39, 3) := by decide +kernel
theorem dX3_cell_4 : decode cX3_cell 4 = .ok (.iload_n 1, 1) := by decide +kernel
theorem dX3_cell_5 : decode cX3_cell 5 = .ok (.invokevirtual 61, 3) := by decide +kernel
theorem dX3_cell_8 : decode cX3_cell 8 = .ok (.ifCond .eq 12, 3) := by decide +kernel
theorem dX3_cell_11 : decode cX3_cell 11 = .ok (.iload_n 2, 1) := by decide +kernel
theorem dX3_cell_12 : decode cX3_cell 12 = .ok (.ifCond .lt 8, 3) := by decide +kernel
theorem dX3_cell_15 : decode cX3_cell 15 = .ok (.iload_n 2, 1) := by decide +kernel
theorem dX3_cell_16 : decode cX3_cell 16 = .ok (.iconst 2, 1) := by decide +kernel
theorem dX3_cell_17 : decode cX3_cell 17 = .ok (.if_icmp .le 6, 3) := by decide +kernel
theorem dX3_cell_20 : decode cX3_cell 20 = .ok (.bipush (-2), 2) := by decide +kernel
theorem dX3_cell_22 : decode cX3_cell 22 = .ok (.ireturn, 1) := by decide +kernel
theorem dX3_cell_23 : decode cX3_cell 23 = .ok (.iload_n 2, 1) := by decide +kernel
theorem dX3_cell_24 : decode cX3_cell 24 = .ok (.ifCond .ne 12, 3) := by decide +kernel
theorem dX3_cell_27 : decode cX3_cell 27 = .ok (.aload_n 0, 1) := by decide +kernel
theorem dX3_cell_28 : decode cX3_cell 28 = .ok (.getfield 39, 3) := by decide +kernel
theorem dX3_cell_31 : decode cX3_cell 31 = .ok (.iload_n 1, 1) := by decide +kernel
theorem dX3_cell_32 : decode cX3_cell 32 = .ok (.invokevirtual 65, 3) := by decide +kernel
theorem dX3_cell_35 : decode cX3_cell 35 = .ok (.ireturn, 1) := by decide +kernel
theorem dX3_cell_36 : decode cX3_cell 36 = .ok (.iload_n 2, 1) := by decide +kernel
theorem dX3_cell_37 : decode cX3_cell 37 = .ok (.iconst 1, 1) := by decide +kernel
theorem dX3_cell_38 : decode cX3_cell 38 = .ok (.if_icmp .ne 13, 3) := by decide +kernel
theorem dX3_cell_41 : decode cX3_cell 41 = .ok (.aload_n 0, 1) := by decide +kernel
theorem dX3_cell_42 : decode cX3_cell 42 = .ok (.getfield 39, 3) := by decide +kernel
theorem dX3_cell_45 : decode cX3_cell 45 = .ok (.getfield 69, 3) := by decide +kernel
theorem dX3_cell_48 : decode cX3_cell 48 = .ok (.goto 10, 3) := by decide +kernel
theorem dX3_cell_51 : decode cX3_cell 51 = .ok (.aload_n 0, 1) := by decide +kernel
theorem dX3_cell_52 : decode cX3_cell 52 = .ok (.getfield 39, 3) := by decide +kernel
theorem dX3_cell_55 : decode cX3_cell 55 = .ok (.getfield 73, 3) := by decide +kernel
theorem dX3_cell_58 : decode cX3_cell 58 = .ok (.iload_n 1, 1) := by decide +kernel
theorem dX3_cell_59 : decode cX3_cell 59 = .ok (.invokestatic 76, 3) := by decide +kernel
theorem dX3_cell_62 : decode cX3_cell 62 = .ok (.invokestatic 80, 3) := by decide +kernel
theorem dX3_cell_65 : decode cX3_cell 65 = .ok (.ireturn, 1) := by decide +kernel
theorem dX3_set_0 : decode cX3_set 0 = .ok (.iload_n 1, 1) := by decide +kernel
theorem dX3_set_1 : decode cX3_set 1 = .ok (.ifCond .ne 28, 3) := by decide +kernel
theorem dX3_set_4 : decode cX3_set 4 = .ok (.iload_n 2, 1) := by decide +kernel
theorem dX3_set_5 : decode cX3_set 5 = .ok (.ifCond .lt 24, 3) := by decide +kernel
theorem dX3_set_8 : decode cX3_set 8 = .ok (.iload_n 2, 1) := by decide +kernel
theorem dX3_set_9 : decode cX3_set 9 = .ok (.iconst 5, 1) := by decide +kernel
theorem dX3_set_10 : decode cX3_set 10 = .ok (.if_icmp .gt 19, 3) := by decide +kernel
theorem dX3_set_13 : decode cX3_set 13 = .ok (.aload_n 0, 1) := by decide +kernel
theorem dX3_set_14 : decode cX3_set 14 = .ok (.getfield 13, 3) := by decide +kernel
theorem dX3_set_17 : decode cX3_set 17 = .ok (.istore_n 3, 1) := by decide +kernel
theorem dX3_set_18 : decode cX3_set 18 = .ok (.aload_n 0, 1) := by decide +kernel
theorem dX3_set_19 : decode cX3_set 19 = .ok (.iload_n 2, 1) := by decide +kernel
theorem dX3_set_20 : decode cX3_set 20 = .ok (.putfield 13, 3) := by decide +kernel
theorem dX3_set_23 : decode cX3_set 23 = .ok (.aload_n 0, 1) := by decide +kernel
theorem dX3_set_24 : decode cX3_set 24 = .ok (.invokevirtual 52, 3) := by decide +kernel
theorem dX3_set_27 : decode cX3_set 27 = .ok (.iload_n 3, 1) := by decide +kernel
theorem dX3_set_28 : decode cX3_set 28 = .ok (.ireturn, 1) := by decide +kernel
theorem dX3_set_29 : decode cX3_set 29 = .ok (.iload_n 1, 1) := by decide +kernel
theorem dX3_set_30 : decode cX3_set 30 = .ok (.iconst 1, 1) := by decide +kernel
theorem dX3_set_31 : decode cX3_set 31 = .ok (.if_icmp .ne 29, 3) := by decide +kernel
theorem dX3_set_34 : decode cX3_set 34 = .ok (.iload_n 2, 1) := by decide +kernel
theorem dX3_set_35 : decode cX3_set 35 = .ok (.ifCond .lt 25, 3) := by decide +kernel
theorem dX3_set_38 : decode cX3_set 38 = .ok (.iload_n 2, 1) := by decide +kernel
theorem dX3_set_39 : decode cX3_set 39 = .ok (.bipush 9, 2) := by decide +kernel
theorem dX3_set_41 : decode cX3_set 41 = .ok (.if_icmp .gt 19, 3) := by decide +kernel
theorem dX3_set_44 : decode cX3_set 44 = .ok (.aload_n 0, 1) := by decide +kernel
theorem dX3_set_45 : decode cX3_set 45 = .ok (.getfield 17, 3) := by decide +kernel
theorem dX3_set_48 : decode cX3_set 48 = .ok (.istore_n 3, 1) := by decide +kernel
theorem dX3_set_49 : decode cX3_set 49 = .ok (.aload_n 0, 1) := by decide +kernel
theorem dX3_set_50 : decode cX3_set 50 = .ok (.iload_n 2, 1) := by decide +kernel
theorem dX3_set_51 : decode cX3_set 51 = .ok (.putfield 17, 3) := by decide +kernel
theorem dX3_set_54 : decode cX3_set 54 = .ok (.aload_n 0, 1) := by decide +kernel
theorem dX3_set_55 : decode cX3_set 55 = .ok (.invokevirtual 52, 3) := by decide +kernel
theorem dX3_set_58 : decode cX3_set 58 = .ok (.iload_n 3, 1) := by decide +kernel
theorem dX3_set_59 : decode cX3_set 59 = .ok (.ireturn, 1) := by decide +kernel
theorem dX3_set_60 : decode cX3_set 60 = .ok (.bipush (-2), 2) := by decide +kernel
theorem dX3_set_62 : decode cX3_set 62 = .ok (.ireturn, 1) := by decide +kernel
theorem dX3_thing_0 : decode cX3_thing 0 = .ok (.iload_n 1, 1) := by decide +kernel
theorem dX3_thing_1 : decode cX3_thing 1 = .ok (.ifCond .lt 16, 3) := by decide +kernel
theorem dX3_thing_4 : decode cX3_thing 4 = .ok (.iload_n 1, 1) := by decide +kernel
theorem dX3_thing_5 : decode cX3_thing 5 = .ok (.bipush 35, 2) := by decide +kernel
theorem dX3_thing_7 : decode cX3_thing 7 = .ok (.if_icmp .ge 10, 3) := by decide +kernel
theorem dX3_thing_10 : decode cX3_thing 10 = .ok (.iload_n 2, 1) := by decide +kernel
theorem dX3_thing_11 : decode cX3_thing 11 = .ok (.invokestatic 84, 3) := by decide +kernel
theorem dX3_thing_14 : decode cX3_thing 14 = .ok (.ifCond .ne 6, 3) := by decide +kernel
theorem dX3_thing_17 : decode cX3_thing 17 = .ok (.bipush (-2), 2) := by decide +kernel
theorem dX3_thing_19 : decode cX3_thing 19 = .ok (.ireturn, 1) := by decide +kernel
theorem dX3_thing_20 : decode cX3_thing 20 = .ok (.aload_n 0, 1) := by decide +kernel
theorem dX3_thing_21 : decode cX3_thing 21 = .ok (.getfield 87, 3) := by decide +kernel
theorem dX3_thing_24 : decode cX3_thing 24 = .ok (.bipush 8, 2) := by decide +kernel
theorem dX3_thing_26 : decode cX3_thing 26 = .ok (.if_icmp .lt 6, 3) := by decide +kernel
theorem dX3_thing_29 : decode cX3_thing 29 = .ok (.bipush (-4), 2) := by decide +kernel
theorem dX3_thing_31 : decode cX3_thing 31 = .ok (.ireturn, 1) := by decide +kernel
theorem dX3_thing_32 : decode cX3_thing 32 = .ok (.aload_n 0, 1) := by decide +kernel
theorem dX3_thing_33 : decode cX3_thing 33 = .ok (.getfield 20, 3) := by decide +kernel
theorem dX3_thing_36 : decode cX3_thing 36 = .ok (.aload_n 0, 1) := by decide +kernel
theorem dX3_thing_37 : decode cX3_thing 37 = .ok (.getfield 87, 3) := by decide +kernel
theorem dX3_thing_40 : decode cX3_thing 40 = .ok (.iload_n 1, 1) := by decide +kernel
theorem dX3_thing_41 : decode cX3_thing 41 = .ok (.iastore, 1) := by decide +kernel
theorem dX3_thing_42 : decode cX3_thing 42 = .ok (.aload_n 0, 1) := by decide +kernel
theorem dX3_thing_43 : decode cX3_thing 43 = .ok (.getfield 23, 3) := by decide +kernel
theorem dX3_thing_46 : decode cX3_thing 46 = .ok (.aload_n 0, 1) := by decide +kernel
theorem dX3_thing_47 : decode cX3_thing 47 = .ok (.getfield 87, 3) := by decide +kernel
theorem dX3_thing_50 : decode cX3_thing 50 = .ok (.iload_n 2, 1) := by decide +kernel
theorem dX3_thing_51 : decode cX3_thing 51 = .ok (.iastore, 1) := by decide +kernel
theorem dX3_thing_52 : decode cX3_thing 52 = .ok (.aload_n 0, 1) := by decide +kernel
theorem dX3_thing_53 : decode cX3_thing 53 = .ok (.dup, 1) := by decide +kernel
theorem dX3_thing_54 : decode cX3_thing 54 = .ok (.getfield 87, 3) := by decide +kernel
theorem dX3_thing_57 : decode cX3_thing 57 = .ok (.iconst 1, 1) := by decide +kernel
theorem dX3_thing_58 : decode cX3_thing 58 = .ok (.iadd, 1) := by decide +kernel
theorem dX3_thing_59 : decode cX3_thing 59 = .ok (.putfield 87, 3) := by decide +kernel
theorem dX3_thing_62 : decode cX3_thing 62 = .ok (.aload_n 0, 1) := by decide +kernel
theorem dX3_thing_63 : decode cX3_thing 63 = .ok (.getfield 87, 3) := by decide +kernel
theorem dX3_thing_66 : decode cX3_thing 66 = .ok (.ireturn, 1) := by decide +kernel
theorem dX3_back_0 : decode cX3_back 0 = .ok (.aload_n 0, 1) := by decide +kernel
theorem dX3_back_1 : decode cX3_back 1 = .ok (.getfield 87, 3) := by decide +kernel
theorem dX3_back_4 : decode cX3_back 4 = .ok (.ifCond .gt 6, 3) := by decide +kernel
theorem dX3_back_7 : decode cX3_back 7 = .ok (.bipush (-3), 2) := by decide +kernel
theorem dX3_back_9 : decode cX3_back 9 = .ok (.ireturn, 1) := by decide +kernel
theorem dX3_back_10 : decode cX3_back 10 = .ok (.aload_n 0, 1) := by decide +kernel
theorem dX3_back_11 : decode cX3_back 11 = .ok (.dup, 1) := by decide +kernel
theorem dX3_back_12 : decode cX3_back 12 = .ok (.getfield 87, 3) := by decide +kernel
theorem dX3_back_15 : decode cX3_back 15 = .ok (.iconst 1, 1) := by decide +kernel
theorem dX3_back_16 : decode cX3_back 16 = .ok (.isub, 1) := by decide +kernel
theorem dX3_back_17 : decode cX3_back 17 = .ok (.putfield 87, 3) := by decide +kernel
theorem dX3_back_20 : decode cX3_back 20 = .ok (.aload_n 0, 1) := by decide +kernel
theorem dX3_back_21 : decode cX3_back 21 = .ok (.getfield 87, 3) := by decide +kernel
theorem dX3_back_24 : decode cX3_back 24 = .ok (.ireturn, 1) := by decide +kernel
theorem dX3_read_0 : decode cX3_read 0 = .ok (.iload_n 1, 1) := by decide +kernel
theorem dX3_read_1 : decode cX3_read 1 = .ok (.invokestatic 90, 3) := by decide +kernel
theorem dX3_read_4 : decode cX3_read 4 = .ok (.ifCond .ne 6, 3) := by decide +kernel
theorem dX3_read_7 : decode cX3_read 7 = .ok (.bipush (-2), 2) := by decide +kernel
theorem dX3_read_9 : decode cX3_read 9 = .ok (.ireturn, 1) := by decide +kernel
theorem dX3_read_10 : decode cX3_read 10 = .ok (.aload_n 0, 1) := by decide +kernel
theorem dX3_read_11 : decode cX3_read 11 = .ok (.getfield 31, 3) := by decide +kernel
theorem dX3_read_14 : decode cX3_read 14 = .ok (.iload_n 1, 1) := by decide +kernel
theorem dX3_read_15 : decode cX3_read 15 = .ok (.aaload, 1) := by decide +kernel
theorem dX3_read_16 : decode cX3_read 16 = .ok (.astore_n 2, 1) := by decide +kernel
theorem dX3_read_17 : decode cX3_read 17 = .ok (.aload_n 2, 1) := by decide +kernel
theorem dX3_read_18 : decode cX3_read 18 = .ok (.getfield 93, 3) := by decide +kernel
theorem dX3_read_21 : decode cX3_read 21 = .ok (.ifCond .eq 9, 3) := by decide +kernel
theorem dX3_read_24 : decode cX3_read 24 = .ok (.aload_n 0, 1) := by decide +kernel
theorem dX3_read_25 : decode cX3_read 25 = .ok (.iconst 1, 1) := by decide +kernel
theorem dX3_read_26 : decode cX3_read 26 = .ok (.invokevirtual 97, 3) := by decide +kernel
theorem dX3_read_29 : decode cX3_read 29 = .ok (.ireturn, 1) := by decide +kernel
theorem dX3_read_30 : decode cX3_read 30 = .ok (.iconst 0, 1) := by decide +kernel
theorem dX3_read_31 : decode cX3_read 31 = .ok (.istore_n 3, 1) := by decide +kernel
theorem dX3_read_32 : decode cX3_read 32 = .ok (.iconst 0, 1) := by decide +kernel
theorem dX3_read_33 : decode cX3_read 33 = .ok (.istore 4, 2) := by decide +kernel
theorem dX3_read_35 : decode cX3_read 35 = .ok (.iload 4, 2) := by decide +kernel
theorem dX3_read_37 : decode cX3_read 37 = .ok (.iconst 1, 1) := by decide +kernel
theorem dX3_read_38 : decode cX3_read 38 = .ok (.iadd, 1) := by decide +kernel
theorem dX3_read_39 : decode cX3_read 39 = .ok (.aload_n 2, 1) := by decide +kernel
theorem dX3_read_40 : decode cX3_read 40 = .ok (.getfield 100, 3) := by decide +kernel
theorem dX3_read_43 : decode cX3_read 43 = .ok (.if_icmp .ge 46, 3) := by decide +kernel
theorem dX3_read_46 : decode cX3_read 46 = .ok (.iload 4, 2) := by decide +kernel
theorem dX3_read_48 : decode cX3_read 48 = .ok (.iconst 1, 1) := by decide +kernel
theorem dX3_read_49 : decode cX3_read 49 = .ok (.iadd, 1) := by decide +kernel
theorem dX3_read_50 : decode cX3_read 50 = .ok (.bipush 48, 2) := by decide +kernel
theorem dX3_read_52 : decode cX3_read 52 = .ok (.if_icmp .ge 37, 3) := by decide +kernel
theorem dX3_read_55 : decode cX3_read 55 = .ok (.aload_n 0, 1) := by decide +kernel
theorem dX3_read_56 : decode cX3_read 56 = .ok (.aload_n 2, 1) := by decide +kernel
theorem dX3_read_57 : decode cX3_read 57 = .ok (.getfield 103, 3) := by decide +kernel
theorem dX3_read_60 : decode cX3_read 60 = .ok (.iload 4, 2) := by decide +kernel
theorem dX3_read_62 : decode cX3_read 62 = .ok (.iaload, 1) := by decide +kernel
theorem dX3_read_63 : decode cX3_read 63 = .ok (.aload_n 2, 1) := by decide +kernel
theorem dX3_read_64 : decode cX3_read 64 = .ok (.getfield 103, 3) := by decide +kernel
theorem dX3_read_67 : decode cX3_read 67 = .ok (.iload 4, 2) := by decide +kernel
theorem dX3_read_69 : decode cX3_read 69 = .ok (.iconst 1, 1) := by decide +kernel
theorem dX3_read_70 : decode cX3_read 70 = .ok (.iadd, 1) := by decide +kernel
theorem dX3_read_71 : decode cX3_read 71 = .ok (.iaload, 1) := by decide +kernel
theorem dX3_read_72 : decode cX3_read 72 = .ok (.invokevirtual 106, 3) := by decide +kernel
theorem dX3_read_75 : decode cX3_read 75 = .ok (.ifCond .ge 5, 3) := by decide +kernel
theorem dX3_read_78 : decode cX3_read 78 = .ok (.iload_n 3, 1) := by decide +kernel
theorem dX3_read_79 : decode cX3_read 79 = .ok (.ireturn, 1) := by decide +kernel
theorem dX3_read_80 : decode cX3_read 80 = .ok (.iinc 3 1, 3) := by decide +kernel
theorem dX3_read_83 : decode cX3_read 83 = .ok (.iinc 4 2, 3) := by decide +kernel
theorem dX3_read_86 : decode cX3_read 86 = .ok (.goto (-51), 3) := by decide +kernel
theorem dX3_read_89 : decode cX3_read 89 = .ok (.iload_n 3, 1) := by decide +kernel
theorem dX3_read_90 : decode cX3_read 90 = .ok (.ireturn, 1) := by decide +kernel
theorem dX3_at_0 : decode cX3_at 0 = .ok (.aload_n 0, 1) := by decide +kernel
theorem dX3_at_1 : decode cX3_at 1 = .ok (.iload_n 1, 1) := by decide +kernel
theorem dX3_at_2 : decode cX3_at 2 = .ok (.invokevirtual 110, 3) := by decide +kernel
theorem dX3_at_5 : decode cX3_at 5 = .ok (.ifCond .eq 10, 3) := by decide +kernel
theorem dX3_at_8 : decode cX3_at 8 = .ok (.iload_n 2, 1) := by decide +kernel
theorem dX3_at_9 : decode cX3_at 9 = .ok (.invokestatic 84, 3) := by decide +kernel
theorem dX3_at_12 : decode cX3_at 12 = .ok (.ifCond .ne 6, 3) := by decide +kernel
theorem dX3_at_15 : decode cX3_at 15 = .ok (.bipush (-2), 2) := by decide +kernel
theorem dX3_at_17 : decode cX3_at 17 = .ok (.ireturn, 1) := by decide +kernel
theorem dX3_at_18 : decode cX3_at 18 = .ok (.iload_n 2, 1) := by decide +kernel
theorem dX3_at_19 : decode cX3_at 19 = .ok (.aload_n 0, 1) := by decide +kernel
theorem dX3_at_20 : decode cX3_at 20 = .ok (.getfield 23, 3) := by decide +kernel
theorem dX3_at_23 : decode cX3_at 23 = .ok (.iload_n 1, 1) := by decide +kernel
theorem dX3_at_24 : decode cX3_at 24 = .ok (.iaload, 1) := by decide +kernel
theorem dX3_at_25 : decode cX3_at 25 = .ok (.if_icmp .ge 5, 3) := by decide +kernel
theorem dX3_at_28 : decode cX3_at 28 = .ok (.iconst (-1), 1) := by decide +kernel
theorem dX3_at_29 : decode cX3_at 29 = .ok (.ireturn, 1) := by decide +kernel
theorem dX3_at_30 : decode cX3_at 30 = .ok (.aload_n 0, 1) := by decide +kernel
theorem dX3_at_31 : decode cX3_at 31 = .ok (.getfield 39, 3) := by decide +kernel
theorem dX3_at_34 : decode cX3_at 34 = .ok (.aload_n 0, 1) := by decide +kernel
theorem dX3_at_35 : decode cX3_at 35 = .ok (.getfield 20, 3) := by decide +kernel
theorem dX3_at_38 : decode cX3_at 38 = .ok (.iload_n 1, 1) := by decide +kernel
theorem dX3_at_39 : decode cX3_at 39 = .ok (.iaload, 1) := by decide +kernel
theorem dX3_at_40 : decode cX3_at 40 = .ok (.iload_n 2, 1) := by decide +kernel
theorem dX3_at_41 : decode cX3_at 41 = .ok (.aload_n 0, 1) := by decide +kernel
theorem dX3_at_42 : decode cX3_at 42 = .ok (.getfield 23, 3) := by decide +kernel
theorem dX3_at_45 : decode cX3_at 45 = .ok (.iload_n 1, 1) := by decide +kernel
theorem dX3_at_46 : decode cX3_at 46 = .ok (.iaload, 1) := by decide +kernel
theorem dX3_at_47 : decode cX3_at 47 = .ok (.isub, 1) := by decide +kernel
theorem dX3_at_48 : decode cX3_at 48 = .ok (.invokevirtual 113, 3) := by decide +kernel
theorem dX3_at_51 : decode cX3_at 51 = .ok (.ireturn, 1) := by decide +kernel
theorem dX3_rests_0 : decode cX3_rests 0 = .ok (.aload_n 0, 1) := by decide +kernel
theorem dX3_rests_1 : decode cX3_rests 1 = .ok (.iload_n 1, 1) := by decide +kernel
theorem dX3_rests_2 : decode cX3_rests 2 = .ok (.invokevirtual 110, 3) := by decide +kernel
theorem dX3_rests_5 : decode cX3_rests 5 = .ok (.ifCond .eq 12, 3) := by decide +kernel
theorem dX3_rests_8 : decode cX3_rests 8 = .ok (.iload_n 2, 1) := by decide +kernel
theorem dX3_rests_9 : decode cX3_rests 9 = .ok (.ifCond .lt 8, 3) := by decide +kernel
theorem dX3_rests_12 : decode cX3_rests 12 = .ok (.iload_n 2, 1) := by decide +kernel
theorem dX3_rests_13 : decode cX3_rests 13 = .ok (.iconst 1, 1) := by decide +kernel
theorem dX3_rests_14 : decode cX3_rests 14 = .ok (.if_icmp .le 6, 3) := by decide +kernel
theorem dX3_rests_17 : decode cX3_rests 17 = .ok (.bipush (-2), 2) := by decide +kernel
theorem dX3_rests_19 : decode cX3_rests 19 = .ok (.ireturn, 1) := by decide +kernel
theorem dX3_rests_20 : decode cX3_rests 20 = .ok (.iload_n 2, 1) := by decide +kernel
theorem dX3_rests_21 : decode cX3_rests 21 = .ok (.ifCond .ne 18, 3) := by decide +kernel
theorem dX3_rests_24 : decode cX3_rests 24 = .ok (.aload_n 0, 1) := by decide +kernel
theorem dX3_rests_25 : decode cX3_rests 25 = .ok (.getfield 39, 3) := by decide +kernel
theorem dX3_rests_28 : decode cX3_rests 28 = .ok (.aload_n 0, 1) := by decide +kernel
theorem dX3_rests_29 : decode cX3_rests 29 = .ok (.getfield 20, 3) := by decide +kernel
theorem dX3_rests_32 : decode cX3_rests 32 = .ok (.iload_n 1, 1) := by decide +kernel
theorem dX3_rests_33 : decode cX3_rests 33 = .ok (.iaload, 1) := by decide +kernel
theorem dX3_rests_34 : decode cX3_rests 34 = .ok (.iconst 5, 1) := by decide +kernel
theorem dX3_rests_35 : decode cX3_rests 35 = .ok (.invokevirtual 113, 3) := by decide +kernel
theorem dX3_rests_38 : decode cX3_rests 38 = .ok (.ireturn, 1) := by decide +kernel
theorem dX3_rests_39 : decode cX3_rests 39 = .ok (.aload_n 0, 1) := by decide +kernel
theorem dX3_rests_40 : decode cX3_rests 40 = .ok (.getfield 39, 3) := by decide +kernel
theorem dX3_rests_43 : decode cX3_rests 43 = .ok (.aload_n 0, 1) := by decide +kernel
theorem dX3_rests_44 : decode cX3_rests 44 = .ok (.getfield 20, 3) := by decide +kernel
theorem dX3_rests_47 : decode cX3_rests 47 = .ok (.iload_n 1, 1) := by decide +kernel
theorem dX3_rests_48 : decode cX3_rests 48 = .ok (.iaload, 1) := by decide +kernel
theorem dX3_rests_49 : decode cX3_rests 49 = .ok (.invokevirtual 116, 3) := by decide +kernel
theorem dX3_rests_52 : decode cX3_rests 52 = .ok (.ireturn, 1) := by decide +kernel
theorem dX3_longest_0 : decode cX3_longest 0 = .ok (.iconst (-1), 1) := by decide +kernel
theorem dX3_longest_1 : decode cX3_longest 1 = .ok (.istore_n 1, 1) := by decide +kernel
theorem dX3_longest_2 : decode cX3_longest 2 = .ok (.iconst (-1), 1) := by decide +kernel
theorem dX3_longest_3 : decode cX3_longest 3 = .ok (.istore_n 2, 1) := by decide +kernel
theorem dX3_longest_4 : decode cX3_longest 4 = .ok (.iconst 0, 1) := by decide +kernel
theorem dX3_longest_5 : decode cX3_longest 5 = .ok (.istore_n 3, 1) := by decide +kernel
theorem dX3_longest_6 : decode cX3_longest 6 = .ok (.iload_n 3, 1) := by decide +kernel
theorem dX3_longest_7 : decode cX3_longest 7 = .ok (.aload_n 0, 1) := by decide +kernel
theorem dX3_longest_8 : decode cX3_longest 8 = .ok (.getfield 87, 3) := by decide +kernel
theorem dX3_longest_11 : decode cX3_longest 11 = .ok (.if_icmp .ge 64, 3) := by decide +kernel
theorem dX3_longest_14 : decode cX3_longest 14 = .ok (.iload_n 3, 1) := by decide +kernel
theorem dX3_longest_15 : decode cX3_longest 15 = .ok (.bipush 8, 2) := by decide +kernel
theorem dX3_longest_17 : decode cX3_longest 17 = .ok (.if_icmp .ge 58, 3) := by decide +kernel
theorem dX3_longest_20 : decode cX3_longest 20 = .ok (.aload_n 0, 1) := by decide +kernel
theorem dX3_longest_21 : decode cX3_longest 21 = .ok (.getfield 39, 3) := by decide +kernel
theorem dX3_longest_24 : decode cX3_longest 24 = .ok (.getfield 119, 3) := by decide +kernel
theorem dX3_longest_27 : decode cX3_longest 27 = .ok (.aload_n 0, 1) := by decide +kernel
theorem dX3_longest_28 : decode cX3_longest 28 = .ok (.getfield 20, 3) := by decide +kernel
theorem dX3_longest_31 : decode cX3_longest 31 = .ok (.iload_n 3, 1) := by decide +kernel
theorem dX3_longest_32 : decode cX3_longest 32 = .ok (.iaload, 1) := by decide +kernel
theorem dX3_longest_33 : decode cX3_longest 33 = .ok (.invokestatic 76, 3) := by decide +kernel
theorem dX3_longest_36 : decode cX3_longest 36 = .ok (.istore 4, 2) := by decide +kernel
theorem dX3_longest_38 : decode cX3_longest 38 = .ok (.aload_n 0, 1) := by decide +kernel
theorem dX3_longest_39 : decode cX3_longest 39 = .ok (.getfield 39, 3) := by decide +kernel
theorem dX3_longest_42 : decode cX3_longest 42 = .ok (.aload_n 0, 1) := by decide +kernel
theorem dX3_longest_43 : decode cX3_longest 43 = .ok (.getfield 20, 3) := by decide +kernel
theorem dX3_longest_46 : decode cX3_longest 46 = .ok (.iload_n 3, 1) := by decide +kernel
theorem dX3_longest_47 : decode cX3_longest 47 = .ok (.iaload, 1) := by decide +kernel
theorem dX3_longest_48 : decode cX3_longest 48 = .ok (.invokevirtual 116, 3) := by decide +kernel
theorem dX3_longest_51 : decode cX3_longest 51 = .ok (.istore 5, 2) := by decide +kernel
theorem dX3_longest_53 : decode cX3_longest 53 = .ok (.iload 4, 2) := by decide +kernel
theorem dX3_longest_55 : decode cX3_longest 55 = .ok (.ifCond .eq 14, 3) := by decide +kernel
theorem dX3_longest_58 : decode cX3_longest 58 = .ok (.iload 5, 2) := by decide +kernel
theorem dX3_longest_60 : decode cX3_longest 60 = .ok (.iload_n 2, 1) := by decide +kernel
theorem dX3_longest_61 : decode cX3_longest 61 = .ok (.if_icmp .le 8, 3) := by decide +kernel
theorem dX3_longest_64 : decode cX3_longest 64 = .ok (.iload_n 3, 1) := by decide +kernel
theorem dX3_longest_65 : decode cX3_longest 65 = .ok (.istore_n 1, 1) := by decide +kernel
theorem dX3_longest_66 : decode cX3_longest 66 = .ok (.iload 5, 2) := by decide +kernel
theorem dX3_longest_68 : decode cX3_longest 68 = .ok (.istore_n 2, 1) := by decide +kernel
theorem dX3_longest_69 : decode cX3_longest 69 = .ok (.iinc 3 1, 3) := by decide +kernel
theorem dX3_longest_72 : decode cX3_longest 72 = .ok (.goto (-66), 3) := by decide +kernel
theorem dX3_longest_75 : decode cX3_longest 75 = .ok (.iload_n 1, 1) := by decide +kernel
theorem dX3_longest_76 : decode cX3_longest 76 = .ok (.ireturn, 1) := by decide +kernel
theorem dX3_meet_0 : decode cX3_meet 0 = .ok (.aload_n 0, 1) := by decide +kernel
theorem dX3_meet_1 : decode cX3_meet 1 = .ok (.iload_n 1, 1) := by decide +kernel
theorem dX3_meet_2 : decode cX3_meet 2 = .ok (.invokevirtual 110, 3) := by decide +kernel
theorem dX3_meet_5 : decode cX3_meet 5 = .ok (.ifCond .eq 16, 3) := by decide +kernel
theorem dX3_meet_8 : decode cX3_meet 8 = .ok (.aload_n 0, 1) := by decide +kernel
theorem dX3_meet_9 : decode cX3_meet 9 = .ok (.iload_n 2, 1) := by decide +kernel
theorem dX3_meet_10 : decode cX3_meet 10 = .ok (.invokevirtual 110, 3) := by decide +kernel
theorem dX3_meet_13 : decode cX3_meet 13 = .ok (.ifCond .eq 8, 3) := by decide +kernel
theorem dX3_meet_16 : decode cX3_meet 16 = .ok (.iload_n 1, 1) := by decide +kernel
theorem dX3_meet_17 : decode cX3_meet 17 = .ok (.iload_n 2, 1) := by decide +kernel
theorem dX3_meet_18 : decode cX3_meet 18 = .ok (.if_icmp .ne 6, 3) := by decide +kernel
theorem dX3_meet_21 : decode cX3_meet 21 = .ok (.bipush (-2), 2) := by decide +kernel
theorem dX3_meet_23 : decode cX3_meet 23 = .ok (.ireturn, 1) := by decide +kernel
theorem dX3_meet_24 : decode cX3_meet 24 = .ok (.iconst 0, 1) := by decide +kernel
theorem dX3_meet_25 : decode cX3_meet 25 = .ok (.istore_n 3, 1) := by decide +kernel
theorem dX3_meet_26 : decode cX3_meet 26 = .ok (.iload_n 3, 1) := by decide +kernel
theorem dX3_meet_27 : decode cX3_meet 27 = .ok (.bipush 100, 2) := by decide +kernel
theorem dX3_meet_29 : decode cX3_meet 29 = .ok (.if_icmp .ge 36, 3) := by decide +kernel
theorem dX3_meet_32 : decode cX3_meet 32 = .ok (.aload_n 0, 1) := by decide +kernel
theorem dX3_meet_33 : decode cX3_meet 33 = .ok (.iload_n 1, 1) := by decide +kernel
theorem dX3_meet_34 : decode cX3_meet 34 = .ok (.iload_n 3, 1) := by decide +kernel
theorem dX3_meet_35 : decode cX3_meet 35 = .ok (.invokevirtual 122, 3) := by decide +kernel
theorem dX3_meet_38 : decode cX3_meet 38 = .ok (.istore 4, 2) := by decide +kernel
theorem dX3_meet_40 : decode cX3_meet 40 = .ok (.iload 4, 2) := by decide +kernel
theorem dX3_meet_42 : decode cX3_meet 42 = .ok (.iconst (-1), 1) := by decide +kernel
theorem dX3_meet_43 : decode cX3_meet 43 = .ok (.if_icmp .eq 16, 3) := by decide +kernel
theorem dX3_meet_46 : decode cX3_meet 46 = .ok (.iload 4, 2) := by decide +kernel
theorem dX3_meet_48 : decode cX3_meet 48 = .ok (.aload_n 0, 1) := by decide +kernel
theorem dX3_meet_49 : decode cX3_meet 49 = .ok (.iload_n 2, 1) := by decide +kernel
theorem dX3_meet_50 : decode cX3_meet 50 = .ok (.iload_n 3, 1) := by decide +kernel
theorem dX3_meet_51 : decode cX3_meet 51 = .ok (.invokevirtual 122, 3) := by decide +kernel
theorem dX3_meet_54 : decode cX3_meet 54 = .ok (.if_icmp .ne 5, 3) := by decide +kernel
theorem dX3_meet_57 : decode cX3_meet 57 = .ok (.iload_n 3, 1) := by decide +kernel
theorem dX3_meet_58 : decode cX3_meet 58 = .ok (.ireturn, 1) := by decide +kernel
theorem dX3_meet_59 : decode cX3_meet 59 = .ok (.iinc 3 1, 3) := by decide +kernel
theorem dX3_meet_62 : decode cX3_meet 62 = .ok (.goto (-36), 3) := by decide +kernel
theorem dX3_meet_65 : decode cX3_meet 65 = .ok (.iconst (-1), 1) := by decide +kernel
theorem dX3_meet_66 : decode cX3_meet 66 = .ok (.ireturn, 1) := by decide +kernel
theorem dX3_way_0 : decode cX3_way 0 = .ok (.aload_n 0, 1) := by decide +kernel
theorem dX3_way_1 : decode cX3_way 1 = .ok (.getfield 39, 3) := by decide +kernel
theorem dX3_way_4 : decode cX3_way 4 = .ok (.iload_n 1, 1) := by decide +kernel
theorem dX3_way_5 : decode cX3_way 5 = .ok (.invokevirtual 61, 3) := by decide +kernel
theorem dX3_way_8 : decode cX3_way 8 = .ok (.ifCond .eq 14, 3) := by decide +kernel
theorem dX3_way_11 : decode cX3_way 11 = .ok (.aload_n 0, 1) := by decide +kernel
theorem dX3_way_12 : decode cX3_way 12 = .ok (.getfield 39, 3) := by decide +kernel
theorem dX3_way_15 : decode cX3_way 15 = .ok (.iload_n 2, 1) := by decide +kernel
theorem dX3_way_16 : decode cX3_way 16 = .ok (.invokevirtual 61, 3) := by decide +kernel
theorem dX3_way_19 : decode cX3_way 19 = .ok (.ifCond .ne 6, 3) := by decide +kernel
theorem dX3_way_22 : decode cX3_way 22 = .ok (.bipush (-2), 2) := by decide +kernel
theorem dX3_way_24 : decode cX3_way 24 = .ok (.ireturn, 1) := by decide +kernel
theorem dX3_way_25 : decode cX3_way 25 = .ok (.aload_n 0, 1) := by decide +kernel
theorem dX3_way_26 : decode cX3_way 26 = .ok (.getfield 48, 3) := by decide +kernel
theorem dX3_way_29 : decode cX3_way 29 = .ok (.iload_n 1, 1) := by decide +kernel
theorem dX3_way_30 : decode cX3_way 30 = .ok (.iload_n 2, 1) := by decide +kernel
theorem dX3_way_31 : decode cX3_way 31 = .ok (.invokevirtual 125, 3) := by decide +kernel
theorem dX3_way_34 : decode cX3_way 34 = .ok (.ireturn, 1) := by decide +kernel
theorem dX3_next_0 : decode cX3_next 0 = .ok (.aload_n 0, 1) := by decide +kernel
theorem dX3_next_1 : decode cX3_next 1 = .ok (.getfield 39, 3) := by decide +kernel
theorem dX3_next_4 : decode cX3_next 4 = .ok (.iload_n 1, 1) := by decide +kernel
theorem dX3_next_5 : decode cX3_next 5 = .ok (.invokevirtual 61, 3) := by decide +kernel
theorem dX3_next_8 : decode cX3_next 8 = .ok (.ifCond .eq 14, 3) := by decide +kernel
theorem dX3_next_11 : decode cX3_next 11 = .ok (.aload_n 0, 1) := by decide +kernel
theorem dX3_next_12 : decode cX3_next 12 = .ok (.getfield 39, 3) := by decide +kernel
theorem dX3_next_15 : decode cX3_next 15 = .ok (.iload_n 2, 1) := by decide +kernel
theorem dX3_next_16 : decode cX3_next 16 = .ok (.invokevirtual 61, 3) := by decide +kernel
theorem dX3_next_19 : decode cX3_next 19 = .ok (.ifCond .ne 6, 3) := by decide +kernel
theorem dX3_next_22 : decode cX3_next 22 = .ok (.bipush (-2), 2) := by decide +kernel
theorem dX3_next_24 : decode cX3_next 24 = .ok (.ireturn, 1) := by decide +kernel
theorem dX3_next_25 : decode cX3_next 25 = .ok (.aload_n 0, 1) := by decide +kernel
theorem dX3_next_26 : decode cX3_next 26 = .ok (.getfield 48, 3) := by decide +kernel
theorem dX3_next_29 : decode cX3_next 29 = .ok (.iload_n 1, 1) := by decide +kernel
theorem dX3_next_30 : decode cX3_next 30 = .ok (.iload_n 2, 1) := by decide +kernel
theorem dX3_next_31 : decode cX3_next 31 = .ok (.invokevirtual 125, 3) := by decide +kernel
theorem dX3_next_34 : decode cX3_next 34 = .ok (.istore_n 3, 1) := by decide +kernel
theorem dX3_next_35 : decode cX3_next 35 = .ok (.iload_n 3, 1) := by decide +kernel
theorem dX3_next_36 : decode cX3_next 36 = .ok (.iconst (-1), 1) := by decide +kernel
theorem dX3_next_37 : decode cX3_next 37 = .ok (.if_icmp .eq 7, 3) := by decide +kernel
theorem dX3_next_40 : decode cX3_next 40 = .ok (.iload_n 3, 1) := by decide +kernel
theorem dX3_next_41 : decode cX3_next 41 = .ok (.ifCond .ne 5, 3) := by decide +kernel
theorem dX3_next_44 : decode cX3_next 44 = .ok (.iconst (-1), 1) := by decide +kernel
theorem dX3_next_45 : decode cX3_next 45 = .ok (.ireturn, 1) := by decide +kernel
theorem dX3_next_46 : decode cX3_next 46 = .ok (.iconst 0, 1) := by decide +kernel
theorem dX3_next_47 : decode cX3_next 47 = .ok (.istore 4, 2) := by decide +kernel
theorem dX3_next_49 : decode cX3_next 49 = .ok (.iload 4, 2) := by decide +kernel
theorem dX3_next_51 : decode cX3_next 51 = .ok (.iconst 4, 1) := by decide +kernel
theorem dX3_next_52 : decode cX3_next 52 = .ok (.if_icmp .ge 63, 3) := by decide +kernel
theorem dX3_next_55 : decode cX3_next 55 = .ok (.aload_n 0, 1) := by decide +kernel
theorem dX3_next_56 : decode cX3_next 56 = .ok (.getfield 39, 3) := by decide +kernel
theorem dX3_next_59 : decode cX3_next 59 = .ok (.iload_n 1, 1) := by decide +kernel
theorem dX3_next_60 : decode cX3_next 60 = .ok (.iload 4, 2) := by decide +kernel
theorem dX3_next_62 : decode cX3_next 62 = .ok (.invokevirtual 128, 3) := by decide +kernel
theorem dX3_next_65 : decode cX3_next 65 = .ok (.istore 5, 2) := by decide +kernel
theorem dX3_next_67 : decode cX3_next 67 = .ok (.aload_n 0, 1) := by decide +kernel
theorem dX3_next_68 : decode cX3_next 68 = .ok (.getfield 48, 3) := by decide +kernel
theorem dX3_next_71 : decode cX3_next 71 = .ok (.iload 5, 2) := by decide +kernel
theorem dX3_next_73 : decode cX3_next 73 = .ok (.iload_n 2, 1) := by decide +kernel
theorem dX3_next_74 : decode cX3_next 74 = .ok (.invokevirtual 125, 3) := by decide +kernel
theorem dX3_next_77 : decode cX3_next 77 = .ok (.istore 6, 2) := by decide +kernel
theorem dX3_next_79 : decode cX3_next 79 = .ok (.iload 6, 2) := by decide +kernel
theorem dX3_next_81 : decode cX3_next 81 = .ok (.iconst (-1), 1) := by decide +kernel
theorem dX3_next_82 : decode cX3_next 82 = .ok (.if_icmp .eq 27, 3) := by decide +kernel
theorem dX3_next_85 : decode cX3_next 85 = .ok (.aload_n 0, 1) := by decide +kernel
theorem dX3_next_86 : decode cX3_next 86 = .ok (.getfield 39, 3) := by decide +kernel
theorem dX3_next_89 : decode cX3_next 89 = .ok (.iload_n 1, 1) := by decide +kernel
theorem dX3_next_90 : decode cX3_next 90 = .ok (.iload 4, 2) := by decide +kernel
theorem dX3_next_92 : decode cX3_next 92 = .ok (.aload_n 0, 1) := by decide +kernel
theorem dX3_next_93 : decode cX3_next 93 = .ok (.getfield 17, 3) := by decide +kernel
theorem dX3_next_96 : decode cX3_next 96 = .ok (.invokevirtual 131, 3) := by decide +kernel
theorem dX3_next_99 : decode cX3_next 99 = .ok (.iload 6, 2) := by decide +kernel
theorem dX3_next_101 : decode cX3_next 101 = .ok (.iadd, 1) := by decide +kernel
theorem dX3_next_102 : decode cX3_next 102 = .ok (.iload_n 3, 1) := by decide +kernel
theorem dX3_next_103 : decode cX3_next 103 = .ok (.if_icmp .ne 6, 3) := by decide +kernel
theorem dX3_next_106 : decode cX3_next 106 = .ok (.iload 5, 2) := by decide +kernel
theorem dX3_next_108 : decode cX3_next 108 = .ok (.ireturn, 1) := by decide +kernel
theorem dX3_next_109 : decode cX3_next 109 = .ok (.iinc 4 1, 3) := by decide +kernel
theorem dX3_next_112 : decode cX3_next 112 = .ok (.goto (-63), 3) := by decide +kernel
theorem dX3_next_115 : decode cX3_next 115 = .ok (.iconst (-1), 1) := by decide +kernel
theorem dX3_next_116 : decode cX3_next 116 = .ok (.ireturn, 1) := by decide +kernel
theorem dX3_race_0 : decode cX3_race 0 = .ok (.aload_n 0, 1) := by decide +kernel
theorem dX3_race_1 : decode cX3_race 1 = .ok (.getfield 39, 3) := by decide +kernel
theorem dX3_race_4 : decode cX3_race 4 = .ok (.iload_n 1, 1) := by decide +kernel
theorem dX3_race_5 : decode cX3_race 5 = .ok (.invokevirtual 61, 3) := by decide +kernel
theorem dX3_race_8 : decode cX3_race 8 = .ok (.ifCond .eq 25, 3) := by decide +kernel
theorem dX3_race_11 : decode cX3_race 11 = .ok (.aload_n 0, 1) := by decide +kernel
theorem dX3_race_12 : decode cX3_race 12 = .ok (.getfield 39, 3) := by decide +kernel
theorem dX3_race_15 : decode cX3_race 15 = .ok (.iload_n 2, 1) := by decide +kernel
theorem dX3_race_16 : decode cX3_race 16 = .ok (.invokevirtual 61, 3) := by decide +kernel
theorem dX3_race_19 : decode cX3_race 19 = .ok (.ifCond .eq 14, 3) := by decide +kernel
theorem dX3_race_22 : decode cX3_race 22 = .ok (.aload_n 0, 1) := by decide +kernel
theorem dX3_race_23 : decode cX3_race 23 = .ok (.getfield 39, 3) := by decide +kernel
theorem dX3_race_26 : decode cX3_race 26 = .ok (.iload_n 3, 1) := by decide +kernel
theorem dX3_race_27 : decode cX3_race 27 = .ok (.invokevirtual 61, 3) := by decide +kernel
theorem dX3_race_30 : decode cX3_race 30 = .ok (.ifCond .ne 6, 3) := by decide +kernel
theorem dX3_race_33 : decode cX3_race 33 = .ok (.bipush (-2), 2) := by decide +kernel
theorem dX3_race_35 : decode cX3_race 35 = .ok (.ireturn, 1) := by decide +kernel
theorem dX3_race_36 : decode cX3_race 36 = .ok (.aload_n 0, 1) := by decide +kernel
theorem dX3_race_37 : decode cX3_race 37 = .ok (.getfield 48, 3) := by decide +kernel
theorem dX3_race_40 : decode cX3_race 40 = .ok (.iload_n 1, 1) := by decide +kernel
theorem dX3_race_41 : decode cX3_race 41 = .ok (.iload_n 3, 1) := by decide +kernel
theorem dX3_race_42 : decode cX3_race 42 = .ok (.invokevirtual 125, 3) := by decide +kernel
theorem dX3_race_45 : decode cX3_race 45 = .ok (.istore 4, 2) := by decide +kernel
theorem dX3_race_47 : decode cX3_race 47 = .ok (.aload_n 0, 1) := by decide +kernel
theorem dX3_race_48 : decode cX3_race 48 = .ok (.getfield 48, 3) := by decide +kernel
theorem dX3_race_51 : decode cX3_race 51 = .ok (.iload_n 2, 1) := by decide +kernel
theorem dX3_race_52 : decode cX3_race 52 = .ok (.iload_n 3, 1) := by decide +kernel
theorem dX3_race_53 : decode cX3_race 53 = .ok (.invokevirtual 125, 3) := by decide +kernel
theorem dX3_race_56 : decode cX3_race 56 = .ok (.istore 5, 2) := by decide +kernel
theorem dX3_race_58 : decode cX3_race 58 = .ok (.iload 4, 2) := by decide +kernel
theorem dX3_race_60 : decode cX3_race 60 = .ok (.iload 5, 2) := by decide +kernel
theorem dX3_race_62 : decode cX3_race 62 = .ok (.if_icmp .ne 15, 3) := by decide +kernel
theorem dX3_race_65 : decode cX3_race 65 = .ok (.iload 4, 2) := by decide +kernel
theorem dX3_race_67 : decode cX3_race 67 = .ok (.iconst (-1), 1) := by decide +kernel
theorem dX3_race_68 : decode cX3_race 68 = .ok (.if_icmp .ne 7, 3) := by decide +kernel
theorem dX3_race_71 : decode cX3_race 71 = .ok (.iconst (-1), 1) := by decide +kernel
theorem dX3_race_72 : decode cX3_race 72 = .ok (.goto 4, 3) := by decide +kernel
theorem dX3_race_75 : decode cX3_race 75 = .ok (.iconst 2, 1) := by decide +kernel
theorem dX3_race_76 : decode cX3_race 76 = .ok (.ireturn, 1) := by decide +kernel
theorem dX3_race_77 : decode cX3_race 77 = .ok (.iload 4, 2) := by decide +kernel
theorem dX3_race_79 : decode cX3_race 79 = .ok (.iconst (-1), 1) := by decide +kernel
theorem dX3_race_80 : decode cX3_race 80 = .ok (.if_icmp .ne 5, 3) := by decide +kernel
theorem dX3_race_83 : decode cX3_race 83 = .ok (.iconst 1, 1) := by decide +kernel
theorem dX3_race_84 : decode cX3_race 84 = .ok (.ireturn, 1) := by decide +kernel
theorem dX3_race_85 : decode cX3_race 85 = .ok (.iload 5, 2) := by decide +kernel
theorem dX3_race_87 : decode cX3_race 87 = .ok (.iconst (-1), 1) := by decide +kernel
theorem dX3_race_88 : decode cX3_race 88 = .ok (.if_icmp .ne 5, 3) := by decide +kernel
theorem dX3_race_91 : decode cX3_race 91 = .ok (.iconst 0, 1) := by decide +kernel
theorem dX3_race_92 : decode cX3_race 92 = .ok (.ireturn, 1) := by decide +kernel
theorem dX3_race_93 : decode cX3_race 93 = .ok (.iload 4, 2) := by decide +kernel
theorem dX3_race_95 : decode cX3_race 95 = .ok (.iload 5, 2) := by decide +kernel
theorem dX3_race_97 : decode cX3_race 97 = .ok (.if_icmp .ge 7, 3) := by decide +kernel
theorem dX3_race_100 : decode cX3_race 100 = .ok (.iconst 0, 1) := by decide +kernel
theorem dX3_race_101 : decode cX3_race 101 = .ok (.goto 4, 3) := by decide +kernel
theorem dX3_race_104 : decode cX3_race 104 = .ok (.iconst 1, 1) := by decide +kernel
theorem dX3_race_105 : decode cX3_race 105 = .ok (.ireturn, 1) := by decide +kernel
theorem dX3_reach_0 : decode cX3_reach 0 = .ok (.aload_n 0, 1) := by decide +kernel
theorem dX3_reach_1 : decode cX3_reach 1 = .ok (.getfield 39, 3) := by decide +kernel
theorem dX3_reach_4 : decode cX3_reach 4 = .ok (.iload_n 1, 1) := by decide +kernel
theorem dX3_reach_5 : decode cX3_reach 5 = .ok (.invokevirtual 61, 3) := by decide +kernel
theorem dX3_reach_8 : decode cX3_reach 8 = .ok (.ifCond .ne 6, 3) := by decide +kernel
theorem dX3_reach_11 : decode cX3_reach 11 = .ok (.bipush (-2), 2) := by decide +kernel
theorem dX3_reach_13 : decode cX3_reach 13 = .ok (.ireturn, 1) := by decide +kernel
theorem dX3_reach_14 : decode cX3_reach 14 = .ok (.iconst 0, 1) := by decide +kernel
theorem dX3_reach_15 : decode cX3_reach 15 = .ok (.istore_n 2, 1) := by decide +kernel
theorem dX3_reach_16 : decode cX3_reach 16 = .ok (.iconst 0, 1) := by decide +kernel
theorem dX3_reach_17 : decode cX3_reach 17 = .ok (.istore_n 3, 1) := by decide +kernel
theorem dX3_reach_18 : decode cX3_reach 18 = .ok (.iload_n 3, 1) := by decide +kernel
theorem dX3_reach_19 : decode cX3_reach 19 = .ok (.aload_n 0, 1) := by decide +kernel
theorem dX3_reach_20 : decode cX3_reach 20 = .ok (.getfield 39, 3) := by decide +kernel
theorem dX3_reach_23 : decode cX3_reach 23 = .ok (.getfield 135, 3) := by decide +kernel
theorem dX3_reach_26 : decode cX3_reach 26 = .ok (.if_icmp .ge 25, 3) := by decide +kernel
theorem dX3_reach_29 : decode cX3_reach 29 = .ok (.aload_n 0, 1) := by decide +kernel
theorem dX3_reach_30 : decode cX3_reach 30 = .ok (.getfield 48, 3) := by decide +kernel
theorem dX3_reach_33 : decode cX3_reach 33 = .ok (.iload_n 1, 1) := by decide +kernel
theorem dX3_reach_34 : decode cX3_reach 34 = .ok (.iload_n 3, 1) := by decide +kernel
theorem dX3_reach_35 : decode cX3_reach 35 = .ok (.invokevirtual 125, 3) := by decide +kernel
theorem dX3_reach_38 : decode cX3_reach 38 = .ok (.iconst (-1), 1) := by decide +kernel
theorem dX3_reach_39 : decode cX3_reach 39 = .ok (.if_icmp .eq 6, 3) := by decide +kernel
theorem dX3_reach_42 : decode cX3_reach 42 = .ok (.iinc 2 1, 3) := by decide +kernel
theorem dX3_reach_45 : decode cX3_reach 45 = .ok (.iinc 3 1, 3) := by decide +kernel
theorem dX3_reach_48 : decode cX3_reach 48 = .ok (.goto (-30), 3) := by decide +kernel
theorem dX3_reach_51 : decode cX3_reach 51 = .ok (.iload_n 2, 1) := by decide +kernel
theorem dX3_reach_52 : decode cX3_reach 52 = .ok (.ireturn, 1) := by decide +kernel
theorem dX3_wet_0 : decode cX3_wet 0 = .ok (.aload_n 0, 1) := by decide +kernel
theorem dX3_wet_1 : decode cX3_wet 1 = .ok (.getfield 39, 3) := by decide +kernel
theorem dX3_wet_4 : decode cX3_wet 4 = .ok (.iload_n 1, 1) := by decide +kernel
theorem dX3_wet_5 : decode cX3_wet 5 = .ok (.invokevirtual 61, 3) := by decide +kernel
theorem dX3_wet_8 : decode cX3_wet 8 = .ok (.ifCond .ne 6, 3) := by decide +kernel
theorem dX3_wet_11 : decode cX3_wet 11 = .ok (.bipush (-2), 2) := by decide +kernel
theorem dX3_wet_13 : decode cX3_wet 13 = .ok (.ireturn, 1) := by decide +kernel
theorem dX3_wet_14 : decode cX3_wet 14 = .ok (.aload_n 0, 1) := by decide +kernel
theorem dX3_wet_15 : decode cX3_wet 15 = .ok (.getfield 39, 3) := by decide +kernel
theorem dX3_wet_18 : decode cX3_wet 18 = .ok (.getfield 138, 3) := by decide +kernel
theorem dX3_wet_21 : decode cX3_wet 21 = .ok (.iload_n 1, 1) := by decide +kernel
theorem dX3_wet_22 : decode cX3_wet 22 = .ok (.invokestatic 76, 3) := by decide +kernel
theorem dX3_wet_25 : decode cX3_wet 25 = .ok (.invokestatic 80, 3) := by decide +kernel
theorem dX3_wet_28 : decode cX3_wet 28 = .ok (.ireturn, 1) := by decide +kernel
theorem dX3_plug_0 : decode cX3_plug 0 = .ok (.aload_n 0, 1) := by decide +kernel
theorem dX3_plug_1 : decode cX3_plug 1 = .ok (.getfield 39, 3) := by decide +kernel
theorem dX3_plug_4 : decode cX3_plug 4 = .ok (.iload_n 1, 1) := by decide +kernel
theorem dX3_plug_5 : decode cX3_plug 5 = .ok (.invokevirtual 61, 3) := by decide +kernel
theorem dX3_plug_8 : decode cX3_plug 8 = .ok (.ifCond .eq 13, 3) := by decide +kernel
theorem dX3_plug_11 : decode cX3_plug 11 = .ok (.iload_n 2, 1) := by decide +kernel
theorem dX3_plug_12 : decode cX3_plug 12 = .ok (.iconst (-1), 1) := by decide +kernel
theorem dX3_plug_13 : decode cX3_plug 13 = .ok (.if_icmp .lt 8, 3) := by decide +kernel
theorem dX3_plug_16 : decode cX3_plug 16 = .ok (.iload_n 2, 1) := by decide +kernel
theorem dX3_plug_17 : decode cX3_plug 17 = .ok (.iconst 1, 1) := by decide +kernel
theorem dX3_plug_18 : decode cX3_plug 18 = .ok (.if_icmp .le 6, 3) := by decide +kernel
theorem dX3_plug_21 : decode cX3_plug 21 = .ok (.bipush (-2), 2) := by decide +kernel
theorem dX3_plug_23 : decode cX3_plug 23 = .ok (.ireturn, 1) := by decide +kernel
theorem dX3_plug_24 : decode cX3_plug 24 = .ok (.aload_n 0, 1) := by decide +kernel
theorem dX3_plug_25 : decode cX3_plug 25 = .ok (.getfield 39, 3) := by decide +kernel
