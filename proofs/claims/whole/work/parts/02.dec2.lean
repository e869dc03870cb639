theorem dX3_plug_28 : decode cX3_plug 28 = .ok (.iload_n 1, 1) := by decide +kernel
theorem dX3_plug_29 : decode cX3_plug 29 = .ok (.invokevirtual 141, 3) := by decide +kernel
theorem dX3_plug_32 : decode cX3_plug 32 = .ok (.lstore_n 3, 1) := by decide +kernel
theorem dX3_plug_33 : decode cX3_plug 33 = .ok (.lload_n 3, 1) := by decide +kernel
theorem dX3_plug_34 : decode cX3_plug 34 = .ok (.ldc2_w 145, 3) := by decide +kernel
theorem dX3_plug_37 : decode cX3_plug 37 = .ok (.lcmp, 1) := by decide +kernel
theorem dX3_plug_38 : decode cX3_plug 38 = .ok (.ifCond .ne 7, 3) := by decide +kernel
theorem dX3_plug_41 : decode cX3_plug 41 = .ok (.iconst (-1), 1) := by decide +kernel
theorem dX3_plug_42 : decode cX3_plug 42 = .ok (.goto 8, 3) := by decide +kernel
theorem dX3_plug_45 : decode cX3_plug 45 = .ok (.lload_n 3, 1) := by decide +kernel
theorem dX3_plug_46 : decode cX3_plug 46 = .ok (.iload_n 2, 1) := by decide +kernel
theorem dX3_plug_47 : decode cX3_plug 47 = .ok (.invokestatic 147, 3) := by decide +kernel
theorem dX3_plug_50 : decode cX3_plug 50 = .ok (.ireturn, 1) := by decide +kernel
theorem dX3_plumb_0 : decode cX3_plumb 0 = .ok (.iload_n 1, 1) := by decide +kernel
theorem dX3_plumb_1 : decode cX3_plumb 1 = .ok (.ifCond .lt 17, 3) := by decide +kernel
theorem dX3_plumb_4 : decode cX3_plumb 4 = .ok (.iload_n 1, 1) := by decide +kernel
theorem dX3_plumb_5 : decode cX3_plumb 5 = .ok (.iconst 5, 1) := by decide +kernel
theorem dX3_plumb_6 : decode cX3_plumb 6 = .ok (.if_icmp .ge 12, 3) := by decide +kernel
theorem dX3_plumb_9 : decode cX3_plumb 9 = .ok (.iload_n 2, 1) := by decide +kernel
theorem dX3_plumb_10 : decode cX3_plumb 10 = .ok (.ifCond .lt 8, 3) := by decide +kernel
theorem dX3_plumb_13 : decode cX3_plumb 13 = .ok (.iload_n 2, 1) := by decide +kernel
theorem dX3_plumb_14 : decode cX3_plumb 14 = .ok (.iconst 1, 1) := by decide +kernel
theorem dX3_plumb_15 : decode cX3_plumb 15 = .ok (.if_icmp .le 6, 3) := by decide +kernel
theorem dX3_plumb_18 : decode cX3_plumb 18 = .ok (.bipush (-2), 2) := by decide +kernel
theorem dX3_plumb_20 : decode cX3_plumb 20 = .ok (.ireturn, 1) := by decide +kernel
theorem dX3_plumb_21 : decode cX3_plumb 21 = .ok (.aload_n 0, 1) := by decide +kernel
theorem dX3_plumb_22 : decode cX3_plumb 22 = .ok (.getfield 151, 3) := by decide +kernel
theorem dX3_plumb_25 : decode cX3_plumb 25 = .ok (.bipush 8, 2) := by decide +kernel
theorem dX3_plumb_27 : decode cX3_plumb 27 = .ok (.if_icmp .lt 6, 3) := by decide +kernel
theorem dX3_plumb_30 : decode cX3_plumb 30 = .ok (.bipush (-4), 2) := by decide +kernel
theorem dX3_plumb_32 : decode cX3_plumb 32 = .ok (.ireturn, 1) := by decide +kernel
theorem dX3_plumb_33 : decode cX3_plumb 33 = .ok (.iload_n 1, 1) := by decide +kernel
theorem dX3_plumb_34 : decode cX3_plumb 34 = .ok (.invokestatic 154, 3) := by decide +kernel
theorem dX3_plumb_37 : decode cX3_plumb 37 = .ok (.istore_n 3, 1) := by decide +kernel
theorem dX3_plumb_38 : decode cX3_plumb 38 = .ok (.aload_n 0, 1) := by decide +kernel
theorem dX3_plumb_39 : decode cX3_plumb 39 = .ok (.dup, 1) := by decide +kernel
theorem dX3_plumb_40 : decode cX3_plumb 40 = .ok (.getfield 26, 3) := by decide +kernel
theorem dX3_plumb_43 : decode cX3_plumb 43 = .ok (.iload_n 2, 1) := by decide +kernel
theorem dX3_plumb_44 : decode cX3_plumb 44 = .ok (.iconst 1, 1) := by decide +kernel
theorem dX3_plumb_45 : decode cX3_plumb 45 = .ok (.if_icmp .ne 7, 3) := by decide +kernel
theorem dX3_plumb_48 : decode cX3_plumb 48 = .ok (.iload_n 3, 1) := by decide +kernel
theorem dX3_plumb_49 : decode cX3_plumb 49 = .ok (.goto 6, 3) := by decide +kernel
theorem dX3_plumb_52 : decode cX3_plumb 52 = .ok (.iload_n 3, 1) := by decide +kernel
theorem dX3_plumb_53 : decode cX3_plumb 53 = .ok (.iconst (-1), 1) := by decide +kernel
theorem dX3_plumb_54 : decode cX3_plumb 54 = .ok (.ixor, 1) := by decide +kernel
theorem dX3_plumb_55 : decode cX3_plumb 55 = .ok (.iand, 1) := by decide +kernel
theorem dX3_plumb_56 : decode cX3_plumb 56 = .ok (.putfield 26, 3) := by decide +kernel
theorem dX3_plumb_59 : decode cX3_plumb 59 = .ok (.aload_n 0, 1) := by decide +kernel
theorem dX3_plumb_60 : decode cX3_plumb 60 = .ok (.dup, 1) := by decide +kernel
theorem dX3_plumb_61 : decode cX3_plumb 61 = .ok (.getfield 151, 3) := by decide +kernel
theorem dX3_plumb_64 : decode cX3_plumb 64 = .ok (.iconst 1, 1) := by decide +kernel
theorem dX3_plumb_65 : decode cX3_plumb 65 = .ok (.iadd, 1) := by decide +kernel
theorem dX3_plumb_66 : decode cX3_plumb 66 = .ok (.putfield 151, 3) := by decide +kernel
theorem dX3_plumb_69 : decode cX3_plumb 69 = .ok (.aload_n 0, 1) := by decide +kernel
theorem dX3_plumb_70 : decode cX3_plumb 70 = .ok (.getfield 151, 3) := by decide +kernel
theorem dX3_plumb_73 : decode cX3_plumb 73 = .ok (.ireturn, 1) := by decide +kernel
theorem dX3_forget_0 : decode cX3_forget 0 = .ok (.aload_n 0, 1) := by decide +kernel
theorem dX3_forget_1 : decode cX3_forget 1 = .ok (.getfield 151, 3) := by decide +kernel
theorem dX3_forget_4 : decode cX3_forget 4 = .ok (.istore_n 1, 1) := by decide +kernel
theorem dX3_forget_5 : decode cX3_forget 5 = .ok (.aload_n 0, 1) := by decide +kernel
theorem dX3_forget_6 : decode cX3_forget 6 = .ok (.iconst 0, 1) := by decide +kernel
theorem dX3_forget_7 : decode cX3_forget 7 = .ok (.putfield 151, 3) := by decide +kernel
theorem dX3_forget_10 : decode cX3_forget 10 = .ok (.aload_n 0, 1) := by decide +kernel
theorem dX3_forget_11 : decode cX3_forget 11 = .ok (.bipush 63, 2) := by decide +kernel
theorem dX3_forget_13 : decode cX3_forget 13 = .ok (.putfield 26, 3) := by decide +kernel
theorem dX3_forget_16 : decode cX3_forget 16 = .ok (.iload_n 1, 1) := by decide +kernel
theorem dX3_forget_17 : decode cX3_forget 17 = .ok (.ireturn, 1) := by decide +kernel
theorem dX3_where_0 : decode cX3_where 0 = .ok (.aload_n 0, 1) := by decide +kernel
theorem dX3_where_1 : decode cX3_where 1 = .ok (.getfield 26, 3) := by decide +kernel
theorem dX3_where_4 : decode cX3_where 4 = .ok (.ireturn, 1) := by decide +kernel
theorem dX3_hang_0 : decode cX3_hang 0 = .ok (.iconst (-1), 1) := by decide +kernel
theorem dX3_hang_1 : decode cX3_hang 1 = .ok (.istore_n 1, 1) := by decide +kernel
theorem dX3_hang_2 : decode cX3_hang 2 = .ok (.bipush 63, 2) := by decide +kernel
theorem dX3_hang_4 : decode cX3_hang 4 = .ok (.istore_n 2, 1) := by decide +kernel
theorem dX3_hang_5 : decode cX3_hang 5 = .ok (.iconst 0, 1) := by decide +kernel
theorem dX3_hang_6 : decode cX3_hang 6 = .ok (.istore_n 3, 1) := by decide +kernel
theorem dX3_hang_7 : decode cX3_hang 7 = .ok (.iload_n 3, 1) := by decide +kernel
theorem dX3_hang_8 : decode cX3_hang 8 = .ok (.aload_n 0, 1) := by decide +kernel
theorem dX3_hang_9 : decode cX3_hang 9 = .ok (.getfield 39, 3) := by decide +kernel
theorem dX3_hang_12 : decode cX3_hang 12 = .ok (.getfield 157, 3) := by decide +kernel
theorem dX3_hang_15 : decode cX3_hang 15 = .ok (.if_icmp .ge 51, 3) := by decide +kernel
theorem dX3_hang_18 : decode cX3_hang 18 = .ok (.aload_n 0, 1) := by decide +kernel
theorem dX3_hang_19 : decode cX3_hang 19 = .ok (.getfield 26, 3) := by decide +kernel
theorem dX3_hang_22 : decode cX3_hang 22 = .ok (.iload_n 3, 1) := by decide +kernel
theorem dX3_hang_23 : decode cX3_hang 23 = .ok (.invokestatic 154, 3) := by decide +kernel
theorem dX3_hang_26 : decode cX3_hang 26 = .ok (.iand, 1) := by decide +kernel
theorem dX3_hang_27 : decode cX3_hang 27 = .ok (.invokestatic 160, 3) := by decide +kernel
theorem dX3_hang_30 : decode cX3_hang 30 = .ok (.istore 4, 2) := by decide +kernel
theorem dX3_hang_32 : decode cX3_hang 32 = .ok (.iload 4, 2) := by decide +kernel
theorem dX3_hang_34 : decode cX3_hang 34 = .ok (.aload_n 0, 1) := by decide +kernel
theorem dX3_hang_35 : decode cX3_hang 35 = .ok (.getfield 26, 3) := by decide +kernel
theorem dX3_hang_38 : decode cX3_hang 38 = .ok (.invokestatic 160, 3) := by decide +kernel
theorem dX3_hang_41 : decode cX3_hang 41 = .ok (.iload 4, 2) := by decide +kernel
theorem dX3_hang_43 : decode cX3_hang 43 = .ok (.isub, 1) := by decide +kernel
theorem dX3_hang_44 : decode cX3_hang 44 = .ok (.invokestatic 165, 3) := by decide +kernel
theorem dX3_hang_47 : decode cX3_hang 47 = .ok (.istore 5, 2) := by decide +kernel
theorem dX3_hang_49 : decode cX3_hang 49 = .ok (.iload 5, 2) := by decide +kernel
theorem dX3_hang_51 : decode cX3_hang 51 = .ok (.iload_n 2, 1) := by decide +kernel
theorem dX3_hang_52 : decode cX3_hang 52 = .ok (.if_icmp .ge 8, 3) := by decide +kernel
theorem dX3_hang_55 : decode cX3_hang 55 = .ok (.iload_n 3, 1) := by decide +kernel
theorem dX3_hang_56 : decode cX3_hang 56 = .ok (.istore_n 1, 1) := by decide +kernel
theorem dX3_hang_57 : decode cX3_hang 57 = .ok (.iload 5, 2) := by decide +kernel
theorem dX3_hang_59 : decode cX3_hang 59 = .ok (.istore_n 2, 1) := by decide +kernel
theorem dX3_hang_60 : decode cX3_hang 60 = .ok (.iinc 3 1, 3) := by decide +kernel
theorem dX3_hang_63 : decode cX3_hang 63 = .ok (.goto (-56), 3) := by decide +kernel
theorem dX3_hang_66 : decode cX3_hang 66 = .ok (.iload_n 1, 1) := by decide +kernel
theorem dX3_hang_67 : decode cX3_hang 67 = .ok (.ireturn, 1) := by decide +kernel
theorem dX3_from_0 : decode cX3_from 0 = .ok (.aload_n 0, 1) := by decide +kernel
theorem dX3_from_1 : decode cX3_from 1 = .ok (.getfield 39, 3) := by decide +kernel
theorem dX3_from_4 : decode cX3_from 4 = .ok (.iload_n 1, 1) := by decide +kernel
theorem dX3_from_5 : decode cX3_from 5 = .ok (.invokevirtual 61, 3) := by decide +kernel
theorem dX3_from_8 : decode cX3_from 8 = .ok (.ifCond .eq 24, 3) := by decide +kernel
theorem dX3_from_11 : decode cX3_from 11 = .ok (.iload_n 2, 1) := by decide +kernel
theorem dX3_from_12 : decode cX3_from 12 = .ok (.ifCond .lt 20, 3) := by decide +kernel
theorem dX3_from_15 : decode cX3_from 15 = .ok (.iload_n 2, 1) := by decide +kernel
theorem dX3_from_16 : decode cX3_from 16 = .ok (.bipush 9, 2) := by decide +kernel
theorem dX3_from_18 : decode cX3_from 18 = .ok (.if_icmp .gt 14, 3) := by decide +kernel
theorem dX3_from_21 : decode cX3_from 21 = .ok (.iload_n 3, 1) := by decide +kernel
theorem dX3_from_22 : decode cX3_from 22 = .ok (.iconst (-1), 1) := by decide +kernel
theorem dX3_from_23 : decode cX3_from 23 = .ok (.if_icmp .lt 9, 3) := by decide +kernel
theorem dX3_from_26 : decode cX3_from 26 = .ok (.iload_n 3, 1) := by decide +kernel
theorem dX3_from_27 : decode cX3_from 27 = .ok (.bipush 35, 2) := by decide +kernel
theorem dX3_from_29 : decode cX3_from 29 = .ok (.if_icmp .lt 6, 3) := by decide +kernel
theorem dX3_from_32 : decode cX3_from 32 = .ok (.bipush (-2), 2) := by decide +kernel
theorem dX3_from_34 : decode cX3_from 34 = .ok (.ireturn, 1) := by decide +kernel
theorem dX3_from_35 : decode cX3_from 35 = .ok (.lconst 0, 1) := by decide +kernel
theorem dX3_from_36 : decode cX3_from 36 = .ok (.lstore 4, 2) := by decide +kernel
theorem dX3_from_38 : decode cX3_from 38 = .ok (.iconst 0, 1) := by decide +kernel
theorem dX3_from_39 : decode cX3_from 39 = .ok (.istore 6, 2) := by decide +kernel
theorem dX3_from_41 : decode cX3_from 41 = .ok (.iload 6, 2) := by decide +kernel
theorem dX3_from_43 : decode cX3_from 43 = .ok (.aload_n 0, 1) := by decide +kernel
theorem dX3_from_44 : decode cX3_from 44 = .ok (.getfield 39, 3) := by decide +kernel
theorem dX3_from_47 : decode cX3_from 47 = .ok (.getfield 135, 3) := by decide +kernel
theorem dX3_from_50 : decode cX3_from 50 = .ok (.if_icmp .ge 33, 3) := by decide +kernel
theorem dX3_from_53 : decode cX3_from 53 = .ok (.aload_n 0, 1) := by decide +kernel
theorem dX3_from_54 : decode cX3_from 54 = .ok (.getfield 39, 3) := by decide +kernel
theorem dX3_from_57 : decode cX3_from 57 = .ok (.iload 6, 2) := by decide +kernel
theorem dX3_from_59 : decode cX3_from 59 = .ok (.iload_n 2, 1) := by decide +kernel
theorem dX3_from_60 : decode cX3_from 60 = .ok (.invokevirtual 113, 3) := by decide +kernel
theorem dX3_from_63 : decode cX3_from 63 = .ok (.iload_n 1, 1) := by decide +kernel
theorem dX3_from_64 : decode cX3_from 64 = .ok (.if_icmp .ne 13, 3) := by decide +kernel
theorem dX3_from_67 : decode cX3_from 67 = .ok (.lload 4, 2) := by decide +kernel
theorem dX3_from_69 : decode cX3_from 69 = .ok (.iload 6, 2) := by decide +kernel
theorem dX3_from_71 : decode cX3_from 71 = .ok (.invokestatic 170, 3) := by decide +kernel
theorem dX3_from_74 : decode cX3_from 74 = .ok (.lor, 1) := by decide +kernel
theorem dX3_from_75 : decode cX3_from 75 = .ok (.lstore 4, 2) := by decide +kernel
theorem dX3_from_77 : decode cX3_from 77 = .ok (.iinc 6 1, 3) := by decide +kernel
theorem dX3_from_80 : decode cX3_from 80 = .ok (.goto (-39), 3) := by decide +kernel
theorem dX3_from_83 : decode cX3_from 83 = .ok (.lload 4, 2) := by decide +kernel
theorem dX3_from_85 : decode cX3_from 85 = .ok (.iload_n 3, 1) := by decide +kernel
theorem dX3_from_86 : decode cX3_from 86 = .ok (.invokestatic 147, 3) := by decide +kernel
theorem dX3_from_89 : decode cX3_from 89 = .ok (.ireturn, 1) := by decide +kernel
theorem dX3_joined_0 : decode cX3_joined 0 = .ok (.iconst 0, 1) := by decide +kernel
theorem dX3_joined_1 : decode cX3_joined 1 = .ok (.istore_n 1, 1) := by decide +kernel
theorem dX3_joined_2 : decode cX3_joined 2 = .ok (.iconst 0, 1) := by decide +kernel
theorem dX3_joined_3 : decode cX3_joined 3 = .ok (.istore_n 2, 1) := by decide +kernel
theorem dX3_joined_4 : decode cX3_joined 4 = .ok (.iload_n 2, 1) := by decide +kernel
theorem dX3_joined_5 : decode cX3_joined 5 = .ok (.aload_n 0, 1) := by decide +kernel
theorem dX3_joined_6 : decode cX3_joined 6 = .ok (.getfield 39, 3) := by decide +kernel
theorem dX3_joined_9 : decode cX3_joined 9 = .ok (.getfield 135, 3) := by decide +kernel
theorem dX3_joined_12 : decode cX3_joined 12 = .ok (.if_icmp .ge 41, 3) := by decide +kernel
theorem dX3_joined_15 : decode cX3_joined 15 = .ok (.aload_n 0, 1) := by decide +kernel
theorem dX3_joined_16 : decode cX3_joined 16 = .ok (.getfield 39, 3) := by decide +kernel
theorem dX3_joined_19 : decode cX3_joined 19 = .ok (.iload_n 2, 1) := by decide +kernel
theorem dX3_joined_20 : decode cX3_joined 20 = .ok (.invokevirtual 65, 3) := by decide +kernel
theorem dX3_joined_23 : decode cX3_joined 23 = .ok (.aload_n 0, 1) := by decide +kernel
theorem dX3_joined_24 : decode cX3_joined 24 = .ok (.getfield 39, 3) := by decide +kernel
theorem dX3_joined_27 : decode cX3_joined 27 = .ok (.aload_n 0, 1) := by decide +kernel
theorem dX3_joined_28 : decode cX3_joined 28 = .ok (.getfield 39, 3) := by decide +kernel
theorem dX3_joined_31 : decode cX3_joined 31 = .ok (.getfield 135, 3) := by decide +kernel
theorem dX3_joined_34 : decode cX3_joined 34 = .ok (.iconst 1, 1) := by decide +kernel
theorem dX3_joined_35 : decode cX3_joined 35 = .ok (.isub, 1) := by decide +kernel
theorem dX3_joined_36 : decode cX3_joined 36 = .ok (.iload_n 2, 1) := by decide +kernel
theorem dX3_joined_37 : decode cX3_joined 37 = .ok (.isub, 1) := by decide +kernel
theorem dX3_joined_38 : decode cX3_joined 38 = .ok (.invokevirtual 65, 3) := by decide +kernel
theorem dX3_joined_41 : decode cX3_joined 41 = .ok (.if_icmp .eq 6, 3) := by decide +kernel
theorem dX3_joined_44 : decode cX3_joined 44 = .ok (.iinc 1 1, 3) := by decide +kernel
theorem dX3_joined_47 : decode cX3_joined 47 = .ok (.iinc 2 1, 3) := by decide +kernel
theorem dX3_joined_50 : decode cX3_joined 50 = .ok (.goto (-46), 3) := by decide +kernel
theorem dX3_joined_53 : decode cX3_joined 53 = .ok (.iload_n 1, 1) := by decide +kernel
theorem dX3_joined_54 : decode cX3_joined 54 = .ok (.ireturn, 1) := by decide +kernel
theorem dX3_like_0 : decode cX3_like 0 = .ok (.iload_n 1, 1) := by decide +kernel
theorem dX3_like_1 : decode cX3_like 1 = .ok (.iconst 1, 1) := by decide +kernel
theorem dX3_like_2 : decode cX3_like 2 = .ok (.if_icmp .lt 9, 3) := by decide +kernel
theorem dX3_like_5 : decode cX3_like 5 = .ok (.iload_n 1, 1) := by decide +kernel
theorem dX3_like_6 : decode cX3_like 6 = .ok (.bipush 7, 2) := by decide +kernel
theorem dX3_like_8 : decode cX3_like 8 = .ok (.if_icmp .lt 6, 3) := by decide +kernel
theorem dX3_like_11 : decode cX3_like 11 = .ok (.bipush (-2), 2) := by decide +kernel
theorem dX3_like_13 : decode cX3_like 13 = .ok (.ireturn, 1) := by decide +kernel
theorem dX3_like_14 : decode cX3_like 14 = .ok (.iconst 0, 1) := by decide +kernel
theorem dX3_like_15 : decode cX3_like 15 = .ok (.istore_n 2, 1) := by decide +kernel
theorem dX3_like_16 : decode cX3_like 16 = .ok (.iconst 0, 1) := by decide +kernel
theorem dX3_like_17 : decode cX3_like 17 = .ok (.istore_n 3, 1) := by decide +kernel
theorem dX3_like_18 : decode cX3_like 18 = .ok (.iload_n 3, 1) := by decide +kernel
theorem dX3_like_19 : decode cX3_like 19 = .ok (.aload_n 0, 1) := by decide +kernel
theorem dX3_like_20 : decode cX3_like 20 = .ok (.getfield 39, 3) := by decide +kernel
theorem dX3_like_23 : decode cX3_like 23 = .ok (.getfield 157, 3) := by decide +kernel
theorem dX3_like_26 : decode cX3_like 26 = .ok (.if_icmp .ge 74, 3) := by decide +kernel
theorem dX3_like_29 : decode cX3_like 29 = .ok (.iload_n 3, 1) := by decide +kernel
theorem dX3_like_30 : decode cX3_like 30 = .ok (.iconst 1, 1) := by decide +kernel
theorem dX3_like_31 : decode cX3_like 31 = .ok (.iadd, 1) := by decide +kernel
theorem dX3_like_32 : decode cX3_like 32 = .ok (.aload_n 0, 1) := by decide +kernel
theorem dX3_like_33 : decode cX3_like 33 = .ok (.getfield 39, 3) := by decide +kernel
theorem dX3_like_36 : decode cX3_like 36 = .ok (.getfield 173, 3) := by decide +kernel
theorem dX3_like_39 : decode cX3_like 39 = .ok (.imul, 1) := by decide +kernel
theorem dX3_like_40 : decode cX3_like 40 = .ok (.istore 4, 2) := by decide +kernel
theorem dX3_like_42 : decode cX3_like 42 = .ok (.iload_n 3, 1) := by decide +kernel
theorem dX3_like_43 : decode cX3_like 43 = .ok (.aload_n 0, 1) := by decide +kernel
theorem dX3_like_44 : decode cX3_like 44 = .ok (.getfield 39, 3) := by decide +kernel
theorem dX3_like_47 : decode cX3_like 47 = .ok (.getfield 173, 3) := by decide +kernel
theorem dX3_like_50 : decode cX3_like 50 = .ok (.imul, 1) := by decide +kernel
theorem dX3_like_51 : decode cX3_like 51 = .ok (.istore 5, 2) := by decide +kernel
theorem dX3_like_53 : decode cX3_like 53 = .ok (.iload 5, 2) := by decide +kernel
theorem dX3_like_55 : decode cX3_like 55 = .ok (.iload_n 1, 1) := by decide +kernel
theorem dX3_like_56 : decode cX3_like 56 = .ok (.iadd, 1) := by decide +kernel
theorem dX3_like_57 : decode cX3_like 57 = .ok (.iload 4, 2) := by decide +kernel
theorem dX3_like_59 : decode cX3_like 59 = .ok (.if_icmp .ge 35, 3) := by decide +kernel
theorem dX3_like_62 : decode cX3_like 62 = .ok (.aload_n 0, 1) := by decide +kernel
theorem dX3_like_63 : decode cX3_like 63 = .ok (.getfield 39, 3) := by decide +kernel
theorem dX3_like_66 : decode cX3_like 66 = .ok (.iload 5, 2) := by decide +kernel
theorem dX3_like_68 : decode cX3_like 68 = .ok (.invokevirtual 65, 3) := by decide +kernel
theorem dX3_like_71 : decode cX3_like 71 = .ok (.aload_n 0, 1) := by decide +kernel
theorem dX3_like_72 : decode cX3_like 72 = .ok (.getfield 39, 3) := by decide +kernel
theorem dX3_like_75 : decode cX3_like 75 = .ok (.iload 5, 2) := by decide +kernel
theorem dX3_like_77 : decode cX3_like 77 = .ok (.iload_n 1, 1) := by decide +kernel
theorem dX3_like_78 : decode cX3_like 78 = .ok (.iadd, 1) := by decide +kernel
theorem dX3_like_79 : decode cX3_like 79 = .ok (.invokevirtual 65, 3) := by decide +kernel
theorem dX3_like_82 : decode cX3_like 82 = .ok (.if_icmp .eq 6, 3) := by decide +kernel
theorem dX3_like_85 : decode cX3_like 85 = .ok (.iinc 2 1, 3) := by decide +kernel
theorem dX3_like_88 : decode cX3_like 88 = .ok (.iinc 5 1, 3) := by decide +kernel
theorem dX3_like_91 : decode cX3_like 91 = .ok (.goto (-38), 3) := by decide +kernel
theorem dX3_like_94 : decode cX3_like 94 = .ok (.iinc 3 1, 3) := by decide +kernel
theorem dX3_like_97 : decode cX3_like 97 = .ok (.goto (-79), 3) := by decide +kernel
theorem dX3_like_100 : decode cX3_like 100 = .ok (.iload_n 2, 1) := by decide +kernel
theorem dX3_like_101 : decode cX3_like 101 = .ok (.ireturn, 1) := by decide +kernel
theorem dX3_flood_0 : decode cX3_flood 0 = .ok (.iload_n 1, 1) := by decide +kernel
theorem dX3_flood_1 : decode cX3_flood 1 = .ok (.ifCond .lt 44, 3) := by decide +kernel
theorem dX3_flood_4 : decode cX3_flood 4 = .ok (.iload_n 1, 1) := by decide +kernel
theorem dX3_flood_5 : decode cX3_flood 5 = .ok (.bipush 16, 2) := by decide +kernel
theorem dX3_flood_7 : decode cX3_flood 7 = .ok (.if_icmp .gt 38, 3) := by decide +kernel
theorem dX3_flood_10 : decode cX3_flood 10 = .ok (.aload_n 0, 1) := by decide +kernel
theorem dX3_flood_11 : decode cX3_flood 11 = .ok (.getfield 39, 3) := by decide +kernel
theorem dX3_flood_14 : decode cX3_flood 14 = .ok (.iload_n 2, 1) := by decide +kernel
theorem dX3_flood_15 : decode cX3_flood 15 = .ok (.invokevirtual 61, 3) := by decide +kernel
theorem dX3_flood_18 : decode cX3_flood 18 = .ok (.ifCond .eq 27, 3) := by decide +kernel
theorem dX3_flood_21 : decode cX3_flood 21 = .ok (.iload_n 3, 1) := by decide +kernel
theorem dX3_flood_22 : decode cX3_flood 22 = .ok (.ifCond .lt 23, 3) := by decide +kernel
theorem dX3_flood_25 : decode cX3_flood 25 = .ok (.iload_n 3, 1) := by decide +kernel
theorem dX3_flood_26 : decode cX3_flood 26 = .ok (.iconst 1, 1) := by decide +kernel
theorem dX3_flood_27 : decode cX3_flood 27 = .ok (.if_icmp .gt 18, 3) := by decide +kernel
theorem dX3_flood_30 : decode cX3_flood 30 = .ok (.aload_n 0, 1) := by decide +kernel
theorem dX3_flood_31 : decode cX3_flood 31 = .ok (.getfield 39, 3) := by decide +kernel
theorem dX3_flood_34 : decode cX3_flood 34 = .ok (.getfield 176, 3) := by decide +kernel
theorem dX3_flood_37 : decode cX3_flood 37 = .ok (.invokestatic 179, 3) := by decide +kernel
theorem dX3_flood_40 : decode cX3_flood 40 = .ok (.bipush 9, 2) := by decide +kernel
theorem dX3_flood_42 : decode cX3_flood 42 = .ok (.if_icmp .le 7, 3) := by decide +kernel
theorem dX3_flood_45 : decode cX3_flood 45 = .ok (.ldc2_w 184, 3) := by decide +kernel
theorem dX3_flood_48 : decode cX3_flood 48 = .ok (.lreturn, 1) := by decide +kernel
theorem dX3_flood_49 : decode cX3_flood 49 = .ok (.aload_n 0, 1) := by decide +kernel
theorem dX3_flood_50 : decode cX3_flood 50 = .ok (.getfield 39, 3) := by decide +kernel
theorem dX3_flood_53 : decode cX3_flood 53 = .ok (.iload_n 2, 1) := by decide +kernel
theorem dX3_flood_54 : decode cX3_flood 54 = .ok (.invokevirtual 186, 3) := by decide +kernel
theorem dX3_flood_57 : decode cX3_flood 57 = .ok (.istore 4, 2) := by decide +kernel
theorem dX3_flood_59 : decode cX3_flood 59 = .ok (.lconst 1, 1) := by decide +kernel
theorem dX3_flood_60 : decode cX3_flood 60 = .ok (.lstore 5, 2) := by decide +kernel
theorem dX3_flood_62 : decode cX3_flood 62 = .ok (.lconst 1, 1) := by decide +kernel
theorem dX3_flood_63 : decode cX3_flood 63 = .ok (.lstore 7, 2) := by decide +kernel
theorem dX3_flood_65 : decode cX3_flood 65 = .ok (.iconst 0, 1) := by decide +kernel
theorem dX3_flood_66 : decode cX3_flood 66 = .ok (.istore 9, 2) := by decide +kernel
theorem dX3_flood_68 : decode cX3_flood 68 = .ok (.iload 9, 2) := by decide +kernel
theorem dX3_flood_70 : decode cX3_flood 70 = .ok (.iload 4, 2) := by decide +kernel
theorem dX3_flood_72 : decode cX3_flood 72 = .ok (.if_icmp .ge 34, 3) := by decide +kernel
theorem dX3_flood_75 : decode cX3_flood 75 = .ok (.iload 9, 2) := by decide +kernel
theorem dX3_flood_77 : decode cX3_flood 77 = .ok (.bipush 9, 2) := by decide +kernel
theorem dX3_flood_79 : decode cX3_flood 79 = .ok (.if_icmp .ge 27, 3) := by decide +kernel
theorem dX3_flood_82 : decode cX3_flood 82 = .ok (.lload 5, 2) := by decide +kernel
theorem dX3_flood_84 : decode cX3_flood 84 = .ok (.ldc2_w 189, 3) := by decide +kernel
theorem dX3_flood_87 : decode cX3_flood 87 = .ok (.lmul, 1) := by decide +kernel
theorem dX3_flood_88 : decode cX3_flood 88 = .ok (.lstore 5, 2) := by decide +kernel
theorem dX3_flood_90 : decode cX3_flood 90 = .ok (.lload 7, 2) := by decide +kernel
theorem dX3_flood_92 : decode cX3_flood 92 = .ok (.bipush 16, 2) := by decide +kernel
theorem dX3_flood_94 : decode cX3_flood 94 = .ok (.iload_n 1, 1) := by decide +kernel
theorem dX3_flood_95 : decode cX3_flood 95 = .ok (.isub, 1) := by decide +kernel
theorem dX3_flood_96 : decode cX3_flood 96 = .ok (.i2l, 1) := by decide +kernel
theorem dX3_flood_97 : decode cX3_flood 97 = .ok (.lmul, 1) := by decide +kernel
theorem dX3_flood_98 : decode cX3_flood 98 = .ok (.lstore 7, 2) := by decide +kernel
theorem dX3_flood_100 : decode cX3_flood 100 = .ok (.iinc 9 1, 3) := by decide +kernel
theorem dX3_flood_103 : decode cX3_flood 103 = .ok (.goto (-35), 3) := by decide +kernel
theorem dX3_flood_106 : decode cX3_flood 106 = .ok (.lload 5, 2) := by decide +kernel
theorem dX3_flood_108 : decode cX3_flood 108 = .ok (.lload 7, 2) := by decide +kernel
theorem dX3_flood_110 : decode cX3_flood 110 = .ok (.lsub, 1) := by decide +kernel
theorem dX3_flood_111 : decode cX3_flood 111 = .ok (.lstore 9, 2) := by decide +kernel
theorem dX3_flood_113 : decode cX3_flood 113 = .ok (.iconst 0, 1) := by decide +kernel
theorem dX3_flood_114 : decode cX3_flood 114 = .ok (.istore 11, 2) := by decide +kernel
theorem dX3_flood_116 : decode cX3_flood 116 = .ok (.iload 11, 2) := by decide +kernel
theorem dX3_flood_118 : decode cX3_flood 118 = .ok (.bipush 36, 2) := by decide +kernel
theorem dX3_flood_120 : decode cX3_flood 120 = .ok (.if_icmp .ge 33, 3) := by decide +kernel
theorem dX3_flood_123 : decode cX3_flood 123 = .ok (.lload 9, 2) := by decide +kernel
theorem dX3_flood_125 : decode cX3_flood 125 = .ok (.lload 5, 2) := by decide +kernel
theorem dX3_flood_127 : decode cX3_flood 127 = .ok (.lor, 1) := by decide +kernel
theorem dX3_flood_128 : decode cX3_flood 128 = .ok (.lconst 1, 1) := by decide +kernel
theorem dX3_flood_129 : decode cX3_flood 129 = .ok (.land, 1) := by decide +kernel
theorem dX3_flood_130 : decode cX3_flood 130 = .ok (.lconst 0, 1) := by decide +kernel
theorem dX3_flood_131 : decode cX3_flood 131 = .ok (.lcmp, 1) := by decide +kernel
theorem dX3_flood_132 : decode cX3_flood 132 = .ok (.ifCond .ne 21, 3) := by decide +kernel
theorem dX3_flood_135 : decode cX3_flood 135 = .ok (.lload 9, 2) := by decide +kernel
theorem dX3_flood_137 : decode cX3_flood 137 = .ok (.iconst 1, 1) := by decide +kernel
theorem dX3_flood_138 : decode cX3_flood 138 = .ok (.lshr, 1) := by decide +kernel
theorem dX3_flood_139 : decode cX3_flood 139 = .ok (.lstore 9, 2) := by decide +kernel
theorem dX3_flood_141 : decode cX3_flood 141 = .ok (.lload 5, 2) := by decide +kernel
theorem dX3_flood_143 : decode cX3_flood 143 = .ok (.iconst 1, 1) := by decide +kernel
theorem dX3_flood_144 : decode cX3_flood 144 = .ok (.lshr, 1) := by decide +kernel
theorem dX3_flood_145 : decode cX3_flood 145 = .ok (.lstore 5, 2) := by decide +kernel
theorem dX3_flood_147 : decode cX3_flood 147 = .ok (.iinc 11 1, 3) := by decide +kernel
theorem dX3_flood_150 : decode cX3_flood 150 = .ok (.goto (-34), 3) := by decide +kernel
theorem dX3_flood_153 : decode cX3_flood 153 = .ok (.iload_n 3, 1) := by decide +kernel
theorem dX3_flood_154 : decode cX3_flood 154 = .ok (.ifCond .ne 8, 3) := by decide +kernel
theorem dX3_flood_157 : decode cX3_flood 157 = .ok (.lload 9, 2) := by decide +kernel
theorem dX3_flood_159 : decode cX3_flood 159 = .ok (.goto 5, 3) := by decide +kernel
theorem dX3_flood_162 : decode cX3_flood 162 = .ok (.lload 5, 2) := by decide +kernel
theorem dX3_flood_164 : decode cX3_flood 164 = .ok (.lreturn, 1) := by decide +kernel
theorem dX3_kicks_0 : decode cX3_kicks 0 = .ok (.aload_n 0, 1) := by decide +kernel
theorem dX3_kicks_1 : decode cX3_kicks 1 = .ok (.getfield 39, 3) := by decide +kernel
theorem dX3_kicks_4 : decode cX3_kicks 4 = .ok (.iload_n 2, 1) := by decide +kernel
theorem dX3_kicks_5 : decode cX3_kicks 5 = .ok (.invokevirtual 61, 3) := by decide +kernel
theorem dX3_kicks_8 : decode cX3_kicks 8 = .ok (.ifCond .eq 28, 3) := by decide +kernel
theorem dX3_kicks_11 : decode cX3_kicks 11 = .ok (.aload_n 0, 1) := by decide +kernel
theorem dX3_kicks_12 : decode cX3_kicks 12 = .ok (.getfield 39, 3) := by decide +kernel
theorem dX3_kicks_15 : decode cX3_kicks 15 = .ok (.getfield 119, 3) := by decide +kernel
theorem dX3_kicks_18 : decode cX3_kicks 18 = .ok (.iload_n 2, 1) := by decide +kernel
theorem dX3_kicks_19 : decode cX3_kicks 19 = .ok (.invokestatic 76, 3) := by decide +kernel
theorem dX3_kicks_22 : decode cX3_kicks 22 = .ok (.ifCond .eq 14, 3) := by decide +kernel
theorem dX3_kicks_25 : decode cX3_kicks 25 = .ok (.iload_n 3, 1) := by decide +kernel
theorem dX3_kicks_26 : decode cX3_kicks 26 = .ok (.iconst 1, 1) := by decide +kernel
theorem dX3_kicks_27 : decode cX3_kicks 27 = .ok (.if_icmp .lt 9, 3) := by decide +kernel
theorem dX3_kicks_30 : decode cX3_kicks 30 = .ok (.iload_n 3, 1) := by decide +kernel
theorem dX3_kicks_31 : decode cX3_kicks 31 = .ok (.bipush 40, 2) := by decide +kernel
theorem dX3_kicks_33 : decode cX3_kicks 33 = .ok (.if_icmp .le 6, 3) := by decide +kernel
theorem dX3_kicks_36 : decode cX3_kicks 36 = .ok (.bipush (-2), 2) := by decide +kernel
theorem dX3_kicks_38 : decode cX3_kicks 38 = .ok (.ireturn, 1) := by decide +kernel
theorem dX3_kicks_39 : decode cX3_kicks 39 = .ok (.iload_n 2, 1) := by decide +kernel
theorem dX3_kicks_40 : decode cX3_kicks 40 = .ok (.istore 4, 2) := by decide +kernel
theorem dX3_kicks_42 : decode cX3_kicks 42 = .ok (.iload_n 1, 1) := by decide +kernel
theorem dX3_kicks_43 : decode cX3_kicks 43 = .ok (.istore 5, 2) := by decide +kernel
theorem dX3_kicks_45 : decode cX3_kicks 45 = .ok (.iconst 0, 1) := by decide +kernel
theorem dX3_kicks_46 : decode cX3_kicks 46 = .ok (.istore 6, 2) := by decide +kernel
theorem dX3_kicks_48 : decode cX3_kicks 48 = .ok (.iload 6, 2) := by decide +kernel
theorem dX3_kicks_50 : decode cX3_kicks 50 = .ok (.iload_n 3, 1) := by decide +kernel
theorem dX3_kicks_51 : decode cX3_kicks 51 = .ok (.if_icmp .ge 67, 3) := by decide +kernel
theorem dX3_kicks_54 : decode cX3_kicks 54 = .ok (.aload_n 0, 1) := by decide +kernel
theorem dX3_kicks_55 : decode cX3_kicks 55 = .ok (.getfield 39, 3) := by decide +kernel
theorem dX3_kicks_58 : decode cX3_kicks 58 = .ok (.getfield 73, 3) := by decide +kernel
theorem dX3_kicks_61 : decode cX3_kicks 61 = .ok (.iload 4, 2) := by decide +kernel
theorem dX3_kicks_63 : decode cX3_kicks 63 = .ok (.invokestatic 76, 3) := by decide +kernel
theorem dX3_kicks_66 : decode cX3_kicks 66 = .ok (.ifCond .eq 35, 3) := by decide +kernel
theorem dX3_kicks_69 : decode cX3_kicks 69 = .ok (.ldc 191, 2) := by decide +kernel
theorem dX3_kicks_71 : decode cX3_kicks 71 = .ok (.iload 5, 2) := by decide +kernel
theorem dX3_kicks_73 : decode cX3_kicks 73 = .ok (.imul, 1) := by decide +kernel
theorem dX3_kicks_74 : decode cX3_kicks 74 = .ok (.sipush 12345, 3) := by decide +kernel
theorem dX3_kicks_77 : decode cX3_kicks 77 = .ok (.iadd, 1) := by decide +kernel
theorem dX3_kicks_78 : decode cX3_kicks 78 = .ok (.istore 5, 2) := by decide +kernel
theorem dX3_kicks_80 : decode cX3_kicks 80 = .ok (.aload_n 0, 1) := by decide +kernel
theorem dX3_kicks_81 : decode cX3_kicks 81 = .ok (.getfield 39, 3) := by decide +kernel
theorem dX3_kicks_84 : decode cX3_kicks 84 = .ok (.iload 4, 2) := by decide +kernel
theorem dX3_kicks_86 : decode cX3_kicks 86 = .ok (.iload 5, 2) := by decide +kernel
theorem dX3_kicks_88 : decode cX3_kicks 88 = .ok (.bipush 16, 2) := by decide +kernel
theorem dX3_kicks_90 : decode cX3_kicks 90 = .ok (.iushr, 1) := by decide +kernel
theorem dX3_kicks_91 : decode cX3_kicks 91 = .ok (.iconst 3, 1) := by decide +kernel
theorem dX3_kicks_92 : decode cX3_kicks 92 = .ok (.irem, 1) := by decide +kernel
theorem dX3_kicks_93 : decode cX3_kicks 93 = .ok (.invokevirtual 192, 3) := by decide +kernel
theorem dX3_kicks_96 : decode cX3_kicks 96 = .ok (.istore 4, 2) := by decide +kernel
theorem dX3_kicks_98 : decode cX3_kicks 98 = .ok (.goto 14, 3) := by decide +kernel
theorem dX3_kicks_101 : decode cX3_kicks 101 = .ok (.aload_n 0, 1) := by decide +kernel
theorem dX3_kicks_102 : decode cX3_kicks 102 = .ok (.getfield 39, 3) := by decide +kernel
theorem dX3_kicks_105 : decode cX3_kicks 105 = .ok (.iload 4, 2) := by decide +kernel
theorem dX3_kicks_107 : decode cX3_kicks 107 = .ok (.invokevirtual 195, 3) := by decide +kernel
theorem dX3_kicks_110 : decode cX3_kicks 110 = .ok (.istore 4, 2) := by decide +kernel
theorem dX3_kicks_112 : decode cX3_kicks 112 = .ok (.iinc 6 1, 3) := by decide +kernel
theorem dX3_kicks_115 : decode cX3_kicks 115 = .ok (.goto (-67), 3) := by decide +kernel
theorem dX3_kicks_118 : decode cX3_kicks 118 = .ok (.iload 4, 2) := by decide +kernel
theorem dX3_kicks_120 : decode cX3_kicks 120 = .ok (.ireturn, 1) := by decide +kernel
theorem dX3_sheet_0 : decode cX3_sheet 0 = .ok (.iload_n 1, 1) := by decide +kernel
theorem dX3_sheet_1 : decode cX3_sheet 1 = .ok (.invokestatic 90, 3) := by decide +kernel
theorem dX3_sheet_4 : decode cX3_sheet 4 = .ok (.ifCond .eq 16, 3) := by decide +kernel
theorem dX3_sheet_7 : decode cX3_sheet 7 = .ok (.iload_n 2, 1) := by decide +kernel
theorem dX3_sheet_8 : decode cX3_sheet 8 = .ok (.invokestatic 198, 3) := by decide +kernel
theorem dX3_sheet_11 : decode cX3_sheet 11 = .ok (.ifCond .eq 9, 3) := by decide +kernel
theorem dX3_sheet_14 : decode cX3_sheet 14 = .ok (.iload_n 3, 1) := by decide +kernel
theorem dX3_sheet_15 : decode cX3_sheet 15 = .ok (.bipush 48, 2) := by decide +kernel
theorem dX3_sheet_17 : decode cX3_sheet 17 = .ok (.if_icmp .le 6, 3) := by decide +kernel
theorem dX3_sheet_20 : decode cX3_sheet 20 = .ok (.bipush (-2), 2) := by decide +kernel
theorem dX3_sheet_22 : decode cX3_sheet 22 = .ok (.ireturn, 1) := by decide +kernel
theorem dX3_sheet_23 : decode cX3_sheet 23 = .ok (.iload_n 3, 1) := by decide +kernel
theorem dX3_sheet_24 : decode cX3_sheet 24 = .ok (.ifCond .ge 9, 3) := by decide +kernel
theorem dX3_sheet_27 : decode cX3_sheet 27 = .ok (.aload_n 0, 1) := by decide +kernel
theorem dX3_sheet_28 : decode cX3_sheet 28 = .ok (.iconst 5, 1) := by decide +kernel
theorem dX3_sheet_29 : decode cX3_sheet 29 = .ok (.invokevirtual 97, 3) := by decide +kernel
theorem dX3_sheet_32 : decode cX3_sheet 32 = .ok (.ireturn, 1) := by decide +kernel
theorem dX3_sheet_33 : decode cX3_sheet 33 = .ok (.aload_n 0, 1) := by decide +kernel
theorem dX3_sheet_34 : decode cX3_sheet 34 = .ok (.getfield 31, 3) := by decide +kernel
theorem dX3_sheet_37 : decode cX3_sheet 37 = .ok (.iload_n 1, 1) := by decide +kernel
theorem dX3_sheet_38 : decode cX3_sheet 38 = .ok (.aaload, 1) := by decide +kernel
theorem dX3_sheet_39 : decode cX3_sheet 39 = .ok (.iload_n 2, 1) := by decide +kernel
theorem dX3_sheet_40 : decode cX3_sheet 40 = .ok (.iload_n 3, 1) := by decide +kernel
theorem dX3_sheet_41 : decode cX3_sheet 41 = .ok (.invokevirtual 201, 3) := by decide +kernel
theorem dX3_sheet_44 : decode cX3_sheet 44 = .ok (.iload_n 3, 1) := by decide +kernel
theorem dX3_sheet_45 : decode cX3_sheet 45 = .ok (.ireturn, 1) := by decide +kernel
theorem dX3_lose_0 : decode cX3_lose 0 = .ok (.iload_n 1, 1) := by decide +kernel
theorem dX3_lose_1 : decode cX3_lose 1 = .ok (.invokestatic 90, 3) := by decide +kernel
theorem dX3_lose_4 : decode cX3_lose 4 = .ok (.ifCond .ne 6, 3) := by decide +kernel
theorem dX3_lose_7 : decode cX3_lose 7 = .ok (.bipush (-2), 2) := by decide +kernel
theorem dX3_lose_9 : decode cX3_lose 9 = .ok (.ireturn, 1) := by decide +kernel
theorem dX3_lose_10 : decode cX3_lose 10 = .ok (.aload_n 0, 1) := by decide +kernel
theorem dX3_lose_11 : decode cX3_lose 11 = .ok (.getfield 31, 3) := by decide +kernel
theorem dX3_lose_14 : decode cX3_lose 14 = .ok (.iload_n 1, 1) := by decide +kernel
theorem dX3_lose_15 : decode cX3_lose 15 = .ok (.aaload, 1) := by decide +kernel
theorem dX3_lose_16 : decode cX3_lose 16 = .ok (.getfield 93, 3) := by decide +kernel
theorem dX3_lose_19 : decode cX3_lose 19 = .ok (.ifCond .eq 9, 3) := by decide +kernel
theorem dX3_lose_22 : decode cX3_lose 22 = .ok (.aload_n 0, 1) := by decide +kernel
theorem dX3_lose_23 : decode cX3_lose 23 = .ok (.iconst 1, 1) := by decide +kernel
theorem dX3_lose_24 : decode cX3_lose 24 = .ok (.invokevirtual 97, 3) := by decide +kernel
theorem dX3_lose_27 : decode cX3_lose 27 = .ok (.ireturn, 1) := by decide +kernel
theorem dX3_lose_28 : decode cX3_lose 28 = .ok (.aload_n 0, 1) := by decide +kernel
theorem dX3_lose_29 : decode cX3_lose 29 = .ok (.getfield 31, 3) := by decide +kernel
theorem dX3_lose_32 : decode cX3_lose 32 = .ok (.iload_n 1, 1) := by decide +kernel
theorem dX3_lose_33 : decode cX3_lose 33 = .ok (.aaload, 1) := by decide +kernel
theorem dX3_lose_34 : decode cX3_lose 34 = .ok (.iconst 1, 1) := by decide +kernel
theorem dX3_lose_35 : decode cX3_lose 35 = .ok (.putfield 93, 3) := by decide +kernel
theorem dX3_lose_38 : decode cX3_lose 38 = .ok (.aload_n 0, 1) := by decide +kernel
theorem dX3_lose_39 : decode cX3_lose 39 = .ok (.getfield 31, 3) := by decide +kernel
theorem dX3_lose_42 : decode cX3_lose 42 = .ok (.iload_n 1, 1) := by decide +kernel
theorem dX3_lose_43 : decode cX3_lose 43 = .ok (.aaload, 1) := by decide +kernel
theorem dX3_lose_44 : decode cX3_lose 44 = .ok (.getfield 100, 3) := by decide +kernel
theorem dX3_lose_47 : decode cX3_lose 47 = .ok (.ireturn, 1) := by decide +kernel
theorem dX3_put_0 : decode cX3_put 0 = .ok (.aload_n 0, 1) := by decide +kernel
theorem dX3_put_1 : decode cX3_put 1 = .ok (.iload_n 1, 1) := by decide +kernel
theorem dX3_put_2 : decode cX3_put 2 = .ok (.iload_n 2, 1) := by decide +kernel
theorem dX3_put_3 : decode cX3_put 3 = .ok (.iload_n 3, 1) := by decide +kernel
theorem dX3_put_4 : decode cX3_put 4 = .ok (.invokevirtual 205, 3) := by decide +kernel
theorem dX3_put_7 : decode cX3_put 7 = .ok (.istore 5, 2) := by decide +kernel
theorem dX3_put_9 : decode cX3_put 9 = .ok (.iload 5, 2) := by decide +kernel
theorem dX3_put_11 : decode cX3_put 11 = .ok (.ifCond .eq 6, 3) := by decide +kernel
theorem dX3_put_14 : decode cX3_put 14 = .ok (.iload 5, 2) := by decide +kernel
theorem dX3_put_16 : decode cX3_put 16 = .ok (.ireturn, 1) := by decide +kernel
theorem dX3_put_17 : decode cX3_put 17 = .ok (.aload_n 0, 1) := by decide +kernel
theorem dX3_put_18 : decode cX3_put 18 = .ok (.getfield 31, 3) := by decide +kernel
theorem dX3_put_21 : decode cX3_put 21 = .ok (.iload_n 1, 1) := by decide +kernel
theorem dX3_put_22 : decode cX3_put 22 = .ok (.aaload, 1) := by decide +kernel
theorem dX3_put_23 : decode cX3_put 23 = .ok (.iload_n 3, 1) := by decide +kernel
theorem dX3_put_24 : decode cX3_put 24 = .ok (.iload 4, 2) := by decide +kernel
theorem dX3_put_26 : decode cX3_put 26 = .ok (.invokevirtual 208, 3) := by decide +kernel
theorem dX3_put_29 : decode cX3_put 29 = .ok (.iconst 1, 1) := by decide +kernel
theorem dX3_put_30 : decode cX3_put 30 = .ok (.ireturn, 1) := by decide +kernel
theorem dX3_get_0 : decode cX3_get 0 = .ok (.aload_n 0, 1) := by decide +kernel
theorem dX3_get_1 : decode cX3_get 1 = .ok (.iload_n 1, 1) := by decide +kernel
theorem dX3_get_2 : decode cX3_get 2 = .ok (.iload_n 2, 1) := by decide +kernel
theorem dX3_get_3 : decode cX3_get 3 = .ok (.iload_n 3, 1) := by decide +kernel
theorem dX3_get_4 : decode cX3_get 4 = .ok (.invokevirtual 205, 3) := by decide +kernel
theorem dX3_get_7 : decode cX3_get 7 = .ok (.ifCond .eq 6, 3) := by decide +kernel
theorem dX3_get_10 : decode cX3_get 10 = .ok (.ldc 211, 2) := by decide +kernel
theorem dX3_get_12 : decode cX3_get 12 = .ok (.ireturn, 1) := by decide +kernel
theorem dX3_get_13 : decode cX3_get 13 = .ok (.aload_n 0, 1) := by decide +kernel
theorem dX3_get_14 : decode cX3_get 14 = .ok (.getfield 31, 3) := by decide +kernel
theorem dX3_get_17 : decode cX3_get 17 = .ok (.iload_n 1, 1) := by decide +kernel
theorem dX3_get_18 : decode cX3_get 18 = .ok (.aaload, 1) := by decide +kernel
theorem dX3_get_19 : decode cX3_get 19 = .ok (.getfield 103, 3) := by decide +kernel
theorem dX3_get_22 : decode cX3_get 22 = .ok (.iload_n 3, 1) := by decide +kernel
theorem dX3_get_23 : decode cX3_get 23 = .ok (.iaload, 1) := by decide +kernel
theorem dX3_get_24 : decode cX3_get 24 = .ok (.ireturn, 1) := by decide +kernel
theorem dX3_copy_0 : decode cX3_copy 0 = .ok (.iload_n 1, 1) := by decide +kernel
theorem dX3_copy_1 : decode cX3_copy 1 = .ok (.invokestatic 90, 3) := by decide +kernel
theorem dX3_copy_4 : decode cX3_copy 4 = .ok (.ifCond .eq 10, 3) := by decide +kernel
theorem dX3_copy_7 : decode cX3_copy 7 = .ok (.iload_n 3, 1) := by decide +kernel
theorem dX3_copy_8 : decode cX3_copy 8 = .ok (.invokestatic 90, 3) := by decide +kernel
theorem dX3_copy_11 : decode cX3_copy 11 = .ok (.ifCond .ne 6, 3) := by decide +kernel
theorem dX3_copy_14 : decode cX3_copy 14 = .ok (.bipush (-2), 2) := by decide +kernel
theorem dX3_copy_16 : decode cX3_copy 16 = .ok (.ireturn, 1) := by decide +kernel
theorem dX3_copy_17 : decode cX3_copy 17 = .ok (.aload_n 0, 1) := by decide +kernel
theorem dX3_copy_18 : decode cX3_copy 18 = .ok (.getfield 31, 3) := by decide +kernel
theorem dX3_copy_21 : decode cX3_copy 21 = .ok (.iload_n 1, 1) := by decide +kernel
theorem dX3_copy_22 : decode cX3_copy 22 = .ok (.aaload, 1) := by decide +kernel
theorem dX3_copy_23 : decode cX3_copy 23 = .ok (.astore 6, 2) := by decide +kernel
theorem dX3_copy_25 : decode cX3_copy 25 = .ok (.aload_n 0, 1) := by decide +kernel
theorem dX3_copy_26 : decode cX3_copy 26 = .ok (.getfield 31, 3) := by decide +kernel
theorem dX3_copy_29 : decode cX3_copy 29 = .ok (.iload_n 3, 1) := by decide +kernel
theorem dX3_copy_30 : decode cX3_copy 30 = .ok (.aaload, 1) := by decide +kernel
theorem dX3_copy_31 : decode cX3_copy 31 = .ok (.astore 7, 2) := by decide +kernel
theorem dX3_copy_33 : decode cX3_copy 33 = .ok (.aload 6, 2) := by decide +kernel
theorem dX3_copy_35 : decode cX3_copy 35 = .ok (.getfield 93, 3) := by decide +kernel
theorem dX3_copy_38 : decode cX3_copy 38 = .ok (.ifCond .ne 11, 3) := by decide +kernel
theorem dX3_copy_41 : decode cX3_copy 41 = .ok (.aload 7, 2) := by decide +kernel
theorem dX3_copy_43 : decode cX3_copy 43 = .ok (.getfield 93, 3) := by decide +kernel
theorem dX3_copy_46 : decode cX3_copy 46 = .ok (.ifCond .eq 9, 3) := by decide +kernel
theorem dX3_copy_49 : decode cX3_copy 49 = .ok (.aload_n 0, 1) := by decide +kernel
theorem dX3_copy_50 : decode cX3_copy 50 = .ok (.iconst 1, 1) := by decide +kernel
theorem dX3_copy_51 : decode cX3_copy 51 = .ok (.invokevirtual 97, 3) := by decide +kernel
theorem dX3_copy_54 : decode cX3_copy 54 = .ok (.ireturn, 1) := by decide +kernel
theorem dX3_copy_55 : decode cX3_copy 55 = .ok (.aload 6, 2) := by decide +kernel
theorem dX3_copy_57 : decode cX3_copy 57 = .ok (.getfield 212, 3) := by decide +kernel
theorem dX3_copy_60 : decode cX3_copy 60 = .ok (.aload 7, 2) := by decide +kernel
theorem dX3_copy_62 : decode cX3_copy 62 = .ok (.getfield 212, 3) := by decide +kernel
theorem dX3_copy_65 : decode cX3_copy 65 = .ok (.if_icmp .eq 9, 3) := by decide +kernel
theorem dX3_copy_68 : decode cX3_copy 68 = .ok (.aload_n 0, 1) := by decide +kernel
theorem dX3_copy_69 : decode cX3_copy 69 = .ok (.iconst 4, 1) := by decide +kernel
theorem dX3_copy_70 : decode cX3_copy 70 = .ok (.invokevirtual 97, 3) := by decide +kernel
theorem dX3_copy_73 : decode cX3_copy 73 = .ok (.ireturn, 1) := by decide +kernel
theorem dX3_copy_74 : decode cX3_copy 74 = .ok (.aload 6, 2) := by decide +kernel
theorem dX3_copy_76 : decode cX3_copy 76 = .ok (.iload_n 2, 1) := by decide +kernel
theorem dX3_copy_77 : decode cX3_copy 77 = .ok (.iload 5, 2) := by decide +kernel
theorem dX3_copy_79 : decode cX3_copy 79 = .ok (.invokevirtual 215, 3) := by decide +kernel
theorem dX3_copy_82 : decode cX3_copy 82 = .ok (.ifCond .eq 15, 3) := by decide +kernel
theorem dX3_copy_85 : decode cX3_copy 85 = .ok (.aload 7, 2) := by decide +kernel
theorem dX3_copy_87 : decode cX3_copy 87 = .ok (.iload 4, 2) := by decide +kernel
theorem dX3_copy_89 : decode cX3_copy 89 = .ok (.iload 5, 2) := by decide +kernel
theorem dX3_copy_91 : decode cX3_copy 91 = .ok (.invokevirtual 215, 3) := by decide +kernel
theorem dX3_copy_94 : decode cX3_copy 94 = .ok (.ifCond .ne 9, 3) := by decide +kernel
theorem dX3_copy_97 : decode cX3_copy 97 = .ok (.aload_n 0, 1) := by decide +kernel
theorem dX3_copy_98 : decode cX3_copy 98 = .ok (.iconst 2, 1) := by decide +kernel
theorem dX3_copy_99 : decode cX3_copy 99 = .ok (.invokevirtual 97, 3) := by decide +kernel
theorem dX3_copy_102 : decode cX3_copy 102 = .ok (.ireturn, 1) := by decide +kernel
theorem dX3_copy_103 : decode cX3_copy 103 = .ok (.aload 6, 2) := by decide +kernel
theorem dX3_copy_105 : decode cX3_copy 105 = .ok (.getfield 103, 3) := by decide +kernel
theorem dX3_copy_108 : decode cX3_copy 108 = .ok (.iload_n 2, 1) := by decide +kernel
theorem dX3_copy_109 : decode cX3_copy 109 = .ok (.aload 7, 2) := by decide +kernel
theorem dX3_copy_111 : decode cX3_copy 111 = .ok (.getfield 103, 3) := by decide +kernel
theorem dX3_copy_114 : decode cX3_copy 114 = .ok (.iload 4, 2) := by decide +kernel
theorem dX3_copy_116 : decode cX3_copy 116 = .ok (.iload 5, 2) := by decide +kernel
theorem dX3_copy_118 : decode cX3_copy 118 = .ok (.invokestatic 219, 3) := by decide +kernel
theorem dX3_copy_121 : decode cX3_copy 121 = .ok (.iconst 1, 1) := by decide +kernel
theorem dX3_copy_122 : decode cX3_copy 122 = .ok (.ireturn, 1) := by decide +kernel
theorem dX3_write_0 : decode cX3_write 0 = .ok (.aload_n 0, 1) := by decide +kernel
theorem dX3_write_1 : decode cX3_write 1 = .ok (.getfield 39, 3) := by decide +kernel
theorem dX3_write_4 : decode cX3_write 4 = .ok (.iload_n 1, 1) := by decide +kernel
theorem dX3_write_5 : decode cX3_write 5 = .ok (.invokevirtual 61, 3) := by decide +kernel
theorem dX3_write_8 : decode cX3_write 8 = .ok (.ifCond .eq 10, 3) := by decide +kernel
theorem dX3_write_11 : decode cX3_write 11 = .ok (.iload_n 2, 1) := by decide +kernel
theorem dX3_write_12 : decode cX3_write 12 = .ok (.invokestatic 90, 3) := by decide +kernel
theorem dX3_write_15 : decode cX3_write 15 = .ok (.ifCond .ne 6, 3) := by decide +kernel
theorem dX3_write_18 : decode cX3_write 18 = .ok (.bipush (-2), 2) := by decide +kernel
theorem dX3_write_20 : decode cX3_write 20 = .ok (.ireturn, 1) := by decide +kernel
theorem dX3_write_21 : decode cX3_write 21 = .ok (.aload_n 0, 1) := by decide +kernel
theorem dX3_write_22 : decode cX3_write 22 = .ok (.getfield 31, 3) := by decide +kernel
theorem dX3_write_25 : decode cX3_write 25 = .ok (.iload_n 2, 1) := by decide +kernel
theorem dX3_write_26 : decode cX3_write 26 = .ok (.aaload, 1) := by decide +kernel
theorem dX3_write_27 : decode cX3_write 27 = .ok (.astore_n 3, 1) := by decide +kernel
theorem dX3_write_28 : decode cX3_write 28 = .ok (.aload_n 3, 1) := by decide +kernel
theorem dX3_write_29 : decode cX3_write 29 = .ok (.getfield 93, 3) := by decide +kernel
theorem dX3_write_32 : decode cX3_write 32 = .ok (.ifCond .eq 9, 3) := by decide +kernel
theorem dX3_write_35 : decode cX3_write 35 = .ok (.aload_n 0, 1) := by decide +kernel
theorem dX3_write_36 : decode cX3_write 36 = .ok (.iconst 1, 1) := by decide +kernel
theorem dX3_write_37 : decode cX3_write 37 = .ok (.invokevirtual 97, 3) := by decide +kernel
theorem dX3_write_40 : decode cX3_write 40 = .ok (.ireturn, 1) := by decide +kernel
theorem dX3_write_41 : decode cX3_write 41 = .ok (.aload_n 3, 1) := by decide +kernel
theorem dX3_write_42 : decode cX3_write 42 = .ok (.getfield 100, 3) := by decide +kernel
theorem dX3_write_45 : decode cX3_write 45 = .ok (.aload_n 0, 1) := by decide +kernel
theorem dX3_write_46 : decode cX3_write 46 = .ok (.getfield 39, 3) := by decide +kernel
theorem dX3_write_49 : decode cX3_write 49 = .ok (.getfield 135, 3) := by decide +kernel
theorem dX3_write_52 : decode cX3_write 52 = .ok (.invokestatic 225, 3) := by decide +kernel
theorem dX3_write_55 : decode cX3_write 55 = .ok (.istore 4, 2) := by decide +kernel
theorem dX3_write_57 : decode cX3_write 57 = .ok (.iconst 0, 1) := by decide +kernel
theorem dX3_write_58 : decode cX3_write 58 = .ok (.istore 5, 2) := by decide +kernel
theorem dX3_write_60 : decode cX3_write 60 = .ok (.iload 5, 2) := by decide +kernel
theorem dX3_write_62 : decode cX3_write 62 = .ok (.iload 4, 2) := by decide +kernel
theorem dX3_write_64 : decode cX3_write 64 = .ok (.if_icmp .ge 25, 3) := by decide +kernel
theorem dX3_write_67 : decode cX3_write 67 = .ok (.aload_n 3, 1) := by decide +kernel
theorem dX3_write_68 : decode cX3_write 68 = .ok (.iload 5, 2) := by decide +kernel
theorem dX3_write_70 : decode cX3_write 70 = .ok (.aload_n 0, 1) := by decide +kernel
theorem dX3_write_71 : decode cX3_write 71 = .ok (.getfield 48, 3) := by decide +kernel
theorem dX3_write_74 : decode cX3_write 74 = .ok (.iload_n 1, 1) := by decide +kernel
theorem dX3_write_75 : decode cX3_write 75 = .ok (.iload 5, 2) := by decide +kernel
theorem dX3_write_77 : decode cX3_write 77 = .ok (.invokevirtual 125, 3) := by decide +kernel
theorem dX3_write_80 : decode cX3_write 80 = .ok (.invokevirtual 208, 3) := by decide +kernel
theorem dX3_write_83 : decode cX3_write 83 = .ok (.iinc 5 1, 3) := by decide +kernel
theorem dX3_write_86 : decode cX3_write 86 = .ok (.goto (-26), 3) := by decide +kernel
theorem dX3_write_89 : decode cX3_write 89 = .ok (.iload 4, 2) := by decide +kernel
theorem dX3_write_91 : decode cX3_write 91 = .ok (.ireturn, 1) := by decide +kernel
theorem dX3_count_0 : decode cX3_count 0 = .ok (.iload_n 1, 1) := by decide +kernel
theorem dX3_count_1 : decode cX3_count 1 = .ok (.tableswitch 120 0 8 #[51, 59, 67, 72, 77, 82, 93, 104, 115], 51) := by decide +kernel
theorem dX3_count_52 : decode cX3_count 52 = .ok (.aload_n 0, 1) := by decide +kernel
theorem dX3_count_53 : decode cX3_count 53 = .ok (.getfield 39, 3) := by decide +kernel
theorem dX3_count_56 : decode cX3_count 56 = .ok (.getfield 135, 3) := by decide +kernel
theorem dX3_count_59 : decode cX3_count 59 = .ok (.ireturn, 1) := by decide +kernel
theorem dX3_count_60 : decode cX3_count 60 = .ok (.aload_n 0, 1) := by decide +kernel
theorem dX3_count_61 : decode cX3_count 61 = .ok (.getfield 39, 3) := by decide +kernel
theorem dX3_count_64 : decode cX3_count 64 = .ok (.getfield 157, 3) := by decide +kernel
theorem dX3_count_67 : decode cX3_count 67 = .ok (.ireturn, 1) := by decide +kernel
theorem dX3_count_68 : decode cX3_count 68 = .ok (.aload_n 0, 1) := by decide +kernel
theorem dX3_count_69 : decode cX3_count 69 = .ok (.getfield 55, 3) := by decide +kernel
theorem dX3_count_72 : decode cX3_count 72 = .ok (.ireturn, 1) := by decide +kernel
theorem dX3_count_73 : decode cX3_count 73 = .ok (.aload_n 0, 1) := by decide +kernel
theorem dX3_count_74 : decode cX3_count 74 = .ok (.getfield 87, 3) := by decide +kernel
theorem dX3_count_77 : decode cX3_count 77 = .ok (.ireturn, 1) := by decide +kernel
theorem dX3_count_78 : decode cX3_count 78 = .ok (.aload_n 0, 1) := by decide +kernel
theorem dX3_count_79 : decode cX3_count 79 = .ok (.getfield 151, 3) := by decide +kernel
theorem dX3_count_82 : decode cX3_count 82 = .ok (.ireturn, 1) := by decide +kernel
theorem dX3_count_83 : decode cX3_count 83 = .ok (.aload_n 0, 1) := by decide +kernel
theorem dX3_count_84 : decode cX3_count 84 = .ok (.getfield 39, 3) := by decide +kernel
theorem dX3_count_87 : decode cX3_count 87 = .ok (.getfield 176, 3) := by decide +kernel
theorem dX3_count_90 : decode cX3_count 90 = .ok (.invokestatic 179, 3) := by decide +kernel
theorem dX3_count_93 : decode cX3_count 93 = .ok (.ireturn, 1) := by decide +kernel
theorem dX3_count_94 : decode cX3_count 94 = .ok (.aload_n 0, 1) := by decide +kernel
theorem dX3_count_95 : decode cX3_count 95 = .ok (.getfield 39, 3) := by decide +kernel
theorem dX3_count_98 : decode cX3_count 98 = .ok (.getfield 138, 3) := by decide +kernel
theorem dX3_count_101 : decode cX3_count 101 = .ok (.invokestatic 179, 3) := by decide +kernel
theorem dX3_count_104 : decode cX3_count 104 = .ok (.ireturn, 1) := by decide +kernel
theorem dX3_count_105 : decode cX3_count 105 = .ok (.aload_n 0, 1) := by decide +kernel
theorem dX3_count_106 : decode cX3_count 106 = .ok (.getfield 39, 3) := by decide +kernel
theorem dX3_count_109 : decode cX3_count 109 = .ok (.getfield 73, 3) := by decide +kernel
theorem dX3_count_112 : decode cX3_count 112 = .ok (.invokestatic 179, 3) := by decide +kernel
theorem dX3_count_115 : decode cX3_count 115 = .ok (.ireturn, 1) := by decide +kernel
theorem dX3_count_116 : decode cX3_count 116 = .ok (.aload_n 0, 1) := by decide +kernel
theorem dX3_count_117 : decode cX3_count 117 = .ok (.getfield 228, 3) := by decide +kernel
theorem dX3_count_120 : decode cX3_count 120 = .ok (.ireturn, 1) := by decide +kernel
theorem dX3_count_121 : decode cX3_count 121 = .ok (.bipush (-2), 2) := by decide +kernel
theorem dX3_count_123 : decode cX3_count 123 = .ok (.ireturn, 1) := by decide +kernel
theorem dX3_digest_0 : decode cX3_digest 0 = .ok (.ldc2_w 231, 3) := by decide +kernel
theorem dX3_digest_3 : decode cX3_digest 3 = .ok (.lstore_n 1, 1) := by decide +kernel
theorem dX3_digest_4 : decode cX3_digest 4 = .ok (.iconst 0, 1) := by decide +kernel
theorem dX3_digest_5 : decode cX3_digest 5 = .ok (.istore_n 3, 1) := by decide +kernel
theorem dX3_digest_6 : decode cX3_digest 6 = .ok (.iload_n 3, 1) := by decide +kernel
theorem dX3_digest_7 : decode cX3_digest 7 = .ok (.bipush 8, 2) := by decide +kernel
theorem dX3_digest_9 : decode cX3_digest 9 = .ok (.if_icmp .ge 20, 3) := by decide +kernel
theorem dX3_digest_12 : decode cX3_digest 12 = .ok (.lload_n 1, 1) := by decide +kernel
theorem dX3_digest_13 : decode cX3_digest 13 = .ok (.aload_n 0, 1) := by decide +kernel
theorem dX3_digest_14 : decode cX3_digest 14 = .ok (.iload_n 3, 1) := by decide +kernel
theorem dX3_digest_15 : decode cX3_digest 15 = .ok (.invokevirtual 233, 3) := by decide +kernel
theorem dX3_digest_18 : decode cX3_digest 18 = .ok (.i2l, 1) := by decide +kernel
theorem dX3_digest_19 : decode cX3_digest 19 = .ok (.invokestatic 236, 3) := by decide +kernel
theorem dX3_digest_22 : decode cX3_digest 22 = .ok (.lstore_n 1, 1) := by decide +kernel
theorem dX3_digest_23 : decode cX3_digest 23 = .ok (.iinc 3 1, 3) := by decide +kernel
theorem dX3_digest_26 : decode cX3_digest 26 = .ok (.goto (-20), 3) := by decide +kernel
theorem dX3_digest_29 : decode cX3_digest 29 = .ok (.lload_n 1, 1) := by decide +kernel
theorem dX3_digest_30 : decode cX3_digest 30 = .ok (.aload_n 0, 1) := by decide +kernel
theorem dX3_digest_31 : decode cX3_digest 31 = .ok (.invokevirtual 240, 3) := by decide +kernel
theorem dX3_digest_34 : decode cX3_digest 34 = .ok (.i2l, 1) := by decide +kernel
theorem dX3_digest_35 : decode cX3_digest 35 = .ok (.invokestatic 236, 3) := by decide +kernel
theorem dX3_digest_38 : decode cX3_digest 38 = .ok (.lstore_n 1, 1) := by decide +kernel
theorem dX3_digest_39 : decode cX3_digest 39 = .ok (.iconst 0, 1) := by decide +kernel
theorem dX3_digest_40 : decode cX3_digest 40 = .ok (.istore_n 3, 1) := by decide +kernel
theorem dX3_digest_41 : decode cX3_digest 41 = .ok (.iload_n 3, 1) := by decide +kernel
theorem dX3_digest_42 : decode cX3_digest 42 = .ok (.aload_n 0, 1) := by decide +kernel
theorem dX3_digest_43 : decode cX3_digest 43 = .ok (.getfield 39, 3) := by decide +kernel
theorem dX3_digest_46 : decode cX3_digest 46 = .ok (.getfield 135, 3) := by decide +kernel
theorem dX3_digest_49 : decode cX3_digest 49 = .ok (.if_icmp .ge 117, 3) := by decide +kernel
theorem dX3_digest_52 : decode cX3_digest 52 = .ok (.lload_n 1, 1) := by decide +kernel
theorem dX3_digest_53 : decode cX3_digest 53 = .ok (.aload_n 0, 1) := by decide +kernel
theorem dX3_digest_54 : decode cX3_digest 54 = .ok (.iload_n 3, 1) := by decide +kernel
theorem dX3_digest_55 : decode cX3_digest 55 = .ok (.iconst 0, 1) := by decide +kernel
theorem dX3_digest_56 : decode cX3_digest 56 = .ok (.invokevirtual 244, 3) := by decide +kernel
theorem dX3_digest_59 : decode cX3_digest 59 = .ok (.i2l, 1) := by decide +kernel
theorem dX3_digest_60 : decode cX3_digest 60 = .ok (.invokestatic 236, 3) := by decide +kernel
theorem dX3_digest_63 : decode cX3_digest 63 = .ok (.lstore_n 1, 1) := by decide +kernel
theorem dX3_digest_64 : decode cX3_digest 64 = .ok (.lload_n 1, 1) := by decide +kernel
theorem dX3_digest_65 : decode cX3_digest 65 = .ok (.aload_n 0, 1) := by decide +kernel
theorem dX3_digest_66 : decode cX3_digest 66 = .ok (.iload_n 3, 1) := by decide +kernel
theorem dX3_digest_67 : decode cX3_digest 67 = .ok (.iconst 1, 1) := by decide +kernel
theorem dX3_digest_68 : decode cX3_digest 68 = .ok (.invokevirtual 244, 3) := by decide +kernel
theorem dX3_digest_71 : decode cX3_digest 71 = .ok (.i2l, 1) := by decide +kernel
theorem dX3_digest_72 : decode cX3_digest 72 = .ok (.invokestatic 236, 3) := by decide +kernel
theorem dX3_digest_75 : decode cX3_digest 75 = .ok (.lstore_n 1, 1) := by decide +kernel
theorem dX3_digest_76 : decode cX3_digest 76 = .ok (.lload_n 1, 1) := by decide +kernel
theorem dX3_digest_77 : decode cX3_digest 77 = .ok (.aload_n 0, 1) := by decide +kernel
theorem dX3_digest_78 : decode cX3_digest 78 = .ok (.iload_n 3, 1) := by decide +kernel
theorem dX3_digest_79 : decode cX3_digest 79 = .ok (.iconst 2, 1) := by decide +kernel
theorem dX3_digest_80 : decode cX3_digest 80 = .ok (.invokevirtual 244, 3) := by decide +kernel
theorem dX3_digest_83 : decode cX3_digest 83 = .ok (.i2l, 1) := by decide +kernel
theorem dX3_digest_84 : decode cX3_digest 84 = .ok (.invokestatic 236, 3) := by decide +kernel
theorem dX3_digest_87 : decode cX3_digest 87 = .ok (.lstore_n 1, 1) := by decide +kernel
theorem dX3_digest_88 : decode cX3_digest 88 = .ok (.lload_n 1, 1) := by decide +kernel
theorem dX3_digest_89 : decode cX3_digest 89 = .ok (.aload_n 0, 1) := by decide +kernel
theorem dX3_digest_90 : decode cX3_digest 90 = .ok (.iload_n 3, 1) := by decide +kernel
theorem dX3_digest_91 : decode cX3_digest 91 = .ok (.invokevirtual 247, 3) := by decide +kernel
theorem dX3_digest_94 : decode cX3_digest 94 = .ok (.i2l, 1) := by decide +kernel
theorem dX3_digest_95 : decode cX3_digest 95 = .ok (.invokestatic 236, 3) := by decide +kernel
theorem dX3_digest_98 : decode cX3_digest 98 = .ok (.lstore_n 1, 1) := by decide +kernel
theorem dX3_digest_99 : decode cX3_digest 99 = .ok (.lload_n 1, 1) := by decide +kernel
theorem dX3_digest_100 : decode cX3_digest 100 = .ok (.aload_n 0, 1) := by decide +kernel
theorem dX3_digest_101 : decode cX3_digest 101 = .ok (.iload_n 3, 1) := by decide +kernel
theorem dX3_digest_102 : decode cX3_digest 102 = .ok (.invokevirtual 250, 3) := by decide +kernel
theorem dX3_digest_105 : decode cX3_digest 105 = .ok (.i2l, 1) := by decide +kernel
theorem dX3_digest_106 : decode cX3_digest 106 = .ok (.invokestatic 236, 3) := by decide +kernel
theorem dX3_digest_109 : decode cX3_digest 109 = .ok (.lstore_n 1, 1) := by decide +kernel
theorem dX3_digest_110 : decode cX3_digest 110 = .ok (.lload_n 1, 1) := by decide +kernel
theorem dX3_digest_111 : decode cX3_digest 111 = .ok (.aload_n 0, 1) := by decide +kernel
theorem dX3_digest_112 : decode cX3_digest 112 = .ok (.iload_n 3, 1) := by decide +kernel
theorem dX3_digest_113 : decode cX3_digest 113 = .ok (.iconst 0, 1) := by decide +kernel
theorem dX3_digest_114 : decode cX3_digest 114 = .ok (.invokevirtual 253, 3) := by decide +kernel
theorem dX3_digest_117 : decode cX3_digest 117 = .ok (.i2l, 1) := by decide +kernel
theorem dX3_digest_118 : decode cX3_digest 118 = .ok (.invokestatic 236, 3) := by decide +kernel
theorem dX3_digest_121 : decode cX3_digest 121 = .ok (.lstore_n 1, 1) := by decide +kernel
theorem dX3_digest_122 : decode cX3_digest 122 = .ok (.lload_n 1, 1) := by decide +kernel
theorem dX3_digest_123 : decode cX3_digest 123 = .ok (.aload_n 0, 1) := by decide +kernel
theorem dX3_digest_124 : decode cX3_digest 124 = .ok (.iconst 0, 1) := by decide +kernel
theorem dX3_digest_125 : decode cX3_digest 125 = .ok (.iload_n 3, 1) := by decide +kernel
theorem dX3_digest_126 : decode cX3_digest 126 = .ok (.invokevirtual 256, 3) := by decide +kernel
theorem dX3_digest_129 : decode cX3_digest 129 = .ok (.i2l, 1) := by decide +kernel
theorem dX3_digest_130 : decode cX3_digest 130 = .ok (.invokestatic 236, 3) := by decide +kernel
theorem dX3_digest_133 : decode cX3_digest 133 = .ok (.lstore_n 1, 1) := by decide +kernel
theorem dX3_digest_134 : decode cX3_digest 134 = .ok (.lload_n 1, 1) := by decide +kernel
theorem dX3_digest_135 : decode cX3_digest 135 = .ok (.aload_n 0, 1) := by decide +kernel
theorem dX3_digest_136 : decode cX3_digest 136 = .ok (.iload_n 3, 1) := by decide +kernel
theorem dX3_digest_137 : decode cX3_digest 137 = .ok (.iconst 2, 1) := by decide +kernel
theorem dX3_digest_138 : decode cX3_digest 138 = .ok (.iconst (-1), 1) := by decide +kernel
theorem dX3_digest_139 : decode cX3_digest 139 = .ok (.invokevirtual 259, 3) := by decide +kernel
theorem dX3_digest_142 : decode cX3_digest 142 = .ok (.i2l, 1) := by decide +kernel
theorem dX3_digest_143 : decode cX3_digest 143 = .ok (.invokestatic 236, 3) := by decide +kernel
theorem dX3_digest_146 : decode cX3_digest 146 = .ok (.lstore_n 1, 1) := by decide +kernel
theorem dX3_digest_147 : decode cX3_digest 147 = .ok (.lload_n 1, 1) := by decide +kernel
theorem dX3_digest_148 : decode cX3_digest 148 = .ok (.aload_n 0, 1) := by decide +kernel
theorem dX3_digest_149 : decode cX3_digest 149 = .ok (.iload_n 3, 1) := by decide +kernel
theorem dX3_digest_150 : decode cX3_digest 150 = .ok (.iconst 2, 1) := by decide +kernel
theorem dX3_digest_151 : decode cX3_digest 151 = .ok (.iconst 0, 1) := by decide +kernel
theorem dX3_digest_152 : decode cX3_digest 152 = .ok (.invokevirtual 259, 3) := by decide +kernel
theorem dX3_digest_155 : decode cX3_digest 155 = .ok (.i2l, 1) := by decide +kernel
theorem dX3_digest_156 : decode cX3_digest 156 = .ok (.invokestatic 236, 3) := by decide +kernel
theorem dX3_digest_159 : decode cX3_digest 159 = .ok (.lstore_n 1, 1) := by decide +kernel
theorem dX3_digest_160 : decode cX3_digest 160 = .ok (.iinc 3 1, 3) := by decide +kernel
theorem dX3_digest_163 : decode cX3_digest 163 = .ok (.goto (-122), 3) := by decide +kernel
theorem dX3_digest_166 : decode cX3_digest 166 = .ok (.iconst 0, 1) := by decide +kernel
theorem dX3_digest_167 : decode cX3_digest 167 = .ok (.istore_n 3, 1) := by decide +kernel
theorem dX3_digest_168 : decode cX3_digest 168 = .ok (.iload_n 3, 1) := by decide +kernel
theorem dX3_digest_169 : decode cX3_digest 169 = .ok (.aload_n 0, 1) := by decide +kernel
theorem dX3_digest_170 : decode cX3_digest 170 = .ok (.getfield 87, 3) := by decide +kernel
theorem dX3_digest_173 : decode cX3_digest 173 = .ok (.if_icmp .ge 45, 3) := by decide +kernel
theorem dX3_digest_176 : decode cX3_digest 176 = .ok (.lload_n 1, 1) := by decide +kernel
theorem dX3_digest_177 : decode cX3_digest 177 = .ok (.aload_n 0, 1) := by decide +kernel
theorem dX3_digest_178 : decode cX3_digest 178 = .ok (.iload_n 3, 1) := by decide +kernel
theorem dX3_digest_179 : decode cX3_digest 179 = .ok (.iconst 5, 1) := by decide +kernel
theorem dX3_digest_180 : decode cX3_digest 180 = .ok (.invokevirtual 122, 3) := by decide +kernel
theorem dX3_digest_183 : decode cX3_digest 183 = .ok (.i2l, 1) := by decide +kernel
theorem dX3_digest_184 : decode cX3_digest 184 = .ok (.invokestatic 236, 3) := by decide +kernel
theorem dX3_digest_187 : decode cX3_digest 187 = .ok (.lstore_n 1, 1) := by decide +kernel
theorem dX3_digest_188 : decode cX3_digest 188 = .ok (.lload_n 1, 1) := by decide +kernel
theorem dX3_digest_189 : decode cX3_digest 189 = .ok (.aload_n 0, 1) := by decide +kernel
theorem dX3_digest_190 : decode cX3_digest 190 = .ok (.iload_n 3, 1) := by decide +kernel
theorem dX3_digest_191 : decode cX3_digest 191 = .ok (.iconst 0, 1) := by decide +kernel
theorem dX3_digest_192 : decode cX3_digest 192 = .ok (.invokevirtual 262, 3) := by decide +kernel
theorem dX3_digest_195 : decode cX3_digest 195 = .ok (.i2l, 1) := by decide +kernel
theorem dX3_digest_196 : decode cX3_digest 196 = .ok (.invokestatic 236, 3) := by decide +kernel
theorem dX3_digest_199 : decode cX3_digest 199 = .ok (.lstore_n 1, 1) := by decide +kernel
theorem dX3_digest_200 : decode cX3_digest 200 = .ok (.lload_n 1, 1) := by decide +kernel
theorem dX3_digest_201 : decode cX3_digest 201 = .ok (.aload_n 0, 1) := by decide +kernel
theorem dX3_digest_202 : decode cX3_digest 202 = .ok (.iload_n 3, 1) := by decide +kernel
theorem dX3_digest_203 : decode cX3_digest 203 = .ok (.iconst 1, 1) := by decide +kernel
theorem dX3_digest_204 : decode cX3_digest 204 = .ok (.invokevirtual 262, 3) := by decide +kernel
theorem dX3_digest_207 : decode cX3_digest 207 = .ok (.i2l, 1) := by decide +kernel
theorem dX3_digest_208 : decode cX3_digest 208 = .ok (.invokestatic 236, 3) := by decide +kernel
theorem dX3_digest_211 : decode cX3_digest 211 = .ok (.lstore_n 1, 1) := by decide +kernel
theorem dX3_digest_212 : decode cX3_digest 212 = .ok (.iinc 3 1, 3) := by decide +kernel
theorem dX3_digest_215 : decode cX3_digest 215 = .ok (.goto (-47), 3) := by decide +kernel
theorem dX3_digest_218 : decode cX3_digest 218 = .ok (.lload_n 1, 1) := by decide +kernel
theorem dX3_digest_219 : decode cX3_digest 219 = .ok (.aload_n 0, 1) := by decide +kernel
theorem dX3_digest_220 : decode cX3_digest 220 = .ok (.invokevirtual 265, 3) := by decide +kernel
theorem dX3_digest_223 : decode cX3_digest 223 = .ok (.i2l, 1) := by decide +kernel
theorem dX3_digest_224 : decode cX3_digest 224 = .ok (.invokestatic 236, 3) := by decide +kernel
theorem dX3_digest_227 : decode cX3_digest 227 = .ok (.lstore_n 1, 1) := by decide +kernel
theorem dX3_digest_228 : decode cX3_digest 228 = .ok (.lload_n 1, 1) := by decide +kernel
theorem dX3_digest_229 : decode cX3_digest 229 = .ok (.aload_n 0, 1) := by decide +kernel
theorem dX3_digest_230 : decode cX3_digest 230 = .ok (.iconst 0, 1) := by decide +kernel
theorem dX3_digest_231 : decode cX3_digest 231 = .ok (.iconst 1, 1) := by decide +kernel
theorem dX3_digest_232 : decode cX3_digest 232 = .ok (.invokevirtual 268, 3) := by decide +kernel
theorem dX3_digest_235 : decode cX3_digest 235 = .ok (.i2l, 1) := by decide +kernel
theorem dX3_digest_236 : decode cX3_digest 236 = .ok (.invokestatic 236, 3) := by decide +kernel
theorem dX3_digest_239 : decode cX3_digest 239 = .ok (.lstore_n 1, 1) := by decide +kernel
theorem dX3_digest_240 : decode cX3_digest 240 = .ok (.lload_n 1, 1) := by decide +kernel
theorem dX3_digest_241 : decode cX3_digest 241 = .ok (.aload_n 0, 1) := by decide +kernel
theorem dX3_digest_242 : decode cX3_digest 242 = .ok (.iconst 0, 1) := by decide +kernel
theorem dX3_digest_243 : decode cX3_digest 243 = .ok (.iconst 1, 1) := by decide +kernel
theorem dX3_digest_244 : decode cX3_digest 244 = .ok (.iconst 2, 1) := by decide +kernel
theorem dX3_digest_245 : decode cX3_digest 245 = .ok (.invokevirtual 271, 3) := by decide +kernel
theorem dX3_digest_248 : decode cX3_digest 248 = .ok (.i2l, 1) := by decide +kernel
theorem dX3_digest_249 : decode cX3_digest 249 = .ok (.invokestatic 236, 3) := by decide +kernel
theorem dX3_digest_252 : decode cX3_digest 252 = .ok (.lstore_n 1, 1) := by decide +kernel
theorem dX3_digest_253 : decode cX3_digest 253 = .ok (.lload_n 1, 1) := by decide +kernel
theorem dX3_digest_254 : decode cX3_digest 254 = .ok (.aload_n 0, 1) := by decide +kernel
theorem dX3_digest_255 : decode cX3_digest 255 = .ok (.iconst 3, 1) := by decide +kernel
theorem dX3_digest_256 : decode cX3_digest 256 = .ok (.iconst (-1), 1) := by decide +kernel
theorem dX3_digest_257 : decode cX3_digest 257 = .ok (.invokevirtual 274, 3) := by decide +kernel
theorem dX3_digest_260 : decode cX3_digest 260 = .ok (.i2l, 1) := by decide +kernel
theorem dX3_digest_261 : decode cX3_digest 261 = .ok (.invokestatic 236, 3) := by decide +kernel
theorem dX3_digest_264 : decode cX3_digest 264 = .ok (.lstore_n 1, 1) := by decide +kernel
theorem dX3_digest_265 : decode cX3_digest 265 = .ok (.lload_n 1, 1) := by decide +kernel
theorem dX3_digest_266 : decode cX3_digest 266 = .ok (.aload_n 0, 1) := by decide +kernel
theorem dX3_digest_267 : decode cX3_digest 267 = .ok (.iconst 3, 1) := by decide +kernel
theorem dX3_digest_268 : decode cX3_digest 268 = .ok (.iconst 0, 1) := by decide +kernel
theorem dX3_digest_269 : decode cX3_digest 269 = .ok (.invokevirtual 274, 3) := by decide +kernel
theorem dX3_digest_272 : decode cX3_digest 272 = .ok (.i2l, 1) := by decide +kernel
theorem dX3_digest_273 : decode cX3_digest 273 = .ok (.invokestatic 236, 3) := by decide +kernel
theorem dX3_digest_276 : decode cX3_digest 276 = .ok (.lstore_n 1, 1) := by decide +kernel
theorem dX3_digest_277 : decode cX3_digest 277 = .ok (.lload_n 1, 1) := by decide +kernel
theorem dX3_digest_278 : decode cX3_digest 278 = .ok (.aload_n 0, 1) := by decide +kernel
theorem dX3_digest_279 : decode cX3_digest 279 = .ok (.invokevirtual 277, 3) := by decide +kernel
theorem dX3_digest_282 : decode cX3_digest 282 = .ok (.i2l, 1) := by decide +kernel
theorem dX3_digest_283 : decode cX3_digest 283 = .ok (.invokestatic 236, 3) := by decide +kernel
theorem dX3_digest_286 : decode cX3_digest 286 = .ok (.lstore_n 1, 1) := by decide +kernel
theorem dX3_digest_287 : decode cX3_digest 287 = .ok (.lload_n 1, 1) := by decide +kernel
theorem dX3_digest_288 : decode cX3_digest 288 = .ok (.aload_n 0, 1) := by decide +kernel
theorem dX3_digest_289 : decode cX3_digest 289 = .ok (.invokevirtual 280, 3) := by decide +kernel
theorem dX3_digest_292 : decode cX3_digest 292 = .ok (.i2l, 1) := by decide +kernel
theorem dX3_digest_293 : decode cX3_digest 293 = .ok (.invokestatic 236, 3) := by decide +kernel
theorem dX3_digest_296 : decode cX3_digest 296 = .ok (.lstore_n 1, 1) := by decide +kernel
theorem dX3_digest_297 : decode cX3_digest 297 = .ok (.lload_n 1, 1) := by decide +kernel
theorem dX3_digest_298 : decode cX3_digest 298 = .ok (.aload_n 0, 1) := by decide +kernel
theorem dX3_digest_299 : decode cX3_digest 299 = .ok (.invokevirtual 283, 3) := by decide +kernel
theorem dX3_digest_302 : decode cX3_digest 302 = .ok (.i2l, 1) := by decide +kernel
theorem dX3_digest_303 : decode cX3_digest 303 = .ok (.invokestatic 236, 3) := by decide +kernel
theorem dX3_digest_306 : decode cX3_digest 306 = .ok (.lstore_n 1, 1) := by decide +kernel
theorem dX3_digest_307 : decode cX3_digest 307 = .ok (.lload_n 1, 1) := by decide +kernel
theorem dX3_digest_308 : decode cX3_digest 308 = .ok (.aload_n 0, 1) := by decide +kernel
theorem dX3_digest_309 : decode cX3_digest 309 = .ok (.iconst 1, 1) := by decide +kernel
theorem dX3_digest_310 : decode cX3_digest 310 = .ok (.invokevirtual 286, 3) := by decide +kernel
theorem dX3_digest_313 : decode cX3_digest 313 = .ok (.i2l, 1) := by decide +kernel
theorem dX3_digest_314 : decode cX3_digest 314 = .ok (.invokestatic 236, 3) := by decide +kernel
theorem dX3_digest_317 : decode cX3_digest 317 = .ok (.lstore_n 1, 1) := by decide +kernel
theorem dX3_digest_318 : decode cX3_digest 318 = .ok (.lload_n 1, 1) := by decide +kernel
theorem dX3_digest_319 : decode cX3_digest 319 = .ok (.aload_n 0, 1) := by decide +kernel
theorem dX3_digest_320 : decode cX3_digest 320 = .ok (.iconst 5, 1) := by decide +kernel
theorem dX3_digest_321 : decode cX3_digest 321 = .ok (.iconst 3, 1) := by decide +kernel
theorem dX3_digest_322 : decode cX3_digest 322 = .ok (.iconst 0, 1) := by decide +kernel
theorem dX3_digest_323 : decode cX3_digest 323 = .ok (.invokevirtual 289, 3) := by decide +kernel
theorem dX3_digest_326 : decode cX3_digest 326 = .ok (.invokestatic 236, 3) := by decide +kernel
theorem dX3_digest_329 : decode cX3_digest 329 = .ok (.lstore_n 1, 1) := by decide +kernel
theorem dX3_digest_330 : decode cX3_digest 330 = .ok (.lload_n 1, 1) := by decide +kernel
theorem dX3_digest_331 : decode cX3_digest 331 = .ok (.aload_n 0, 1) := by decide +kernel
theorem dX3_digest_332 : decode cX3_digest 332 = .ok (.iconst 5, 1) := by decide +kernel
theorem dX3_digest_333 : decode cX3_digest 333 = .ok (.iconst 3, 1) := by decide +kernel
theorem dX3_digest_334 : decode cX3_digest 334 = .ok (.iconst 1, 1) := by decide +kernel
theorem dX3_digest_335 : decode cX3_digest 335 = .ok (.invokevirtual 289, 3) := by decide +kernel
theorem dX3_digest_338 : decode cX3_digest 338 = .ok (.invokestatic 236, 3) := by decide +kernel
theorem dX3_digest_341 : decode cX3_digest 341 = .ok (.lstore_n 1, 1) := by decide +kernel
theorem dX3_digest_342 : decode cX3_digest 342 = .ok (.lload_n 1, 1) := by decide +kernel
theorem dX3_digest_343 : decode cX3_digest 343 = .ok (.aload_n 0, 1) := by decide +kernel
theorem dX3_digest_344 : decode cX3_digest 344 = .ok (.bipush 7, 2) := by decide +kernel
theorem dX3_digest_346 : decode cX3_digest 346 = .ok (.iconst 0, 1) := by decide +kernel
theorem dX3_digest_347 : decode cX3_digest 347 = .ok (.bipush 9, 2) := by decide +kernel
theorem dX3_digest_349 : decode cX3_digest 349 = .ok (.invokevirtual 293, 3) := by decide +kernel
theorem dX3_digest_352 : decode cX3_digest 352 = .ok (.i2l, 1) := by decide +kernel
theorem dX3_digest_353 : decode cX3_digest 353 = .ok (.invokestatic 236, 3) := by decide +kernel
theorem dX3_digest_356 : decode cX3_digest 356 = .ok (.lreturn, 1) := by decide +kernel
theorem dX3_mixed_0 : decode cX3_mixed 0 = .ok (.ldc2_w 296, 3) := by decide +kernel
theorem dX3_mixed_3 : decode cX3_mixed 3 = .ok (.lload_n 0, 1) := by decide +kernel
theorem dX3_mixed_4 : decode cX3_mixed 4 = .ok (.lmul, 1) := by decide +kernel
theorem dX3_mixed_5 : decode cX3_mixed 5 = .ok (.lload_n 2, 1) := by decide +kernel
theorem dX3_mixed_6 : decode cX3_mixed 6 = .ok (.ladd, 1) := by decide +kernel
theorem dX3_mixed_7 : decode cX3_mixed 7 = .ok (.lreturn, 1) := by decide +kernel
theorem dX3_renew_0 : decode cX3_renew 0 = .ok (.aload_n 0, 1) := by decide +kernel
theorem dX3_renew_1 : decode cX3_renew 1 = .ok (.getfield 39, 3) := by decide +kernel
theorem dX3_renew_4 : decode cX3_renew 4 = .ok (.aload_n 0, 1) := by decide +kernel
theorem dX3_renew_5 : decode cX3_renew 5 = .ok (.getfield 9, 3) := by decide +kernel
theorem dX3_renew_8 : decode cX3_renew 8 = .ok (.aload_n 0, 1) := by decide +kernel
theorem dX3_renew_9 : decode cX3_renew 9 = .ok (.getfield 55, 3) := by decide +kernel
theorem dX3_renew_12 : decode cX3_renew 12 = .ok (.aload_n 0, 1) := by decide +kernel
theorem dX3_renew_13 : decode cX3_renew 13 = .ok (.getfield 13, 3) := by decide +kernel
theorem dX3_renew_16 : decode cX3_renew 16 = .ok (.invokevirtual 298, 3) := by decide +kernel
theorem dX3_renew_19 : decode cX3_renew 19 = .ok (.aload_n 0, 1) := by decide +kernel
theorem dX3_renew_20 : decode cX3_renew 20 = .ok (.getfield 48, 3) := by decide +kernel
theorem dX3_renew_23 : decode cX3_renew 23 = .ok (.aload_n 0, 1) := by decide +kernel
theorem dX3_renew_24 : decode cX3_renew 24 = .ok (.getfield 17, 3) := by decide +kernel
theorem dX3_renew_27 : decode cX3_renew 27 = .ok (.invokevirtual 302, 3) := by decide +kernel
theorem dX3_renew_30 : decode cX3_renew 30 = .ok (.return_, 1) := by decide +kernel
theorem dX3_isThing_0 : decode cX3_isThing 0 = .ok (.iload_n 1, 1) := by decide +kernel
theorem dX3_isThing_1 : decode cX3_isThing 1 = .ok (.ifCond .lt 21, 3) := by decide +kernel
theorem dX3_isThing_4 : decode cX3_isThing 4 = .ok (.iload_n 1, 1) := by decide +kernel
theorem dX3_isThing_5 : decode cX3_isThing 5 = .ok (.aload_n 0, 1) := by decide +kernel
theorem dX3_isThing_6 : decode cX3_isThing 6 = .ok (.getfield 87, 3) := by decide +kernel
theorem dX3_isThing_9 : decode cX3_isThing 9 = .ok (.if_icmp .ge 13, 3) := by decide +kernel
theorem dX3_isThing_12 : decode cX3_isThing 12 = .ok (.iload_n 1, 1) := by decide +kernel
theorem dX3_isThing_13 : decode cX3_isThing 13 = .ok (.bipush 8, 2) := by decide +kernel
theorem dX3_isThing_15 : decode cX3_isThing 15 = .ok (.if_icmp .ge 7, 3) := by decide +kernel
theorem dX3_isThing_18 : decode cX3_isThing 18 = .ok (.iconst 1, 1) := by decide +kernel
theorem dX3_isThing_19 : decode cX3_isThing 19 = .ok (.goto 4, 3) := by decide +kernel
theorem dX3_isThing_22 : decode cX3_isThing 22 = .ok (.iconst 0, 1) := by decide +kernel
theorem dX3_isThing_23 : decode cX3_isThing 23 = .ok (.ireturn, 1) := by decide +kernel
theorem dX3_isStep_0 : decode cX3_isStep 0 = .ok (.iload_n 0, 1) := by decide +kernel
theorem dX3_isStep_1 : decode cX3_isStep 1 = .ok (.ifCond .lt 13, 3) := by decide +kernel
theorem dX3_isStep_4 : decode cX3_isStep 4 = .ok (.iload_n 0, 1) := by decide +kernel
theorem dX3_isStep_5 : decode cX3_isStep 5 = .ok (.bipush 100, 2) := by decide +kernel
theorem dX3_isStep_7 : decode cX3_isStep 7 = .ok (.if_icmp .ge 7, 3) := by decide +kernel
theorem dX3_isStep_10 : decode cX3_isStep 10 = .ok (.iconst 1, 1) := by decide +kernel
theorem dX3_isStep_11 : decode cX3_isStep 11 = .ok (.goto 4, 3) := by decide +kernel
theorem dX3_isStep_14 : decode cX3_isStep 14 = .ok (.iconst 0, 1) := by decide +kernel
theorem dX3_isStep_15 : decode cX3_isStep 15 = .ok (.ireturn, 1) := by decide +kernel
theorem dX3_isSheet_0 : decode cX3_isSheet 0 = .ok (.iload_n 0, 1) := by decide +kernel
theorem dX3_isSheet_1 : decode cX3_isSheet 1 = .ok (.ifCond .lt 12, 3) := by decide +kernel
theorem dX3_isSheet_4 : decode cX3_isSheet 4 = .ok (.iload_n 0, 1) := by decide +kernel
theorem dX3_isSheet_5 : decode cX3_isSheet 5 = .ok (.iconst 4, 1) := by decide +kernel
theorem dX3_isSheet_6 : decode cX3_isSheet 6 = .ok (.if_icmp .ge 7, 3) := by decide +kernel
theorem dX3_isSheet_9 : decode cX3_isSheet 9 = .ok (.iconst 1, 1) := by decide +kernel
theorem dX3_isSheet_10 : decode cX3_isSheet 10 = .ok (.goto 4, 3) := by decide +kernel
theorem dX3_isSheet_13 : decode cX3_isSheet 13 = .ok (.iconst 0, 1) := by decide +kernel
theorem dX3_isSheet_14 : decode cX3_isSheet 14 = .ok (.ireturn, 1) := by decide +kernel
theorem dX3_isForm_0 : decode cX3_isForm 0 = .ok (.iload_n 0, 1) := by decide +kernel
theorem dX3_isForm_1 : decode cX3_isForm 1 = .ok (.ifCond .lt 12, 3) := by decide +kernel
theorem dX3_isForm_4 : decode cX3_isForm 4 = .ok (.iload_n 0, 1) := by decide +kernel
theorem dX3_isForm_5 : decode cX3_isForm 5 = .ok (.iconst 2, 1) := by decide +kernel
theorem dX3_isForm_6 : decode cX3_isForm 6 = .ok (.if_icmp .gt 7, 3) := by decide +kernel
theorem dX3_isForm_9 : decode cX3_isForm 9 = .ok (.iconst 1, 1) := by decide +kernel
theorem dX3_isForm_10 : decode cX3_isForm 10 = .ok (.goto 4, 3) := by decide +kernel
theorem dX3_isForm_13 : decode cX3_isForm 13 = .ok (.iconst 0, 1) := by decide +kernel
theorem dX3_isForm_14 : decode cX3_isForm 14 = .ok (.ireturn, 1) := by decide +kernel
theorem dX3_found_0 : decode cX3_found 0 = .ok (.aload_n 0, 1) := by decide +kernel
theorem dX3_found_1 : decode cX3_found 1 = .ok (.iload_n 1, 1) := by decide +kernel
theorem dX3_found_2 : decode cX3_found 2 = .ok (.putfield 228, 3) := by decide +kernel
theorem dX3_found_5 : decode cX3_found 5 = .ok (.bipush (-10), 2) := by decide +kernel
theorem dX3_found_7 : decode cX3_found 7 = .ok (.iload_n 1, 1) := by decide +kernel
theorem dX3_found_8 : decode cX3_found 8 = .ok (.isub, 1) := by decide +kernel
theorem dX3_found_9 : decode cX3_found 9 = .ok (.ireturn, 1) := by decide +kernel
theorem dX3_refusalOfItem_0 : decode cX3_refusalOfItem 0 = .ok (.iload_n 1, 1) := by decide +kernel
theorem dX3_refusalOfItem_1 : decode cX3_refusalOfItem 1 = .ok (.invokestatic 90, 3) := by decide +kernel
theorem dX3_refusalOfItem_4 : decode cX3_refusalOfItem 4 = .ok (.ifCond .eq 10, 3) := by decide +kernel
theorem dX3_refusalOfItem_7 : decode cX3_refusalOfItem 7 = .ok (.iload_n 2, 1) := by decide +kernel
theorem dX3_refusalOfItem_8 : decode cX3_refusalOfItem 8 = .ok (.invokestatic 198, 3) := by decide +kernel
theorem dX3_refusalOfItem_11 : decode cX3_refusalOfItem 11 = .ok (.ifCond .ne 6, 3) := by decide +kernel
theorem dX3_refusalOfItem_14 : decode cX3_refusalOfItem 14 = .ok (.bipush (-2), 2) := by decide +kernel
theorem dX3_refusalOfItem_16 : decode cX3_refusalOfItem 16 = .ok (.ireturn, 1) := by decide +kernel
theorem dX3_refusalOfItem_17 : decode cX3_refusalOfItem 17 = .ok (.aload_n 0, 1) := by decide +kernel
theorem dX3_refusalOfItem_18 : decode cX3_refusalOfItem 18 = .ok (.getfield 31, 3) := by decide +kernel
theorem dX3_refusalOfItem_21 : decode cX3_refusalOfItem 21 = .ok (.iload_n 1, 1) := by decide +kernel
theorem dX3_refusalOfItem_22 : decode cX3_refusalOfItem 22 = .ok (.aaload, 1) := by decide +kernel
theorem dX3_refusalOfItem_23 : decode cX3_refusalOfItem 23 = .ok (.getfield 93, 3) := by decide +kernel
theorem dX3_refusalOfItem_26 : decode cX3_refusalOfItem 26 = .ok (.ifCond .eq 9, 3) := by decide +kernel
theorem dX3_refusalOfItem_29 : decode cX3_refusalOfItem 29 = .ok (.aload_n 0, 1) := by decide +kernel
theorem dX3_refusalOfItem_30 : decode cX3_refusalOfItem 30 = .ok (.iconst 1, 1) := by decide +kernel
theorem dX3_refusalOfItem_31 : decode cX3_refusalOfItem 31 = .ok (.invokevirtual 97, 3) := by decide +kernel
theorem dX3_refusalOfItem_34 : decode cX3_refusalOfItem 34 = .ok (.ireturn, 1) := by decide +kernel
theorem dX3_refusalOfItem_35 : decode cX3_refusalOfItem 35 = .ok (.aload_n 0, 1) := by decide +kernel
theorem dX3_refusalOfItem_36 : decode cX3_refusalOfItem 36 = .ok (.getfield 31, 3) := by decide +kernel
theorem dX3_refusalOfItem_39 : decode cX3_refusalOfItem 39 = .ok (.iload_n 1, 1) := by decide +kernel
theorem dX3_refusalOfItem_40 : decode cX3_refusalOfItem 40 = .ok (.aaload, 1) := by decide +kernel
theorem dX3_refusalOfItem_41 : decode cX3_refusalOfItem 41 = .ok (.getfield 212, 3) := by decide +kernel
theorem dX3_refusalOfItem_44 : decode cX3_refusalOfItem 44 = .ok (.iload_n 2, 1) := by decide +kernel
theorem dX3_refusalOfItem_45 : decode cX3_refusalOfItem 45 = .ok (.if_icmp .eq 9, 3) := by decide +kernel
theorem dX3_refusalOfItem_48 : decode cX3_refusalOfItem 48 = .ok (.aload_n 0, 1) := by decide +kernel
theorem dX3_refusalOfItem_49 : decode cX3_refusalOfItem 49 = .ok (.iconst 3, 1) := by decide +kernel
theorem dX3_refusalOfItem_50 : decode cX3_refusalOfItem 50 = .ok (.invokevirtual 97, 3) := by decide +kernel
theorem dX3_refusalOfItem_53 : decode cX3_refusalOfItem 53 = .ok (.ireturn, 1) := by decide +kernel
theorem dX3_refusalOfItem_54 : decode cX3_refusalOfItem 54 = .ok (.aload_n 0, 1) := by decide +kernel
theorem dX3_refusalOfItem_55 : decode cX3_refusalOfItem 55 = .ok (.getfield 31, 3) := by decide +kernel
theorem dX3_refusalOfItem_58 : decode cX3_refusalOfItem 58 = .ok (.iload_n 1, 1) := by decide +kernel
theorem dX3_refusalOfItem_59 : decode cX3_refusalOfItem 59 = .ok (.aaload, 1) := by decide +kernel
theorem dX3_refusalOfItem_60 : decode cX3_refusalOfItem 60 = .ok (.iload_n 3, 1) := by decide +kernel
theorem dX3_refusalOfItem_61 : decode cX3_refusalOfItem 61 = .ok (.iconst 1, 1) := by decide +kernel
theorem dX3_refusalOfItem_62 : decode cX3_refusalOfItem 62 = .ok (.invokevirtual 215, 3) := by decide +kernel
theorem dX3_refusalOfItem_65 : decode cX3_refusalOfItem 65 = .ok (.ifCond .eq 7, 3) := by decide +kernel
theorem dX3_refusalOfItem_68 : decode cX3_refusalOfItem 68 = .ok (.iconst 0, 1) := by decide +kernel
theorem dX3_refusalOfItem_69 : decode cX3_refusalOfItem 69 = .ok (.goto 8, 3) := by decide +kernel
theorem dX3_refusalOfItem_72 : decode cX3_refusalOfItem 72 = .ok (.aload_n 0, 1) := by decide +kernel
theorem dX3_refusalOfItem_73 : decode cX3_refusalOfItem 73 = .ok (.iconst 2, 1) := by decide +kernel
theorem dX3_refusalOfItem_74 : decode cX3_refusalOfItem 74 = .ok (.invokevirtual 97, 3) := by decide +kernel
theorem dX3_refusalOfItem_77 : decode cX3_refusalOfItem 77 = .ok (.ireturn, 1) := by decide +kernel
theorem dX3_middlesUpAt_0 : decode cX3_middlesUpAt 0 = .ok (.bipush 63, 2) := by decide +kernel
theorem dX3_middlesUpAt_2 : decode cX3_middlesUpAt 2 = .ok (.iconst 2, 1) := by decide +kernel
theorem dX3_middlesUpAt_3 : decode cX3_middlesUpAt 3 = .ok (.iload_n 0, 1) := by decide +kernel
theorem dX3_middlesUpAt_4 : decode cX3_middlesUpAt 4 = .ok (.ishl, 1) := by decide +kernel
theorem dX3_middlesUpAt_5 : decode cX3_middlesUpAt 5 = .ok (.iconst 1, 1) := by decide +kernel
theorem dX3_middlesUpAt_6 : decode cX3_middlesUpAt 6 = .ok (.isub, 1) := by decide +kernel
theorem dX3_middlesUpAt_7 : decode cX3_middlesUpAt 7 = .ok (.iconst (-1), 1) := by decide +kernel
theorem dX3_middlesUpAt_8 : decode cX3_middlesUpAt 8 = .ok (.ixor, 1) := by decide +kernel
theorem dX3_middlesUpAt_9 : decode cX3_middlesUpAt 9 = .ok (.iand, 1) := by decide +kernel
theorem dX3_middlesUpAt_10 : decode cX3_middlesUpAt 10 = .ok (.ireturn, 1) := by decide +kernel
theorem dX3_asNumber_0 : decode cX3_asNumber 0 = .ok (.iload_n 0, 1) := by decide +kernel
theorem dX3_asNumber_1 : decode cX3_asNumber 1 = .ok (.ifCond .eq 7, 3) := by decide +kernel
theorem dX3_asNumber_4 : decode cX3_asNumber 4 = .ok (.iconst 1, 1) := by decide +kernel
theorem dX3_asNumber_5 : decode cX3_asNumber 5 = .ok (.goto 4, 3) := by decide +kernel
theorem dX3_asNumber_8 : decode cX3_asNumber 8 = .ok (.iconst 0, 1) := by decide +kernel
theorem dX3_asNumber_9 : decode cX3_asNumber 9 = .ok (.ireturn, 1) := by decide +kernel
theorem dX3_bit_0 : decode cX3_bit 0 = .ok (.lconst 1, 1) := by decide +kernel
theorem dX3_bit_1 : decode cX3_bit 1 = .ok (.iload_n 0, 1) := by decide +kernel
theorem dX3_bit_2 : decode cX3_bit 2 = .ok (.lshl, 1) := by decide +kernel
theorem dX3_bit_3 : decode cX3_bit 3 = .ok (.lreturn, 1) := by decide +kernel
theorem dX3_has_0 : decode cX3_has 0 = .ok (.iload_n 2, 1) := by decide +kernel
theorem dX3_has_1 : decode cX3_has 1 = .ok (.ifCond .lt 23, 3) := by decide +kernel
theorem dX3_has_4 : decode cX3_has 4 = .ok (.iload_n 2, 1) := by decide +kernel
theorem dX3_has_5 : decode cX3_has 5 = .ok (.bipush 35, 2) := by decide +kernel
theorem dX3_has_7 : decode cX3_has 7 = .ok (.if_icmp .ge 17, 3) := by decide +kernel
theorem dX3_has_10 : decode cX3_has 10 = .ok (.lload_n 0, 1) := by decide +kernel
theorem dX3_has_11 : decode cX3_has 11 = .ok (.iload_n 2, 1) := by decide +kernel
theorem dX3_has_12 : decode cX3_has 12 = .ok (.lushr, 1) := by decide +kernel
theorem dX3_has_13 : decode cX3_has 13 = .ok (.lconst 1, 1) := by decide +kernel
theorem dX3_has_14 : decode cX3_has 14 = .ok (.land, 1) := by decide +kernel
theorem dX3_has_15 : decode cX3_has 15 = .ok (.lconst 0, 1) := by decide +kernel
theorem dX3_has_16 : decode cX3_has 16 = .ok (.lcmp, 1) := by decide +kernel
theorem dX3_has_17 : decode cX3_has 17 = .ok (.ifCond .eq 7, 3) := by decide +kernel
theorem dX3_has_20 : decode cX3_has 20 = .ok (.iconst 1, 1) := by decide +kernel
theorem dX3_has_21 : decode cX3_has 21 = .ok (.goto 4, 3) := by decide +kernel
theorem dX3_has_24 : decode cX3_has 24 = .ok (.iconst 0, 1) := by decide +kernel
theorem dX3_has_25 : decode cX3_has 25 = .ok (.ireturn, 1) := by decide +kernel
theorem dX3_sizeOrItem_0 : decode cX3_sizeOrItem 0 = .ok (.iload_n 2, 1) := by decide +kernel
theorem dX3_sizeOrItem_1 : decode cX3_sizeOrItem 1 = .ok (.iconst (-1), 1) := by decide +kernel
theorem dX3_sizeOrItem_2 : decode cX3_sizeOrItem 2 = .ok (.if_icmp .ne 8, 3) := by decide +kernel
theorem dX3_sizeOrItem_5 : decode cX3_sizeOrItem 5 = .ok (.lload_n 0, 1) := by decide +kernel
theorem dX3_sizeOrItem_6 : decode cX3_sizeOrItem 6 = .ok (.invokestatic 179, 3) := by decide +kernel
theorem dX3_sizeOrItem_9 : decode cX3_sizeOrItem 9 = .ok (.ireturn, 1) := by decide +kernel
theorem dX3_sizeOrItem_10 : decode cX3_sizeOrItem 10 = .ok (.iconst 0, 1) := by decide +kernel
theorem dX3_sizeOrItem_11 : decode cX3_sizeOrItem 11 = .ok (.istore_n 3, 1) := by decide +kernel
theorem dX3_sizeOrItem_12 : decode cX3_sizeOrItem 12 = .ok (.iconst 0, 1) := by decide +kernel
theorem dX3_sizeOrItem_13 : decode cX3_sizeOrItem 13 = .ok (.istore 4, 2) := by decide +kernel
theorem dX3_sizeOrItem_15 : decode cX3_sizeOrItem 15 = .ok (.iload 4, 2) := by decide +kernel
theorem dX3_sizeOrItem_17 : decode cX3_sizeOrItem 17 = .ok (.bipush 35, 2) := by decide +kernel
theorem dX3_sizeOrItem_19 : decode cX3_sizeOrItem 19 = .ok (.if_icmp .ge 29, 3) := by decide +kernel
theorem dX3_sizeOrItem_22 : decode cX3_sizeOrItem 22 = .ok (.lload_n 0, 1) := by decide +kernel
theorem dX3_sizeOrItem_23 : decode cX3_sizeOrItem 23 = .ok (.iload 4, 2) := by decide +kernel
theorem dX3_sizeOrItem_25 : decode cX3_sizeOrItem 25 = .ok (.invokestatic 76, 3) := by decide +kernel
theorem dX3_sizeOrItem_28 : decode cX3_sizeOrItem 28 = .ok (.ifCond .eq 14, 3) := by decide +kernel
theorem dX3_sizeOrItem_31 : decode cX3_sizeOrItem 31 = .ok (.iload_n 3, 1) := by decide +kernel
theorem dX3_sizeOrItem_32 : decode cX3_sizeOrItem 32 = .ok (.iload_n 2, 1) := by decide +kernel
theorem dX3_sizeOrItem_33 : decode cX3_sizeOrItem 33 = .ok (.if_icmp .ne 6, 3) := by decide +kernel
theorem dX3_sizeOrItem_36 : decode cX3_sizeOrItem 36 = .ok (.iload 4, 2) := by decide +kernel
theorem dX3_sizeOrItem_38 : decode cX3_sizeOrItem 38 = .ok (.ireturn, 1) := by decide +kernel
theorem dX3_sizeOrItem_39 : decode cX3_sizeOrItem 39 = .ok (.iinc 3 1, 3) := by decide +kernel
theorem dX3_sizeOrItem_42 : decode cX3_sizeOrItem 42 = .ok (.iinc 4 1, 3) := by decide +kernel
theorem dX3_sizeOrItem_45 : decode cX3_sizeOrItem 45 = .ok (.goto (-30), 3) := by decide +kernel
theorem dX3_sizeOrItem_48 : decode cX3_sizeOrItem 48 = .ok (.iconst (-1), 1) := by decide +kernel
theorem dX3_sizeOrItem_49 : decode cX3_sizeOrItem 49 = .ok (.ireturn, 1) := by decide +kernel
theorem dX4_init_0 : decode cX4_init 0 = .ok (.aload_n 0, 1) := by decide +kernel
theorem dX4_init_1 : decode cX4_init 1 = .ok (.invokespecial 1, 3) := by decide +kernel
theorem dX4_init_4 : decode cX4_init 4 = .ok (.aload_n 0, 1) := by decide +kernel
theorem dX4_init_5 : decode cX4_init 5 = .ok (.bipush 39, 2) := by decide +kernel
theorem dX4_init_7 : decode cX4_init 7 = .ok (.newarray .int, 2) := by decide +kernel
theorem dX4_init_9 : decode cX4_init 9 = .ok (.putfield 7, 3) := by decide +kernel
theorem dX4_init_12 : decode cX4_init 12 = .ok (.aload_n 0, 1) := by decide +kernel
theorem dX4_init_13 : decode cX4_init 13 = .ok (.bipush 36, 2) := by decide +kernel
theorem dX4_init_15 : decode cX4_init 15 = .ok (.newarray .int, 2) := by decide +kernel
theorem dX4_init_17 : decode cX4_init 17 = .ok (.putfield 13, 3) := by decide +kernel
theorem dX4_init_20 : decode cX4_init 20 = .ok (.aload_n 0, 1) := by decide +kernel
theorem dX4_init_21 : decode cX4_init 21 = .ok (.bipush 8, 2) := by decide +kernel
theorem dX4_init_23 : decode cX4_init 23 = .ok (.newarray .int, 2) := by decide +kernel
theorem dX4_init_25 : decode cX4_init 25 = .ok (.putfield 16, 3) := by decide +kernel
theorem dX4_init_28 : decode cX4_init 28 = .ok (.aload_n 0, 1) := by decide +kernel
theorem dX4_init_29 : decode cX4_init 29 = .ok (.bipush 8, 2) := by decide +kernel
theorem dX4_init_31 : decode cX4_init 31 = .ok (.newarray .int, 2) := by decide +kernel
theorem dX4_init_33 : decode cX4_init 33 = .ok (.putfield 19, 3) := by decide +kernel
theorem dX4_init_36 : decode cX4_init 36 = .ok (.aload_n 0, 1) := by decide +kernel
theorem dX4_init_37 : decode cX4_init 37 = .ok (.bipush 36, 2) := by decide +kernel
theorem dX4_init_39 : decode cX4_init 39 = .ok (.newarray .int, 2) := by decide +kernel
theorem dX4_init_41 : decode cX4_init 41 = .ok (.putfield 22, 3) := by decide +kernel
theorem dX4_init_44 : decode cX4_init 44 = .ok (.aload_n 0, 1) := by decide +kernel
theorem dX4_init_45 : decode cX4_init 45 = .ok (.bipush 36, 2) := by decide +kernel
theorem dX4_init_47 : decode cX4_init 47 = .ok (.newarray .boolean, 2) := by decide +kernel
theorem dX4_init_49 : decode cX4_init 49 = .ok (.putfield 25, 3) := by decide +kernel
theorem dX4_init_52 : decode cX4_init 52 = .ok (.aload_n 0, 1) := by decide +kernel
theorem dX4_init_53 : decode cX4_init 53 = .ok (.bipush 36, 2) := by decide +kernel
theorem dX4_init_55 : decode cX4_init 55 = .ok (.newarray .boolean, 2) := by decide +kernel
theorem dX4_init_57 : decode cX4_init 57 = .ok (.putfield 29, 3) := by decide +kernel
theorem dX4_init_60 : decode cX4_init 60 = .ok (.aload_n 0, 1) := by decide +kernel
theorem dX4_init_61 : decode cX4_init 61 = .ok (.iconst 2, 1) := by decide +kernel
theorem dX4_init_62 : decode cX4_init 62 = .ok (.newarray .int, 2) := by decide +kernel
theorem dX4_init_64 : decode cX4_init 64 = .ok (.putfield 32, 3) := by decide +kernel
theorem dX4_init_67 : decode cX4_init 67 = .ok (.aload_n 0, 1) := by decide +kernel
theorem dX4_init_68 : decode cX4_init 68 = .ok (.bipush 8, 2) := by decide +kernel
theorem dX4_init_70 : decode cX4_init 70 = .ok (.newarray .int, 2) := by decide +kernel
theorem dX4_init_72 : decode cX4_init 72 = .ok (.putfield 35, 3) := by decide +kernel
theorem dX4_init_75 : decode cX4_init 75 = .ok (.aload_n 0, 1) := by decide +kernel
theorem dX4_init_76 : decode cX4_init 76 = .ok (.bipush 8, 2) := by decide +kernel
theorem dX4_init_78 : decode cX4_init 78 = .ok (.newarray .int, 2) := by decide +kernel
theorem dX4_init_80 : decode cX4_init 80 = .ok (.putfield 38, 3) := by decide +kernel
theorem dX4_init_83 : decode cX4_init 83 = .ok (.aload_n 0, 1) := by decide +kernel
theorem dX4_init_84 : decode cX4_init 84 = .ok (.iconst 4, 1) := by decide +kernel
theorem dX4_init_85 : decode cX4_init 85 = .ok (.newarray .boolean, 2) := by decide +kernel
theorem dX4_init_87 : decode cX4_init 87 = .ok (.putfield 41, 3) := by decide +kernel
theorem dX4_init_90 : decode cX4_init 90 = .ok (.aload_n 0, 1) := by decide +kernel
theorem dX4_init_91 : decode cX4_init 91 = .ok (.iconst 4, 1) := by decide +kernel
theorem dX4_init_92 : decode cX4_init 92 = .ok (.newarray .int, 2) := by decide +kernel
theorem dX4_init_94 : decode cX4_init 94 = .ok (.putfield 44, 3) := by decide +kernel
theorem dX4_init_97 : decode cX4_init 97 = .ok (.aload_n 0, 1) := by decide +kernel
theorem dX4_init_98 : decode cX4_init 98 = .ok (.iconst 4, 1) := by decide +kernel
theorem dX4_init_99 : decode cX4_init 99 = .ok (.newarray .int, 2) := by decide +kernel
theorem dX4_init_101 : decode cX4_init 101 = .ok (.putfield 47, 3) := by decide +kernel
theorem dX4_init_104 : decode cX4_init 104 = .ok (.aload_n 0, 1) := by decide +kernel
theorem dX4_init_105 : decode cX4_init 105 = .ok (.sipush 192, 3) := by decide +kernel
theorem dX4_init_108 : decode cX4_init 108 = .ok (.newarray .int, 2) := by decide +kernel
theorem dX4_init_110 : decode cX4_init 110 = .ok (.putfield 50, 3) := by decide +kernel
theorem dX4_init_113 : decode cX4_init 113 = .ok (.aload_n 0, 1) := by decide +kernel
theorem dX4_init_114 : decode cX4_init 114 = .ok (.bipush 48, 2) := by decide +kernel
theorem dX4_init_116 : decode cX4_init 116 = .ok (.newarray .int, 2) := by decide +kernel
theorem dX4_init_118 : decode cX4_init 118 = .ok (.putfield 53, 3) := by decide +kernel
theorem dX4_init_121 : decode cX4_init 121 = .ok (.aload_n 0, 1) := by decide +kernel
theorem dX4_init_122 : decode cX4_init 122 = .ok (.iconst 2, 1) := by decide +kernel
theorem dX4_init_123 : decode cX4_init 123 = .ok (.putfield 56, 3) := by decide +kernel
theorem dX4_init_126 : decode cX4_init 126 = .ok (.aload_n 0, 1) := by decide +kernel
theorem dX4_init_127 : decode cX4_init 127 = .ok (.iconst 2, 1) := by decide +kernel
theorem dX4_init_128 : decode cX4_init 128 = .ok (.putfield 60, 3) := by decide +kernel
theorem dX4_init_131 : decode cX4_init 131 = .ok (.return_, 1) := by decide +kernel
theorem dX4_in_0 : decode cX4_in 0 = .ok (.iload_n 0, 1) := by decide +kernel
theorem dX4_in_1 : decode cX4_in 1 = .ok (.iload_n 1, 1) := by decide +kernel
theorem dX4_in_2 : decode cX4_in 2 = .ok (.if_icmp .lt 12, 3) := by decide +kernel
theorem dX4_in_5 : decode cX4_in 5 = .ok (.iload_n 0, 1) := by decide +kernel
theorem dX4_in_6 : decode cX4_in 6 = .ok (.iload_n 2, 1) := by decide +kernel
theorem dX4_in_7 : decode cX4_in 7 = .ok (.if_icmp .gt 7, 3) := by decide +kernel
theorem dX4_in_10 : decode cX4_in 10 = .ok (.iconst 1, 1) := by decide +kernel
theorem dX4_in_11 : decode cX4_in 11 = .ok (.goto 4, 3) := by decide +kernel
theorem dX4_in_14 : decode cX4_in 14 = .ok (.iconst 0, 1) := by decide +kernel
theorem dX4_in_15 : decode cX4_in 15 = .ok (.ireturn, 1) := by decide +kernel
theorem dX4_isIn_0 : decode cX4_isIn 0 = .ok (.iload_n 0, 1) := by decide +kernel
theorem dX4_isIn_1 : decode cX4_isIn 1 = .ok (.iload_n 1, 1) := by decide +kernel
theorem dX4_isIn_2 : decode cX4_isIn 2 = .ok (.ishr, 1) := by decide +kernel
theorem dX4_isIn_3 : decode cX4_isIn 3 = .ok (.iconst 1, 1) := by decide +kernel
theorem dX4_isIn_4 : decode cX4_isIn 4 = .ok (.iand, 1) := by decide +kernel
theorem dX4_isIn_5 : decode cX4_isIn 5 = .ok (.iconst 1, 1) := by decide +kernel
theorem dX4_isIn_6 : decode cX4_isIn 6 = .ok (.if_icmp .ne 7, 3) := by decide +kernel
theorem dX4_isIn_9 : decode cX4_isIn 9 = .ok (.iconst 1, 1) := by decide +kernel
theorem dX4_isIn_10 : decode cX4_isIn 10 = .ok (.goto 4, 3) := by decide +kernel
theorem dX4_isIn_13 : decode cX4_isIn 13 = .ok (.iconst 0, 1) := by decide +kernel
theorem dX4_isIn_14 : decode cX4_isIn 14 = .ok (.ireturn, 1) := by decide +kernel
theorem dX4_no_0 : decode cX4_no 0 = .ok (.ldc2_w 63, 3) := by decide +kernel
theorem dX4_no_3 : decode cX4_no 3 = .ok (.iload_n 0, 1) := by decide +kernel
theorem dX4_no_4 : decode cX4_no 4 = .ok (.i2l, 1) := by decide +kernel
theorem dX4_no_5 : decode cX4_no 5 = .ok (.lsub, 1) := by decide +kernel
theorem dX4_no_6 : decode cX4_no 6 = .ok (.lreturn, 1) := by decide +kernel
theorem dX4_lowest_0 : decode cX4_lowest 0 = .ok (.lload_n 0, 1) := by decide +kernel
theorem dX4_lowest_1 : decode cX4_lowest 1 = .ok (.lstore 5, 2) := by decide +kernel
theorem dX4_lowest_3 : decode cX4_lowest 3 = .ok (.lload_n 2, 1) := by decide +kernel
theorem dX4_lowest_4 : decode cX4_lowest 4 = .ok (.lstore 7, 2) := by decide +kernel
theorem dX4_lowest_6 : decode cX4_lowest 6 = .ok (.lload 7, 2) := by decide +kernel
theorem dX4_lowest_8 : decode cX4_lowest 8 = .ok (.lconst 0, 1) := by decide +kernel
theorem dX4_lowest_9 : decode cX4_lowest 9 = .ok (.lcmp, 1) := by decide +kernel
theorem dX4_lowest_10 : decode cX4_lowest 10 = .ok (.ifCond .eq 21, 3) := by decide +kernel
theorem dX4_lowest_13 : decode cX4_lowest 13 = .ok (.lload 5, 2) := by decide +kernel
theorem dX4_lowest_15 : decode cX4_lowest 15 = .ok (.lload 7, 2) := by decide +kernel
theorem dX4_lowest_17 : decode cX4_lowest 17 = .ok (.lrem, 1) := by decide +kernel
theorem dX4_lowest_18 : decode cX4_lowest 18 = .ok (.lstore 9, 2) := by decide +kernel
theorem dX4_lowest_20 : decode cX4_lowest 20 = .ok (.lload 7, 2) := by decide +kernel
theorem dX4_lowest_22 : decode cX4_lowest 22 = .ok (.lstore 5, 2) := by decide +kernel
theorem dX4_lowest_24 : decode cX4_lowest 24 = .ok (.lload 9, 2) := by decide +kernel
theorem dX4_lowest_26 : decode cX4_lowest 26 = .ok (.lstore 7, 2) := by decide +kernel
theorem dX4_lowest_28 : decode cX4_lowest 28 = .ok (.goto (-22), 3) := by decide +kernel
theorem dX4_lowest_31 : decode cX4_lowest 31 = .ok (.iload 4, 2) := by decide +kernel
theorem dX4_lowest_33 : decode cX4_lowest 33 = .ok (.ifCond .ne 10, 3) := by decide +kernel
theorem dX4_lowest_36 : decode cX4_lowest 36 = .ok (.lload_n 0, 1) := by decide +kernel
theorem dX4_lowest_37 : decode cX4_lowest 37 = .ok (.lload 5, 2) := by decide +kernel
theorem dX4_lowest_39 : decode cX4_lowest 39 = .ok (.ldiv, 1) := by decide +kernel
theorem dX4_lowest_40 : decode cX4_lowest 40 = .ok (.goto 7, 3) := by decide +kernel
theorem dX4_lowest_43 : decode cX4_lowest 43 = .ok (.lload_n 2, 1) := by decide +kernel
theorem dX4_lowest_44 : decode cX4_lowest 44 = .ok (.lload 5, 2) := by decide +kernel
theorem dX4_lowest_46 : decode cX4_lowest 46 = .ok (.ldiv, 1) := by decide +kernel
theorem dX4_lowest_47 : decode cX4_lowest 47 = .ok (.lreturn, 1) := by decide +kernel
theorem dX4_type_0 : decode cX4_type 0 = .ok (.iload_n 1, 1) := by decide +kernel
theorem dX4_type_1 : decode cX4_type 1 = .ok (.iconst 0, 1) := by decide +kernel
theorem dX4_type_2 : decode cX4_type 2 = .ok (.sipush 255, 3) := by decide +kernel
theorem dX4_type_5 : decode cX4_type 5 = .ok (.invokestatic 65, 3) := by decide +kernel
theorem dX4_type_8 : decode cX4_type 8 = .ok (.ifCond .ne 6, 3) := by decide +kernel
theorem dX4_type_11 : decode cX4_type 11 = .ok (.bipush (-2), 2) := by decide +kernel
theorem dX4_type_13 : decode cX4_type 13 = .ok (.ireturn, 1) := by decide +kernel
theorem dX4_type_14 : decode cX4_type 14 = .ok (.aload_n 0, 1) := by decide +kernel
theorem dX4_type_15 : decode cX4_type 15 = .ok (.getfield 69, 3) := by decide +kernel
theorem dX4_type_18 : decode cX4_type 18 = .ok (.bipush 39, 2) := by decide +kernel
theorem dX4_type_20 : decode cX4_type 20 = .ok (.if_icmp .ne 6, 3) := by decide +kernel
theorem dX4_type_23 : decode cX4_type 23 = .ok (.bipush (-4), 2) := by decide +kernel
theorem dX4_type_25 : decode cX4_type 25 = .ok (.ireturn, 1) := by decide +kernel
theorem dX4_type_26 : decode cX4_type 26 = .ok (.aload_n 0, 1) := by decide +kernel
theorem dX4_type_27 : decode cX4_type 27 = .ok (.getfield 7, 3) := by decide +kernel
theorem dX4_type_30 : decode cX4_type 30 = .ok (.aload_n 0, 1) := by decide +kernel
theorem dX4_type_31 : decode cX4_type 31 = .ok (.getfield 69, 3) := by decide +kernel
theorem dX4_type_34 : decode cX4_type 34 = .ok (.iload_n 1, 1) := by decide +kernel
theorem dX4_type_35 : decode cX4_type 35 = .ok (.iastore, 1) := by decide +kernel
theorem dX4_type_36 : decode cX4_type 36 = .ok (.aload_n 0, 1) := by decide +kernel
theorem dX4_type_37 : decode cX4_type 37 = .ok (.dup, 1) := by decide +kernel
theorem dX4_type_38 : decode cX4_type 38 = .ok (.getfield 69, 3) := by decide +kernel
theorem dX4_type_41 : decode cX4_type 41 = .ok (.iconst 1, 1) := by decide +kernel
theorem dX4_type_42 : decode cX4_type 42 = .ok (.iadd, 1) := by decide +kernel
theorem dX4_type_43 : decode cX4_type 43 = .ok (.putfield 69, 3) := by decide +kernel
theorem dX4_type_46 : decode cX4_type 46 = .ok (.aload_n 0, 1) := by decide +kernel
theorem dX4_type_47 : decode cX4_type 47 = .ok (.getfield 69, 3) := by decide +kernel
theorem dX4_type_50 : decode cX4_type 50 = .ok (.ireturn, 1) := by decide +kernel
theorem dX4_wipe_0 : decode cX4_wipe 0 = .ok (.aload_n 0, 1) := by decide +kernel
theorem dX4_wipe_1 : decode cX4_wipe 1 = .ok (.getfield 69, 3) := by decide +kernel
theorem dX4_wipe_4 : decode cX4_wipe 4 = .ok (.istore_n 1, 1) := by decide +kernel
theorem dX4_wipe_5 : decode cX4_wipe 5 = .ok (.aload_n 0, 1) := by decide +kernel
theorem dX4_wipe_6 : decode cX4_wipe 6 = .ok (.iconst 0, 1) := by decide +kernel
theorem dX4_wipe_7 : decode cX4_wipe 7 = .ok (.putfield 69, 3) := by decide +kernel
theorem dX4_wipe_10 : decode cX4_wipe 10 = .ok (.iload_n 1, 1) := by decide +kernel
theorem dX4_wipe_11 : decode cX4_wipe 11 = .ok (.ireturn, 1) := by decide +kernel
theorem dX4_undo_0 : decode cX4_undo 0 = .ok (.aload_n 0, 1) := by decide +kernel
theorem dX4_undo_1 : decode cX4_undo 1 = .ok (.getfield 69, 3) := by decide +kernel
theorem dX4_undo_4 : decode cX4_undo 4 = .ok (.ifCond .ne 6, 3) := by decide +kernel
theorem dX4_undo_7 : decode cX4_undo 7 = .ok (.bipush (-3), 2) := by decide +kernel
theorem dX4_undo_9 : decode cX4_undo 9 = .ok (.ireturn, 1) := by decide +kernel
theorem dX4_undo_10 : decode cX4_undo 10 = .ok (.aload_n 0, 1) := by decide +kernel
theorem dX4_undo_11 : decode cX4_undo 11 = .ok (.dup, 1) := by decide +kernel
theorem dX4_undo_12 : decode cX4_undo 12 = .ok (.getfield 69, 3) := by decide +kernel
theorem dX4_undo_15 : decode cX4_undo 15 = .ok (.iconst 1, 1) := by decide +kernel
theorem dX4_undo_16 : decode cX4_undo 16 = .ok (.isub, 1) := by decide +kernel
theorem dX4_undo_17 : decode cX4_undo 17 = .ok (.putfield 69, 3) := by decide +kernel
theorem dX4_undo_20 : decode cX4_undo 20 = .ok (.aload_n 0, 1) := by decide +kernel
theorem dX4_undo_21 : decode cX4_undo 21 = .ok (.getfield 69, 3) := by decide +kernel
theorem dX4_undo_24 : decode cX4_undo 24 = .ok (.ireturn, 1) := by decide +kernel
theorem dX4_kindOf_0 : decode cX4_kindOf 0 = .ok (.iload_n 0, 1) := by decide +kernel
theorem dX4_kindOf_1 : decode cX4_kindOf 1 = .ok (.bipush 35, 2) := by decide +kernel
theorem dX4_kindOf_3 : decode cX4_kindOf 3 = .ok (.if_icmp .ne 7, 3) := by decide +kernel
theorem dX4_kindOf_6 : decode cX4_kindOf 6 = .ok (.iconst 0, 1) := by decide +kernel
theorem dX4_kindOf_7 : decode cX4_kindOf 7 = .ok (.goto 34, 3) := by decide +kernel
theorem dX4_kindOf_10 : decode cX4_kindOf 10 = .ok (.iload_n 0, 1) := by decide +kernel
theorem dX4_kindOf_11 : decode cX4_kindOf 11 = .ok (.bipush 46, 2) := by decide +kernel
theorem dX4_kindOf_13 : decode cX4_kindOf 13 = .ok (.if_icmp .ne 7, 3) := by decide +kernel
theorem dX4_kindOf_16 : decode cX4_kindOf 16 = .ok (.iconst 1, 1) := by decide +kernel
theorem dX4_kindOf_17 : decode cX4_kindOf 17 = .ok (.goto 24, 3) := by decide +kernel
theorem dX4_kindOf_20 : decode cX4_kindOf 20 = .ok (.iload_n 0, 1) := by decide +kernel
theorem dX4_kindOf_21 : decode cX4_kindOf 21 = .ok (.bipush 108, 2) := by decide +kernel
theorem dX4_kindOf_23 : decode cX4_kindOf 23 = .ok (.if_icmp .ne 7, 3) := by decide +kernel
theorem dX4_kindOf_26 : decode cX4_kindOf 26 = .ok (.iconst 2, 1) := by decide +kernel
theorem dX4_kindOf_27 : decode cX4_kindOf 27 = .ok (.goto 14, 3) := by decide +kernel
theorem dX4_kindOf_30 : decode cX4_kindOf 30 = .ok (.iload_n 0, 1) := by decide +kernel
theorem dX4_kindOf_31 : decode cX4_kindOf 31 = .ok (.bipush 119, 2) := by decide +kernel
theorem dX4_kindOf_33 : decode cX4_kindOf 33 = .ok (.if_icmp .ne 7, 3) := by decide +kernel
theorem dX4_kindOf_36 : decode cX4_kindOf 36 = .ok (.iconst 3, 1) := by decide +kernel
theorem dX4_kindOf_37 : decode cX4_kindOf 37 = .ok (.goto 4, 3) := by decide +kernel
theorem dX4_kindOf_40 : decode cX4_kindOf 40 = .ok (.iconst (-1), 1) := by decide +kernel
theorem dX4_kindOf_41 : decode cX4_kindOf 41 = .ok (.ireturn, 1) := by decide +kernel
theorem dX4_faultNow_0 : decode cX4_faultNow 0 = .ok (.iconst 0, 1) := by decide +kernel
theorem dX4_faultNow_1 : decode cX4_faultNow 1 = .ok (.istore_n 1, 1) := by decide +kernel
theorem dX4_faultNow_2 : decode cX4_faultNow 2 = .ok (.iconst 0, 1) := by decide +kernel
theorem dX4_faultNow_3 : decode cX4_faultNow 3 = .ok (.istore_n 2, 1) := by decide +kernel
theorem dX4_faultNow_4 : decode cX4_faultNow 4 = .ok (.iconst 0, 1) := by decide +kernel
theorem dX4_faultNow_5 : decode cX4_faultNow 5 = .ok (.istore_n 3, 1) := by decide +kernel
theorem dX4_faultNow_6 : decode cX4_faultNow 6 = .ok (.aload_n 0, 1) := by decide +kernel
theorem dX4_faultNow_7 : decode cX4_faultNow 7 = .ok (.iconst 0, 1) := by decide +kernel
theorem dX4_faultNow_8 : decode cX4_faultNow 8 = .ok (.putfield 72, 3) := by decide +kernel
theorem dX4_faultNow_11 : decode cX4_faultNow 11 = .ok (.aload_n 0, 1) := by decide +kernel
theorem dX4_faultNow_12 : decode cX4_faultNow 12 = .ok (.iconst 0, 1) := by decide +kernel
theorem dX4_faultNow_13 : decode cX4_faultNow 13 = .ok (.putfield 75, 3) := by decide +kernel
theorem dX4_faultNow_16 : decode cX4_faultNow 16 = .ok (.aload_n 0, 1) := by decide +kernel
theorem dX4_faultNow_17 : decode cX4_faultNow 17 = .ok (.bipush 7, 2) := by decide +kernel
theorem dX4_faultNow_19 : decode cX4_faultNow 19 = .ok (.putfield 78, 3) := by decide +kernel
theorem dX4_faultNow_22 : decode cX4_faultNow 22 = .ok (.iconst 0, 1) := by decide +kernel
theorem dX4_faultNow_23 : decode cX4_faultNow 23 = .ok (.istore 4, 2) := by decide +kernel
theorem dX4_faultNow_25 : decode cX4_faultNow 25 = .ok (.iload 4, 2) := by decide +kernel
theorem dX4_faultNow_27 : decode cX4_faultNow 27 = .ok (.aload_n 0, 1) := by decide +kernel
theorem dX4_faultNow_28 : decode cX4_faultNow 28 = .ok (.getfield 69, 3) := by decide +kernel
theorem dX4_faultNow_31 : decode cX4_faultNow 31 = .ok (.if_icmp .ge 115, 3) := by decide +kernel
theorem dX4_faultNow_34 : decode cX4_faultNow 34 = .ok (.iload_n 1, 1) := by decide +kernel
theorem dX4_faultNow_35 : decode cX4_faultNow 35 = .ok (.iconst 5, 1) := by decide +kernel
theorem dX4_faultNow_36 : decode cX4_faultNow 36 = .ok (.if_icmp .ne 6, 3) := by decide +kernel
theorem dX4_faultNow_39 : decode cX4_faultNow 39 = .ok (.iload 4, 2) := by decide +kernel
theorem dX4_faultNow_41 : decode cX4_faultNow 41 = .ok (.ireturn, 1) := by decide +kernel
theorem dX4_faultNow_42 : decode cX4_faultNow 42 = .ok (.aload_n 0, 1) := by decide +kernel
theorem dX4_faultNow_43 : decode cX4_faultNow 43 = .ok (.getfield 7, 3) := by decide +kernel
theorem dX4_faultNow_46 : decode cX4_faultNow 46 = .ok (.iload 4, 2) := by decide +kernel
theorem dX4_faultNow_48 : decode cX4_faultNow 48 = .ok (.iaload, 1) := by decide +kernel
theorem dX4_faultNow_49 : decode cX4_faultNow 49 = .ok (.bipush 59, 2) := by decide +kernel
theorem dX4_faultNow_51 : decode cX4_faultNow 51 = .ok (.if_icmp .ne 46, 3) := by decide +kernel
theorem dX4_faultNow_54 : decode cX4_faultNow 54 = .ok (.iload_n 2, 1) := by decide +kernel
theorem dX4_faultNow_55 : decode cX4_faultNow 55 = .ok (.ifCond .eq 15, 3) := by decide +kernel
theorem dX4_faultNow_58 : decode cX4_faultNow 58 = .ok (.iload_n 1, 1) := by decide +kernel
theorem dX4_faultNow_59 : decode cX4_faultNow 59 = .ok (.ifCond .le 14, 3) := by decide +kernel
theorem dX4_faultNow_62 : decode cX4_faultNow 62 = .ok (.iload_n 2, 1) := by decide +kernel
theorem dX4_faultNow_63 : decode cX4_faultNow 63 = .ok (.aload_n 0, 1) := by decide +kernel
theorem dX4_faultNow_64 : decode cX4_faultNow 64 = .ok (.getfield 78, 3) := by decide +kernel
theorem dX4_faultNow_67 : decode cX4_faultNow 67 = .ok (.if_icmp .ge 6, 3) := by decide +kernel
theorem dX4_faultNow_70 : decode cX4_faultNow 70 = .ok (.iload 4, 2) := by decide +kernel
theorem dX4_faultNow_72 : decode cX4_faultNow 72 = .ok (.ireturn, 1) := by decide +kernel
theorem dX4_faultNow_73 : decode cX4_faultNow 73 = .ok (.aload_n 0, 1) := by decide +kernel
theorem dX4_faultNow_74 : decode cX4_faultNow 74 = .ok (.iload_n 1, 1) := by decide +kernel
theorem dX4_faultNow_75 : decode cX4_faultNow 75 = .ok (.ifCond .ne 7, 3) := by decide +kernel
theorem dX4_faultNow_78 : decode cX4_faultNow 78 = .ok (.iload_n 2, 1) := by decide +kernel
theorem dX4_faultNow_79 : decode cX4_faultNow 79 = .ok (.goto 7, 3) := by decide +kernel
theorem dX4_faultNow_82 : decode cX4_faultNow 82 = .ok (.aload_n 0, 1) := by decide +kernel
theorem dX4_faultNow_83 : decode cX4_faultNow 83 = .ok (.getfield 78, 3) := by decide +kernel
theorem dX4_faultNow_86 : decode cX4_faultNow 86 = .ok (.putfield 78, 3) := by decide +kernel
theorem dX4_faultNow_89 : decode cX4_faultNow 89 = .ok (.iinc 1 1, 3) := by decide +kernel
theorem dX4_faultNow_92 : decode cX4_faultNow 92 = .ok (.iconst 0, 1) := by decide +kernel
theorem dX4_faultNow_93 : decode cX4_faultNow 93 = .ok (.istore_n 2, 1) := by decide +kernel
theorem dX4_faultNow_94 : decode cX4_faultNow 94 = .ok (.goto 46, 3) := by decide +kernel
theorem dX4_faultNow_97 : decode cX4_faultNow 97 = .ok (.aload_n 0, 1) := by decide +kernel
theorem dX4_faultNow_98 : decode cX4_faultNow 98 = .ok (.getfield 7, 3) := by decide +kernel
theorem dX4_faultNow_101 : decode cX4_faultNow 101 = .ok (.iload 4, 2) := by decide +kernel
theorem dX4_faultNow_103 : decode cX4_faultNow 103 = .ok (.iaload, 1) := by decide +kernel
theorem dX4_faultNow_104 : decode cX4_faultNow 104 = .ok (.invokestatic 81, 3) := by decide +kernel
theorem dX4_faultNow_107 : decode cX4_faultNow 107 = .ok (.istore 5, 2) := by decide +kernel
theorem dX4_faultNow_109 : decode cX4_faultNow 109 = .ok (.iload 5, 2) := by decide +kernel
theorem dX4_faultNow_111 : decode cX4_faultNow 111 = .ok (.iconst (-1), 1) := by decide +kernel
theorem dX4_faultNow_112 : decode cX4_faultNow 112 = .ok (.if_icmp .eq 11, 3) := by decide +kernel
theorem dX4_faultNow_115 : decode cX4_faultNow 115 = .ok (.iload_n 2, 1) := by decide +kernel
theorem dX4_faultNow_116 : decode cX4_faultNow 116 = .ok (.aload_n 0, 1) := by decide +kernel
theorem dX4_faultNow_117 : decode cX4_faultNow 117 = .ok (.getfield 78, 3) := by decide +kernel
theorem dX4_faultNow_120 : decode cX4_faultNow 120 = .ok (.if_icmp .ne 6, 3) := by decide +kernel
theorem dX4_faultNow_123 : decode cX4_faultNow 123 = .ok (.iload 4, 2) := by decide +kernel
theorem dX4_faultNow_125 : decode cX4_faultNow 125 = .ok (.ireturn, 1) := by decide +kernel
theorem dX4_faultNow_126 : decode cX4_faultNow 126 = .ok (.aload_n 0, 1) := by decide +kernel
theorem dX4_faultNow_127 : decode cX4_faultNow 127 = .ok (.getfield 13, 3) := by decide +kernel
theorem dX4_faultNow_130 : decode cX4_faultNow 130 = .ok (.iload_n 3, 1) := by decide +kernel
theorem dX4_faultNow_131 : decode cX4_faultNow 131 = .ok (.iload 5, 2) := by decide +kernel
theorem dX4_faultNow_133 : decode cX4_faultNow 133 = .ok (.iastore, 1) := by decide +kernel
theorem dX4_faultNow_134 : decode cX4_faultNow 134 = .ok (.iinc 3 1, 3) := by decide +kernel
theorem dX4_faultNow_137 : decode cX4_faultNow 137 = .ok (.iinc 2 1, 3) := by decide +kernel
theorem dX4_faultNow_140 : decode cX4_faultNow 140 = .ok (.iinc 4 1, 3) := by decide +kernel
theorem dX4_faultNow_143 : decode cX4_faultNow 143 = .ok (.goto (-118), 3) := by decide +kernel
theorem dX4_faultNow_146 : decode cX4_faultNow 146 = .ok (.aload_n 0, 1) := by decide +kernel
theorem dX4_faultNow_147 : decode cX4_faultNow 147 = .ok (.getfield 69, 3) := by decide +kernel
theorem dX4_faultNow_150 : decode cX4_faultNow 150 = .ok (.ifCond .le 24, 3) := by decide +kernel
theorem dX4_faultNow_153 : decode cX4_faultNow 153 = .ok (.iload_n 2, 1) := by decide +kernel
theorem dX4_faultNow_154 : decode cX4_faultNow 154 = .ok (.ifCond .eq 15, 3) := by decide +kernel
theorem dX4_faultNow_157 : decode cX4_faultNow 157 = .ok (.iload_n 1, 1) := by decide +kernel
theorem dX4_faultNow_158 : decode cX4_faultNow 158 = .ok (.ifCond .le 16, 3) := by decide +kernel
theorem dX4_faultNow_161 : decode cX4_faultNow 161 = .ok (.iload_n 2, 1) := by decide +kernel
theorem dX4_faultNow_162 : decode cX4_faultNow 162 = .ok (.aload_n 0, 1) := by decide +kernel
theorem dX4_faultNow_163 : decode cX4_faultNow 163 = .ok (.getfield 78, 3) := by decide +kernel
theorem dX4_faultNow_166 : decode cX4_faultNow 166 = .ok (.if_icmp .ge 8, 3) := by decide +kernel
theorem dX4_faultNow_169 : decode cX4_faultNow 169 = .ok (.aload_n 0, 1) := by decide +kernel
theorem dX4_faultNow_170 : decode cX4_faultNow 170 = .ok (.getfield 69, 3) := by decide +kernel
theorem dX4_faultNow_173 : decode cX4_faultNow 173 = .ok (.ireturn, 1) := by decide +kernel
theorem dX4_faultNow_174 : decode cX4_faultNow 174 = .ok (.aload_n 0, 1) := by decide +kernel
theorem dX4_faultNow_175 : decode cX4_faultNow 175 = .ok (.iload_n 1, 1) := by decide +kernel
theorem dX4_faultNow_176 : decode cX4_faultNow 176 = .ok (.ifCond .ne 7, 3) := by decide +kernel
theorem dX4_faultNow_179 : decode cX4_faultNow 179 = .ok (.iload_n 2, 1) := by decide +kernel
theorem dX4_faultNow_180 : decode cX4_faultNow 180 = .ok (.goto 7, 3) := by decide +kernel
theorem dX4_faultNow_183 : decode cX4_faultNow 183 = .ok (.aload_n 0, 1) := by decide +kernel
theorem dX4_faultNow_184 : decode cX4_faultNow 184 = .ok (.getfield 78, 3) := by decide +kernel
theorem dX4_faultNow_187 : decode cX4_faultNow 187 = .ok (.putfield 78, 3) := by decide +kernel
theorem dX4_faultNow_190 : decode cX4_faultNow 190 = .ok (.aload_n 0, 1) := by decide +kernel
theorem dX4_faultNow_191 : decode cX4_faultNow 191 = .ok (.aload_n 0, 1) := by decide +kernel
theorem dX4_faultNow_192 : decode cX4_faultNow 192 = .ok (.getfield 69, 3) := by decide +kernel
theorem dX4_faultNow_195 : decode cX4_faultNow 195 = .ok (.ifCond .ne 7, 3) := by decide +kernel
theorem dX4_faultNow_198 : decode cX4_faultNow 198 = .ok (.iconst 0, 1) := by decide +kernel
theorem dX4_faultNow_199 : decode cX4_faultNow 199 = .ok (.goto 6, 3) := by decide +kernel
theorem dX4_faultNow_202 : decode cX4_faultNow 202 = .ok (.iload_n 1, 1) := by decide +kernel
theorem dX4_faultNow_203 : decode cX4_faultNow 203 = .ok (.iconst 1, 1) := by decide +kernel
theorem dX4_faultNow_204 : decode cX4_faultNow 204 = .ok (.iadd, 1) := by decide +kernel
theorem dX4_faultNow_205 : decode cX4_faultNow 205 = .ok (.putfield 75, 3) := by decide +kernel
theorem dX4_faultNow_208 : decode cX4_faultNow 208 = .ok (.aload_n 0, 1) := by decide +kernel
theorem dX4_faultNow_209 : decode cX4_faultNow 209 = .ok (.iload_n 3, 1) := by decide +kernel
theorem dX4_faultNow_210 : decode cX4_faultNow 210 = .ok (.putfield 72, 3) := by decide +kernel
theorem dX4_faultNow_213 : decode cX4_faultNow 213 = .ok (.iconst (-1), 1) := by decide +kernel
theorem dX4_faultNow_214 : decode cX4_faultNow 214 = .ok (.ireturn, 1) := by decide +kernel
theorem dX4_fault_0 : decode cX4_fault 0 = .ok (.aload_n 0, 1) := by decide +kernel
theorem dX4_fault_1 : decode cX4_fault 1 = .ok (.invokevirtual 85, 3) := by decide +kernel
theorem dX4_fault_4 : decode cX4_fault 4 = .ok (.ireturn, 1) := by decide +kernel
theorem dX4_reads_0 : decode cX4_reads 0 = .ok (.aload_n 0, 1) := by decide +kernel
theorem dX4_reads_1 : decode cX4_reads 1 = .ok (.invokevirtual 85, 3) := by decide +kernel
theorem dX4_reads_4 : decode cX4_reads 4 = .ok (.istore_n 1, 1) := by decide +kernel
theorem dX4_reads_5 : decode cX4_reads 5 = .ok (.return_, 1) := by decide +kernel
theorem dX4_isCell_0 : decode cX4_isCell 0 = .ok (.aload_n 0, 1) := by decide +kernel
theorem dX4_isCell_1 : decode cX4_isCell 1 = .ok (.invokevirtual 89, 3) := by decide +kernel
theorem dX4_isCell_4 : decode cX4_isCell 4 = .ok (.iload_n 1, 1) := by decide +kernel
theorem dX4_isCell_5 : decode cX4_isCell 5 = .ok (.iconst 0, 1) := by decide +kernel
theorem dX4_isCell_6 : decode cX4_isCell 6 = .ok (.aload_n 0, 1) := by decide +kernel
theorem dX4_isCell_7 : decode cX4_isCell 7 = .ok (.getfield 72, 3) := by decide +kernel
theorem dX4_isCell_10 : decode cX4_isCell 10 = .ok (.iconst 1, 1) := by decide +kernel
theorem dX4_isCell_11 : decode cX4_isCell 11 = .ok (.isub, 1) := by decide +kernel
theorem dX4_isCell_12 : decode cX4_isCell 12 = .ok (.invokestatic 65, 3) := by decide +kernel
theorem dX4_isCell_15 : decode cX4_isCell 15 = .ok (.ireturn, 1) := by decide +kernel
theorem dX4_isOpen_0 : decode cX4_isOpen 0 = .ok (.iload_n 1, 1) := by decide +kernel
theorem dX4_isOpen_1 : decode cX4_isOpen 1 = .ok (.iconst 0, 1) := by decide +kernel
theorem dX4_isOpen_2 : decode cX4_isOpen 2 = .ok (.aload_n 0, 1) := by decide +kernel
theorem dX4_isOpen_3 : decode cX4_isOpen 3 = .ok (.getfield 72, 3) := by decide +kernel
theorem dX4_isOpen_6 : decode cX4_isOpen 6 = .ok (.iconst 1, 1) := by decide +kernel
theorem dX4_isOpen_7 : decode cX4_isOpen 7 = .ok (.isub, 1) := by decide +kernel
theorem dX4_isOpen_8 : decode cX4_isOpen 8 = .ok (.invokestatic 65, 3) := by decide +kernel
theorem dX4_isOpen_11 : decode cX4_isOpen 11 = .ok (.ifCond .eq 16, 3) := by decide +kernel
theorem dX4_isOpen_14 : decode cX4_isOpen 14 = .ok (.aload_n 0, 1) := by decide +kernel
theorem dX4_isOpen_15 : decode cX4_isOpen 15 = .ok (.getfield 13, 3) := by decide +kernel
theorem dX4_isOpen_18 : decode cX4_isOpen 18 = .ok (.iload_n 1, 1) := by decide +kernel
theorem dX4_isOpen_19 : decode cX4_isOpen 19 = .ok (.iaload, 1) := by decide +kernel
theorem dX4_isOpen_20 : decode cX4_isOpen 20 = .ok (.ifCond .eq 7, 3) := by decide +kernel
theorem dX4_isOpen_23 : decode cX4_isOpen 23 = .ok (.iconst 1, 1) := by decide +kernel
theorem dX4_isOpen_24 : decode cX4_isOpen 24 = .ok (.goto 4, 3) := by decide +kernel
theorem dX4_isOpen_27 : decode cX4_isOpen 27 = .ok (.iconst 0, 1) := by decide +kernel
theorem dX4_isOpen_28 : decode cX4_isOpen 28 = .ok (.ireturn, 1) := by decide +kernel
theorem dX4_isUp_0 : decode cX4_isUp 0 = .ok (.iload_n 1, 1) := by decide +kernel
theorem dX4_isUp_1 : decode cX4_isUp 1 = .ok (.aload_n 0, 1) := by decide +kernel
theorem dX4_isUp_2 : decode cX4_isUp 2 = .ok (.getfield 78, 3) := by decide +kernel
theorem dX4_isUp_5 : decode cX4_isUp 5 = .ok (.idiv, 1) := by decide +kernel
theorem dX4_isUp_6 : decode cX4_isUp 6 = .ok (.aload_n 0, 1) := by decide +kernel
theorem dX4_isUp_7 : decode cX4_isUp 7 = .ok (.getfield 56, 3) := by decide +kernel
theorem dX4_isUp_10 : decode cX4_isUp 10 = .ok (.if_icmp .ge 7, 3) := by decide +kernel
theorem dX4_isUp_13 : decode cX4_isUp 13 = .ok (.iconst 1, 1) := by decide +kernel
theorem dX4_isUp_14 : decode cX4_isUp 14 = .ok (.goto 4, 3) := by decide +kernel
theorem dX4_isUp_17 : decode cX4_isUp 17 = .ok (.iconst 0, 1) := by decide +kernel
theorem dX4_isUp_18 : decode cX4_isUp 18 = .ok (.ireturn, 1) := by decide +kernel
theorem dX4_below_0 : decode cX4_below 0 = .ok (.aload_n 0, 1) := by decide +kernel
theorem dX4_below_1 : decode cX4_below 1 = .ok (.iload_n 1, 1) := by decide +kernel
theorem dX4_below_2 : decode cX4_below 2 = .ok (.invokevirtual 92, 3) := by decide +kernel
theorem dX4_below_5 : decode cX4_below 5 = .ok (.ifCond .eq 12, 3) := by decide +kernel
theorem dX4_below_8 : decode cX4_below 8 = .ok (.iload_n 1, 1) := by decide +kernel
theorem dX4_below_9 : decode cX4_below 9 = .ok (.aload_n 0, 1) := by decide +kernel
theorem dX4_below_10 : decode cX4_below 10 = .ok (.getfield 78, 3) := by decide +kernel
theorem dX4_below_13 : decode cX4_below 13 = .ok (.isub, 1) := by decide +kernel
theorem dX4_below_14 : decode cX4_below 14 = .ok (.goto 9, 3) := by decide +kernel
theorem dX4_below_17 : decode cX4_below 17 = .ok (.iload_n 1, 1) := by decide +kernel
theorem dX4_below_18 : decode cX4_below 18 = .ok (.aload_n 0, 1) := by decide +kernel
theorem dX4_below_19 : decode cX4_below 19 = .ok (.getfield 78, 3) := by decide +kernel
theorem dX4_below_22 : decode cX4_below 22 = .ok (.iadd, 1) := by decide +kernel
theorem dX4_below_23 : decode cX4_below 23 = .ok (.ireturn, 1) := by decide +kernel
theorem dX4_isHeld_0 : decode cX4_isHeld 0 = .ok (.aload_n 0, 1) := by decide +kernel
theorem dX4_isHeld_1 : decode cX4_isHeld 1 = .ok (.getfield 13, 3) := by decide +kernel
theorem dX4_isHeld_4 : decode cX4_isHeld 4 = .ok (.iload_n 1, 1) := by decide +kernel
theorem dX4_isHeld_5 : decode cX4_isHeld 5 = .ok (.iaload, 1) := by decide +kernel
theorem dX4_isHeld_6 : decode cX4_isHeld 6 = .ok (.ifCond .eq 29, 3) := by decide +kernel
theorem dX4_isHeld_9 : decode cX4_isHeld 9 = .ok (.aload_n 0, 1) := by decide +kernel
theorem dX4_isHeld_10 : decode cX4_isHeld 10 = .ok (.getfield 13, 3) := by decide +kernel
theorem dX4_isHeld_13 : decode cX4_isHeld 13 = .ok (.iload_n 1, 1) := by decide +kernel
theorem dX4_isHeld_14 : decode cX4_isHeld 14 = .ok (.iaload, 1) := by decide +kernel
theorem dX4_isHeld_15 : decode cX4_isHeld 15 = .ok (.iconst 2, 1) := by decide +kernel
theorem dX4_isHeld_16 : decode cX4_isHeld 16 = .ok (.if_icmp .eq 15, 3) := by decide +kernel
theorem dX4_isHeld_19 : decode cX4_isHeld 19 = .ok (.aload_n 0, 1) := by decide +kernel
theorem dX4_isHeld_20 : decode cX4_isHeld 20 = .ok (.aload_n 0, 1) := by decide +kernel
theorem dX4_isHeld_21 : decode cX4_isHeld 21 = .ok (.iload_n 1, 1) := by decide +kernel
theorem dX4_isHeld_22 : decode cX4_isHeld 22 = .ok (.invokevirtual 96, 3) := by decide +kernel
theorem dX4_isHeld_25 : decode cX4_isHeld 25 = .ok (.invokevirtual 99, 3) := by decide +kernel
theorem dX4_isHeld_28 : decode cX4_isHeld 28 = .ok (.ifCond .ne 7, 3) := by decide +kernel
theorem dX4_isHeld_31 : decode cX4_isHeld 31 = .ok (.iconst 1, 1) := by decide +kernel
theorem dX4_isHeld_32 : decode cX4_isHeld 32 = .ok (.goto 4, 3) := by decide +kernel
theorem dX4_isHeld_35 : decode cX4_isHeld 35 = .ok (.iconst 0, 1) := by decide +kernel
theorem dX4_isHeld_36 : decode cX4_isHeld 36 = .ok (.ireturn, 1) := by decide +kernel
theorem dX4_cell_0 : decode cX4_cell 0 = .ok (.aload_n 0, 1) := by decide +kernel
theorem dX4_cell_1 : decode cX4_cell 1 = .ok (.iload_n 1, 1) := by decide +kernel
theorem dX4_cell_2 : decode cX4_cell 2 = .ok (.invokevirtual 102, 3) := by decide +kernel
theorem dX4_cell_5 : decode cX4_cell 5 = .ok (.ifCond .eq 62, 3) := by decide +kernel
theorem dX4_cell_8 : decode cX4_cell 8 = .ok (.iload_n 2, 1) := by decide +kernel
theorem dX4_cell_9 : decode cX4_cell 9 = .ok (.iconst 0, 1) := by decide +kernel
theorem dX4_cell_10 : decode cX4_cell 10 = .ok (.iconst 2, 1) := by decide +kernel
theorem dX4_cell_11 : decode cX4_cell 11 = .ok (.invokestatic 65, 3) := by decide +kernel
theorem dX4_cell_14 : decode cX4_cell 14 = .ok (.ifCond .eq 53, 3) := by decide +kernel
theorem dX4_cell_17 : decode cX4_cell 17 = .ok (.iload_n 2, 1) := by decide +kernel
theorem dX4_cell_18 : decode cX4_cell 18 = .ok (.ifCond .ne 12, 3) := by decide +kernel
theorem dX4_cell_21 : decode cX4_cell 21 = .ok (.aload_n 0, 1) := by decide +kernel
theorem dX4_cell_22 : decode cX4_cell 22 = .ok (.getfield 13, 3) := by decide +kernel
theorem dX4_cell_25 : decode cX4_cell 25 = .ok (.iload_n 1, 1) := by decide +kernel
theorem dX4_cell_26 : decode cX4_cell 26 = .ok (.iaload, 1) := by decide +kernel
theorem dX4_cell_27 : decode cX4_cell 27 = .ok (.goto 42, 3) := by decide +kernel
theorem dX4_cell_30 : decode cX4_cell 30 = .ok (.iload_n 2, 1) := by decide +kernel
theorem dX4_cell_31 : decode cX4_cell 31 = .ok (.iconst 1, 1) := by decide +kernel
theorem dX4_cell_32 : decode cX4_cell 32 = .ok (.if_icmp .ne 19, 3) := by decide +kernel
theorem dX4_cell_35 : decode cX4_cell 35 = .ok (.aload_n 0, 1) := by decide +kernel
theorem dX4_cell_36 : decode cX4_cell 36 = .ok (.iload_n 1, 1) := by decide +kernel
theorem dX4_cell_37 : decode cX4_cell 37 = .ok (.invokevirtual 92, 3) := by decide +kernel
theorem dX4_cell_40 : decode cX4_cell 40 = .ok (.ifCond .eq 7, 3) := by decide +kernel
theorem dX4_cell_43 : decode cX4_cell 43 = .ok (.iconst 1, 1) := by decide +kernel
theorem dX4_cell_44 : decode cX4_cell 44 = .ok (.goto 25, 3) := by decide +kernel
theorem dX4_cell_47 : decode cX4_cell 47 = .ok (.iconst 0, 1) := by decide +kernel
theorem dX4_cell_48 : decode cX4_cell 48 = .ok (.goto 21, 3) := by decide +kernel
theorem dX4_cell_51 : decode cX4_cell 51 = .ok (.aload_n 0, 1) := by decide +kernel
theorem dX4_cell_52 : decode cX4_cell 52 = .ok (.iload_n 1, 1) := by decide +kernel
theorem dX4_cell_53 : decode cX4_cell 53 = .ok (.invokevirtual 105, 3) := by decide +kernel
theorem dX4_cell_56 : decode cX4_cell 56 = .ok (.ifCond .eq 7, 3) := by decide +kernel
theorem dX4_cell_59 : decode cX4_cell 59 = .ok (.iconst 1, 1) := by decide +kernel
theorem dX4_cell_60 : decode cX4_cell 60 = .ok (.goto 9, 3) := by decide +kernel
theorem dX4_cell_63 : decode cX4_cell 63 = .ok (.iconst 0, 1) := by decide +kernel
theorem dX4_cell_64 : decode cX4_cell 64 = .ok (.goto 5, 3) := by decide +kernel
theorem dX4_cell_67 : decode cX4_cell 67 = .ok (.bipush (-2), 2) := by decide +kernel
theorem dX4_cell_69 : decode cX4_cell 69 = .ok (.ireturn, 1) := by decide +kernel
theorem dX4_set_0 : decode cX4_set 0 = .ok (.iload_n 1, 1) := by decide +kernel
theorem dX4_set_1 : decode cX4_set 1 = .ok (.iconst 0, 1) := by decide +kernel
theorem dX4_set_2 : decode cX4_set 2 = .ok (.iconst 1, 1) := by decide +kernel
theorem dX4_set_3 : decode cX4_set 3 = .ok (.invokestatic 65, 3) := by decide +kernel
theorem dX4_set_6 : decode cX4_set 6 = .ok (.ifCond .eq 21, 3) := by decide +kernel
theorem dX4_set_9 : decode cX4_set 9 = .ok (.iload_n 2, 1) := by decide +kernel
theorem dX4_set_10 : decode cX4_set 10 = .ok (.iconst 0, 1) := by decide +kernel
theorem dX4_set_11 : decode cX4_set 11 = .ok (.iload_n 1, 1) := by decide +kernel
theorem dX4_set_12 : decode cX4_set 12 = .ok (.ifCond .ne 7, 3) := by decide +kernel
theorem dX4_set_15 : decode cX4_set 15 = .ok (.iconst 5, 1) := by decide +kernel
theorem dX4_set_16 : decode cX4_set 16 = .ok (.goto 5, 3) := by decide +kernel
theorem dX4_set_19 : decode cX4_set 19 = .ok (.bipush 9, 2) := by decide +kernel
theorem dX4_set_21 : decode cX4_set 21 = .ok (.invokestatic 65, 3) := by decide +kernel
theorem dX4_set_24 : decode cX4_set 24 = .ok (.ifCond .ne 6, 3) := by decide +kernel
theorem dX4_set_27 : decode cX4_set 27 = .ok (.bipush (-2), 2) := by decide +kernel
theorem dX4_set_29 : decode cX4_set 29 = .ok (.ireturn, 1) := by decide +kernel
theorem dX4_set_30 : decode cX4_set 30 = .ok (.iload_n 1, 1) := by decide +kernel
theorem dX4_set_31 : decode cX4_set 31 = .ok (.ifCond .ne 10, 3) := by decide +kernel
theorem dX4_set_34 : decode cX4_set 34 = .ok (.aload_n 0, 1) := by decide +kernel
theorem dX4_set_35 : decode cX4_set 35 = .ok (.getfield 56, 3) := by decide +kernel
theorem dX4_set_38 : decode cX4_set 38 = .ok (.goto 7, 3) := by decide +kernel
theorem dX4_set_41 : decode cX4_set 41 = .ok (.aload_n 0, 1) := by decide +kernel
theorem dX4_set_42 : decode cX4_set 42 = .ok (.getfield 60, 3) := by decide +kernel
theorem dX4_set_45 : decode cX4_set 45 = .ok (.istore_n 3, 1) := by decide +kernel
theorem dX4_set_46 : decode cX4_set 46 = .ok (.aload_n 0, 1) := by decide +kernel
theorem dX4_set_47 : decode cX4_set 47 = .ok (.iload_n 1, 1) := by decide +kernel
theorem dX4_set_48 : decode cX4_set 48 = .ok (.ifCond .ne 7, 3) := by decide +kernel
theorem dX4_set_51 : decode cX4_set 51 = .ok (.iload_n 2, 1) := by decide +kernel
theorem dX4_set_52 : decode cX4_set 52 = .ok (.goto 7, 3) := by decide +kernel
theorem dX4_set_55 : decode cX4_set 55 = .ok (.aload_n 0, 1) := by decide +kernel
theorem dX4_set_56 : decode cX4_set 56 = .ok (.getfield 56, 3) := by decide +kernel
theorem dX4_set_59 : decode cX4_set 59 = .ok (.putfield 56, 3) := by decide +kernel
theorem dX4_set_62 : decode cX4_set 62 = .ok (.aload_n 0, 1) := by decide +kernel
theorem dX4_set_63 : decode cX4_set 63 = .ok (.iload_n 1, 1) := by decide +kernel
theorem dX4_set_64 : decode cX4_set 64 = .ok (.iconst 1, 1) := by decide +kernel
theorem dX4_set_65 : decode cX4_set 65 = .ok (.if_icmp .ne 7, 3) := by decide +kernel
theorem dX4_set_68 : decode cX4_set 68 = .ok (.iload_n 2, 1) := by decide +kernel
theorem dX4_set_69 : decode cX4_set 69 = .ok (.goto 7, 3) := by decide +kernel
theorem dX4_set_72 : decode cX4_set 72 = .ok (.aload_n 0, 1) := by decide +kernel
theorem dX4_set_73 : decode cX4_set 73 = .ok (.getfield 60, 3) := by decide +kernel
theorem dX4_set_76 : decode cX4_set 76 = .ok (.putfield 60, 3) := by decide +kernel
theorem dX4_set_79 : decode cX4_set 79 = .ok (.iload_n 3, 1) := by decide +kernel
theorem dX4_set_80 : decode cX4_set 80 = .ok (.ireturn, 1) := by decide +kernel
theorem dX4_thing_0 : decode cX4_thing 0 = .ok (.iload_n 1, 1) := by decide +kernel
theorem dX4_thing_1 : decode cX4_thing 1 = .ok (.iconst 0, 1) := by decide +kernel
theorem dX4_thing_2 : decode cX4_thing 2 = .ok (.bipush 34, 2) := by decide +kernel
theorem dX4_thing_4 : decode cX4_thing 4 = .ok (.invokestatic 65, 3) := by decide +kernel
theorem dX4_thing_7 : decode cX4_thing 7 = .ok (.ifCond .eq 13, 3) := by decide +kernel
theorem dX4_thing_10 : decode cX4_thing 10 = .ok (.iload_n 2, 1) := by decide +kernel
theorem dX4_thing_11 : decode cX4_thing 11 = .ok (.iconst 0, 1) := by decide +kernel
theorem dX4_thing_12 : decode cX4_thing 12 = .ok (.bipush 99, 2) := by decide +kernel
theorem dX4_thing_14 : decode cX4_thing 14 = .ok (.invokestatic 65, 3) := by decide +kernel
theorem dX4_thing_17 : decode cX4_thing 17 = .ok (.ifCond .ne 6, 3) := by decide +kernel
theorem dX4_thing_20 : decode cX4_thing 20 = .ok (.bipush (-2), 2) := by decide +kernel
theorem dX4_thing_22 : decode cX4_thing 22 = .ok (.ireturn, 1) := by decide +kernel
theorem dX4_thing_23 : decode cX4_thing 23 = .ok (.aload_n 0, 1) := by decide +kernel
theorem dX4_thing_24 : decode cX4_thing 24 = .ok (.getfield 108, 3) := by decide +kernel
theorem dX4_thing_27 : decode cX4_thing 27 = .ok (.bipush 8, 2) := by decide +kernel
theorem dX4_thing_29 : decode cX4_thing 29 = .ok (.if_icmp .ne 6, 3) := by decide +kernel
theorem dX4_thing_32 : decode cX4_thing 32 = .ok (.bipush (-4), 2) := by decide +kernel
theorem dX4_thing_34 : decode cX4_thing 34 = .ok (.ireturn, 1) := by decide +kernel
theorem dX4_thing_35 : decode cX4_thing 35 = .ok (.aload_n 0, 1) := by decide +kernel
theorem dX4_thing_36 : decode cX4_thing 36 = .ok (.getfield 16, 3) := by decide +kernel
theorem dX4_thing_39 : decode cX4_thing 39 = .ok (.aload_n 0, 1) := by decide +kernel
theorem dX4_thing_40 : decode cX4_thing 40 = .ok (.getfield 108, 3) := by decide +kernel
theorem dX4_thing_43 : decode cX4_thing 43 = .ok (.iload_n 1, 1) := by decide +kernel
theorem dX4_thing_44 : decode cX4_thing 44 = .ok (.iastore, 1) := by decide +kernel
theorem dX4_thing_45 : decode cX4_thing 45 = .ok (.aload_n 0, 1) := by decide +kernel
theorem dX4_thing_46 : decode cX4_thing 46 = .ok (.getfield 19, 3) := by decide +kernel
theorem dX4_thing_49 : decode cX4_thing 49 = .ok (.aload_n 0, 1) := by decide +kernel
theorem dX4_thing_50 : decode cX4_thing 50 = .ok (.getfield 108, 3) := by decide +kernel
theorem dX4_thing_53 : decode cX4_thing 53 = .ok (.iload_n 2, 1) := by decide +kernel
theorem dX4_thing_54 : decode cX4_thing 54 = .ok (.iastore, 1) := by decide +kernel
theorem dX4_thing_55 : decode cX4_thing 55 = .ok (.aload_n 0, 1) := by decide +kernel
theorem dX4_thing_56 : decode cX4_thing 56 = .ok (.dup, 1) := by decide +kernel
theorem dX4_thing_57 : decode cX4_thing 57 = .ok (.getfield 108, 3) := by decide +kernel
theorem dX4_thing_60 : decode cX4_thing 60 = .ok (.iconst 1, 1) := by decide +kernel
theorem dX4_thing_61 : decode cX4_thing 61 = .ok (.iadd, 1) := by decide +kernel
theorem dX4_thing_62 : decode cX4_thing 62 = .ok (.putfield 108, 3) := by decide +kernel
theorem dX4_thing_65 : decode cX4_thing 65 = .ok (.aload_n 0, 1) := by decide +kernel
theorem dX4_thing_66 : decode cX4_thing 66 = .ok (.getfield 108, 3) := by decide +kernel
theorem dX4_thing_69 : decode cX4_thing 69 = .ok (.ireturn, 1) := by decide +kernel
theorem dX4_back_0 : decode cX4_back 0 = .ok (.aload_n 0, 1) := by decide +kernel
theorem dX4_back_1 : decode cX4_back 1 = .ok (.getfield 108, 3) := by decide +kernel
theorem dX4_back_4 : decode cX4_back 4 = .ok (.ifCond .ne 6, 3) := by decide +kernel
theorem dX4_back_7 : decode cX4_back 7 = .ok (.bipush (-3), 2) := by decide +kernel
theorem dX4_back_9 : decode cX4_back 9 = .ok (.ireturn, 1) := by decide +kernel
theorem dX4_back_10 : decode cX4_back 10 = .ok (.aload_n 0, 1) := by decide +kernel
theorem dX4_back_11 : decode cX4_back 11 = .ok (.dup, 1) := by decide +kernel
theorem dX4_back_12 : decode cX4_back 12 = .ok (.getfield 108, 3) := by decide +kernel
theorem dX4_back_15 : decode cX4_back 15 = .ok (.iconst 1, 1) := by decide +kernel
theorem dX4_back_16 : decode cX4_back 16 = .ok (.isub, 1) := by decide +kernel
theorem dX4_back_17 : decode cX4_back 17 = .ok (.putfield 108, 3) := by decide +kernel
theorem dX4_back_20 : decode cX4_back 20 = .ok (.aload_n 0, 1) := by decide +kernel
theorem dX4_back_21 : decode cX4_back 21 = .ok (.getfield 108, 3) := by decide +kernel
theorem dX4_back_24 : decode cX4_back 24 = .ok (.ireturn, 1) := by decide +kernel
theorem dX4_read_0 : decode cX4_read 0 = .ok (.iload_n 1, 1) := by decide +kernel
theorem dX4_read_1 : decode cX4_read 1 = .ok (.invokestatic 111, 3) := by decide +kernel
theorem dX4_read_4 : decode cX4_read 4 = .ok (.ifCond .ne 6, 3) := by decide +kernel
theorem dX4_read_7 : decode cX4_read 7 = .ok (.bipush (-2), 2) := by decide +kernel
theorem dX4_read_9 : decode cX4_read 9 = .ok (.ireturn, 1) := by decide +kernel
theorem dX4_read_10 : decode cX4_read 10 = .ok (.aload_n 0, 1) := by decide +kernel
theorem dX4_read_11 : decode cX4_read 11 = .ok (.getfield 41, 3) := by decide +kernel
theorem dX4_read_14 : decode cX4_read 14 = .ok (.iload_n 1, 1) := by decide +kernel
theorem dX4_read_15 : decode cX4_read 15 = .ok (.baload, 1) := by decide +kernel
theorem dX4_read_16 : decode cX4_read 16 = .ok (.ifCond .ne 9, 3) := by decide +kernel
theorem dX4_read_19 : decode cX4_read 19 = .ok (.aload_n 0, 1) := by decide +kernel
theorem dX4_read_20 : decode cX4_read 20 = .ok (.iconst 1, 1) := by decide +kernel
theorem dX4_read_21 : decode cX4_read 21 = .ok (.invokevirtual 114, 3) := by decide +kernel
theorem dX4_read_24 : decode cX4_read 24 = .ok (.ireturn, 1) := by decide +kernel
theorem dX4_read_25 : decode cX4_read 25 = .ok (.iconst 0, 1) := by decide +kernel
theorem dX4_read_26 : decode cX4_read 26 = .ok (.istore_n 2, 1) := by decide +kernel
theorem dX4_read_27 : decode cX4_read 27 = .ok (.iconst 2, 1) := by decide +kernel
theorem dX4_read_28 : decode cX4_read 28 = .ok (.iload_n 2, 1) := by decide +kernel
theorem dX4_read_29 : decode cX4_read 29 = .ok (.imul, 1) := by decide +kernel
theorem dX4_read_30 : decode cX4_read 30 = .ok (.iconst 1, 1) := by decide +kernel
theorem dX4_read_31 : decode cX4_read 31 = .ok (.iadd, 1) := by decide +kernel
theorem dX4_read_32 : decode cX4_read 32 = .ok (.aload_n 0, 1) := by decide +kernel
theorem dX4_read_33 : decode cX4_read 33 = .ok (.getfield 47, 3) := by decide +kernel
theorem dX4_read_36 : decode cX4_read 36 = .ok (.iload_n 1, 1) := by decide +kernel
theorem dX4_read_37 : decode cX4_read 37 = .ok (.iaload, 1) := by decide +kernel
theorem dX4_read_38 : decode cX4_read 38 = .ok (.if_icmp .ge 44, 3) := by decide +kernel
theorem dX4_read_41 : decode cX4_read 41 = .ok (.aload_n 0, 1) := by decide +kernel
theorem dX4_read_42 : decode cX4_read 42 = .ok (.aload_n 0, 1) := by decide +kernel
theorem dX4_read_43 : decode cX4_read 43 = .ok (.getfield 50, 3) := by decide +kernel
theorem dX4_read_46 : decode cX4_read 46 = .ok (.bipush 48, 2) := by decide +kernel
theorem dX4_read_48 : decode cX4_read 48 = .ok (.iload_n 1, 1) := by decide +kernel
theorem dX4_read_49 : decode cX4_read 49 = .ok (.imul, 1) := by decide +kernel
theorem dX4_read_50 : decode cX4_read 50 = .ok (.iconst 2, 1) := by decide +kernel
theorem dX4_read_51 : decode cX4_read 51 = .ok (.iload_n 2, 1) := by decide +kernel
theorem dX4_read_52 : decode cX4_read 52 = .ok (.imul, 1) := by decide +kernel
theorem dX4_read_53 : decode cX4_read 53 = .ok (.iadd, 1) := by decide +kernel
theorem dX4_read_54 : decode cX4_read 54 = .ok (.iaload, 1) := by decide +kernel
theorem dX4_read_55 : decode cX4_read 55 = .ok (.aload_n 0, 1) := by decide +kernel
theorem dX4_read_56 : decode cX4_read 56 = .ok (.getfield 50, 3) := by decide +kernel
theorem dX4_read_59 : decode cX4_read 59 = .ok (.bipush 48, 2) := by decide +kernel
theorem dX4_read_61 : decode cX4_read 61 = .ok (.iload_n 1, 1) := by decide +kernel
theorem dX4_read_62 : decode cX4_read 62 = .ok (.imul, 1) := by decide +kernel
theorem dX4_read_63 : decode cX4_read 63 = .ok (.iconst 2, 1) := by decide +kernel
theorem dX4_read_64 : decode cX4_read 64 = .ok (.iload_n 2, 1) := by decide +kernel
theorem dX4_read_65 : decode cX4_read 65 = .ok (.imul, 1) := by decide +kernel
theorem dX4_read_66 : decode cX4_read 66 = .ok (.iadd, 1) := by decide +kernel
theorem dX4_read_67 : decode cX4_read 67 = .ok (.iconst 1, 1) := by decide +kernel
theorem dX4_read_68 : decode cX4_read 68 = .ok (.iadd, 1) := by decide +kernel
theorem dX4_read_69 : decode cX4_read 69 = .ok (.iaload, 1) := by decide +kernel
theorem dX4_read_70 : decode cX4_read 70 = .ok (.invokevirtual 117, 3) := by decide +kernel
theorem dX4_read_73 : decode cX4_read 73 = .ok (.ifCond .le 9, 3) := by decide +kernel
theorem dX4_read_76 : decode cX4_read 76 = .ok (.iinc 2 1, 3) := by decide +kernel
theorem dX4_read_79 : decode cX4_read 79 = .ok (.goto (-52), 3) := by decide +kernel
theorem dX4_read_82 : decode cX4_read 82 = .ok (.iload_n 2, 1) := by decide +kernel
theorem dX4_read_83 : decode cX4_read 83 = .ok (.ireturn, 1) := by decide +kernel
theorem dX4_isThing_0 : decode cX4_isThing 0 = .ok (.iload_n 1, 1) := by decide +kernel
theorem dX4_isThing_1 : decode cX4_isThing 1 = .ok (.iconst 0, 1) := by decide +kernel
theorem dX4_isThing_2 : decode cX4_isThing 2 = .ok (.aload_n 0, 1) := by decide +kernel
theorem dX4_isThing_3 : decode cX4_isThing 3 = .ok (.getfield 108, 3) := by decide +kernel
theorem dX4_isThing_6 : decode cX4_isThing 6 = .ok (.iconst 1, 1) := by decide +kernel
theorem dX4_isThing_7 : decode cX4_isThing 7 = .ok (.isub, 1) := by decide +kernel
theorem dX4_isThing_8 : decode cX4_isThing 8 = .ok (.invokestatic 65, 3) := by decide +kernel
theorem dX4_isThing_11 : decode cX4_isThing 11 = .ok (.ireturn, 1) := by decide +kernel
theorem dX4_fallen_0 : decode cX4_fallen 0 = .ok (.iload_n 1, 1) := by decide +kernel
theorem dX4_fallen_1 : decode cX4_fallen 1 = .ok (.istore_n 3, 1) := by decide +kernel
theorem dX4_fallen_2 : decode cX4_fallen 2 = .ok (.iconst 0, 1) := by decide +kernel
theorem dX4_fallen_3 : decode cX4_fallen 3 = .ok (.istore 4, 2) := by decide +kernel
theorem dX4_fallen_5 : decode cX4_fallen 5 = .ok (.iload 4, 2) := by decide +kernel
theorem dX4_fallen_7 : decode cX4_fallen 7 = .ok (.iload_n 2, 1) := by decide +kernel
theorem dX4_fallen_8 : decode cX4_fallen 8 = .ok (.if_icmp .ge 34, 3) := by decide +kernel
theorem dX4_fallen_11 : decode cX4_fallen 11 = .ok (.iload 4, 2) := by decide +kernel
theorem dX4_fallen_13 : decode cX4_fallen 13 = .ok (.bipush 6, 2) := by decide +kernel
theorem dX4_fallen_15 : decode cX4_fallen 15 = .ok (.if_icmp .ge 27, 3) := by decide +kernel
theorem dX4_fallen_18 : decode cX4_fallen 18 = .ok (.aload_n 0, 1) := by decide +kernel
theorem dX4_fallen_19 : decode cX4_fallen 19 = .ok (.iload_n 3, 1) := by decide +kernel
theorem dX4_fallen_20 : decode cX4_fallen 20 = .ok (.invokevirtual 105, 3) := by decide +kernel
theorem dX4_fallen_23 : decode cX4_fallen 23 = .ok (.ifCond .eq 7, 3) := by decide +kernel
theorem dX4_fallen_26 : decode cX4_fallen 26 = .ok (.iload_n 3, 1) := by decide +kernel
theorem dX4_fallen_27 : decode cX4_fallen 27 = .ok (.goto 8, 3) := by decide +kernel
theorem dX4_fallen_30 : decode cX4_fallen 30 = .ok (.aload_n 0, 1) := by decide +kernel
theorem dX4_fallen_31 : decode cX4_fallen 31 = .ok (.iload_n 3, 1) := by decide +kernel
theorem dX4_fallen_32 : decode cX4_fallen 32 = .ok (.invokevirtual 96, 3) := by decide +kernel
theorem dX4_fallen_35 : decode cX4_fallen 35 = .ok (.istore_n 3, 1) := by decide +kernel
theorem dX4_fallen_36 : decode cX4_fallen 36 = .ok (.iinc 4 1, 3) := by decide +kernel
theorem dX4_fallen_39 : decode cX4_fallen 39 = .ok (.goto (-34), 3) := by decide +kernel
theorem dX4_fallen_42 : decode cX4_fallen 42 = .ok (.iload_n 3, 1) := by decide +kernel
theorem dX4_fallen_43 : decode cX4_fallen 43 = .ok (.ireturn, 1) := by decide +kernel
theorem dX4_atOf_0 : decode cX4_atOf 0 = .ok (.aload_n 0, 1) := by decide +kernel
theorem dX4_atOf_1 : decode cX4_atOf 1 = .ok (.invokevirtual 89, 3) := by decide +kernel
theorem dX4_atOf_4 : decode cX4_atOf 4 = .ok (.iload_n 2, 1) := by decide +kernel
theorem dX4_atOf_5 : decode cX4_atOf 5 = .ok (.aload_n 0, 1) := by decide +kernel
theorem dX4_atOf_6 : decode cX4_atOf 6 = .ok (.getfield 19, 3) := by decide +kernel
theorem dX4_atOf_9 : decode cX4_atOf 9 = .ok (.iload_n 1, 1) := by decide +kernel
theorem dX4_atOf_10 : decode cX4_atOf 10 = .ok (.iaload, 1) := by decide +kernel
theorem dX4_atOf_11 : decode cX4_atOf 11 = .ok (.if_icmp .lt 16, 3) := by decide +kernel
theorem dX4_atOf_14 : decode cX4_atOf 14 = .ok (.aload_n 0, 1) := by decide +kernel
theorem dX4_atOf_15 : decode cX4_atOf 15 = .ok (.aload_n 0, 1) := by decide +kernel
theorem dX4_atOf_16 : decode cX4_atOf 16 = .ok (.getfield 16, 3) := by decide +kernel
theorem dX4_atOf_19 : decode cX4_atOf 19 = .ok (.iload_n 1, 1) := by decide +kernel
theorem dX4_atOf_20 : decode cX4_atOf 20 = .ok (.iaload, 1) := by decide +kernel
theorem dX4_atOf_21 : decode cX4_atOf 21 = .ok (.invokevirtual 99, 3) := by decide +kernel
theorem dX4_atOf_24 : decode cX4_atOf 24 = .ok (.ifCond .ne 7, 3) := by decide +kernel
theorem dX4_atOf_27 : decode cX4_atOf 27 = .ok (.iconst (-1), 1) := by decide +kernel
theorem dX4_atOf_28 : decode cX4_atOf 28 = .ok (.goto 21, 3) := by decide +kernel
theorem dX4_atOf_31 : decode cX4_atOf 31 = .ok (.aload_n 0, 1) := by decide +kernel
theorem dX4_atOf_32 : decode cX4_atOf 32 = .ok (.aload_n 0, 1) := by decide +kernel
theorem dX4_atOf_33 : decode cX4_atOf 33 = .ok (.getfield 16, 3) := by decide +kernel
theorem dX4_atOf_36 : decode cX4_atOf 36 = .ok (.iload_n 1, 1) := by decide +kernel
theorem dX4_atOf_37 : decode cX4_atOf 37 = .ok (.iaload, 1) := by decide +kernel
theorem dX4_atOf_38 : decode cX4_atOf 38 = .ok (.iload_n 2, 1) := by decide +kernel
theorem dX4_atOf_39 : decode cX4_atOf 39 = .ok (.aload_n 0, 1) := by decide +kernel
theorem dX4_atOf_40 : decode cX4_atOf 40 = .ok (.getfield 19, 3) := by decide +kernel
theorem dX4_atOf_43 : decode cX4_atOf 43 = .ok (.iload_n 1, 1) := by decide +kernel
theorem dX4_atOf_44 : decode cX4_atOf 44 = .ok (.iaload, 1) := by decide +kernel
theorem dX4_atOf_45 : decode cX4_atOf 45 = .ok (.isub, 1) := by decide +kernel
theorem dX4_atOf_46 : decode cX4_atOf 46 = .ok (.invokevirtual 121, 3) := by decide +kernel
theorem dX4_atOf_49 : decode cX4_atOf 49 = .ok (.ireturn, 1) := by decide +kernel
theorem dX4_at_0 : decode cX4_at 0 = .ok (.aload_n 0, 1) := by decide +kernel
theorem dX4_at_1 : decode cX4_at 1 = .ok (.iload_n 1, 1) := by decide +kernel
theorem dX4_at_2 : decode cX4_at 2 = .ok (.invokevirtual 124, 3) := by decide +kernel
theorem dX4_at_5 : decode cX4_at 5 = .ok (.ifCond .eq 22, 3) := by decide +kernel
theorem dX4_at_8 : decode cX4_at 8 = .ok (.iload_n 2, 1) := by decide +kernel
theorem dX4_at_9 : decode cX4_at 9 = .ok (.iconst 0, 1) := by decide +kernel
theorem dX4_at_10 : decode cX4_at 10 = .ok (.bipush 99, 2) := by decide +kernel
theorem dX4_at_12 : decode cX4_at 12 = .ok (.invokestatic 65, 3) := by decide +kernel
theorem dX4_at_15 : decode cX4_at 15 = .ok (.ifCond .eq 12, 3) := by decide +kernel
theorem dX4_at_18 : decode cX4_at 18 = .ok (.aload_n 0, 1) := by decide +kernel
theorem dX4_at_19 : decode cX4_at 19 = .ok (.iload_n 1, 1) := by decide +kernel
theorem dX4_at_20 : decode cX4_at 20 = .ok (.iload_n 2, 1) := by decide +kernel
theorem dX4_at_21 : decode cX4_at 21 = .ok (.invokevirtual 127, 3) := by decide +kernel
theorem dX4_at_24 : decode cX4_at 24 = .ok (.goto 5, 3) := by decide +kernel
theorem dX4_at_27 : decode cX4_at 27 = .ok (.bipush (-2), 2) := by decide +kernel
theorem dX4_at_29 : decode cX4_at 29 = .ok (.ireturn, 1) := by decide +kernel
theorem dX4_restsOf_0 : decode cX4_restsOf 0 = .ok (.aload_n 0, 1) := by decide +kernel
theorem dX4_restsOf_1 : decode cX4_restsOf 1 = .ok (.invokevirtual 89, 3) := by decide +kernel
theorem dX4_restsOf_4 : decode cX4_restsOf 4 = .ok (.aload_n 0, 1) := by decide +kernel
theorem dX4_restsOf_5 : decode cX4_restsOf 5 = .ok (.aload_n 0, 1) := by decide +kernel
theorem dX4_restsOf_6 : decode cX4_restsOf 6 = .ok (.getfield 16, 3) := by decide +kernel
theorem dX4_restsOf_9 : decode cX4_restsOf 9 = .ok (.iload_n 1, 1) := by decide +kernel
theorem dX4_restsOf_10 : decode cX4_restsOf 10 = .ok (.iaload, 1) := by decide +kernel
theorem dX4_restsOf_11 : decode cX4_restsOf 11 = .ok (.invokevirtual 99, 3) := by decide +kernel
theorem dX4_restsOf_14 : decode cX4_restsOf 14 = .ok (.ifCond .ne 13, 3) := by decide +kernel
theorem dX4_restsOf_17 : decode cX4_restsOf 17 = .ok (.iload_n 2, 1) := by decide +kernel
theorem dX4_restsOf_18 : decode cX4_restsOf 18 = .ok (.ifCond .ne 7, 3) := by decide +kernel
theorem dX4_restsOf_21 : decode cX4_restsOf 21 = .ok (.iconst (-1), 1) := by decide +kernel
theorem dX4_restsOf_22 : decode cX4_restsOf 22 = .ok (.goto 4, 3) := by decide +kernel
theorem dX4_restsOf_25 : decode cX4_restsOf 25 = .ok (.iconst 0, 1) := by decide +kernel
theorem dX4_restsOf_26 : decode cX4_restsOf 26 = .ok (.ireturn, 1) := by decide +kernel
theorem dX4_restsOf_27 : decode cX4_restsOf 27 = .ok (.aload_n 0, 1) := by decide +kernel
theorem dX4_restsOf_28 : decode cX4_restsOf 28 = .ok (.aload_n 0, 1) := by decide +kernel
theorem dX4_restsOf_29 : decode cX4_restsOf 29 = .ok (.getfield 16, 3) := by decide +kernel
theorem dX4_restsOf_32 : decode cX4_restsOf 32 = .ok (.iload_n 1, 1) := by decide +kernel
theorem dX4_restsOf_33 : decode cX4_restsOf 33 = .ok (.iaload, 1) := by decide +kernel
theorem dX4_restsOf_34 : decode cX4_restsOf 34 = .ok (.bipush 6, 2) := by decide +kernel
theorem dX4_restsOf_36 : decode cX4_restsOf 36 = .ok (.invokevirtual 121, 3) := by decide +kernel
theorem dX4_restsOf_39 : decode cX4_restsOf 39 = .ok (.istore_n 3, 1) := by decide +kernel
theorem dX4_restsOf_40 : decode cX4_restsOf 40 = .ok (.iload_n 3, 1) := by decide +kernel
theorem dX4_restsOf_41 : decode cX4_restsOf 41 = .ok (.aload_n 0, 1) := by decide +kernel
theorem dX4_restsOf_42 : decode cX4_restsOf 42 = .ok (.getfield 78, 3) := by decide +kernel
theorem dX4_restsOf_45 : decode cX4_restsOf 45 = .ok (.idiv, 1) := by decide +kernel
theorem dX4_restsOf_46 : decode cX4_restsOf 46 = .ok (.aload_n 0, 1) := by decide +kernel
theorem dX4_restsOf_47 : decode cX4_restsOf 47 = .ok (.getfield 16, 3) := by decide +kernel
theorem dX4_restsOf_50 : decode cX4_restsOf 50 = .ok (.iload_n 1, 1) := by decide +kernel
theorem dX4_restsOf_51 : decode cX4_restsOf 51 = .ok (.iaload, 1) := by decide +kernel
