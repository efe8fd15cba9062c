theorem dX2_clear_0 : decode cX2_clear 0 = .ok (.aload_n 0, 1) := by decide +kernel
theorem dX2_clear_1 : decode cX2_clear 1 = .ok (.getfield 14, 3) := by decide +kernel
theorem dX2_clear_4 : decode cX2_clear 4 = .ok (.invokevirtual 36, 3) := by decide +kernel
theorem dX2_clear_7 : decode cX2_clear 7 = .ok (.aload_n 0, 1) := by decide +kernel
theorem dX2_clear_8 : decode cX2_clear 8 = .ok (.iconst 0, 1) := by decide +kernel
theorem dX2_clear_9 : decode cX2_clear 9 = .ok (.putfield 39, 3) := by decide +kernel
theorem dX2_clear_12 : decode cX2_clear 12 = .ok (.return_, 1) := by decide +kernel
theorem dX2_refusal_0 : decode cX2_refusal 0 = .ok (.aload_n 0, 1) := by decide +kernel
theorem dX2_refusal_1 : decode cX2_refusal 1 = .ok (.getfield 14, 3) := by decide +kernel
theorem dX2_refusal_4 : decode cX2_refusal 4 = .ok (.getfield 43, 3) := by decide +kernel
theorem dX2_refusal_7 : decode cX2_refusal 7 = .ok (.iload_n 1, 1) := by decide +kernel
theorem dX2_refusal_8 : decode cX2_refusal 8 = .ok (.iadd, 1) := by decide +kernel
theorem dX2_refusal_9 : decode cX2_refusal 9 = .ok (.sipush 2000, 3) := by decide +kernel
theorem dX2_refusal_12 : decode cX2_refusal 12 = .ok (.if_icmp .le 5, 3) := by decide +kernel
theorem dX2_refusal_15 : decode cX2_refusal 15 = .ok (.iconst (-1), 1) := by decide +kernel
theorem dX2_refusal_16 : decode cX2_refusal 16 = .ok (.ireturn, 1) := by decide +kernel
theorem dX2_refusal_17 : decode cX2_refusal 17 = .ok (.aload_n 0, 1) := by decide +kernel
theorem dX2_refusal_18 : decode cX2_refusal 18 = .ok (.getfield 39, 3) := by decide +kernel
theorem dX2_refusal_21 : decode cX2_refusal 21 = .ok (.iload_n 1, 1) := by decide +kernel
theorem dX2_refusal_22 : decode cX2_refusal 22 = .ok (.iadd, 1) := by decide +kernel
theorem dX2_refusal_23 : decode cX2_refusal 23 = .ok (.iload_n 2, 1) := by decide +kernel
theorem dX2_refusal_24 : decode cX2_refusal 24 = .ok (.iadd, 1) := by decide +kernel
theorem dX2_refusal_25 : decode cX2_refusal 25 = .ok (.sipush 1000, 3) := by decide +kernel
theorem dX2_refusal_28 : decode cX2_refusal 28 = .ok (.if_icmp .le 8, 3) := by decide +kernel
theorem dX2_refusal_31 : decode cX2_refusal 31 = .ok (.bipush (-2), 2) := by decide +kernel
theorem dX2_refusal_33 : decode cX2_refusal 33 = .ok (.goto 4, 3) := by decide +kernel
theorem dX2_refusal_36 : decode cX2_refusal 36 = .ok (.iconst 0, 1) := by decide +kernel
theorem dX2_refusal_37 : decode cX2_refusal 37 = .ok (.ireturn, 1) := by decide +kernel
theorem dX2_change_0 : decode cX2_change 0 = .ok (.iload_n 1, 1) := by decide +kernel
theorem dX2_change_1 : decode cX2_change 1 = .ok (.ifCond .ne 7, 3) := by decide +kernel
theorem dX2_change_4 : decode cX2_change 4 = .ok (.iconst 1, 1) := by decide +kernel
theorem dX2_change_5 : decode cX2_change 5 = .ok (.goto 4, 3) := by decide +kernel
theorem dX2_change_8 : decode cX2_change 8 = .ok (.iconst 0, 1) := by decide +kernel
theorem dX2_change_9 : decode cX2_change 9 = .ok (.istore_n 3, 1) := by decide +kernel
theorem dX2_change_10 : decode cX2_change 10 = .ok (.aload_n 0, 1) := by decide +kernel
theorem dX2_change_11 : decode cX2_change 11 = .ok (.getfield 14, 3) := by decide +kernel
theorem dX2_change_14 : decode cX2_change 14 = .ok (.iload_n 2, 1) := by decide +kernel
theorem dX2_change_15 : decode cX2_change 15 = .ok (.invokevirtual 46, 3) := by decide +kernel
theorem dX2_change_18 : decode cX2_change 18 = .ok (.iload_n 3, 1) := by decide +kernel
theorem dX2_change_19 : decode cX2_change 19 = .ok (.if_icmp .ne 5, 3) := by decide +kernel
theorem dX2_change_22 : decode cX2_change 22 = .ok (.iconst 0, 1) := by decide +kernel
theorem dX2_change_23 : decode cX2_change 23 = .ok (.ireturn, 1) := by decide +kernel
theorem dX2_change_24 : decode cX2_change 24 = .ok (.aload_n 0, 1) := by decide +kernel
theorem dX2_change_25 : decode cX2_change 25 = .ok (.iload_n 3, 1) := by decide +kernel
theorem dX2_change_26 : decode cX2_change 26 = .ok (.ifCond .eq 7, 3) := by decide +kernel
theorem dX2_change_29 : decode cX2_change 29 = .ok (.iconst 1, 1) := by decide +kernel
theorem dX2_change_30 : decode cX2_change 30 = .ok (.goto 4, 3) := by decide +kernel
theorem dX2_change_33 : decode cX2_change 33 = .ok (.iconst 0, 1) := by decide +kernel
theorem dX2_change_34 : decode cX2_change 34 = .ok (.iload_n 3, 1) := by decide +kernel
theorem dX2_change_35 : decode cX2_change 35 = .ok (.ifCond .eq 7, 3) := by decide +kernel
theorem dX2_change_38 : decode cX2_change 38 = .ok (.iconst 0, 1) := by decide +kernel
theorem dX2_change_39 : decode cX2_change 39 = .ok (.goto 4, 3) := by decide +kernel
theorem dX2_change_42 : decode cX2_change 42 = .ok (.iconst 1, 1) := by decide +kernel
theorem dX2_change_43 : decode cX2_change 43 = .ok (.invokevirtual 50, 3) := by decide +kernel
theorem dX2_change_46 : decode cX2_change 46 = .ok (.istore 4, 2) := by decide +kernel
theorem dX2_change_48 : decode cX2_change 48 = .ok (.iload 4, 2) := by decide +kernel
theorem dX2_change_50 : decode cX2_change 50 = .ok (.ifCond .ge 6, 3) := by decide +kernel
theorem dX2_change_53 : decode cX2_change 53 = .ok (.iload 4, 2) := by decide +kernel
theorem dX2_change_55 : decode cX2_change 55 = .ok (.ireturn, 1) := by decide +kernel
theorem dX2_change_56 : decode cX2_change 56 = .ok (.aload_n 0, 1) := by decide +kernel
theorem dX2_change_57 : decode cX2_change 57 = .ok (.iload_n 1, 1) := by decide +kernel
theorem dX2_change_58 : decode cX2_change 58 = .ok (.iload_n 2, 1) := by decide +kernel
theorem dX2_change_59 : decode cX2_change 59 = .ok (.invokevirtual 54, 3) := by decide +kernel
theorem dX2_change_62 : decode cX2_change 62 = .ok (.pop, 1) := by decide +kernel
theorem dX2_change_63 : decode cX2_change 63 = .ok (.iconst 1, 1) := by decide +kernel
theorem dX2_change_64 : decode cX2_change 64 = .ok (.ireturn, 1) := by decide +kernel
theorem dX2_make_0 : decode cX2_make 0 = .ok (.aload_n 0, 1) := by decide +kernel
theorem dX2_make_1 : decode cX2_make 1 = .ok (.getfield 32, 3) := by decide +kernel
theorem dX2_make_4 : decode cX2_make 4 = .ok (.iload_n 1, 1) := by decide +kernel
theorem dX2_make_5 : decode cX2_make 5 = .ok (.iload_n 2, 1) := by decide +kernel
theorem dX2_make_6 : decode cX2_make 6 = .ok (.invokevirtual 57, 3) := by decide +kernel
theorem dX2_make_9 : decode cX2_make 9 = .ok (.istore_n 3, 1) := by decide +kernel
theorem dX2_make_10 : decode cX2_make 10 = .ok (.iload_n 1, 1) := by decide +kernel
theorem dX2_make_11 : decode cX2_make 11 = .ok (.ifCond .ne 14, 3) := by decide +kernel
theorem dX2_make_14 : decode cX2_make 14 = .ok (.aload_n 0, 1) := by decide +kernel
theorem dX2_make_15 : decode cX2_make 15 = .ok (.getfield 14, 3) := by decide +kernel
theorem dX2_make_18 : decode cX2_make 18 = .ok (.iload_n 2, 1) := by decide +kernel
theorem dX2_make_19 : decode cX2_make 19 = .ok (.invokevirtual 60, 3) := by decide +kernel
theorem dX2_make_22 : decode cX2_make 22 = .ok (.goto 11, 3) := by decide +kernel
theorem dX2_make_25 : decode cX2_make 25 = .ok (.aload_n 0, 1) := by decide +kernel
theorem dX2_make_26 : decode cX2_make 26 = .ok (.getfield 14, 3) := by decide +kernel
theorem dX2_make_29 : decode cX2_make 29 = .ok (.iload_n 2, 1) := by decide +kernel
theorem dX2_make_30 : decode cX2_make 30 = .ok (.invokevirtual 63, 3) := by decide +kernel
theorem dX2_make_33 : decode cX2_make 33 = .ok (.istore 4, 2) := by decide +kernel
theorem dX2_make_35 : decode cX2_make 35 = .ok (.iload 4, 2) := by decide +kernel
theorem dX2_make_37 : decode cX2_make 37 = .ok (.ifCond .eq 47, 3) := by decide +kernel
theorem dX2_make_40 : decode cX2_make 40 = .ok (.aload_n 0, 1) := by decide +kernel
theorem dX2_make_41 : decode cX2_make 41 = .ok (.getfield 39, 3) := by decide +kernel
theorem dX2_make_44 : decode cX2_make 44 = .ok (.sipush 1000, 3) := by decide +kernel
theorem dX2_make_47 : decode cX2_make 47 = .ok (.if_icmp .ge 37, 3) := by decide +kernel
theorem dX2_make_50 : decode cX2_make 50 = .ok (.aload_n 0, 1) := by decide +kernel
theorem dX2_make_51 : decode cX2_make 51 = .ok (.getfield 20, 3) := by decide +kernel
theorem dX2_make_54 : decode cX2_make 54 = .ok (.aload_n 0, 1) := by decide +kernel
theorem dX2_make_55 : decode cX2_make 55 = .ok (.getfield 39, 3) := by decide +kernel
theorem dX2_make_58 : decode cX2_make 58 = .ok (.iload_n 2, 1) := by decide +kernel
theorem dX2_make_59 : decode cX2_make 59 = .ok (.iconst 2, 1) := by decide +kernel
theorem dX2_make_60 : decode cX2_make 60 = .ok (.imul, 1) := by decide +kernel
theorem dX2_make_61 : decode cX2_make 61 = .ok (.iload_n 1, 1) := by decide +kernel
theorem dX2_make_62 : decode cX2_make 62 = .ok (.iadd, 1) := by decide +kernel
theorem dX2_make_63 : decode cX2_make 63 = .ok (.iastore, 1) := by decide +kernel
theorem dX2_make_64 : decode cX2_make 64 = .ok (.aload_n 0, 1) := by decide +kernel
theorem dX2_make_65 : decode cX2_make 65 = .ok (.getfield 24, 3) := by decide +kernel
theorem dX2_make_68 : decode cX2_make 68 = .ok (.aload_n 0, 1) := by decide +kernel
theorem dX2_make_69 : decode cX2_make 69 = .ok (.getfield 39, 3) := by decide +kernel
theorem dX2_make_72 : decode cX2_make 72 = .ok (.iload_n 3, 1) := by decide +kernel
theorem dX2_make_73 : decode cX2_make 73 = .ok (.iastore, 1) := by decide +kernel
theorem dX2_make_74 : decode cX2_make 74 = .ok (.aload_n 0, 1) := by decide +kernel
theorem dX2_make_75 : decode cX2_make 75 = .ok (.dup, 1) := by decide +kernel
theorem dX2_make_76 : decode cX2_make 76 = .ok (.getfield 39, 3) := by decide +kernel
theorem dX2_make_79 : decode cX2_make 79 = .ok (.iconst 1, 1) := by decide +kernel
theorem dX2_make_80 : decode cX2_make 80 = .ok (.iadd, 1) := by decide +kernel
theorem dX2_make_81 : decode cX2_make 81 = .ok (.putfield 39, 3) := by decide +kernel
theorem dX2_make_84 : decode cX2_make 84 = .ok (.iload_n 3, 1) := by decide +kernel
theorem dX2_make_85 : decode cX2_make 85 = .ok (.ireturn, 1) := by decide +kernel
theorem dX2_makeAll_0 : decode cX2_makeAll 0 = .ok (.iconst 0, 1) := by decide +kernel
theorem dX2_makeAll_1 : decode cX2_makeAll 1 = .ok (.istore_n 3, 1) := by decide +kernel
theorem dX2_makeAll_2 : decode cX2_makeAll 2 = .ok (.iconst 0, 1) := by decide +kernel
theorem dX2_makeAll_3 : decode cX2_makeAll 3 = .ok (.istore 4, 2) := by decide +kernel
theorem dX2_makeAll_5 : decode cX2_makeAll 5 = .ok (.iload 4, 2) := by decide +kernel
theorem dX2_makeAll_7 : decode cX2_makeAll 7 = .ok (.aload_n 2, 1) := by decide +kernel
theorem dX2_makeAll_8 : decode cX2_makeAll 8 = .ok (.getfield 43, 3) := by decide +kernel
theorem dX2_makeAll_11 : decode cX2_makeAll 11 = .ok (.if_icmp .ge 23, 3) := by decide +kernel
theorem dX2_makeAll_14 : decode cX2_makeAll 14 = .ok (.iload_n 3, 1) := by decide +kernel
theorem dX2_makeAll_15 : decode cX2_makeAll 15 = .ok (.aload_n 0, 1) := by decide +kernel
theorem dX2_makeAll_16 : decode cX2_makeAll 16 = .ok (.iload_n 1, 1) := by decide +kernel
theorem dX2_makeAll_17 : decode cX2_makeAll 17 = .ok (.aload_n 2, 1) := by decide +kernel
theorem dX2_makeAll_18 : decode cX2_makeAll 18 = .ok (.iload 4, 2) := by decide +kernel
theorem dX2_makeAll_20 : decode cX2_makeAll 20 = .ok (.invokevirtual 66, 3) := by decide +kernel
theorem dX2_makeAll_23 : decode cX2_makeAll 23 = .ok (.invokevirtual 54, 3) := by decide +kernel
theorem dX2_makeAll_26 : decode cX2_makeAll 26 = .ok (.iadd, 1) := by decide +kernel
theorem dX2_makeAll_27 : decode cX2_makeAll 27 = .ok (.istore_n 3, 1) := by decide +kernel
theorem dX2_makeAll_28 : decode cX2_makeAll 28 = .ok (.iinc 4 1, 3) := by decide +kernel
theorem dX2_makeAll_31 : decode cX2_makeAll 31 = .ok (.goto (-26), 3) := by decide +kernel
theorem dX2_makeAll_34 : decode cX2_makeAll 34 = .ok (.iload_n 3, 1) := by decide +kernel
theorem dX2_makeAll_35 : decode cX2_makeAll 35 = .ok (.ireturn, 1) := by decide +kernel
theorem dX2_dropAllBut_0 : decode cX2_dropAllBut 0 = .ok (.iconst 0, 1) := by decide +kernel
theorem dX2_dropAllBut_1 : decode cX2_dropAllBut 1 = .ok (.istore_n 2, 1) := by decide +kernel
theorem dX2_dropAllBut_2 : decode cX2_dropAllBut 2 = .ok (.iconst 0, 1) := by decide +kernel
theorem dX2_dropAllBut_3 : decode cX2_dropAllBut 3 = .ok (.istore_n 3, 1) := by decide +kernel
theorem dX2_dropAllBut_4 : decode cX2_dropAllBut 4 = .ok (.aload_n 0, 1) := by decide +kernel
theorem dX2_dropAllBut_5 : decode cX2_dropAllBut 5 = .ok (.getfield 14, 3) := by decide +kernel
theorem dX2_dropAllBut_8 : decode cX2_dropAllBut 8 = .ok (.getfield 43, 3) := by decide +kernel
theorem dX2_dropAllBut_11 : decode cX2_dropAllBut 11 = .ok (.istore 4, 2) := by decide +kernel
theorem dX2_dropAllBut_13 : decode cX2_dropAllBut 13 = .ok (.iconst 0, 1) := by decide +kernel
theorem dX2_dropAllBut_14 : decode cX2_dropAllBut 14 = .ok (.istore 5, 2) := by decide +kernel
theorem dX2_dropAllBut_16 : decode cX2_dropAllBut 16 = .ok (.iload 5, 2) := by decide +kernel
theorem dX2_dropAllBut_18 : decode cX2_dropAllBut 18 = .ok (.iload 4, 2) := by decide +kernel
theorem dX2_dropAllBut_20 : decode cX2_dropAllBut 20 = .ok (.if_icmp .ge 44, 3) := by decide +kernel
theorem dX2_dropAllBut_23 : decode cX2_dropAllBut 23 = .ok (.aload_n 0, 1) := by decide +kernel
theorem dX2_dropAllBut_24 : decode cX2_dropAllBut 24 = .ok (.getfield 14, 3) := by decide +kernel
theorem dX2_dropAllBut_27 : decode cX2_dropAllBut 27 = .ok (.iload_n 3, 1) := by decide +kernel
theorem dX2_dropAllBut_28 : decode cX2_dropAllBut 28 = .ok (.invokevirtual 66, 3) := by decide +kernel
theorem dX2_dropAllBut_31 : decode cX2_dropAllBut 31 = .ok (.istore 6, 2) := by decide +kernel
theorem dX2_dropAllBut_33 : decode cX2_dropAllBut 33 = .ok (.aload_n 1, 1) := by decide +kernel
theorem dX2_dropAllBut_34 : decode cX2_dropAllBut 34 = .ok (.iload 6, 2) := by decide +kernel
theorem dX2_dropAllBut_36 : decode cX2_dropAllBut 36 = .ok (.invokevirtual 46, 3) := by decide +kernel
theorem dX2_dropAllBut_39 : decode cX2_dropAllBut 39 = .ok (.ifCond .eq 9, 3) := by decide +kernel
theorem dX2_dropAllBut_42 : decode cX2_dropAllBut 42 = .ok (.iinc 3 1, 3) := by decide +kernel
theorem dX2_dropAllBut_45 : decode cX2_dropAllBut 45 = .ok (.goto 13, 3) := by decide +kernel
theorem dX2_dropAllBut_48 : decode cX2_dropAllBut 48 = .ok (.iload_n 2, 1) := by decide +kernel
theorem dX2_dropAllBut_49 : decode cX2_dropAllBut 49 = .ok (.aload_n 0, 1) := by decide +kernel
theorem dX2_dropAllBut_50 : decode cX2_dropAllBut 50 = .ok (.iconst 1, 1) := by decide +kernel
theorem dX2_dropAllBut_51 : decode cX2_dropAllBut 51 = .ok (.iload 6, 2) := by decide +kernel
theorem dX2_dropAllBut_53 : decode cX2_dropAllBut 53 = .ok (.invokevirtual 54, 3) := by decide +kernel
theorem dX2_dropAllBut_56 : decode cX2_dropAllBut 56 = .ok (.iadd, 1) := by decide +kernel
theorem dX2_dropAllBut_57 : decode cX2_dropAllBut 57 = .ok (.istore_n 2, 1) := by decide +kernel
theorem dX2_dropAllBut_58 : decode cX2_dropAllBut 58 = .ok (.iinc 5 1, 3) := by decide +kernel
theorem dX2_dropAllBut_61 : decode cX2_dropAllBut 61 = .ok (.goto (-45), 3) := by decide +kernel
theorem dX2_dropAllBut_64 : decode cX2_dropAllBut 64 = .ok (.iload_n 2, 1) := by decide +kernel
theorem dX2_dropAllBut_65 : decode cX2_dropAllBut 65 = .ok (.ireturn, 1) := by decide +kernel
theorem dX2_goBack_0 : decode cX2_goBack 0 = .ok (.aload_n 0, 1) := by decide +kernel
theorem dX2_goBack_1 : decode cX2_goBack 1 = .ok (.getfield 39, 3) := by decide +kernel
theorem dX2_goBack_4 : decode cX2_goBack 4 = .ok (.iload_n 1, 1) := by decide +kernel
theorem dX2_goBack_5 : decode cX2_goBack 5 = .ok (.if_icmp .le 29, 3) := by decide +kernel
theorem dX2_goBack_8 : decode cX2_goBack 8 = .ok (.aload_n 0, 1) := by decide +kernel
theorem dX2_goBack_9 : decode cX2_goBack 9 = .ok (.dup, 1) := by decide +kernel
theorem dX2_goBack_10 : decode cX2_goBack 10 = .ok (.getfield 39, 3) := by decide +kernel
theorem dX2_goBack_13 : decode cX2_goBack 13 = .ok (.iconst 1, 1) := by decide +kernel
theorem dX2_goBack_14 : decode cX2_goBack 14 = .ok (.isub, 1) := by decide +kernel
theorem dX2_goBack_15 : decode cX2_goBack 15 = .ok (.putfield 39, 3) := by decide +kernel
theorem dX2_goBack_18 : decode cX2_goBack 18 = .ok (.aload_n 0, 1) := by decide +kernel
theorem dX2_goBack_19 : decode cX2_goBack 19 = .ok (.aload_n 0, 1) := by decide +kernel
theorem dX2_goBack_20 : decode cX2_goBack 20 = .ok (.getfield 14, 3) := by decide +kernel
theorem dX2_goBack_23 : decode cX2_goBack 23 = .ok (.aload_n 0, 1) := by decide +kernel
theorem dX2_goBack_24 : decode cX2_goBack 24 = .ok (.getfield 39, 3) := by decide +kernel
theorem dX2_goBack_27 : decode cX2_goBack 27 = .ok (.iconst 1, 1) := by decide +kernel
theorem dX2_goBack_28 : decode cX2_goBack 28 = .ok (.invokevirtual 70, 3) := by decide +kernel
theorem dX2_goBack_31 : decode cX2_goBack 31 = .ok (.goto (-31), 3) := by decide +kernel
theorem dX2_goBack_34 : decode cX2_goBack 34 = .ok (.return_, 1) := by decide +kernel
theorem dX2_fillPast_0 : decode cX2_fillPast 0 = .ok (.aload_n 1, 1) := by decide +kernel
theorem dX2_fillPast_1 : decode cX2_fillPast 1 = .ok (.invokevirtual 36, 3) := by decide +kernel
theorem dX2_fillPast_4 : decode cX2_fillPast 4 = .ok (.iconst 0, 1) := by decide +kernel
theorem dX2_fillPast_5 : decode cX2_fillPast 5 = .ok (.istore_n 3, 1) := by decide +kernel
theorem dX2_fillPast_6 : decode cX2_fillPast 6 = .ok (.iload_n 3, 1) := by decide +kernel
theorem dX2_fillPast_7 : decode cX2_fillPast 7 = .ok (.iload_n 2, 1) := by decide +kernel
theorem dX2_fillPast_8 : decode cX2_fillPast 8 = .ok (.if_icmp .ge 16, 3) := by decide +kernel
theorem dX2_fillPast_11 : decode cX2_fillPast 11 = .ok (.aload_n 0, 1) := by decide +kernel
theorem dX2_fillPast_12 : decode cX2_fillPast 12 = .ok (.aload_n 1, 1) := by decide +kernel
theorem dX2_fillPast_13 : decode cX2_fillPast 13 = .ok (.iload_n 3, 1) := by decide +kernel
theorem dX2_fillPast_14 : decode cX2_fillPast 14 = .ok (.iconst 0, 1) := by decide +kernel
theorem dX2_fillPast_15 : decode cX2_fillPast 15 = .ok (.invokevirtual 70, 3) := by decide +kernel
theorem dX2_fillPast_18 : decode cX2_fillPast 18 = .ok (.iinc 3 1, 3) := by decide +kernel
theorem dX2_fillPast_21 : decode cX2_fillPast 21 = .ok (.goto (-15), 3) := by decide +kernel
theorem dX2_fillPast_24 : decode cX2_fillPast 24 = .ok (.return_, 1) := by decide +kernel
theorem dX2_replay_0 : decode cX2_replay 0 = .ok (.aload_n 0, 1) := by decide +kernel
theorem dX2_replay_1 : decode cX2_replay 1 = .ok (.getfield 20, 3) := by decide +kernel
theorem dX2_replay_4 : decode cX2_replay 4 = .ok (.iload_n 2, 1) := by decide +kernel
theorem dX2_replay_5 : decode cX2_replay 5 = .ok (.iaload, 1) := by decide +kernel
theorem dX2_replay_6 : decode cX2_replay 6 = .ok (.iconst 2, 1) := by decide +kernel
theorem dX2_replay_7 : decode cX2_replay 7 = .ok (.irem, 1) := by decide +kernel
theorem dX2_replay_8 : decode cX2_replay 8 = .ok (.ifCond .ne 7, 3) := by decide +kernel
theorem dX2_replay_11 : decode cX2_replay 11 = .ok (.iconst 1, 1) := by decide +kernel
theorem dX2_replay_12 : decode cX2_replay 12 = .ok (.goto 4, 3) := by decide +kernel
theorem dX2_replay_15 : decode cX2_replay 15 = .ok (.iconst 0, 1) := by decide +kernel
theorem dX2_replay_16 : decode cX2_replay 16 = .ok (.istore 4, 2) := by decide +kernel
theorem dX2_replay_18 : decode cX2_replay 18 = .ok (.iload 4, 2) := by decide +kernel
theorem dX2_replay_20 : decode cX2_replay 20 = .ok (.iload_n 3, 1) := by decide +kernel
theorem dX2_replay_21 : decode cX2_replay 21 = .ok (.if_icmp .eq 19, 3) := by decide +kernel
theorem dX2_replay_24 : decode cX2_replay 24 = .ok (.aload_n 1, 1) := by decide +kernel
theorem dX2_replay_25 : decode cX2_replay 25 = .ok (.aload_n 0, 1) := by decide +kernel
theorem dX2_replay_26 : decode cX2_replay 26 = .ok (.getfield 20, 3) := by decide +kernel
theorem dX2_replay_29 : decode cX2_replay 29 = .ok (.iload_n 2, 1) := by decide +kernel
theorem dX2_replay_30 : decode cX2_replay 30 = .ok (.iaload, 1) := by decide +kernel
theorem dX2_replay_31 : decode cX2_replay 31 = .ok (.iconst 2, 1) := by decide +kernel
theorem dX2_replay_32 : decode cX2_replay 32 = .ok (.idiv, 1) := by decide +kernel
theorem dX2_replay_33 : decode cX2_replay 33 = .ok (.invokevirtual 60, 3) := by decide +kernel
theorem dX2_replay_36 : decode cX2_replay 36 = .ok (.pop, 1) := by decide +kernel
theorem dX2_replay_37 : decode cX2_replay 37 = .ok (.goto 16, 3) := by decide +kernel
theorem dX2_replay_40 : decode cX2_replay 40 = .ok (.aload_n 1, 1) := by decide +kernel
theorem dX2_replay_41 : decode cX2_replay 41 = .ok (.aload_n 0, 1) := by decide +kernel
theorem dX2_replay_42 : decode cX2_replay 42 = .ok (.getfield 20, 3) := by decide +kernel
theorem dX2_replay_45 : decode cX2_replay 45 = .ok (.iload_n 2, 1) := by decide +kernel
theorem dX2_replay_46 : decode cX2_replay 46 = .ok (.iaload, 1) := by decide +kernel
theorem dX2_replay_47 : decode cX2_replay 47 = .ok (.iconst 2, 1) := by decide +kernel
theorem dX2_replay_48 : decode cX2_replay 48 = .ok (.idiv, 1) := by decide +kernel
theorem dX2_replay_49 : decode cX2_replay 49 = .ok (.invokevirtual 63, 3) := by decide +kernel
theorem dX2_replay_52 : decode cX2_replay 52 = .ok (.pop, 1) := by decide +kernel
theorem dX2_replay_53 : decode cX2_replay 53 = .ok (.return_, 1) := by decide +kernel
theorem dX2_lastChange_0 : decode cX2_lastChange 0 = .ok (.aload_n 0, 1) := by decide +kernel
theorem dX2_lastChange_1 : decode cX2_lastChange 1 = .ok (.getfield 39, 3) := by decide +kernel
theorem dX2_lastChange_4 : decode cX2_lastChange 4 = .ok (.iconst 1, 1) := by decide +kernel
theorem dX2_lastChange_5 : decode cX2_lastChange 5 = .ok (.isub, 1) := by decide +kernel
theorem dX2_lastChange_6 : decode cX2_lastChange 6 = .ok (.istore_n 3, 1) := by decide +kernel
theorem dX2_lastChange_7 : decode cX2_lastChange 7 = .ok (.iload_n 3, 1) := by decide +kernel
theorem dX2_lastChange_8 : decode cX2_lastChange 8 = .ok (.ifCond .lt 27, 3) := by decide +kernel
theorem dX2_lastChange_11 : decode cX2_lastChange 11 = .ok (.aload_n 0, 1) := by decide +kernel
theorem dX2_lastChange_12 : decode cX2_lastChange 12 = .ok (.getfield 20, 3) := by decide +kernel
theorem dX2_lastChange_15 : decode cX2_lastChange 15 = .ok (.iload_n 3, 1) := by decide +kernel
theorem dX2_lastChange_16 : decode cX2_lastChange 16 = .ok (.iaload, 1) := by decide +kernel
theorem dX2_lastChange_17 : decode cX2_lastChange 17 = .ok (.iload_n 2, 1) := by decide +kernel
theorem dX2_lastChange_18 : decode cX2_lastChange 18 = .ok (.iconst 2, 1) := by decide +kernel
theorem dX2_lastChange_19 : decode cX2_lastChange 19 = .ok (.imul, 1) := by decide +kernel
theorem dX2_lastChange_20 : decode cX2_lastChange 20 = .ok (.iload_n 1, 1) := by decide +kernel
theorem dX2_lastChange_21 : decode cX2_lastChange 21 = .ok (.iadd, 1) := by decide +kernel
theorem dX2_lastChange_22 : decode cX2_lastChange 22 = .ok (.if_icmp .ne 7, 3) := by decide +kernel
theorem dX2_lastChange_25 : decode cX2_lastChange 25 = .ok (.iload_n 3, 1) := by decide +kernel
theorem dX2_lastChange_26 : decode cX2_lastChange 26 = .ok (.iconst 1, 1) := by decide +kernel
theorem dX2_lastChange_27 : decode cX2_lastChange 27 = .ok (.iadd, 1) := by decide +kernel
theorem dX2_lastChange_28 : decode cX2_lastChange 28 = .ok (.ireturn, 1) := by decide +kernel
theorem dX2_lastChange_29 : decode cX2_lastChange 29 = .ok (.iinc 3 (-1), 3) := by decide +kernel
theorem dX2_lastChange_32 : decode cX2_lastChange 32 = .ok (.goto (-25), 3) := by decide +kernel
theorem dX2_lastChange_35 : decode cX2_lastChange 35 = .ok (.iconst (-1), 1) := by decide +kernel
theorem dX2_lastChange_36 : decode cX2_lastChange 36 = .ok (.ireturn, 1) := by decide +kernel
theorem dX2_copying_0 : decode cX2_copying 0 = .ok (.iconst 0, 1) := by decide +kernel
theorem dX2_copying_1 : decode cX2_copying 1 = .ok (.istore_n 1, 1) := by decide +kernel
theorem dX2_copying_2 : decode cX2_copying 2 = .ok (.iconst 0, 1) := by decide +kernel
theorem dX2_copying_3 : decode cX2_copying 3 = .ok (.istore_n 2, 1) := by decide +kernel
theorem dX2_copying_4 : decode cX2_copying 4 = .ok (.iload_n 2, 1) := by decide +kernel
theorem dX2_copying_5 : decode cX2_copying 5 = .ok (.aload_n 0, 1) := by decide +kernel
theorem dX2_copying_6 : decode cX2_copying 6 = .ok (.getfield 39, 3) := by decide +kernel
theorem dX2_copying_9 : decode cX2_copying 9 = .ok (.if_icmp .ge 18, 3) := by decide +kernel
theorem dX2_copying_12 : decode cX2_copying 12 = .ok (.iload_n 1, 1) := by decide +kernel
theorem dX2_copying_13 : decode cX2_copying 13 = .ok (.aload_n 0, 1) := by decide +kernel
theorem dX2_copying_14 : decode cX2_copying 14 = .ok (.getfield 24, 3) := by decide +kernel
theorem dX2_copying_17 : decode cX2_copying 17 = .ok (.iload_n 2, 1) := by decide +kernel
theorem dX2_copying_18 : decode cX2_copying 18 = .ok (.iaload, 1) := by decide +kernel
theorem dX2_copying_19 : decode cX2_copying 19 = .ok (.iadd, 1) := by decide +kernel
theorem dX2_copying_20 : decode cX2_copying 20 = .ok (.istore_n 1, 1) := by decide +kernel
theorem dX2_copying_21 : decode cX2_copying 21 = .ok (.iinc 2 1, 3) := by decide +kernel
theorem dX2_copying_24 : decode cX2_copying 24 = .ok (.goto (-20), 3) := by decide +kernel
theorem dX2_copying_27 : decode cX2_copying 27 = .ok (.iload_n 1, 1) := by decide +kernel
theorem dX2_copying_28 : decode cX2_copying 28 = .ok (.ireturn, 1) := by decide +kernel
def D_X2_clear (N : Nat) (g : gp) (a0 : Nat) (δ : dp) : Option (dp) :=
  (q_O g 2 0 a0).bind fun b_1 => (D_X3_clear N g b_1 δ).bind fun r_3 => bd (s_I r_3 2 4 a0 0) fun δ_4 => some δ_4
set_option maxHeartbeats 4000000 in
set_option maxRecDepth 100000 in
theorem c_X2_clear {l : Launch} {D : va_G} {cy : Nat → ClassId} {N d : Nat} {g : gp} (wt : WT g) (hl : l.stackTraces = false) (hd : 2 ≤ d) {a0 : Nat} {δ : dp} (k0 : q_K g a0 = 2) : CalD l D cy m_X2_clear d 0 0 ev g [.ref a0] δ (D_X2_clear N g a0 δ) := by
  refine CalD.of (by decide +kernel) (Nat.le_of_ble_eq_true rfl) hl ?_
  unfold D_X2_clear
  refine w_aload_n 0 0 (μ := m_X2_clear) (pc := 0) dX2_clear_0 rfl rfl ?_
  refine w_getO (μ := m_X2_clear) (pc := 1) dX2_clear_1 fl_X2_14 ir_2_0 id_2_0 k0 (fun b_1 e_2 => ?_)
  refine w_callV (As := []) (rest := []) (μ := m_X2_clear) (pc := 4) dX2_clear_4 cv_X2_36 rfl rfl (wt_2_0 wt k0 e_2) (by decide) rfl (Nat.le_of_ble_eq_true rfl) (d' := d - 1) (by omega) he_v (c_X3_clear wt hl (d := d - 1) (by omega) (wt_2_0 wt k0 e_2)) (fun r_3 => ?_)
  refine w_aload_n 0 0 (μ := m_X2_clear) (pc := 7) dX2_clear_7 rfl rfl ?_
  refine w_iconst (v := 0) (μ := m_X2_clear) (pc := 8) dX2_clear_8 (by decide) ?_
  refine w_putI (μ := m_X2_clear) (pc := 9) dX2_clear_9 fl_X2_39 flw_2_4 ir_2_4 k0 ?_
  refine w_bd (fun δ_4 e_5 => ?_)
  exact w_vret (μ := m_X2_clear) (pc := 12) dX2_clear_12 rfl rfl
def J_X2_refusal_37 (N : Nat) (g : gp) (a0 : Nat) (x1 : Int32) (x2 : Int32) (xs0 : Int32) (δ : dp) : Option (Int32 × dp) :=
  some (xs0, δ)
set_option maxHeartbeats 4000000 in
set_option maxRecDepth 100000 in
theorem t_J_X2_refusal_37 {l : Launch} {D : va_G} {cy : Nat → ClassId} {N d : Nat} {g : gp} (wt : WT g) (hl : l.stackTraces = false) (hd : 1 ≤ d) {a0 : Nat} {x1 : Int32} {x2 : Int32} (k0 : q_K g a0 = 2) : ∀ (xs0 : Int32) (δ : dp), AWD l D cy m_X2_refusal d 0 0 ei g 37 [] [.int xs0] δ (J_X2_refusal_37 N g a0 x1 x2 xs0 δ) := by
    intro xs0 δ 
    unfold J_X2_refusal_37
    exact w_iret (μ := m_X2_refusal) (pc := 37) dX2_refusal_37 rfl rfl
def D_X2_refusal (N : Nat) (g : gp) (a0 : Nat) (x1 : Int32) (x2 : Int32) (δ : dp) : Option (Int32 × dp) :=
  (q_O g 2 0 a0).bind fun b_1 => if ((q_I δ 3 1 b_1) + x1) ≤ (2000 : Int32) then (if (((q_I δ 2 4 a0) + x1) + x2) ≤ (1000 : Int32) then (J_X2_refusal_37 N g a0 x1 x2 0 δ) else (J_X2_refusal_37 N g a0 x1 x2 ((-2)) δ)) else (some ((-1), δ))
set_option maxHeartbeats 4000000 in
set_option maxRecDepth 100000 in
theorem c_X2_refusal {l : Launch} {D : va_G} {cy : Nat → ClassId} {N d : Nat} {g : gp} (wt : WT g) (hl : l.stackTraces = false) (hd : 1 ≤ d) {a0 : Nat} {x1 : Int32} {x2 : Int32} {δ : dp} (k0 : q_K g a0 = 2) : CalD l D cy m_X2_refusal d 0 0 ei g [.ref a0, .int x1, .int x2] δ (D_X2_refusal N g a0 x1 x2 δ) := by
  refine CalD.of (by decide +kernel) (Nat.le_of_ble_eq_true rfl) hl ?_
  unfold D_X2_refusal
  refine w_aload_n 0 0 (μ := m_X2_refusal) (pc := 0) dX2_refusal_0 rfl rfl ?_
  refine w_getO (μ := m_X2_refusal) (pc := 1) dX2_refusal_1 fl_X2_14 ir_2_0 id_2_0 k0 (fun b_1 e_2 => ?_)
  refine w_getI (μ := m_X2_refusal) (pc := 4) dX2_refusal_4 fl_X2_43 ir_3_1 (wt_2_0 wt k0 e_2) ?_
  refine w_iload_n 1 1 (μ := m_X2_refusal) (pc := 7) dX2_refusal_7 rfl rfl ?_
  refine w_iadd (μ := m_X2_refusal) (pc := 8) dX2_refusal_8 ?_
  refine w_sipush (v := 2000) (μ := m_X2_refusal) (pc := 9) dX2_refusal_9 (by decide) ?_
  refine w_icmp_le 17 (μ := m_X2_refusal) (pc := 12) dX2_refusal_12 (by decide) (fun c_3 => ?_) (fun c_3 => ?_)
  · refine w_aload_n 0 0 (μ := m_X2_refusal) (pc := 17) dX2_refusal_17 rfl rfl ?_
    refine w_getI (μ := m_X2_refusal) (pc := 18) dX2_refusal_18 fl_X2_39 ir_2_4 k0 ?_
    refine w_iload_n 1 1 (μ := m_X2_refusal) (pc := 21) dX2_refusal_21 rfl rfl ?_
    refine w_iadd (μ := m_X2_refusal) (pc := 22) dX2_refusal_22 ?_
    refine w_iload_n 2 2 (μ := m_X2_refusal) (pc := 23) dX2_refusal_23 rfl rfl ?_
    refine w_iadd (μ := m_X2_refusal) (pc := 24) dX2_refusal_24 ?_
    refine w_sipush (v := 1000) (μ := m_X2_refusal) (pc := 25) dX2_refusal_25 (by decide) ?_
    refine w_icmp_le 36 (μ := m_X2_refusal) (pc := 28) dX2_refusal_28 (by decide) (fun c_4 => ?_) (fun c_4 => ?_)
    · refine w_iconst (v := 0) (μ := m_X2_refusal) (pc := 36) dX2_refusal_36 (by decide) ?_
      refine w_lv [] rfl ?_
      exact t_J_X2_refusal_37 wt hl (by omega) k0 _ _
    · refine w_bipush (v := (-2)) (μ := m_X2_refusal) (pc := 31) dX2_refusal_31 (by decide) ?_
      refine w_goto 37 (μ := m_X2_refusal) (pc := 33) dX2_refusal_33 (by decide) ?_
      refine w_lv [] rfl ?_
      exact t_J_X2_refusal_37 wt hl (by omega) k0 _ _
  · refine w_iconst (v := (-1)) (μ := m_X2_refusal) (pc := 15) dX2_refusal_15 (by decide) ?_
    exact w_iret (μ := m_X2_refusal) (pc := 16) dX2_refusal_16 rfl rfl
def J_X2_replay_53 (N : Nat) (g : gp) (a0 : Nat) (a1 : Nat) (x2 : Int32) (x3 : Int32) (δ : dp) : Option (dp) :=
  some δ
set_option maxHeartbeats 4000000 in
set_option maxRecDepth 100000 in
theorem t_J_X2_replay_53 {l : Launch} {D : va_G} {cy : Nat → ClassId} {N d : Nat} {g : gp} (wt : WT g) (hl : l.stackTraces = false) (hd : 3 ≤ d) {a0 : Nat} {a1 : Nat} {x2 : Int32} {x3 : Int32} (k0 : q_K g a0 = 2) (k1 : q_K g a1 = 3) : ∀ (δ : dp), AWD l D cy m_X2_replay d 0 0 ev g 53 [] [] δ (J_X2_replay_53 N g a0 a1 x2 x3 δ) := by
    intro  δ 
    unfold J_X2_replay_53
    exact w_vret (μ := m_X2_replay) (pc := 53) dX2_replay_53 rfl rfl
def J_X2_replay_16 (N : Nat) (g : gp) (a0 : Nat) (a1 : Nat) (x2 : Int32) (x3 : Int32) (xs0 : Int32) (δ : dp) : Option (dp) :=
  if xs0 = x3 then ((q_O g 2 2 a0).bind fun b_5 => if x2 < 0 ∨ q_N g b_5 ≤ x2.toNatClampNeg then none else (D_X3_remove N g a1 ((q_R δ b_5 x2.toNatClampNeg) / 2) δ).bind fun r_7 => J_X2_replay_53 N g a0 a1 x2 x3 r_7.2) else ((q_O g 2 2 a0).bind fun b_8 => if x2 < 0 ∨ q_N g b_8 ≤ x2.toNatClampNeg then none else (D_X3_add N g a1 ((q_R δ b_8 x2.toNatClampNeg) / 2) δ).bind fun r_10 => J_X2_replay_53 N g a0 a1 x2 x3 r_10.2)
set_option maxHeartbeats 4000000 in
set_option maxRecDepth 100000 in
theorem t_J_X2_replay_16 {l : Launch} {D : va_G} {cy : Nat → ClassId} {N d : Nat} {g : gp} (wt : WT g) (hl : l.stackTraces = false) (hd : 3 ≤ d) {a0 : Nat} {a1 : Nat} {x2 : Int32} {x3 : Int32} (k0 : q_K g a0 = 2) (k1 : q_K g a1 = 3) : ∀ (xs0 : Int32) (δ : dp), AWD l D cy m_X2_replay d 0 0 ev g 16 [(0, .ref a0), (1, .ref a1), (2, .int x2), (3, .int x3)] [.int xs0] δ (J_X2_replay_16 N g a0 a1 x2 x3 xs0 δ) := by
    intro xs0 δ 
    unfold J_X2_replay_16
    refine w_istore [(4, .int xs0), (0, .ref a0), (1, .ref a1), (2, .int x2), (3, .int x3)] (μ := m_X2_replay) (pc := 16) dX2_replay_16 (by decide) rfl ?_
    refine w_iload 0 (μ := m_X2_replay) (pc := 18) dX2_replay_18 rfl ?_
    refine w_iload_n 4 3 (μ := m_X2_replay) (pc := 20) dX2_replay_20 rfl rfl ?_
    refine w_icmp_eq 40 (μ := m_X2_replay) (pc := 21) dX2_replay_21 (by decide) (fun c_4 => ?_) (fun c_4 => ?_)
    · refine w_aload_n 2 1 (μ := m_X2_replay) (pc := 40) dX2_replay_40 rfl rfl ?_
      refine w_aload_n 1 0 (μ := m_X2_replay) (pc := 41) dX2_replay_41 rfl rfl ?_
      refine w_getO (μ := m_X2_replay) (pc := 42) dX2_replay_42 fl_X2_20 ir_2_2 id_2_2 k0 (fun b_5 e_6 => ?_)
      refine w_iload_n 3 2 (μ := m_X2_replay) (pc := 45) dX2_replay_45 rfl rfl ?_
      refine w_ald (μ := m_X2_replay) (pc := 46) dX2_replay_46 (wt_2_2 wt k0 e_6) ?_
      refine w_iconst (v := 2) (μ := m_X2_replay) (pc := 47) dX2_replay_47 (by decide) ?_
      refine w_idiv (μ := m_X2_replay) (pc := 48) dX2_replay_48 (by decide) ?_
      refine w_callV (As := [.int ((q_R δ b_5 x2.toNatClampNeg) / 2)]) (rest := []) (μ := m_X2_replay) (pc := 49) dX2_replay_49 cv_X2_63 rfl rfl k1 (by decide) rfl (Nat.le_of_ble_eq_true rfl) (d' := d - 1) (by omega) he_i (c_X3_remove wt hl (d := d - 1) (by omega) k1) (fun r_7 => ?_)
      refine w_pop (μ := m_X2_replay) (pc := 52) dX2_replay_52 rfl ?_
      refine w_lv [] rfl ?_
      exact t_J_X2_replay_53 wt hl (by omega) k0 k1 _
    · refine w_aload_n 2 1 (μ := m_X2_replay) (pc := 24) dX2_replay_24 rfl rfl ?_
      refine w_aload_n 1 0 (μ := m_X2_replay) (pc := 25) dX2_replay_25 rfl rfl ?_
      refine w_getO (μ := m_X2_replay) (pc := 26) dX2_replay_26 fl_X2_20 ir_2_2 id_2_2 k0 (fun b_8 e_9 => ?_)
      refine w_iload_n 3 2 (μ := m_X2_replay) (pc := 29) dX2_replay_29 rfl rfl ?_
      refine w_ald (μ := m_X2_replay) (pc := 30) dX2_replay_30 (wt_2_2 wt k0 e_9) ?_
      refine w_iconst (v := 2) (μ := m_X2_replay) (pc := 31) dX2_replay_31 (by decide) ?_
      refine w_idiv (μ := m_X2_replay) (pc := 32) dX2_replay_32 (by decide) ?_
      refine w_callV (As := [.int ((q_R δ b_8 x2.toNatClampNeg) / 2)]) (rest := []) (μ := m_X2_replay) (pc := 33) dX2_replay_33 cv_X2_60 rfl rfl k1 (by decide) rfl (Nat.le_of_ble_eq_true rfl) (d' := d - 1) (by omega) he_i (c_X3_add wt hl (d := d - 1) (by omega) k1) (fun r_10 => ?_)
      refine w_pop (μ := m_X2_replay) (pc := 36) dX2_replay_36 rfl ?_
      refine w_goto 53 (μ := m_X2_replay) (pc := 37) dX2_replay_37 (by decide) ?_
      refine w_lv [] rfl ?_
      exact t_J_X2_replay_53 wt hl (by omega) k0 k1 _
def D_X2_replay (N : Nat) (g : gp) (a0 : Nat) (a1 : Nat) (x2 : Int32) (x3 : Int32) (δ : dp) : Option (dp) :=
  (q_O g 2 2 a0).bind fun b_1 => if x2 < 0 ∨ q_N g b_1 ≤ x2.toNatClampNeg then none else if ((q_R δ b_1 x2.toNatClampNeg) - (q_R δ b_1 x2.toNatClampNeg) / 2 * 2) = 0 then (J_X2_replay_16 N g a0 a1 x2 x3 1 δ) else (J_X2_replay_16 N g a0 a1 x2 x3 0 δ)
set_option maxHeartbeats 4000000 in
set_option maxRecDepth 100000 in
theorem c_X2_replay {l : Launch} {D : va_G} {cy : Nat → ClassId} {N d : Nat} {g : gp} (wt : WT g) (hl : l.stackTraces = false) (hd : 3 ≤ d) {a0 : Nat} {a1 : Nat} {x2 : Int32} {x3 : Int32} {δ : dp} (k0 : q_K g a0 = 2) (k1 : q_K g a1 = 3) : CalD l D cy m_X2_replay d 0 0 ev g [.ref a0, .ref a1, .int x2, .int x3] δ (D_X2_replay N g a0 a1 x2 x3 δ) := by
  refine CalD.of (by decide +kernel) (Nat.le_of_ble_eq_true rfl) hl ?_
  unfold D_X2_replay
  refine w_aload_n 0 0 (μ := m_X2_replay) (pc := 0) dX2_replay_0 rfl rfl ?_
  refine w_getO (μ := m_X2_replay) (pc := 1) dX2_replay_1 fl_X2_20 ir_2_2 id_2_2 k0 (fun b_1 e_2 => ?_)
  refine w_iload_n 2 2 (μ := m_X2_replay) (pc := 4) dX2_replay_4 rfl rfl ?_
  refine w_ald (μ := m_X2_replay) (pc := 5) dX2_replay_5 (wt_2_2 wt k0 e_2) ?_
  refine w_iconst (v := 2) (μ := m_X2_replay) (pc := 6) dX2_replay_6 (by decide) ?_
  refine w_irem (μ := m_X2_replay) (pc := 7) dX2_replay_7 (by decide) ?_
  refine w_if_ne 15 (μ := m_X2_replay) (pc := 8) dX2_replay_8 (by decide) (fun c_3 => ?_) (fun c_3 => ?_)
  · refine w_iconst (v := 0) (μ := m_X2_replay) (pc := 15) dX2_replay_15 (by decide) ?_
    exact t_J_X2_replay_16 wt hl (by omega) k0 k1 _ _
  · refine w_iconst (v := 1) (μ := m_X2_replay) (pc := 11) dX2_replay_11 (by decide) ?_
    refine w_goto 16 (μ := m_X2_replay) (pc := 12) dX2_replay_12 (by decide) ?_
    exact t_J_X2_replay_16 wt hl (by omega) k0 k1 _ _
def L_X2_lastChange_7 (N : Nat) (g : gp) (a0 : Nat) (x1 : Int32) (x2 : Int32) : Nat → Int32 → dp → Option (Int32 × dp)
  | 0, _, _ => none
  | n + 1, x3v, δ => if x3v < 0 then (some ((-1), δ)) else ((q_O g 2 2 a0).bind fun b_4 => if x3v < 0 ∨ q_N g b_4 ≤ x3v.toNatClampNeg then none else if (q_R δ b_4 x3v.toNatClampNeg) = ((x2 * 2) + x1) then (some (x3v + 1, δ)) else (bi (x3v + (-1)) fun x_7 => L_X2_lastChange_7 N g a0 x1 x2 n x_7 δ))
set_option maxHeartbeats 4000000 in
set_option maxRecDepth 100000 in
theorem t_L_X2_lastChange_7 {l : Launch} {D : va_G} {cy : Nat → ClassId} {N d : Nat} {g : gp} (wt : WT g) (hl : l.stackTraces = false) (hd : 1 ≤ d) {a0 : Nat} {x1 : Int32} {x2 : Int32} (k0 : q_K g a0 = 2) : ∀ (n : Nat) (x3v : Int32) (δ : dp), AWD l D cy m_X2_lastChange d 0 0 ei g 7 [(0, .ref a0), (1, .int x1), (2, .int x2), (3, .int x3v)] [] δ (L_X2_lastChange_7 N g a0 x1 x2 n x3v δ) := by
  intro n
  induction n with
  | zero => intro x3v δ ; exact w_none
  | succ n ih =>
    intro x3v δ 
    unfold L_X2_lastChange_7
    refine w_iload_n 3 3 (μ := m_X2_lastChange) (pc := 7) dX2_lastChange_7 rfl rfl ?_
    refine w_if_lt 35 (μ := m_X2_lastChange) (pc := 8) dX2_lastChange_8 (by decide) (fun c_3 => ?_) (fun c_3 => ?_)
    · refine w_iconst (v := (-1)) (μ := m_X2_lastChange) (pc := 35) dX2_lastChange_35 (by decide) ?_
      exact w_iret (μ := m_X2_lastChange) (pc := 36) dX2_lastChange_36 rfl rfl
    · refine w_aload_n 0 0 (μ := m_X2_lastChange) (pc := 11) dX2_lastChange_11 rfl rfl ?_
      refine w_getO (μ := m_X2_lastChange) (pc := 12) dX2_lastChange_12 fl_X2_20 ir_2_2 id_2_2 k0 (fun b_4 e_5 => ?_)
      refine w_iload_n 3 3 (μ := m_X2_lastChange) (pc := 15) dX2_lastChange_15 rfl rfl ?_
      refine w_ald (μ := m_X2_lastChange) (pc := 16) dX2_lastChange_16 (wt_2_2 wt k0 e_5) ?_
      refine w_iload_n 2 2 (μ := m_X2_lastChange) (pc := 17) dX2_lastChange_17 rfl rfl ?_
      refine w_iconst (v := 2) (μ := m_X2_lastChange) (pc := 18) dX2_lastChange_18 (by decide) ?_
      refine w_imul (μ := m_X2_lastChange) (pc := 19) dX2_lastChange_19 ?_
      refine w_iload_n 1 1 (μ := m_X2_lastChange) (pc := 20) dX2_lastChange_20 rfl rfl ?_
      refine w_iadd (μ := m_X2_lastChange) (pc := 21) dX2_lastChange_21 ?_
      refine w_icmp_ne 29 (μ := m_X2_lastChange) (pc := 22) dX2_lastChange_22 (by decide) (fun c_6 => ?_) (fun c_6 => ?_)
      · refine w_inb (fun x_7 e_8 => ?_)
        refine w_iinc 3 [(3, .int x_7), (0, .ref a0), (1, .int x1), (2, .int x2)] (μ := m_X2_lastChange) (pc := 29) dX2_lastChange_29 rfl (by rw [e_8]; rfl) (by decide) rfl ?_
        refine w_goto 7 (μ := m_X2_lastChange) (pc := 32) dX2_lastChange_32 (by decide) ?_
        refine w_lv [1, 2, 3, 0] rfl ?_
        exact ih _ _
      · refine w_iload_n 3 3 (μ := m_X2_lastChange) (pc := 25) dX2_lastChange_25 rfl rfl ?_
        refine w_iconst (v := 1) (μ := m_X2_lastChange) (pc := 26) dX2_lastChange_26 (by decide) ?_
        refine w_iadd (μ := m_X2_lastChange) (pc := 27) dX2_lastChange_27 ?_
        exact w_iret (μ := m_X2_lastChange) (pc := 28) dX2_lastChange_28 rfl rfl
def D_X2_lastChange (N : Nat) (g : gp) (a0 : Nat) (x1 : Int32) (x2 : Int32) (δ : dp) : Option (Int32 × dp) :=
  bi ((q_I δ 2 4 a0) - 1) fun x_1 => L_X2_lastChange_7 N g a0 x1 x2 N x_1 δ
set_option maxHeartbeats 4000000 in
set_option maxRecDepth 100000 in
theorem c_X2_lastChange {l : Launch} {D : va_G} {cy : Nat → ClassId} {N d : Nat} {g : gp} (wt : WT g) (hl : l.stackTraces = false) (hd : 1 ≤ d) {a0 : Nat} {x1 : Int32} {x2 : Int32} {δ : dp} (k0 : q_K g a0 = 2) : CalD l D cy m_X2_lastChange d 0 0 ei g [.ref a0, .int x1, .int x2] δ (D_X2_lastChange N g a0 x1 x2 δ) := by
  refine CalD.of (by decide +kernel) (Nat.le_of_ble_eq_true rfl) hl ?_
  unfold D_X2_lastChange
  refine w_aload_n 0 0 (μ := m_X2_lastChange) (pc := 0) dX2_lastChange_0 rfl rfl ?_
  refine w_getI (μ := m_X2_lastChange) (pc := 1) dX2_lastChange_1 fl_X2_39 ir_2_4 k0 ?_
  refine w_iconst (v := 1) (μ := m_X2_lastChange) (pc := 4) dX2_lastChange_4 (by decide) ?_
  refine w_isub (μ := m_X2_lastChange) (pc := 5) dX2_lastChange_5 ?_
  refine w_bi (fun x_1 e_2 => ?_)
  refine w_istore_n [(3, .int x_1), (0, .ref a0), (1, .int x1), (2, .int x2)] (μ := m_X2_lastChange) (pc := 6) dX2_lastChange_6 rfl (by decide) rfl ?_
  refine w_lv [1, 2, 3, 0] rfl ?_
  exact t_L_X2_lastChange_7 wt hl (by omega) k0 N _ _
def L_X2_copying_4 (N : Nat) (g : gp) (a0 : Nat) : Nat → Int32 → Int32 → dp → Option (Int32 × dp)
  | 0, _, _, _ => none
  | n + 1, x1v, x2v, δ => if (q_I δ 2 4 a0) ≤ x2v then (some (x1v, δ)) else ((q_O g 2 3 a0).bind fun b_2 => if x2v < 0 ∨ q_N g b_2 ≤ x2v.toNatClampNeg then none else bi (x1v + (q_R δ b_2 x2v.toNatClampNeg)) fun x_4 => bi (x2v + 1) fun x_6 => L_X2_copying_4 N g a0 n x_4 x_6 δ)
set_option maxHeartbeats 4000000 in
set_option maxRecDepth 100000 in
theorem t_L_X2_copying_4 {l : Launch} {D : va_G} {cy : Nat → ClassId} {N d : Nat} {g : gp} (wt : WT g) (hl : l.stackTraces = false) (hd : 1 ≤ d) {a0 : Nat} (k0 : q_K g a0 = 2) : ∀ (n : Nat) (x1v : Int32) (x2v : Int32) (δ : dp), AWD l D cy m_X2_copying d 0 0 ei g 4 [(0, .ref a0), (1, .int x1v), (2, .int x2v)] [] δ (L_X2_copying_4 N g a0 n x1v x2v δ) := by
  intro n
  induction n with
  | zero => intro x1v x2v δ ; exact w_none
  | succ n ih =>
    intro x1v x2v δ 
    unfold L_X2_copying_4
    refine w_iload_n 2 2 (μ := m_X2_copying) (pc := 4) dX2_copying_4 rfl rfl ?_
    refine w_aload_n 0 0 (μ := m_X2_copying) (pc := 5) dX2_copying_5 rfl rfl ?_
    refine w_getI (μ := m_X2_copying) (pc := 6) dX2_copying_6 fl_X2_39 ir_2_4 k0 ?_
    refine w_icmp_ge 27 (μ := m_X2_copying) (pc := 9) dX2_copying_9 (by decide) (fun c_1 => ?_) (fun c_1 => ?_)
    · refine w_iload_n 1 1 (μ := m_X2_copying) (pc := 27) dX2_copying_27 rfl rfl ?_
      exact w_iret (μ := m_X2_copying) (pc := 28) dX2_copying_28 rfl rfl
    · refine w_iload_n 1 1 (μ := m_X2_copying) (pc := 12) dX2_copying_12 rfl rfl ?_
      refine w_aload_n 0 0 (μ := m_X2_copying) (pc := 13) dX2_copying_13 rfl rfl ?_
      refine w_getO (μ := m_X2_copying) (pc := 14) dX2_copying_14 fl_X2_24 ir_2_3 id_2_3 k0 (fun b_2 e_3 => ?_)
      refine w_iload_n 2 2 (μ := m_X2_copying) (pc := 17) dX2_copying_17 rfl rfl ?_
      refine w_ald (μ := m_X2_copying) (pc := 18) dX2_copying_18 (wt_2_3 wt k0 e_3) ?_
      refine w_iadd (μ := m_X2_copying) (pc := 19) dX2_copying_19 ?_
      refine w_bi (fun x_4 e_5 => ?_)
      refine w_istore_n [(1, .int x_4), (0, .ref a0), (2, .int x2v)] (μ := m_X2_copying) (pc := 20) dX2_copying_20 rfl (by decide) rfl ?_
      refine w_inb (fun x_6 e_7 => ?_)
      refine w_iinc 2 [(2, .int x_6), (1, .int x_4), (0, .ref a0)] (μ := m_X2_copying) (pc := 21) dX2_copying_21 rfl (by rw [e_7]; rfl) (by decide) rfl ?_
      refine w_goto 4 (μ := m_X2_copying) (pc := 24) dX2_copying_24 (by decide) ?_
      refine w_lv [2, 1, 0] rfl ?_
      exact ih _ _ _
def D_X2_copying (N : Nat) (g : gp) (a0 : Nat) (δ : dp) : Option (Int32 × dp) :=
  L_X2_copying_4 N g a0 N 0 0 δ
set_option maxHeartbeats 4000000 in
set_option maxRecDepth 100000 in
theorem c_X2_copying {l : Launch} {D : va_G} {cy : Nat → ClassId} {N d : Nat} {g : gp} (wt : WT g) (hl : l.stackTraces = false) (hd : 1 ≤ d) {a0 : Nat} {δ : dp} (k0 : q_K g a0 = 2) : CalD l D cy m_X2_copying d 0 0 ei g [.ref a0] δ (D_X2_copying N g a0 δ) := by
  refine CalD.of (by decide +kernel) (Nat.le_of_ble_eq_true rfl) hl ?_
  unfold D_X2_copying
  refine w_iconst (v := 0) (μ := m_X2_copying) (pc := 0) dX2_copying_0 (by decide) ?_
  refine w_istore_n [(1, .int 0), (0, .ref a0)] (μ := m_X2_copying) (pc := 1) dX2_copying_1 rfl (by decide) rfl ?_
  refine w_iconst (v := 0) (μ := m_X2_copying) (pc := 2) dX2_copying_2 (by decide) ?_
  refine w_istore_n [(2, .int 0), (1, .int 0), (0, .ref a0)] (μ := m_X2_copying) (pc := 3) dX2_copying_3 rfl (by decide) rfl ?_
  refine w_lv [2, 1, 0] rfl ?_
  exact t_L_X2_copying_4 wt hl (by omega) k0 N _ _ _
def L_X2_goBack_0 (N : Nat) (g : gp) (a0 : Nat) (x1 : Int32) : Nat → dp → Option (dp)
  | 0, _ => none
  | n + 1, δ => if (q_I δ 2 4 a0) ≤ x1 then (some δ) else (bd (s_I δ 2 4 a0 ((q_I δ 2 4 a0) - 1)) fun δ_2 => (q_O g 2 0 a0).bind fun b_4 => (D_X2_replay N g a0 b_4 (q_I δ_2 2 4 a0) 1 δ_2).bind fun r_6 => L_X2_goBack_0 N g a0 x1 n r_6)
set_option maxHeartbeats 4000000 in
set_option maxRecDepth 100000 in
theorem t_L_X2_goBack_0 {l : Launch} {D : va_G} {cy : Nat → ClassId} {N d : Nat} {g : gp} (wt : WT g) (hl : l.stackTraces = false) (hd : 4 ≤ d) {a0 : Nat} {x1 : Int32} (k0 : q_K g a0 = 2) : ∀ (n : Nat) (δ : dp), AWD l D cy m_X2_goBack d 0 0 ev g 0 [(0, .ref a0), (1, .int x1)] [] δ (L_X2_goBack_0 N g a0 x1 n δ) := by
  intro n
  induction n with
  | zero => intro  δ ; exact w_none
  | succ n ih =>
    intro  δ 
    unfold L_X2_goBack_0
    refine w_aload_n 0 0 (μ := m_X2_goBack) (pc := 0) dX2_goBack_0 rfl rfl ?_
    refine w_getI (μ := m_X2_goBack) (pc := 1) dX2_goBack_1 fl_X2_39 ir_2_4 k0 ?_
    refine w_iload_n 1 1 (μ := m_X2_goBack) (pc := 4) dX2_goBack_4 rfl rfl ?_
    refine w_icmp_le 34 (μ := m_X2_goBack) (pc := 5) dX2_goBack_5 (by decide) (fun c_1 => ?_) (fun c_1 => ?_)
    · exact w_vret (μ := m_X2_goBack) (pc := 34) dX2_goBack_34 rfl rfl
    · refine w_aload_n 0 0 (μ := m_X2_goBack) (pc := 8) dX2_goBack_8 rfl rfl ?_
      refine w_dup (μ := m_X2_goBack) (pc := 9) dX2_goBack_9 rfl ?_
      refine w_getI (μ := m_X2_goBack) (pc := 10) dX2_goBack_10 fl_X2_39 ir_2_4 k0 ?_
      refine w_iconst (v := 1) (μ := m_X2_goBack) (pc := 13) dX2_goBack_13 (by decide) ?_
      refine w_isub (μ := m_X2_goBack) (pc := 14) dX2_goBack_14 ?_
      refine w_putI (μ := m_X2_goBack) (pc := 15) dX2_goBack_15 fl_X2_39 flw_2_4 ir_2_4 k0 ?_
      refine w_bd (fun δ_2 e_3 => ?_)
      refine w_aload_n 0 0 (μ := m_X2_goBack) (pc := 18) dX2_goBack_18 rfl rfl ?_
      refine w_aload_n 0 0 (μ := m_X2_goBack) (pc := 19) dX2_goBack_19 rfl rfl ?_
      refine w_getO (μ := m_X2_goBack) (pc := 20) dX2_goBack_20 fl_X2_14 ir_2_0 id_2_0 k0 (fun b_4 e_5 => ?_)
      refine w_aload_n 0 0 (μ := m_X2_goBack) (pc := 23) dX2_goBack_23 rfl rfl ?_
      refine w_getI (μ := m_X2_goBack) (pc := 24) dX2_goBack_24 fl_X2_39 ir_2_4 k0 ?_
      refine w_iconst (v := 1) (μ := m_X2_goBack) (pc := 27) dX2_goBack_27 (by decide) ?_
      refine w_callV (As := [.ref b_4, .int (q_I δ_2 2 4 a0), .int 1]) (rest := []) (μ := m_X2_goBack) (pc := 28) dX2_goBack_28 cv_X2_70 rfl rfl k0 (by decide) rfl (Nat.le_of_ble_eq_true rfl) (d' := d - 1) (by omega) he_v (c_X2_replay wt hl (d := d - 1) (by omega) k0 (wt_2_0 wt k0 e_5)) (fun r_6 => ?_)
      refine w_goto 0 (μ := m_X2_goBack) (pc := 31) dX2_goBack_31 (by decide) ?_
      exact ih _
def D_X2_goBack (N : Nat) (g : gp) (a0 : Nat) (x1 : Int32) (δ : dp) : Option (dp) :=
  L_X2_goBack_0 N g a0 x1 N δ
set_option maxHeartbeats 4000000 in
set_option maxRecDepth 100000 in
theorem c_X2_goBack {l : Launch} {D : va_G} {cy : Nat → ClassId} {N d : Nat} {g : gp} (wt : WT g) (hl : l.stackTraces = false) (hd : 4 ≤ d) {a0 : Nat} {x1 : Int32} {δ : dp} (k0 : q_K g a0 = 2) : CalD l D cy m_X2_goBack d 0 0 ev g [.ref a0, .int x1] δ (D_X2_goBack N g a0 x1 δ) := by
  refine CalD.of (by decide +kernel) (Nat.le_of_ble_eq_true rfl) hl ?_
  unfold D_X2_goBack
  exact t_L_X2_goBack_0 wt hl (by omega) k0 N _
def L_X2_fillPast_6 (N : Nat) (g : gp) (a0 : Nat) (a1 : Nat) (x2 : Int32) : Nat → Int32 → dp → Option (dp)
  | 0, _, _ => none
  | n + 1, x3v, δ => if x2 ≤ x3v then (some δ) else ((D_X2_replay N g a0 a1 x3v 0 δ).bind fun r_3 => bi (x3v + 1) fun x_4 => L_X2_fillPast_6 N g a0 a1 x2 n x_4 r_3)
set_option maxHeartbeats 4000000 in
set_option maxRecDepth 100000 in
theorem t_L_X2_fillPast_6 {l : Launch} {D : va_G} {cy : Nat → ClassId} {N d : Nat} {g : gp} (wt : WT g) (hl : l.stackTraces = false) (hd : 4 ≤ d) {a0 : Nat} {a1 : Nat} {x2 : Int32} (k0 : q_K g a0 = 2) (k1 : q_K g a1 = 3) : ∀ (n : Nat) (x3v : Int32) (δ : dp), AWD l D cy m_X2_fillPast d 0 0 ev g 6 [(0, .ref a0), (1, .ref a1), (2, .int x2), (3, .int x3v)] [] δ (L_X2_fillPast_6 N g a0 a1 x2 n x3v δ) := by
  intro n
  induction n with
  | zero => intro x3v δ ; exact w_none
  | succ n ih =>
    intro x3v δ 
    unfold L_X2_fillPast_6
    refine w_iload_n 3 3 (μ := m_X2_fillPast) (pc := 6) dX2_fillPast_6 rfl rfl ?_
    refine w_iload_n 2 2 (μ := m_X2_fillPast) (pc := 7) dX2_fillPast_7 rfl rfl ?_
    refine w_icmp_ge 24 (μ := m_X2_fillPast) (pc := 8) dX2_fillPast_8 (by decide) (fun c_2 => ?_) (fun c_2 => ?_)
    · exact w_vret (μ := m_X2_fillPast) (pc := 24) dX2_fillPast_24 rfl rfl
    · refine w_aload_n 0 0 (μ := m_X2_fillPast) (pc := 11) dX2_fillPast_11 rfl rfl ?_
      refine w_aload_n 1 1 (μ := m_X2_fillPast) (pc := 12) dX2_fillPast_12 rfl rfl ?_
      refine w_iload_n 3 3 (μ := m_X2_fillPast) (pc := 13) dX2_fillPast_13 rfl rfl ?_
      refine w_iconst (v := 0) (μ := m_X2_fillPast) (pc := 14) dX2_fillPast_14 (by decide) ?_
      refine w_callV (As := [.ref a1, .int x3v, .int 0]) (rest := []) (μ := m_X2_fillPast) (pc := 15) dX2_fillPast_15 cv_X2_70 rfl rfl k0 (by decide) rfl (Nat.le_of_ble_eq_true rfl) (d' := d - 1) (by omega) he_v (c_X2_replay wt hl (d := d - 1) (by omega) k0 k1) (fun r_3 => ?_)
      refine w_inb (fun x_4 e_5 => ?_)
      refine w_iinc 3 [(3, .int x_4), (0, .ref a0), (1, .ref a1), (2, .int x2)] (μ := m_X2_fillPast) (pc := 18) dX2_fillPast_18 rfl (by rw [e_5]; rfl) (by decide) rfl ?_
      refine w_goto 6 (μ := m_X2_fillPast) (pc := 21) dX2_fillPast_21 (by decide) ?_
      refine w_lv [1, 2, 3, 0] rfl ?_
      exact ih _ _
def D_X2_fillPast (N : Nat) (g : gp) (a0 : Nat) (a1 : Nat) (x2 : Int32) (δ : dp) : Option (dp) :=
  (D_X3_clear N g a1 δ).bind fun r_1 => L_X2_fillPast_6 N g a0 a1 x2 N 0 r_1
set_option maxHeartbeats 4000000 in
set_option maxRecDepth 100000 in
theorem c_X2_fillPast {l : Launch} {D : va_G} {cy : Nat → ClassId} {N d : Nat} {g : gp} (wt : WT g) (hl : l.stackTraces = false) (hd : 4 ≤ d) {a0 : Nat} {a1 : Nat} {x2 : Int32} {δ : dp} (k0 : q_K g a0 = 2) (k1 : q_K g a1 = 3) : CalD l D cy m_X2_fillPast d 0 0 ev g [.ref a0, .ref a1, .int x2] δ (D_X2_fillPast N g a0 a1 x2 δ) := by
  refine CalD.of (by decide +kernel) (Nat.le_of_ble_eq_true rfl) hl ?_
  unfold D_X2_fillPast
  refine w_aload_n 1 1 (μ := m_X2_fillPast) (pc := 0) dX2_fillPast_0 rfl rfl ?_
  refine w_callV (As := []) (rest := []) (μ := m_X2_fillPast) (pc := 1) dX2_fillPast_1 cv_X2_36 rfl rfl k1 (by decide) rfl (Nat.le_of_ble_eq_true rfl) (d' := d - 1) (by omega) he_v (c_X3_clear wt hl (d := d - 1) (by omega) k1) (fun r_1 => ?_)
  refine w_iconst (v := 0) (μ := m_X2_fillPast) (pc := 4) dX2_fillPast_4 (by decide) ?_
  refine w_istore_n [(3, .int 0), (0, .ref a0), (1, .ref a1), (2, .int x2)] (μ := m_X2_fillPast) (pc := 5) dX2_fillPast_5 rfl (by decide) rfl ?_
  refine w_lv [1, 2, 3, 0] rfl ?_
  exact t_L_X2_fillPast_6 wt hl (by omega) k0 k1 N _ _
def J_X2_make_84 (N : Nat) (g : gp) (a0 : Nat) (x1 : Int32) (x2 : Int32) (x3v : Int32) (δ : dp) : Option (Int32 × dp) :=
  some (x3v, δ)
set_option maxHeartbeats 4000000 in
set_option maxRecDepth 100000 in
theorem t_J_X2_make_84 {l : Launch} {D : va_G} {cy : Nat → ClassId} {N d : Nat} {g : gp} (wt : WT g) (hl : l.stackTraces = false) (hd : 5 ≤ d) {a0 : Nat} {x1 : Int32} {x2 : Int32} (k0 : q_K g a0 = 2) : ∀ (x3v : Int32) (δ : dp), AWD l D cy m_X2_make d 0 0 ei g 84 [(3, .int x3v)] [] δ (J_X2_make_84 N g a0 x1 x2 x3v δ) := by
    intro x3v δ 
    unfold J_X2_make_84
    refine w_iload_n 0 3 (μ := m_X2_make) (pc := 84) dX2_make_84 rfl rfl ?_
    exact w_iret (μ := m_X2_make) (pc := 85) dX2_make_85 rfl rfl
def J_X2_make_33 (N : Nat) (g : gp) (a0 : Nat) (x1 : Int32) (x2 : Int32) (xs0 : Int32) (x3v : Int32) (δ : dp) : Option (Int32 × dp) :=
  if xs0 = 0 then (J_X2_make_84 N g a0 x1 x2 x3v δ) else (if (1000 : Int32) ≤ (q_I δ 2 4 a0) then (J_X2_make_84 N g a0 x1 x2 x3v δ) else ((q_O g 2 2 a0).bind fun b_10 => if (q_I δ 2 4 a0) < 0 ∨ q_N g b_10 ≤ (q_I δ 2 4 a0).toNatClampNeg then none else bd (s_R δ b_10 (q_I δ 2 4 a0).toNatClampNeg ((x2 * 2) + x1)) fun δ_12 => (q_O g 2 3 a0).bind fun b_14 => if (q_I δ_12 2 4 a0) < 0 ∨ q_N g b_14 ≤ (q_I δ_12 2 4 a0).toNatClampNeg then none else bd (s_R δ_12 b_14 (q_I δ_12 2 4 a0).toNatClampNeg x3v) fun δ_16 => bd (s_I δ_16 2 4 a0 ((q_I δ_16 2 4 a0) + 1)) fun δ_18 => J_X2_make_84 N g a0 x1 x2 x3v δ_18))
set_option maxHeartbeats 4000000 in
set_option maxRecDepth 100000 in
theorem t_J_X2_make_33 {l : Launch} {D : va_G} {cy : Nat → ClassId} {N d : Nat} {g : gp} (wt : WT g) (hl : l.stackTraces = false) (hd : 5 ≤ d) {a0 : Nat} {x1 : Int32} {x2 : Int32} (k0 : q_K g a0 = 2) : ∀ (xs0 : Int32) (x3v : Int32) (δ : dp), AWD l D cy m_X2_make d 0 0 ei g 33 [(0, .ref a0), (1, .int x1), (2, .int x2), (3, .int x3v)] [.int xs0] δ (J_X2_make_33 N g a0 x1 x2 xs0 x3v δ) := by
    intro xs0 x3v δ 
    unfold J_X2_make_33
    refine w_istore [(4, .int xs0), (0, .ref a0), (1, .int x1), (2, .int x2), (3, .int x3v)] (μ := m_X2_make) (pc := 33) dX2_make_33 (by decide) rfl ?_
    refine w_iload 0 (μ := m_X2_make) (pc := 35) dX2_make_35 rfl ?_
    refine w_if_eq 84 (μ := m_X2_make) (pc := 37) dX2_make_37 (by decide) (fun c_8 => ?_) (fun c_8 => ?_)
    · refine w_lv [4] rfl ?_
      exact t_J_X2_make_84 wt hl (by omega) k0 _ _
    · refine w_aload_n 1 0 (μ := m_X2_make) (pc := 40) dX2_make_40 rfl rfl ?_
      refine w_getI (μ := m_X2_make) (pc := 41) dX2_make_41 fl_X2_39 ir_2_4 k0 ?_
      refine w_sipush (v := 1000) (μ := m_X2_make) (pc := 44) dX2_make_44 (by decide) ?_
      refine w_icmp_ge 84 (μ := m_X2_make) (pc := 47) dX2_make_47 (by decide) (fun c_9 => ?_) (fun c_9 => ?_)
      · refine w_lv [4] rfl ?_
        exact t_J_X2_make_84 wt hl (by omega) k0 _ _
      · refine w_aload_n 1 0 (μ := m_X2_make) (pc := 50) dX2_make_50 rfl rfl ?_
        refine w_getO (μ := m_X2_make) (pc := 51) dX2_make_51 fl_X2_20 ir_2_2 id_2_2 k0 (fun b_10 e_11 => ?_)
        refine w_aload_n 1 0 (μ := m_X2_make) (pc := 54) dX2_make_54 rfl rfl ?_
        refine w_getI (μ := m_X2_make) (pc := 55) dX2_make_55 fl_X2_39 ir_2_4 k0 ?_
        refine w_iload_n 3 2 (μ := m_X2_make) (pc := 58) dX2_make_58 rfl rfl ?_
        refine w_iconst (v := 2) (μ := m_X2_make) (pc := 59) dX2_make_59 (by decide) ?_
        refine w_imul (μ := m_X2_make) (pc := 60) dX2_make_60 ?_
        refine w_iload_n 2 1 (μ := m_X2_make) (pc := 61) dX2_make_61 rfl rfl ?_
        refine w_iadd (μ := m_X2_make) (pc := 62) dX2_make_62 ?_
        refine w_ast (μ := m_X2_make) (pc := 63) dX2_make_63 (wt_2_2 wt k0 e_11) ?_
        refine w_bd (fun δ_12 e_13 => ?_)
        refine w_aload_n 1 0 (μ := m_X2_make) (pc := 64) dX2_make_64 rfl rfl ?_
        refine w_getO (μ := m_X2_make) (pc := 65) dX2_make_65 fl_X2_24 ir_2_3 id_2_3 k0 (fun b_14 e_15 => ?_)
        refine w_aload_n 1 0 (μ := m_X2_make) (pc := 68) dX2_make_68 rfl rfl ?_
        refine w_getI (μ := m_X2_make) (pc := 69) dX2_make_69 fl_X2_39 ir_2_4 k0 ?_
        refine w_iload_n 4 3 (μ := m_X2_make) (pc := 72) dX2_make_72 rfl rfl ?_
        refine w_ast (μ := m_X2_make) (pc := 73) dX2_make_73 (wt_2_3 wt k0 e_15) ?_
        refine w_bd (fun δ_16 e_17 => ?_)
        refine w_aload_n 1 0 (μ := m_X2_make) (pc := 74) dX2_make_74 rfl rfl ?_
        refine w_dup (μ := m_X2_make) (pc := 75) dX2_make_75 rfl ?_
        refine w_getI (μ := m_X2_make) (pc := 76) dX2_make_76 fl_X2_39 ir_2_4 k0 ?_
        refine w_iconst (v := 1) (μ := m_X2_make) (pc := 79) dX2_make_79 (by decide) ?_
        refine w_iadd (μ := m_X2_make) (pc := 80) dX2_make_80 ?_
        refine w_putI (μ := m_X2_make) (pc := 81) dX2_make_81 fl_X2_39 flw_2_4 ir_2_4 k0 ?_
        refine w_bd (fun δ_18 e_19 => ?_)
        refine w_lv [4] rfl ?_
        exact t_J_X2_make_84 wt hl (by omega) k0 _ _
def D_X2_make (N : Nat) (g : gp) (a0 : Nat) (x1 : Int32) (x2 : Int32) (δ : dp) : Option (Int32 × dp) :=
  (q_O g 2 1 a0).bind fun b_1 => (D_X1_touchesOf N g b_1 x1 x2 δ).bind fun r_3 => if x1 = 0 then ((q_O g 2 0 a0).bind fun b_20 => (D_X3_add N g b_20 x2 r_3.2).bind fun r_22 => J_X2_make_33 N g a0 x1 x2 r_22.1 r_3.1 r_22.2) else ((q_O g 2 0 a0).bind fun b_5 => (D_X3_remove N g b_5 x2 r_3.2).bind fun r_7 => J_X2_make_33 N g a0 x1 x2 r_7.1 r_3.1 r_7.2)
set_option maxHeartbeats 4000000 in
set_option maxRecDepth 100000 in
theorem c_X2_make {l : Launch} {D : va_G} {cy : Nat → ClassId} {N d : Nat} {g : gp} (wt : WT g) (hl : l.stackTraces = false) (hd : 5 ≤ d) {a0 : Nat} {x1 : Int32} {x2 : Int32} {δ : dp} (k0 : q_K g a0 = 2) : CalD l D cy m_X2_make d 0 0 ei g [.ref a0, .int x1, .int x2] δ (D_X2_make N g a0 x1 x2 δ) := by
  refine CalD.of (by decide +kernel) (Nat.le_of_ble_eq_true rfl) hl ?_
  unfold D_X2_make
  refine w_aload_n 0 0 (μ := m_X2_make) (pc := 0) dX2_make_0 rfl rfl ?_
  refine w_getO (μ := m_X2_make) (pc := 1) dX2_make_1 fl_X2_32 ir_2_1 id_2_1 k0 (fun b_1 e_2 => ?_)
  refine w_iload_n 1 1 (μ := m_X2_make) (pc := 4) dX2_make_4 rfl rfl ?_
  refine w_iload_n 2 2 (μ := m_X2_make) (pc := 5) dX2_make_5 rfl rfl ?_
  refine w_callV (As := [.int x1, .int x2]) (rest := []) (μ := m_X2_make) (pc := 6) dX2_make_6 cv_X2_57 rfl rfl (wt_2_1 wt k0 e_2) (by decide) rfl (Nat.le_of_ble_eq_true rfl) (d' := d - 1) (by omega) he_i (c_X1_touchesOf wt hl (d := d - 1) (by omega) (wt_2_1 wt k0 e_2)) (fun r_3 => ?_)
  refine w_istore_n [(3, .int r_3.1), (0, .ref a0), (1, .int x1), (2, .int x2)] (μ := m_X2_make) (pc := 9) dX2_make_9 rfl (by decide) rfl ?_
  refine w_iload_n 2 1 (μ := m_X2_make) (pc := 10) dX2_make_10 rfl rfl ?_
  refine w_if_ne 25 (μ := m_X2_make) (pc := 11) dX2_make_11 (by decide) (fun c_4 => ?_) (fun c_4 => ?_)
  · refine w_aload_n 1 0 (μ := m_X2_make) (pc := 25) dX2_make_25 rfl rfl ?_
    refine w_getO (μ := m_X2_make) (pc := 26) dX2_make_26 fl_X2_14 ir_2_0 id_2_0 k0 (fun b_5 e_6 => ?_)
    refine w_iload_n 3 2 (μ := m_X2_make) (pc := 29) dX2_make_29 rfl rfl ?_
    refine w_callV (As := [.int x2]) (rest := []) (μ := m_X2_make) (pc := 30) dX2_make_30 cv_X2_63 rfl rfl (wt_2_0 wt k0 e_6) (by decide) rfl (Nat.le_of_ble_eq_true rfl) (d' := d - 1) (by omega) he_i (c_X3_remove wt hl (d := d - 1) (by omega) (wt_2_0 wt k0 e_6)) (fun r_7 => ?_)
    refine w_lv [1, 2, 3, 0] rfl ?_
    exact t_J_X2_make_33 wt hl (by omega) k0 _ _ _
  · refine w_aload_n 1 0 (μ := m_X2_make) (pc := 14) dX2_make_14 rfl rfl ?_
    refine w_getO (μ := m_X2_make) (pc := 15) dX2_make_15 fl_X2_14 ir_2_0 id_2_0 k0 (fun b_20 e_21 => ?_)
    refine w_iload_n 3 2 (μ := m_X2_make) (pc := 18) dX2_make_18 rfl rfl ?_
    refine w_callV (As := [.int x2]) (rest := []) (μ := m_X2_make) (pc := 19) dX2_make_19 cv_X2_60 rfl rfl (wt_2_0 wt k0 e_21) (by decide) rfl (Nat.le_of_ble_eq_true rfl) (d' := d - 1) (by omega) he_i (c_X3_add wt hl (d := d - 1) (by omega) (wt_2_0 wt k0 e_21)) (fun r_22 => ?_)
    refine w_goto 33 (μ := m_X2_make) (pc := 22) dX2_make_22 (by decide) ?_
    refine w_lv [1, 2, 3, 0] rfl ?_
    exact t_J_X2_make_33 wt hl (by omega) k0 _ _ _
def L_X2_makeAll_5 (N : Nat) (g : gp) (a0 : Nat) (x1 : Int32) (a2 : Nat) : Nat → Int32 → Int32 → dp → Option (Int32 × dp)
  | 0, _, _, _ => none
  | n + 1, x3v, x4v, δ => if (q_I δ 3 1 a2) ≤ x4v then (some (x3v, δ)) else ((D_X3_at N g a2 x4v δ).bind fun r_2 => (D_X2_make N g a0 x1 r_2.1 r_2.2).bind fun r_3 => bi (x3v + r_3.1) fun x_4 => bi (x4v + 1) fun x_6 => L_X2_makeAll_5 N g a0 x1 a2 n x_4 x_6 r_3.2)
set_option maxHeartbeats 4000000 in
set_option maxRecDepth 100000 in
theorem t_L_X2_makeAll_5 {l : Launch} {D : va_G} {cy : Nat → ClassId} {N d : Nat} {g : gp} (wt : WT g) (hl : l.stackTraces = false) (hd : 6 ≤ d) {a0 : Nat} {x1 : Int32} {a2 : Nat} (k0 : q_K g a0 = 2) (k2 : q_K g a2 = 3) : ∀ (n : Nat) (x3v : Int32) (x4v : Int32) (δ : dp), AWD l D cy m_X2_makeAll d 0 0 ei g 5 [(0, .ref a0), (1, .int x1), (2, .ref a2), (3, .int x3v), (4, .int x4v)] [] δ (L_X2_makeAll_5 N g a0 x1 a2 n x3v x4v δ) := by
  intro n
  induction n with
  | zero => intro x3v x4v δ ; exact w_none
  | succ n ih =>
    intro x3v x4v δ 
    unfold L_X2_makeAll_5
    refine w_iload 4 (μ := m_X2_makeAll) (pc := 5) dX2_makeAll_5 rfl ?_
    refine w_aload_n 2 2 (μ := m_X2_makeAll) (pc := 7) dX2_makeAll_7 rfl rfl ?_
    refine w_getI (μ := m_X2_makeAll) (pc := 8) dX2_makeAll_8 fl_X2_43 ir_3_1 k2 ?_
    refine w_icmp_ge 34 (μ := m_X2_makeAll) (pc := 11) dX2_makeAll_11 (by decide) (fun c_1 => ?_) (fun c_1 => ?_)
    · refine w_iload_n 3 3 (μ := m_X2_makeAll) (pc := 34) dX2_makeAll_34 rfl rfl ?_
      exact w_iret (μ := m_X2_makeAll) (pc := 35) dX2_makeAll_35 rfl rfl
    · refine w_iload_n 3 3 (μ := m_X2_makeAll) (pc := 14) dX2_makeAll_14 rfl rfl ?_
      refine w_aload_n 0 0 (μ := m_X2_makeAll) (pc := 15) dX2_makeAll_15 rfl rfl ?_
      refine w_iload_n 1 1 (μ := m_X2_makeAll) (pc := 16) dX2_makeAll_16 rfl rfl ?_
      refine w_aload_n 2 2 (μ := m_X2_makeAll) (pc := 17) dX2_makeAll_17 rfl rfl ?_
      refine w_iload 4 (μ := m_X2_makeAll) (pc := 18) dX2_makeAll_18 rfl ?_
      refine w_callV (As := [.int x4v]) (rest := [.int x1, .ref a0, .int x3v]) (μ := m_X2_makeAll) (pc := 20) dX2_makeAll_20 cv_X2_66 rfl rfl k2 (by decide) rfl (Nat.le_of_ble_eq_true rfl) (d' := d - 1) (by omega) he_i (c_X3_at wt hl (d := d - 1) (by omega) k2) (fun r_2 => ?_)
      refine w_callV (As := [.int x1, .int r_2.1]) (rest := [.int x3v]) (μ := m_X2_makeAll) (pc := 23) dX2_makeAll_23 cv_X2_54 rfl rfl k0 (by decide) rfl (Nat.le_of_ble_eq_true rfl) (d' := d - 1) (by omega) he_i (c_X2_make wt hl (d := d - 1) (by omega) k0) (fun r_3 => ?_)
      refine w_iadd (μ := m_X2_makeAll) (pc := 26) dX2_makeAll_26 ?_
      refine w_bi (fun x_4 e_5 => ?_)
      refine w_istore_n [(3, .int x_4), (0, .ref a0), (1, .int x1), (2, .ref a2), (4, .int x4v)] (μ := m_X2_makeAll) (pc := 27) dX2_makeAll_27 rfl (by decide) rfl ?_
      refine w_inb (fun x_6 e_7 => ?_)
      refine w_iinc 4 [(4, .int x_6), (3, .int x_4), (0, .ref a0), (1, .int x1), (2, .ref a2)] (μ := m_X2_makeAll) (pc := 28) dX2_makeAll_28 rfl (by rw [e_7]; rfl) (by decide) rfl ?_
      refine w_goto 5 (μ := m_X2_makeAll) (pc := 31) dX2_makeAll_31 (by decide) ?_
      refine w_lv [2, 3, 4, 1, 0] rfl ?_
      exact ih _ _ _
def D_X2_makeAll (N : Nat) (g : gp) (a0 : Nat) (x1 : Int32) (a2 : Nat) (δ : dp) : Option (Int32 × dp) :=
  L_X2_makeAll_5 N g a0 x1 a2 N 0 0 δ
set_option maxHeartbeats 4000000 in
set_option maxRecDepth 100000 in
theorem c_X2_makeAll {l : Launch} {D : va_G} {cy : Nat → ClassId} {N d : Nat} {g : gp} (wt : WT g) (hl : l.stackTraces = false) (hd : 6 ≤ d) {a0 : Nat} {x1 : Int32} {a2 : Nat} {δ : dp} (k0 : q_K g a0 = 2) (k2 : q_K g a2 = 3) : CalD l D cy m_X2_makeAll d 0 0 ei g [.ref a0, .int x1, .ref a2] δ (D_X2_makeAll N g a0 x1 a2 δ) := by
  refine CalD.of (by decide +kernel) (Nat.le_of_ble_eq_true rfl) hl ?_
  unfold D_X2_makeAll
  refine w_iconst (v := 0) (μ := m_X2_makeAll) (pc := 0) dX2_makeAll_0 (by decide) ?_
  refine w_istore_n [(3, .int 0), (0, .ref a0), (1, .int x1), (2, .ref a2)] (μ := m_X2_makeAll) (pc := 1) dX2_makeAll_1 rfl (by decide) rfl ?_
  refine w_iconst (v := 0) (μ := m_X2_makeAll) (pc := 2) dX2_makeAll_2 (by decide) ?_
  refine w_istore [(4, .int 0), (3, .int 0), (0, .ref a0), (1, .int x1), (2, .ref a2)] (μ := m_X2_makeAll) (pc := 3) dX2_makeAll_3 (by decide) rfl ?_
  refine w_lv [2, 3, 4, 1, 0] rfl ?_
  exact t_L_X2_makeAll_5 wt hl (by omega) k0 k2 N _ _ _
def J_X2_dropAllBut_58 (N : Nat) (g : gp) (a0 : Nat) (a1 : Nat) (kt16 : Int32 → Int32 → Int32 → Int32 → dp → Option (Int32 × dp)) (x2v : Int32) (x3v : Int32) (x4v : Int32) (x5v : Int32) (δ : dp) : Option (Int32 × dp) :=
  bi (x5v + 1) fun x_14 => kt16 x2v x3v x4v x_14 δ
set_option maxHeartbeats 4000000 in
set_option maxRecDepth 100000 in
theorem t_J_X2_dropAllBut_58 {l : Launch} {D : va_G} {cy : Nat → ClassId} {N d : Nat} {g : gp} (wt : WT g) (hl : l.stackTraces = false) (hd : 6 ≤ d) {a0 : Nat} {a1 : Nat} (k0 : q_K g a0 = 2) (k1 : q_K g a1 = 3) {kt16 : Int32 → Int32 → Int32 → Int32 → dp → Option (Int32 × dp)} (hk16 : ∀ (x2v : Int32) (x3v : Int32) (x4v : Int32) (x5v : Int32) (δ : dp), AWD l D cy m_X2_dropAllBut d 0 0 ei g 16 [(0, .ref a0), (1, .ref a1), (2, .int x2v), (3, .int x3v), (4, .int x4v), (5, .int x5v)] [] δ (kt16 x2v x3v x4v x5v δ)) : ∀ (x2v : Int32) (x3v : Int32) (x4v : Int32) (x5v : Int32) (δ : dp), AWD l D cy m_X2_dropAllBut d 0 0 ei g 58 [(0, .ref a0), (1, .ref a1), (2, .int x2v), (3, .int x3v), (4, .int x4v), (5, .int x5v)] [] δ (J_X2_dropAllBut_58 N g a0 a1 kt16 x2v x3v x4v x5v δ) := by
    intro x2v x3v x4v x5v δ 
    unfold J_X2_dropAllBut_58
    refine w_inb (fun x_14 e_15 => ?_)
    refine w_iinc 5 [(5, .int x_14), (0, .ref a0), (1, .ref a1), (2, .int x2v), (3, .int x3v), (4, .int x4v)] (μ := m_X2_dropAllBut) (pc := 58) dX2_dropAllBut_58 rfl (by rw [e_15]; rfl) (by decide) rfl ?_
    refine w_goto 16 (μ := m_X2_dropAllBut) (pc := 61) dX2_dropAllBut_61 (by decide) ?_
    refine w_lv [1, 2, 3, 4, 5, 0] rfl ?_
    exact hk16 _ _ _ _ _
def L_X2_dropAllBut_16 (N : Nat) (g : gp) (a0 : Nat) (a1 : Nat) : Nat → Int32 → Int32 → Int32 → Int32 → dp → Option (Int32 × dp)
  | 0, _, _, _, _, _ => none
  | n + 1, x2v, x3v, x4v, x5v, δ => if x4v ≤ x5v then (some (x2v, δ)) else ((q_O g 2 0 a0).bind fun b_6 => (D_X3_at N g b_6 x3v δ).bind fun r_8 => (D_X3_holds N g a1 r_8.1 r_8.2).bind fun r_9 => if r_9.1 = 0 then ((D_X2_make N g a0 1 r_8.1 r_9.2).bind fun r_11 => bi (x2v + r_11.1) fun x_12 => J_X2_dropAllBut_58 N g a0 a1 (L_X2_dropAllBut_16 N g a0 a1 n) x_12 x3v x4v x5v r_11.2) else (bi (x3v + 1) fun x_16 => J_X2_dropAllBut_58 N g a0 a1 (L_X2_dropAllBut_16 N g a0 a1 n) x2v x_16 x4v x5v r_9.2))
set_option maxHeartbeats 4000000 in
set_option maxRecDepth 100000 in
theorem t_L_X2_dropAllBut_16 {l : Launch} {D : va_G} {cy : Nat → ClassId} {N d : Nat} {g : gp} (wt : WT g) (hl : l.stackTraces = false) (hd : 6 ≤ d) {a0 : Nat} {a1 : Nat} (k0 : q_K g a0 = 2) (k1 : q_K g a1 = 3) : ∀ (n : Nat) (x2v : Int32) (x3v : Int32) (x4v : Int32) (x5v : Int32) (δ : dp), AWD l D cy m_X2_dropAllBut d 0 0 ei g 16 [(0, .ref a0), (1, .ref a1), (2, .int x2v), (3, .int x3v), (4, .int x4v), (5, .int x5v)] [] δ (L_X2_dropAllBut_16 N g a0 a1 n x2v x3v x4v x5v δ) := by
  intro n
  induction n with
  | zero => intro x2v x3v x4v x5v δ ; exact w_none
  | succ n ih =>
    intro x2v x3v x4v x5v δ 
    unfold L_X2_dropAllBut_16
    refine w_iload 5 (μ := m_X2_dropAllBut) (pc := 16) dX2_dropAllBut_16 rfl ?_
    refine w_iload 4 (μ := m_X2_dropAllBut) (pc := 18) dX2_dropAllBut_18 rfl ?_
    refine w_icmp_ge 64 (μ := m_X2_dropAllBut) (pc := 20) dX2_dropAllBut_20 (by decide) (fun c_5 => ?_) (fun c_5 => ?_)
    · refine w_iload_n 2 2 (μ := m_X2_dropAllBut) (pc := 64) dX2_dropAllBut_64 rfl rfl ?_
      exact w_iret (μ := m_X2_dropAllBut) (pc := 65) dX2_dropAllBut_65 rfl rfl
    · refine w_aload_n 0 0 (μ := m_X2_dropAllBut) (pc := 23) dX2_dropAllBut_23 rfl rfl ?_
      refine w_getO (μ := m_X2_dropAllBut) (pc := 24) dX2_dropAllBut_24 fl_X2_14 ir_2_0 id_2_0 k0 (fun b_6 e_7 => ?_)
      refine w_iload_n 3 3 (μ := m_X2_dropAllBut) (pc := 27) dX2_dropAllBut_27 rfl rfl ?_
      refine w_callV (As := [.int x3v]) (rest := []) (μ := m_X2_dropAllBut) (pc := 28) dX2_dropAllBut_28 cv_X2_66 rfl rfl (wt_2_0 wt k0 e_7) (by decide) rfl (Nat.le_of_ble_eq_true rfl) (d' := d - 1) (by omega) he_i (c_X3_at wt hl (d := d - 1) (by omega) (wt_2_0 wt k0 e_7)) (fun r_8 => ?_)
      refine w_istore [(6, .int r_8.1), (0, .ref a0), (1, .ref a1), (2, .int x2v), (3, .int x3v), (4, .int x4v), (5, .int x5v)] (μ := m_X2_dropAllBut) (pc := 31) dX2_dropAllBut_31 (by decide) rfl ?_
      refine w_aload_n 2 1 (μ := m_X2_dropAllBut) (pc := 33) dX2_dropAllBut_33 rfl rfl ?_
      refine w_iload 0 (μ := m_X2_dropAllBut) (pc := 34) dX2_dropAllBut_34 rfl ?_
      refine w_callV (As := [.int r_8.1]) (rest := []) (μ := m_X2_dropAllBut) (pc := 36) dX2_dropAllBut_36 cv_X2_46 rfl rfl k1 (by decide) rfl (Nat.le_of_ble_eq_true rfl) (d' := d - 1) (by omega) he_i (c_X3_holds wt hl (d := d - 1) (by omega) k1) (fun r_9 => ?_)
      refine w_if_eq 48 (μ := m_X2_dropAllBut) (pc := 39) dX2_dropAllBut_39 (by decide) (fun c_10 => ?_) (fun c_10 => ?_)
      · refine w_iload_n 3 2 (μ := m_X2_dropAllBut) (pc := 48) dX2_dropAllBut_48 rfl rfl ?_
        refine w_aload_n 1 0 (μ := m_X2_dropAllBut) (pc := 49) dX2_dropAllBut_49 rfl rfl ?_
        refine w_iconst (v := 1) (μ := m_X2_dropAllBut) (pc := 50) dX2_dropAllBut_50 (by decide) ?_
        refine w_iload 0 (μ := m_X2_dropAllBut) (pc := 51) dX2_dropAllBut_51 rfl ?_
        refine w_callV (As := [.int 1, .int r_8.1]) (rest := [.int x2v]) (μ := m_X2_dropAllBut) (pc := 53) dX2_dropAllBut_53 cv_X2_54 rfl rfl k0 (by decide) rfl (Nat.le_of_ble_eq_true rfl) (d' := d - 1) (by omega) he_i (c_X2_make wt hl (d := d - 1) (by omega) k0) (fun r_11 => ?_)
        refine w_iadd (μ := m_X2_dropAllBut) (pc := 56) dX2_dropAllBut_56 ?_
        refine w_bi (fun x_12 e_13 => ?_)
        refine w_istore_n [(2, .int x_12), (6, .int r_8.1), (0, .ref a0), (1, .ref a1), (3, .int x3v), (4, .int x4v), (5, .int x5v)] (μ := m_X2_dropAllBut) (pc := 57) dX2_dropAllBut_57 rfl (by decide) rfl ?_
        refine w_lv [2, 3, 0, 4, 5, 6] rfl ?_
        exact t_J_X2_dropAllBut_58 wt hl (by omega) k0 k1 ih _ _ _ _ _
      · refine w_inb (fun x_16 e_17 => ?_)
        refine w_iinc 4 [(3, .int x_16), (6, .int r_8.1), (0, .ref a0), (1, .ref a1), (2, .int x2v), (4, .int x4v), (5, .int x5v)] (μ := m_X2_dropAllBut) (pc := 42) dX2_dropAllBut_42 rfl (by rw [e_17]; rfl) (by decide) rfl ?_
        refine w_goto 58 (μ := m_X2_dropAllBut) (pc := 45) dX2_dropAllBut_45 (by decide) ?_
        refine w_lv [2, 3, 4, 0, 5, 6] rfl ?_
        exact t_J_X2_dropAllBut_58 wt hl (by omega) k0 k1 ih _ _ _ _ _
def D_X2_dropAllBut (N : Nat) (g : gp) (a0 : Nat) (a1 : Nat) (δ : dp) : Option (Int32 × dp) :=
  (q_O g 2 0 a0).bind fun b_1 => bi (q_I δ 3 1 b_1) fun x_3 => L_X2_dropAllBut_16 N g a0 a1 N 0 0 x_3 0 δ
set_option maxHeartbeats 4000000 in
set_option maxRecDepth 100000 in
theorem c_X2_dropAllBut {l : Launch} {D : va_G} {cy : Nat → ClassId} {N d : Nat} {g : gp} (wt : WT g) (hl : l.stackTraces = false) (hd : 6 ≤ d) {a0 : Nat} {a1 : Nat} {δ : dp} (k0 : q_K g a0 = 2) (k1 : q_K g a1 = 3) : CalD l D cy m_X2_dropAllBut d 0 0 ei g [.ref a0, .ref a1] δ (D_X2_dropAllBut N g a0 a1 δ) := by
  refine CalD.of (by decide +kernel) (Nat.le_of_ble_eq_true rfl) hl ?_
  unfold D_X2_dropAllBut
  refine w_iconst (v := 0) (μ := m_X2_dropAllBut) (pc := 0) dX2_dropAllBut_0 (by decide) ?_
  refine w_istore_n [(2, .int 0), (0, .ref a0), (1, .ref a1)] (μ := m_X2_dropAllBut) (pc := 1) dX2_dropAllBut_1 rfl (by decide) rfl ?_
  refine w_iconst (v := 0) (μ := m_X2_dropAllBut) (pc := 2) dX2_dropAllBut_2 (by decide) ?_
  refine w_istore_n [(3, .int 0), (2, .int 0), (0, .ref a0), (1, .ref a1)] (μ := m_X2_dropAllBut) (pc := 3) dX2_dropAllBut_3 rfl (by decide) rfl ?_
  refine w_aload_n 2 0 (μ := m_X2_dropAllBut) (pc := 4) dX2_dropAllBut_4 rfl rfl ?_
  refine w_getO (μ := m_X2_dropAllBut) (pc := 5) dX2_dropAllBut_5 fl_X2_14 ir_2_0 id_2_0 k0 (fun b_1 e_2 => ?_)
  refine w_getI (μ := m_X2_dropAllBut) (pc := 8) dX2_dropAllBut_8 fl_X2_43 ir_3_1 (wt_2_0 wt k0 e_2) ?_
  refine w_bi (fun x_3 e_4 => ?_)
  refine w_istore [(4, .int x_3), (3, .int 0), (2, .int 0), (0, .ref a0), (1, .ref a1)] (μ := m_X2_dropAllBut) (pc := 11) dX2_dropAllBut_11 (by decide) rfl ?_
  refine w_iconst (v := 0) (μ := m_X2_dropAllBut) (pc := 13) dX2_dropAllBut_13 (by decide) ?_
  refine w_istore [(5, .int 0), (4, .int x_3), (3, .int 0), (2, .int 0), (0, .ref a0), (1, .ref a1)] (μ := m_X2_dropAllBut) (pc := 14) dX2_dropAllBut_14 (by decide) rfl ?_
  refine w_lv [4, 5, 3, 2, 1, 0] rfl ?_
  exact t_L_X2_dropAllBut_16 wt hl (by omega) k0 k1 N _ _ _ _ _
def J_X2_change_43 (N : Nat) (g : gp) (a0 : Nat) (x1 : Int32) (x2 : Int32) (xs0 : Int32) (xs1 : Int32) (as2 : Nat) (δ : dp) : Option (Int32 × dp) :=
  (D_X2_refusal N g as2 xs1 xs0 δ).bind fun r_8 => if 0 ≤ r_8.1 then ((D_X2_make N g a0 x1 x2 r_8.2).bind fun r_10 => some (1, r_10.2)) else (some (r_8.1, r_8.2))
set_option maxHeartbeats 4000000 in
set_option maxRecDepth 100000 in
theorem t_J_X2_change_43 {l : Launch} {D : va_G} {cy : Nat → ClassId} {N d : Nat} {g : gp} (wt : WT g) (hl : l.stackTraces = false) (hd : 6 ≤ d) {a0 : Nat} {x1 : Int32} {x2 : Int32} (k0 : q_K g a0 = 2) : ∀ (xs0 : Int32) (xs1 : Int32) (as2 : Nat) (δ : dp), q_K g as2 = 2 → AWD l D cy m_X2_change d 0 0 ei g 43 [(0, .ref a0), (1, .int x1), (2, .int x2)] [.int xs0, .int xs1, .ref as2] δ (J_X2_change_43 N g a0 x1 x2 xs0 xs1 as2 δ) := by
    intro xs0 xs1 as2 δ has2
    unfold J_X2_change_43
    refine w_callV (As := [.int xs1, .int xs0]) (rest := []) (μ := m_X2_change) (pc := 43) dX2_change_43 cv_X2_50 rfl rfl has2 (by decide) rfl (Nat.le_of_ble_eq_true rfl) (d' := d - 1) (by omega) he_i (c_X2_refusal wt hl (d := d - 1) (by omega) has2) (fun r_8 => ?_)
    refine w_istore [(4, .int r_8.1), (0, .ref a0), (1, .int x1), (2, .int x2)] (μ := m_X2_change) (pc := 46) dX2_change_46 (by decide) rfl ?_
    refine w_iload 0 (μ := m_X2_change) (pc := 48) dX2_change_48 rfl ?_
    refine w_if_ge 56 (μ := m_X2_change) (pc := 50) dX2_change_50 (by decide) (fun c_9 => ?_) (fun c_9 => ?_)
    · refine w_aload_n 1 0 (μ := m_X2_change) (pc := 56) dX2_change_56 rfl rfl ?_
      refine w_iload_n 2 1 (μ := m_X2_change) (pc := 57) dX2_change_57 rfl rfl ?_
      refine w_iload_n 3 2 (μ := m_X2_change) (pc := 58) dX2_change_58 rfl rfl ?_
      refine w_callV (As := [.int x1, .int x2]) (rest := []) (μ := m_X2_change) (pc := 59) dX2_change_59 cv_X2_54 rfl rfl k0 (by decide) rfl (Nat.le_of_ble_eq_true rfl) (d' := d - 1) (by omega) he_i (c_X2_make wt hl (d := d - 1) (by omega) k0) (fun r_10 => ?_)
      refine w_pop (μ := m_X2_change) (pc := 62) dX2_change_62 rfl ?_
      refine w_iconst (v := 1) (μ := m_X2_change) (pc := 63) dX2_change_63 (by decide) ?_
      exact w_iret (μ := m_X2_change) (pc := 64) dX2_change_64 rfl rfl
    · refine w_iload 0 (μ := m_X2_change) (pc := 53) dX2_change_53 rfl ?_
      exact w_iret (μ := m_X2_change) (pc := 55) dX2_change_55 rfl rfl
def J_X2_change_34 (N : Nat) (g : gp) (a0 : Nat) (x1 : Int32) (x2 : Int32) (xs0 : Int32) (as1 : Nat) (x3v : Int32) (δ : dp) : Option (Int32 × dp) :=
  if x3v = 0 then (J_X2_change_43 N g a0 x1 x2 1 xs0 as1 δ) else (J_X2_change_43 N g a0 x1 x2 0 xs0 as1 δ)
set_option maxHeartbeats 4000000 in
set_option maxRecDepth 100000 in
theorem t_J_X2_change_34 {l : Launch} {D : va_G} {cy : Nat → ClassId} {N d : Nat} {g : gp} (wt : WT g) (hl : l.stackTraces = false) (hd : 6 ≤ d) {a0 : Nat} {x1 : Int32} {x2 : Int32} (k0 : q_K g a0 = 2) : ∀ (xs0 : Int32) (as1 : Nat) (x3v : Int32) (δ : dp), q_K g as1 = 2 → AWD l D cy m_X2_change d 0 0 ei g 34 [(0, .ref a0), (1, .int x1), (2, .int x2), (3, .int x3v)] [.int xs0, .ref as1] δ (J_X2_change_34 N g a0 x1 x2 xs0 as1 x3v δ) := by
    intro xs0 as1 x3v δ has1
    unfold J_X2_change_34
    refine w_iload_n 3 3 (μ := m_X2_change) (pc := 34) dX2_change_34 rfl rfl ?_
    refine w_if_eq 42 (μ := m_X2_change) (pc := 35) dX2_change_35 (by decide) (fun c_7 => ?_) (fun c_7 => ?_)
    · refine w_iconst (v := 1) (μ := m_X2_change) (pc := 42) dX2_change_42 (by decide) ?_
      refine w_lv [0, 1, 2] rfl ?_
      exact t_J_X2_change_43 wt hl (by omega) k0 _ _ _ _ has1
    · refine w_iconst (v := 0) (μ := m_X2_change) (pc := 38) dX2_change_38 (by decide) ?_
      refine w_goto 43 (μ := m_X2_change) (pc := 39) dX2_change_39 (by decide) ?_
      refine w_lv [0, 1, 2] rfl ?_
      exact t_J_X2_change_43 wt hl (by omega) k0 _ _ _ _ has1
def J_X2_change_9 (N : Nat) (g : gp) (a0 : Nat) (x1 : Int32) (x2 : Int32) (xs0 : Int32) (δ : dp) : Option (Int32 × dp) :=
  (q_O g 2 0 a0).bind fun b_2 => (D_X3_holds N g b_2 x2 δ).bind fun r_4 => if r_4.1 = xs0 then (some (0, r_4.2)) else (if xs0 = 0 then (J_X2_change_34 N g a0 x1 x2 0 a0 xs0 r_4.2) else (J_X2_change_34 N g a0 x1 x2 1 a0 xs0 r_4.2))
set_option maxHeartbeats 4000000 in
set_option maxRecDepth 100000 in
theorem t_J_X2_change_9 {l : Launch} {D : va_G} {cy : Nat → ClassId} {N d : Nat} {g : gp} (wt : WT g) (hl : l.stackTraces = false) (hd : 6 ≤ d) {a0 : Nat} {x1 : Int32} {x2 : Int32} (k0 : q_K g a0 = 2) : ∀ (xs0 : Int32) (δ : dp), AWD l D cy m_X2_change d 0 0 ei g 9 [(0, .ref a0), (1, .int x1), (2, .int x2)] [.int xs0] δ (J_X2_change_9 N g a0 x1 x2 xs0 δ) := by
    intro xs0 δ 
    unfold J_X2_change_9
    refine w_istore_n [(3, .int xs0), (0, .ref a0), (1, .int x1), (2, .int x2)] (μ := m_X2_change) (pc := 9) dX2_change_9 rfl (by decide) rfl ?_
    refine w_aload_n 1 0 (μ := m_X2_change) (pc := 10) dX2_change_10 rfl rfl ?_
    refine w_getO (μ := m_X2_change) (pc := 11) dX2_change_11 fl_X2_14 ir_2_0 id_2_0 k0 (fun b_2 e_3 => ?_)
    refine w_iload_n 3 2 (μ := m_X2_change) (pc := 14) dX2_change_14 rfl rfl ?_
    refine w_callV (As := [.int x2]) (rest := []) (μ := m_X2_change) (pc := 15) dX2_change_15 cv_X2_46 rfl rfl (wt_2_0 wt k0 e_3) (by decide) rfl (Nat.le_of_ble_eq_true rfl) (d' := d - 1) (by omega) he_i (c_X3_holds wt hl (d := d - 1) (by omega) (wt_2_0 wt k0 e_3)) (fun r_4 => ?_)
    refine w_iload_n 0 3 (μ := m_X2_change) (pc := 18) dX2_change_18 rfl rfl ?_
    refine w_icmp_ne 24 (μ := m_X2_change) (pc := 19) dX2_change_19 (by decide) (fun c_5 => ?_) (fun c_5 => ?_)
    · refine w_aload_n 1 0 (μ := m_X2_change) (pc := 24) dX2_change_24 rfl rfl ?_
      refine w_iload_n 0 3 (μ := m_X2_change) (pc := 25) dX2_change_25 rfl rfl ?_
      refine w_if_eq 33 (μ := m_X2_change) (pc := 26) dX2_change_26 (by decide) (fun c_6 => ?_) (fun c_6 => ?_)
      · refine w_iconst (v := 0) (μ := m_X2_change) (pc := 33) dX2_change_33 (by decide) ?_
        refine w_lv [1, 2, 3, 0] rfl ?_
        exact t_J_X2_change_34 wt hl (by omega) k0 _ _ _ _ k0
      · refine w_iconst (v := 1) (μ := m_X2_change) (pc := 29) dX2_change_29 (by decide) ?_
        refine w_goto 34 (μ := m_X2_change) (pc := 30) dX2_change_30 (by decide) ?_
        refine w_lv [1, 2, 3, 0] rfl ?_
        exact t_J_X2_change_34 wt hl (by omega) k0 _ _ _ _ k0
    · refine w_iconst (v := 0) (μ := m_X2_change) (pc := 22) dX2_change_22 (by decide) ?_
      exact w_iret (μ := m_X2_change) (pc := 23) dX2_change_23 rfl rfl
def D_X2_change (N : Nat) (g : gp) (a0 : Nat) (x1 : Int32) (x2 : Int32) (δ : dp) : Option (Int32 × dp) :=
  if x1 = 0 then (J_X2_change_9 N g a0 x1 x2 1 δ) else (J_X2_change_9 N g a0 x1 x2 0 δ)
set_option maxHeartbeats 4000000 in
set_option maxRecDepth 100000 in
theorem c_X2_change {l : Launch} {D : va_G} {cy : Nat → ClassId} {N d : Nat} {g : gp} (wt : WT g) (hl : l.stackTraces = false) (hd : 6 ≤ d) {a0 : Nat} {x1 : Int32} {x2 : Int32} {δ : dp} (k0 : q_K g a0 = 2) : CalD l D cy m_X2_change d 0 0 ei g [.ref a0, .int x1, .int x2] δ (D_X2_change N g a0 x1 x2 δ) := by
  refine CalD.of (by decide +kernel) (Nat.le_of_ble_eq_true rfl) hl ?_
  unfold D_X2_change
  refine w_iload_n 1 1 (μ := m_X2_change) (pc := 0) dX2_change_0 rfl rfl ?_
  refine w_if_ne 8 (μ := m_X2_change) (pc := 1) dX2_change_1 (by decide) (fun c_1 => ?_) (fun c_1 => ?_)
  · refine w_iconst (v := 0) (μ := m_X2_change) (pc := 8) dX2_change_8 (by decide) ?_
    exact t_J_X2_change_9 wt hl (by omega) k0 _ _
  · refine w_iconst (v := 1) (μ := m_X2_change) (pc := 4) dX2_change_4 (by decide) ?_
    refine w_goto 9 (μ := m_X2_change) (pc := 5) dX2_change_5 (by decide) ?_
    exact t_J_X2_change_9 wt hl (by omega) k0 _ _
