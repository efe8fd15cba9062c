theorem dX0_forget_0 : decode cX0_forget 0 = .ok (.aload_n 0, 1) := by decide +kernel
theorem dX0_forget_1 : decode cX0_forget 1 = .ok (.iconst 0, 1) := by decide +kernel
theorem dX0_forget_2 : decode cX0_forget 2 = .ok (.putfield 42, 3) := by decide +kernel
theorem dX0_forget_5 : decode cX0_forget 5 = .ok (.aload_n 0, 1) := by decide +kernel
theorem dX0_forget_6 : decode cX0_forget 6 = .ok (.iconst 0, 1) := by decide +kernel
theorem dX0_forget_7 : decode cX0_forget 7 = .ok (.putfield 46, 3) := by decide +kernel
theorem dX0_forget_10 : decode cX0_forget 10 = .ok (.return_, 1) := by decide +kernel
theorem dX0_learn_0 : decode cX0_learn 0 = .ok (.aload_n 0, 1) := by decide +kernel
theorem dX0_learn_1 : decode cX0_learn 1 = .ok (.getfield 42, 3) := by decide +kernel
theorem dX0_learn_4 : decode cX0_learn 4 = .ok (.ifCond .ne 7, 3) := by decide +kernel
theorem dX0_learn_7 : decode cX0_learn 7 = .ok (.aload_n 0, 1) := by decide +kernel
theorem dX0_learn_8 : decode cX0_learn 8 = .ok (.invokevirtual 50, 3) := by decide +kernel
theorem dX0_learn_11 : decode cX0_learn 11 = .ok (.aload_n 0, 1) := by decide +kernel
theorem dX0_learn_12 : decode cX0_learn 12 = .ok (.getfield 46, 3) := by decide +kernel
theorem dX0_learn_15 : decode cX0_learn 15 = .ok (.iload_n 1, 1) := by decide +kernel
theorem dX0_learn_16 : decode cX0_learn 16 = .ok (.if_icmp .eq 48, 3) := by decide +kernel
theorem dX0_learn_19 : decode cX0_learn 19 = .ok (.aload_n 0, 1) := by decide +kernel
theorem dX0_learn_20 : decode cX0_learn 20 = .ok (.getfield 16, 3) := by decide +kernel
theorem dX0_learn_23 : decode cX0_learn 23 = .ok (.invokevirtual 53, 3) := by decide +kernel
theorem dX0_learn_26 : decode cX0_learn 26 = .ok (.aload_n 0, 1) := by decide +kernel
theorem dX0_learn_27 : decode cX0_learn 27 = .ok (.getfield 22, 3) := by decide +kernel
theorem dX0_learn_30 : decode cX0_learn 30 = .ok (.iload_n 1, 1) := by decide +kernel
theorem dX0_learn_31 : decode cX0_learn 31 = .ok (.aaload, 1) := by decide +kernel
theorem dX0_learn_32 : decode cX0_learn 32 = .ok (.iconst 0, 1) := by decide +kernel
theorem dX0_learn_33 : decode cX0_learn 33 = .ok (.iaload, 1) := by decide +kernel
theorem dX0_learn_34 : decode cX0_learn 34 = .ok (.istore_n 2, 1) := by decide +kernel
theorem dX0_learn_35 : decode cX0_learn 35 = .ok (.iload_n 2, 1) := by decide +kernel
theorem dX0_learn_36 : decode cX0_learn 36 = .ok (.ifCond .le 18, 3) := by decide +kernel
theorem dX0_learn_39 : decode cX0_learn 39 = .ok (.aload_n 0, 1) := by decide +kernel
theorem dX0_learn_40 : decode cX0_learn 40 = .ok (.iload_n 1, 1) := by decide +kernel
theorem dX0_learn_41 : decode cX0_learn 41 = .ok (.iload_n 2, 1) := by decide +kernel
theorem dX0_learn_42 : decode cX0_learn 42 = .ok (.invokevirtual 56, 3) := by decide +kernel
theorem dX0_learn_45 : decode cX0_learn 45 = .ok (.ifCond .ne 9, 3) := by decide +kernel
theorem dX0_learn_48 : decode cX0_learn 48 = .ok (.iinc 2 (-1), 3) := by decide +kernel
theorem dX0_learn_51 : decode cX0_learn 51 = .ok (.goto (-16), 3) := by decide +kernel
theorem dX0_learn_54 : decode cX0_learn 54 = .ok (.aload_n 0, 1) := by decide +kernel
theorem dX0_learn_55 : decode cX0_learn 55 = .ok (.iload_n 1, 1) := by decide +kernel
theorem dX0_learn_56 : decode cX0_learn 56 = .ok (.putfield 46, 3) := by decide +kernel
theorem dX0_learn_59 : decode cX0_learn 59 = .ok (.aload_n 0, 1) := by decide +kernel
theorem dX0_learn_60 : decode cX0_learn 60 = .ok (.iload_n 2, 1) := by decide +kernel
theorem dX0_learn_61 : decode cX0_learn 61 = .ok (.putfield 60, 3) := by decide +kernel
theorem dX0_learn_64 : decode cX0_learn 64 = .ok (.aload_n 0, 1) := by decide +kernel
theorem dX0_learn_65 : decode cX0_learn 65 = .ok (.getfield 60, 3) := by decide +kernel
theorem dX0_learn_68 : decode cX0_learn 68 = .ok (.ireturn, 1) := by decide +kernel
theorem dX0_callAt_0 : decode cX0_callAt 0 = .ok (.iload_n 2, 1) := by decide +kernel
theorem dX0_callAt_1 : decode cX0_callAt 1 = .ok (.ifCond .lt 8, 3) := by decide +kernel
theorem dX0_callAt_4 : decode cX0_callAt 4 = .ok (.iload_n 2, 1) := by decide +kernel
theorem dX0_callAt_5 : decode cX0_callAt 5 = .ok (.iload_n 1, 1) := by decide +kernel
theorem dX0_callAt_6 : decode cX0_callAt 6 = .ok (.if_icmp .lt 7, 3) := by decide +kernel
theorem dX0_callAt_9 : decode cX0_callAt 9 = .ok (.iconst (-1), 1) := by decide +kernel
theorem dX0_callAt_10 : decode cX0_callAt 10 = .ok (.goto 11, 3) := by decide +kernel
theorem dX0_callAt_13 : decode cX0_callAt 13 = .ok (.aload_n 0, 1) := by decide +kernel
theorem dX0_callAt_14 : decode cX0_callAt 14 = .ok (.getfield 25, 3) := by decide +kernel
theorem dX0_callAt_17 : decode cX0_callAt 17 = .ok (.iload_n 1, 1) := by decide +kernel
theorem dX0_callAt_18 : decode cX0_callAt 18 = .ok (.iload_n 2, 1) := by decide +kernel
theorem dX0_callAt_19 : decode cX0_callAt 19 = .ok (.isub, 1) := by decide +kernel
theorem dX0_callAt_20 : decode cX0_callAt 20 = .ok (.iaload, 1) := by decide +kernel
theorem dX0_callAt_21 : decode cX0_callAt 21 = .ok (.ireturn, 1) := by decide +kernel
theorem dX0_setLimits_0 : decode cX0_setLimits 0 = .ok (.iconst 1, 1) := by decide +kernel
theorem dX0_setLimits_1 : decode cX0_setLimits 1 = .ok (.istore_n 1, 1) := by decide +kernel
theorem dX0_setLimits_2 : decode cX0_setLimits 2 = .ok (.iload_n 1, 1) := by decide +kernel
theorem dX0_setLimits_3 : decode cX0_setLimits 3 = .ok (.bipush 6, 2) := by decide +kernel
theorem dX0_setLimits_5 : decode cX0_setLimits 5 = .ok (.if_icmp .gt 73, 3) := by decide +kernel
theorem dX0_setLimits_8 : decode cX0_setLimits 8 = .ok (.iconst 0, 1) := by decide +kernel
theorem dX0_setLimits_9 : decode cX0_setLimits 9 = .ok (.istore_n 2, 1) := by decide +kernel
theorem dX0_setLimits_10 : decode cX0_setLimits 10 = .ok (.iload_n 2, 1) := by decide +kernel
theorem dX0_setLimits_11 : decode cX0_setLimits 11 = .ok (.bipush 6, 2) := by decide +kernel
theorem dX0_setLimits_13 : decode cX0_setLimits 13 = .ok (.iload_n 1, 1) := by decide +kernel
theorem dX0_setLimits_14 : decode cX0_setLimits 14 = .ok (.isub, 1) := by decide +kernel
theorem dX0_setLimits_15 : decode cX0_setLimits 15 = .ok (.if_icmp .gt 57, 3) := by decide +kernel
theorem dX0_setLimits_18 : decode cX0_setLimits 18 = .ok (.aload_n 0, 1) := by decide +kernel
theorem dX0_setLimits_19 : decode cX0_setLimits 19 = .ok (.getfield 22, 3) := by decide +kernel
theorem dX0_setLimits_22 : decode cX0_setLimits 22 = .ok (.iload_n 1, 1) := by decide +kernel
theorem dX0_setLimits_23 : decode cX0_setLimits 23 = .ok (.aaload, 1) := by decide +kernel
theorem dX0_setLimits_24 : decode cX0_setLimits 24 = .ok (.iload_n 2, 1) := by decide +kernel
theorem dX0_setLimits_25 : decode cX0_setLimits 25 = .ok (.iconst 0, 1) := by decide +kernel
theorem dX0_setLimits_26 : decode cX0_setLimits 26 = .ok (.iastore, 1) := by decide +kernel
theorem dX0_setLimits_27 : decode cX0_setLimits 27 = .ok (.iconst 0, 1) := by decide +kernel
theorem dX0_setLimits_28 : decode cX0_setLimits 28 = .ok (.istore_n 3, 1) := by decide +kernel
theorem dX0_setLimits_29 : decode cX0_setLimits 29 = .ok (.iload_n 3, 1) := by decide +kernel
theorem dX0_setLimits_30 : decode cX0_setLimits 30 = .ok (.iconst 5, 1) := by decide +kernel
theorem dX0_setLimits_31 : decode cX0_setLimits 31 = .ok (.if_icmp .ge 35, 3) := by decide +kernel
theorem dX0_setLimits_34 : decode cX0_setLimits 34 = .ok (.aload_n 0, 1) := by decide +kernel
theorem dX0_setLimits_35 : decode cX0_setLimits 35 = .ok (.getfield 22, 3) := by decide +kernel
theorem dX0_setLimits_38 : decode cX0_setLimits 38 = .ok (.iload_n 1, 1) := by decide +kernel
theorem dX0_setLimits_39 : decode cX0_setLimits 39 = .ok (.aaload, 1) := by decide +kernel
theorem dX0_setLimits_40 : decode cX0_setLimits 40 = .ok (.iload_n 2, 1) := by decide +kernel
theorem dX0_setLimits_41 : decode cX0_setLimits 41 = .ok (.aload_n 0, 1) := by decide +kernel
theorem dX0_setLimits_42 : decode cX0_setLimits 42 = .ok (.getfield 22, 3) := by decide +kernel
theorem dX0_setLimits_45 : decode cX0_setLimits 45 = .ok (.iload_n 1, 1) := by decide +kernel
theorem dX0_setLimits_46 : decode cX0_setLimits 46 = .ok (.aaload, 1) := by decide +kernel
theorem dX0_setLimits_47 : decode cX0_setLimits 47 = .ok (.iload_n 2, 1) := by decide +kernel
theorem dX0_setLimits_48 : decode cX0_setLimits 48 = .ok (.iaload, 1) := by decide +kernel
theorem dX0_setLimits_49 : decode cX0_setLimits 49 = .ok (.aload_n 0, 1) := by decide +kernel
theorem dX0_setLimits_50 : decode cX0_setLimits 50 = .ok (.iload_n 3, 1) := by decide +kernel
theorem dX0_setLimits_51 : decode cX0_setLimits 51 = .ok (.iload_n 1, 1) := by decide +kernel
theorem dX0_setLimits_52 : decode cX0_setLimits 52 = .ok (.iload_n 2, 1) := by decide +kernel
theorem dX0_setLimits_53 : decode cX0_setLimits 53 = .ok (.invokevirtual 63, 3) := by decide +kernel
theorem dX0_setLimits_56 : decode cX0_setLimits 56 = .ok (.invokestatic 67, 3) := by decide +kernel
theorem dX0_setLimits_59 : decode cX0_setLimits 59 = .ok (.iastore, 1) := by decide +kernel
theorem dX0_setLimits_60 : decode cX0_setLimits 60 = .ok (.iinc 3 1, 3) := by decide +kernel
theorem dX0_setLimits_63 : decode cX0_setLimits 63 = .ok (.goto (-34), 3) := by decide +kernel
theorem dX0_setLimits_66 : decode cX0_setLimits 66 = .ok (.iinc 2 1, 3) := by decide +kernel
theorem dX0_setLimits_69 : decode cX0_setLimits 69 = .ok (.goto (-59), 3) := by decide +kernel
theorem dX0_setLimits_72 : decode cX0_setLimits 72 = .ok (.iinc 1 1, 3) := by decide +kernel
theorem dX0_setLimits_75 : decode cX0_setLimits 75 = .ok (.goto (-73), 3) := by decide +kernel
theorem dX0_setLimits_78 : decode cX0_setLimits 78 = .ok (.aload_n 0, 1) := by decide +kernel
theorem dX0_setLimits_79 : decode cX0_setLimits 79 = .ok (.iconst 1, 1) := by decide +kernel
theorem dX0_setLimits_80 : decode cX0_setLimits 80 = .ok (.putfield 42, 3) := by decide +kernel
theorem dX0_setLimits_83 : decode cX0_setLimits 83 = .ok (.return_, 1) := by decide +kernel
theorem dX0_limitOf_0 : decode cX0_limitOf 0 = .ok (.aload_n 0, 1) := by decide +kernel
theorem dX0_limitOf_1 : decode cX0_limitOf 1 = .ok (.getfield 29, 3) := by decide +kernel
theorem dX0_limitOf_4 : decode cX0_limitOf 4 = .ok (.iload_n 1, 1) := by decide +kernel
theorem dX0_limitOf_5 : decode cX0_limitOf 5 = .ok (.aload_n 0, 1) := by decide +kernel
theorem dX0_limitOf_6 : decode cX0_limitOf 6 = .ok (.getfield 29, 3) := by decide +kernel
theorem dX0_limitOf_9 : decode cX0_limitOf 9 = .ok (.getfield 73, 3) := by decide +kernel
theorem dX0_limitOf_12 : decode cX0_limitOf 12 = .ok (.iload_n 3, 1) := by decide +kernel
theorem dX0_limitOf_13 : decode cX0_limitOf 13 = .ok (.invokevirtual 78, 3) := by decide +kernel
theorem dX0_limitOf_16 : decode cX0_limitOf 16 = .ok (.istore 4, 2) := by decide +kernel
theorem dX0_limitOf_18 : decode cX0_limitOf 18 = .ok (.aload_n 0, 1) := by decide +kernel
theorem dX0_limitOf_19 : decode cX0_limitOf 19 = .ok (.getfield 22, 3) := by decide +kernel
theorem dX0_limitOf_22 : decode cX0_limitOf 22 = .ok (.iload_n 2, 1) := by decide +kernel
theorem dX0_limitOf_23 : decode cX0_limitOf 23 = .ok (.iconst 1, 1) := by decide +kernel
theorem dX0_limitOf_24 : decode cX0_limitOf 24 = .ok (.isub, 1) := by decide +kernel
theorem dX0_limitOf_25 : decode cX0_limitOf 25 = .ok (.aaload, 1) := by decide +kernel
theorem dX0_limitOf_26 : decode cX0_limitOf 26 = .ok (.iload_n 3, 1) := by decide +kernel
theorem dX0_limitOf_27 : decode cX0_limitOf 27 = .ok (.iaload, 1) := by decide +kernel
theorem dX0_limitOf_28 : decode cX0_limitOf 28 = .ok (.istore 5, 2) := by decide +kernel
theorem dX0_limitOf_30 : decode cX0_limitOf 30 = .ok (.iload_n 1, 1) := by decide +kernel
theorem dX0_limitOf_31 : decode cX0_limitOf 31 = .ok (.ifCond .ne 19, 3) := by decide +kernel
theorem dX0_limitOf_34 : decode cX0_limitOf 34 = .ok (.iload 4, 2) := by decide +kernel
theorem dX0_limitOf_36 : decode cX0_limitOf 36 = .ok (.aload_n 0, 1) := by decide +kernel
theorem dX0_limitOf_37 : decode cX0_limitOf 37 = .ok (.getfield 22, 3) := by decide +kernel
theorem dX0_limitOf_40 : decode cX0_limitOf 40 = .ok (.iload_n 2, 1) := by decide +kernel
theorem dX0_limitOf_41 : decode cX0_limitOf 41 = .ok (.iconst 1, 1) := by decide +kernel
theorem dX0_limitOf_42 : decode cX0_limitOf 42 = .ok (.isub, 1) := by decide +kernel
theorem dX0_limitOf_43 : decode cX0_limitOf 43 = .ok (.aaload, 1) := by decide +kernel
theorem dX0_limitOf_44 : decode cX0_limitOf 44 = .ok (.iload_n 3, 1) := by decide +kernel
theorem dX0_limitOf_45 : decode cX0_limitOf 45 = .ok (.iconst 1, 1) := by decide +kernel
theorem dX0_limitOf_46 : decode cX0_limitOf 46 = .ok (.iadd, 1) := by decide +kernel
theorem dX0_limitOf_47 : decode cX0_limitOf 47 = .ok (.iaload, 1) := by decide +kernel
theorem dX0_limitOf_48 : decode cX0_limitOf 48 = .ok (.iadd, 1) := by decide +kernel
theorem dX0_limitOf_49 : decode cX0_limitOf 49 = .ok (.ireturn, 1) := by decide +kernel
theorem dX0_limitOf_50 : decode cX0_limitOf 50 = .ok (.iload_n 1, 1) := by decide +kernel
theorem dX0_limitOf_51 : decode cX0_limitOf 51 = .ok (.iconst 1, 1) := by decide +kernel
theorem dX0_limitOf_52 : decode cX0_limitOf 52 = .ok (.if_icmp .ne 49, 3) := by decide +kernel
theorem dX0_limitOf_55 : decode cX0_limitOf 55 = .ok (.aload_n 0, 1) := by decide +kernel
theorem dX0_limitOf_56 : decode cX0_limitOf 56 = .ok (.getfield 29, 3) := by decide +kernel
theorem dX0_limitOf_59 : decode cX0_limitOf 59 = .ok (.iconst 2, 1) := by decide +kernel
theorem dX0_limitOf_60 : decode cX0_limitOf 60 = .ok (.aload_n 0, 1) := by decide +kernel
theorem dX0_limitOf_61 : decode cX0_limitOf 61 = .ok (.getfield 29, 3) := by decide +kernel
theorem dX0_limitOf_64 : decode cX0_limitOf 64 = .ok (.getfield 73, 3) := by decide +kernel
theorem dX0_limitOf_67 : decode cX0_limitOf 67 = .ok (.iload_n 3, 1) := by decide +kernel
theorem dX0_limitOf_68 : decode cX0_limitOf 68 = .ok (.invokevirtual 78, 3) := by decide +kernel
theorem dX0_limitOf_71 : decode cX0_limitOf 71 = .ok (.iload 5, 2) := by decide +kernel
theorem dX0_limitOf_73 : decode cX0_limitOf 73 = .ok (.iadd, 1) := by decide +kernel
theorem dX0_limitOf_74 : decode cX0_limitOf 74 = .ok (.istore 6, 2) := by decide +kernel
theorem dX0_limitOf_76 : decode cX0_limitOf 76 = .ok (.iload 6, 2) := by decide +kernel
theorem dX0_limitOf_78 : decode cX0_limitOf 78 = .ok (.iload 4, 2) := by decide +kernel
theorem dX0_limitOf_80 : decode cX0_limitOf 80 = .ok (.aload_n 0, 1) := by decide +kernel
theorem dX0_limitOf_81 : decode cX0_limitOf 81 = .ok (.getfield 22, 3) := by decide +kernel
theorem dX0_limitOf_84 : decode cX0_limitOf 84 = .ok (.iload_n 2, 1) := by decide +kernel
theorem dX0_limitOf_85 : decode cX0_limitOf 85 = .ok (.iconst 1, 1) := by decide +kernel
theorem dX0_limitOf_86 : decode cX0_limitOf 86 = .ok (.isub, 1) := by decide +kernel
theorem dX0_limitOf_87 : decode cX0_limitOf 87 = .ok (.aaload, 1) := by decide +kernel
theorem dX0_limitOf_88 : decode cX0_limitOf 88 = .ok (.iload_n 3, 1) := by decide +kernel
theorem dX0_limitOf_89 : decode cX0_limitOf 89 = .ok (.iconst 1, 1) := by decide +kernel
theorem dX0_limitOf_90 : decode cX0_limitOf 90 = .ok (.isub, 1) := by decide +kernel
theorem dX0_limitOf_91 : decode cX0_limitOf 91 = .ok (.iconst 0, 1) := by decide +kernel
theorem dX0_limitOf_92 : decode cX0_limitOf 92 = .ok (.invokestatic 67, 3) := by decide +kernel
theorem dX0_limitOf_95 : decode cX0_limitOf 95 = .ok (.iaload, 1) := by decide +kernel
theorem dX0_limitOf_96 : decode cX0_limitOf 96 = .ok (.iadd, 1) := by decide +kernel
theorem dX0_limitOf_97 : decode cX0_limitOf 97 = .ok (.invokestatic 67, 3) := by decide +kernel
theorem dX0_limitOf_100 : decode cX0_limitOf 100 = .ok (.ireturn, 1) := by decide +kernel
theorem dX0_limitOf_101 : decode cX0_limitOf 101 = .ok (.iload 4, 2) := by decide +kernel
theorem dX0_limitOf_103 : decode cX0_limitOf 103 = .ok (.iload 5, 2) := by decide +kernel
theorem dX0_limitOf_105 : decode cX0_limitOf 105 = .ok (.iadd, 1) := by decide +kernel
theorem dX0_limitOf_106 : decode cX0_limitOf 106 = .ok (.ireturn, 1) := by decide +kernel
theorem dX0_find_0 : decode cX0_find 0 = .ok (.iload_n 1, 1) := by decide +kernel
theorem dX0_find_1 : decode cX0_find 1 = .ok (.ifCond .le 21, 3) := by decide +kernel
theorem dX0_find_4 : decode cX0_find 4 = .ok (.iload_n 2, 1) := by decide +kernel
theorem dX0_find_5 : decode cX0_find 5 = .ok (.aload_n 0, 1) := by decide +kernel
theorem dX0_find_6 : decode cX0_find 6 = .ok (.getfield 22, 3) := by decide +kernel
theorem dX0_find_9 : decode cX0_find 9 = .ok (.iload_n 1, 1) := by decide +kernel
theorem dX0_find_10 : decode cX0_find 10 = .ok (.aaload, 1) := by decide +kernel
theorem dX0_find_11 : decode cX0_find 11 = .ok (.aload_n 0, 1) := by decide +kernel
theorem dX0_find_12 : decode cX0_find 12 = .ok (.getfield 16, 3) := by decide +kernel
theorem dX0_find_15 : decode cX0_find 15 = .ok (.getfield 81, 3) := by decide +kernel
theorem dX0_find_18 : decode cX0_find 18 = .ok (.iaload, 1) := by decide +kernel
theorem dX0_find_19 : decode cX0_find 19 = .ok (.if_icmp .le 17, 3) := by decide +kernel
theorem dX0_find_22 : decode cX0_find 22 = .ok (.iload_n 1, 1) := by decide +kernel
theorem dX0_find_23 : decode cX0_find 23 = .ok (.ifCond .gt 11, 3) := by decide +kernel
theorem dX0_find_26 : decode cX0_find 26 = .ok (.iload_n 2, 1) := by decide +kernel
theorem dX0_find_27 : decode cX0_find 27 = .ok (.ifCond .gt 7, 3) := by decide +kernel
theorem dX0_find_30 : decode cX0_find 30 = .ok (.iconst 1, 1) := by decide +kernel
theorem dX0_find_31 : decode cX0_find 31 = .ok (.goto 4, 3) := by decide +kernel
theorem dX0_find_34 : decode cX0_find 34 = .ok (.iconst 0, 1) := by decide +kernel
theorem dX0_find_35 : decode cX0_find 35 = .ok (.ireturn, 1) := by decide +kernel
theorem dX0_find_36 : decode cX0_find 36 = .ok (.iconst 0, 1) := by decide +kernel
theorem dX0_find_37 : decode cX0_find 37 = .ok (.istore_n 3, 1) := by decide +kernel
theorem dX0_find_38 : decode cX0_find 38 = .ok (.iload_n 3, 1) := by decide +kernel
theorem dX0_find_39 : decode cX0_find 39 = .ok (.iconst 5, 1) := by decide +kernel
theorem dX0_find_40 : decode cX0_find 40 = .ok (.if_icmp .ge 86, 3) := by decide +kernel
theorem dX0_find_43 : decode cX0_find 43 = .ok (.aload_n 0, 1) := by decide +kernel
theorem dX0_find_44 : decode cX0_find 44 = .ok (.iload_n 3, 1) := by decide +kernel
theorem dX0_find_45 : decode cX0_find 45 = .ok (.iload_n 1, 1) := by decide +kernel
theorem dX0_find_46 : decode cX0_find 46 = .ok (.aload_n 0, 1) := by decide +kernel
theorem dX0_find_47 : decode cX0_find 47 = .ok (.getfield 16, 3) := by decide +kernel
theorem dX0_find_50 : decode cX0_find 50 = .ok (.getfield 81, 3) := by decide +kernel
theorem dX0_find_53 : decode cX0_find 53 = .ok (.invokevirtual 63, 3) := by decide +kernel
theorem dX0_find_56 : decode cX0_find 56 = .ok (.iload_n 2, 1) := by decide +kernel
theorem dX0_find_57 : decode cX0_find 57 = .ok (.if_icmp .lt 7, 3) := by decide +kernel
theorem dX0_find_60 : decode cX0_find 60 = .ok (.iconst 1, 1) := by decide +kernel
theorem dX0_find_61 : decode cX0_find 61 = .ok (.goto 4, 3) := by decide +kernel
theorem dX0_find_64 : decode cX0_find 64 = .ok (.iconst 0, 1) := by decide +kernel
theorem dX0_find_65 : decode cX0_find 65 = .ok (.istore 4, 2) := by decide +kernel
theorem dX0_find_67 : decode cX0_find 67 = .ok (.iconst 0, 1) := by decide +kernel
theorem dX0_find_68 : decode cX0_find 68 = .ok (.istore 5, 2) := by decide +kernel
theorem dX0_find_70 : decode cX0_find 70 = .ok (.iload 5, 2) := by decide +kernel
theorem dX0_find_72 : decode cX0_find 72 = .ok (.aload_n 0, 1) := by decide +kernel
theorem dX0_find_73 : decode cX0_find 73 = .ok (.getfield 29, 3) := by decide +kernel
theorem dX0_find_76 : decode cX0_find 76 = .ok (.invokevirtual 84, 3) := by decide +kernel
theorem dX0_find_79 : decode cX0_find 79 = .ok (.if_icmp .gt 41, 3) := by decide +kernel
theorem dX0_find_82 : decode cX0_find 82 = .ok (.iload 4, 2) := by decide +kernel
theorem dX0_find_84 : decode cX0_find 84 = .ok (.ifCond .eq 36, 3) := by decide +kernel
theorem dX0_find_87 : decode cX0_find 87 = .ok (.aload_n 0, 1) := by decide +kernel
theorem dX0_find_88 : decode cX0_find 88 = .ok (.iload_n 3, 1) := by decide +kernel
theorem dX0_find_89 : decode cX0_find 89 = .ok (.iload 5, 2) := by decide +kernel
theorem dX0_find_91 : decode cX0_find 91 = .ok (.iload_n 1, 1) := by decide +kernel
theorem dX0_find_92 : decode cX0_find 92 = .ok (.iload_n 2, 1) := by decide +kernel
theorem dX0_find_93 : decode cX0_find 93 = .ok (.invokevirtual 88, 3) := by decide +kernel
theorem dX0_find_96 : decode cX0_find 96 = .ok (.ifCond .eq 18, 3) := by decide +kernel
theorem dX0_find_99 : decode cX0_find 99 = .ok (.aload_n 0, 1) := by decide +kernel
theorem dX0_find_100 : decode cX0_find 100 = .ok (.getfield 25, 3) := by decide +kernel
theorem dX0_find_103 : decode cX0_find 103 = .ok (.iload_n 1, 1) := by decide +kernel
theorem dX0_find_104 : decode cX0_find 104 = .ok (.iload_n 3, 1) := by decide +kernel
theorem dX0_find_105 : decode cX0_find 105 = .ok (.bipush 100, 2) := by decide +kernel
theorem dX0_find_107 : decode cX0_find 107 = .ok (.imul, 1) := by decide +kernel
theorem dX0_find_108 : decode cX0_find 108 = .ok (.iload 5, 2) := by decide +kernel
theorem dX0_find_110 : decode cX0_find 110 = .ok (.iadd, 1) := by decide +kernel
theorem dX0_find_111 : decode cX0_find 111 = .ok (.iastore, 1) := by decide +kernel
theorem dX0_find_112 : decode cX0_find 112 = .ok (.iconst 1, 1) := by decide +kernel
theorem dX0_find_113 : decode cX0_find 113 = .ok (.ireturn, 1) := by decide +kernel
theorem dX0_find_114 : decode cX0_find 114 = .ok (.iinc 5 1, 3) := by decide +kernel
theorem dX0_find_117 : decode cX0_find 117 = .ok (.goto (-47), 3) := by decide +kernel
theorem dX0_find_120 : decode cX0_find 120 = .ok (.iinc 3 1, 3) := by decide +kernel
theorem dX0_find_123 : decode cX0_find 123 = .ok (.goto (-85), 3) := by decide +kernel
theorem dX0_find_126 : decode cX0_find 126 = .ok (.iconst 0, 1) := by decide +kernel
theorem dX0_find_127 : decode cX0_find 127 = .ok (.ireturn, 1) := by decide +kernel
theorem dX0_findBehind_0 : decode cX0_findBehind 0 = .ok (.aload_n 0, 1) := by decide +kernel
theorem dX0_findBehind_1 : decode cX0_findBehind 1 = .ok (.getfield 38, 3) := by decide +kernel
theorem dX0_findBehind_4 : decode cX0_findBehind 4 = .ok (.iload_n 1, 1) := by decide +kernel
theorem dX0_findBehind_5 : decode cX0_findBehind 5 = .ok (.iload_n 2, 1) := by decide +kernel
theorem dX0_findBehind_6 : decode cX0_findBehind 6 = .ok (.invokevirtual 92, 3) := by decide +kernel
theorem dX0_findBehind_9 : decode cX0_findBehind 9 = .ok (.istore 5, 2) := by decide +kernel
theorem dX0_findBehind_11 : decode cX0_findBehind 11 = .ok (.iload_n 1, 1) := by decide +kernel
theorem dX0_findBehind_12 : decode cX0_findBehind 12 = .ok (.ifCond .ne 18, 3) := by decide +kernel
theorem dX0_findBehind_15 : decode cX0_findBehind 15 = .ok (.aload_n 0, 1) := by decide +kernel
theorem dX0_findBehind_16 : decode cX0_findBehind 16 = .ok (.getfield 16, 3) := by decide +kernel
theorem dX0_findBehind_19 : decode cX0_findBehind 19 = .ok (.iload_n 2, 1) := by decide +kernel
theorem dX0_findBehind_20 : decode cX0_findBehind 20 = .ok (.invokevirtual 95, 3) := by decide +kernel
theorem dX0_findBehind_23 : decode cX0_findBehind 23 = .ok (.ifCond .eq 7, 3) := by decide +kernel
theorem dX0_findBehind_26 : decode cX0_findBehind 26 = .ok (.iconst 1, 1) := by decide +kernel
theorem dX0_findBehind_27 : decode cX0_findBehind 27 = .ok (.goto 4, 3) := by decide +kernel
theorem dX0_findBehind_30 : decode cX0_findBehind 30 = .ok (.iconst 0, 1) := by decide +kernel
theorem dX0_findBehind_31 : decode cX0_findBehind 31 = .ok (.istore 6, 2) := by decide +kernel
theorem dX0_findBehind_33 : decode cX0_findBehind 33 = .ok (.iload_n 1, 1) := by decide +kernel
theorem dX0_findBehind_34 : decode cX0_findBehind 34 = .ok (.iconst 1, 1) := by decide +kernel
theorem dX0_findBehind_35 : decode cX0_findBehind 35 = .ok (.if_icmp .ne 18, 3) := by decide +kernel
theorem dX0_findBehind_38 : decode cX0_findBehind 38 = .ok (.aload_n 0, 1) := by decide +kernel
theorem dX0_findBehind_39 : decode cX0_findBehind 39 = .ok (.getfield 16, 3) := by decide +kernel
theorem dX0_findBehind_42 : decode cX0_findBehind 42 = .ok (.iload_n 2, 1) := by decide +kernel
theorem dX0_findBehind_43 : decode cX0_findBehind 43 = .ok (.invokevirtual 99, 3) := by decide +kernel
theorem dX0_findBehind_46 : decode cX0_findBehind 46 = .ok (.ifCond .eq 7, 3) := by decide +kernel
theorem dX0_findBehind_49 : decode cX0_findBehind 49 = .ok (.iconst 1, 1) := by decide +kernel
theorem dX0_findBehind_50 : decode cX0_findBehind 50 = .ok (.goto 4, 3) := by decide +kernel
theorem dX0_findBehind_53 : decode cX0_findBehind 53 = .ok (.iconst 0, 1) := by decide +kernel
theorem dX0_findBehind_54 : decode cX0_findBehind 54 = .ok (.istore 7, 2) := by decide +kernel
theorem dX0_findBehind_56 : decode cX0_findBehind 56 = .ok (.aload_n 0, 1) := by decide +kernel
theorem dX0_findBehind_57 : decode cX0_findBehind 57 = .ok (.iload_n 3, 1) := by decide +kernel
theorem dX0_findBehind_58 : decode cX0_findBehind 58 = .ok (.iconst 1, 1) := by decide +kernel
theorem dX0_findBehind_59 : decode cX0_findBehind 59 = .ok (.isub, 1) := by decide +kernel
theorem dX0_findBehind_60 : decode cX0_findBehind 60 = .ok (.iload 4, 2) := by decide +kernel
theorem dX0_findBehind_62 : decode cX0_findBehind 62 = .ok (.iload 5, 2) := by decide +kernel
theorem dX0_findBehind_64 : decode cX0_findBehind 64 = .ok (.isub, 1) := by decide +kernel
theorem dX0_findBehind_65 : decode cX0_findBehind 65 = .ok (.invokevirtual 56, 3) := by decide +kernel
theorem dX0_findBehind_68 : decode cX0_findBehind 68 = .ok (.istore 8, 2) := by decide +kernel
theorem dX0_findBehind_70 : decode cX0_findBehind 70 = .ok (.iload 6, 2) := by decide +kernel
theorem dX0_findBehind_72 : decode cX0_findBehind 72 = .ok (.ifCond .eq 12, 3) := by decide +kernel
theorem dX0_findBehind_75 : decode cX0_findBehind 75 = .ok (.aload_n 0, 1) := by decide +kernel
theorem dX0_findBehind_76 : decode cX0_findBehind 76 = .ok (.getfield 16, 3) := by decide +kernel
theorem dX0_findBehind_79 : decode cX0_findBehind 79 = .ok (.iload_n 2, 1) := by decide +kernel
theorem dX0_findBehind_80 : decode cX0_findBehind 80 = .ok (.invokevirtual 99, 3) := by decide +kernel
theorem dX0_findBehind_83 : decode cX0_findBehind 83 = .ok (.pop, 1) := by decide +kernel
theorem dX0_findBehind_84 : decode cX0_findBehind 84 = .ok (.iload 7, 2) := by decide +kernel
theorem dX0_findBehind_86 : decode cX0_findBehind 86 = .ok (.ifCond .eq 12, 3) := by decide +kernel
theorem dX0_findBehind_89 : decode cX0_findBehind 89 = .ok (.aload_n 0, 1) := by decide +kernel
theorem dX0_findBehind_90 : decode cX0_findBehind 90 = .ok (.getfield 16, 3) := by decide +kernel
theorem dX0_findBehind_93 : decode cX0_findBehind 93 = .ok (.iload_n 2, 1) := by decide +kernel
theorem dX0_findBehind_94 : decode cX0_findBehind 94 = .ok (.invokevirtual 95, 3) := by decide +kernel
theorem dX0_findBehind_97 : decode cX0_findBehind 97 = .ok (.pop, 1) := by decide +kernel
theorem dX0_findBehind_98 : decode cX0_findBehind 98 = .ok (.iload 8, 2) := by decide +kernel
theorem dX0_findBehind_100 : decode cX0_findBehind 100 = .ok (.ireturn, 1) := by decide +kernel
def D_X0_forget (N : Nat) (g : gp) (a0 : Nat) (δ : dp) : Option (dp) :=
  bd (s_I δ 0 4 a0 0) fun δ_1 => bd (s_I δ_1 0 6 a0 0) fun δ_3 => some δ_3
set_option maxHeartbeats 4000000 in
set_option maxRecDepth 100000 in
theorem c_X0_forget {l : Launch} {D : va_G} {cy : Nat → ClassId} {N d : Nat} {g : gp} (wt : WT g) (hl : l.stackTraces = false) (hd : 1 ≤ d) {a0 : Nat} {δ : dp} (k0 : q_K g a0 = 0) : CalD l D cy m_X0_forget d 0 0 ev g [.ref a0] δ (D_X0_forget N g a0 δ) := by
  refine CalD.of (by decide +kernel) (Nat.le_of_ble_eq_true rfl) hl ?_
  unfold D_X0_forget
  refine w_aload_n 0 0 (μ := m_X0_forget) (pc := 0) dX0_forget_0 rfl rfl ?_
  refine w_iconst (v := 0) (μ := m_X0_forget) (pc := 1) dX0_forget_1 (by decide) ?_
  refine w_putZ (μ := m_X0_forget) (pc := 2) dX0_forget_2 fl_X0_42 flw_0_4 ir_0_4 k0 (by decide) ?_
  refine w_bd (fun δ_1 e_2 => ?_)
  refine w_aload_n 0 0 (μ := m_X0_forget) (pc := 5) dX0_forget_5 rfl rfl ?_
  refine w_iconst (v := 0) (μ := m_X0_forget) (pc := 6) dX0_forget_6 (by decide) ?_
  refine w_putI (μ := m_X0_forget) (pc := 7) dX0_forget_7 fl_X0_46 flw_0_6 ir_0_6 k0 ?_
  refine w_bd (fun δ_3 e_4 => ?_)
  exact w_vret (μ := m_X0_forget) (pc := 10) dX0_forget_10 rfl rfl
def J_X0_callAt_21 (N : Nat) (g : gp) (a0 : Nat) (x1 : Int32) (x2 : Int32) (xs0 : Int32) (δ : dp) : Option (Int32 × dp) :=
  some (xs0, δ)
set_option maxHeartbeats 4000000 in
set_option maxRecDepth 100000 in
theorem t_J_X0_callAt_21 {l : Launch} {D : va_G} {cy : Nat → ClassId} {N d : Nat} {g : gp} (wt : WT g) (hl : l.stackTraces = false) (hd : 1 ≤ d) {a0 : Nat} {x1 : Int32} {x2 : Int32} (k0 : q_K g a0 = 0) : ∀ (xs0 : Int32) (δ : dp), AWD l D cy m_X0_callAt d 0 0 ei g 21 [] [.int xs0] δ (J_X0_callAt_21 N g a0 x1 x2 xs0 δ) := by
    intro xs0 δ 
    unfold J_X0_callAt_21
    exact w_iret (μ := m_X0_callAt) (pc := 21) dX0_callAt_21 rfl rfl
def J_X0_callAt_9 (N : Nat) (g : gp) (a0 : Nat) (x1 : Int32) (x2 : Int32) (δ : dp) : Option (Int32 × dp) :=
  J_X0_callAt_21 N g a0 x1 x2 ((-1)) δ
set_option maxHeartbeats 4000000 in
set_option maxRecDepth 100000 in
theorem t_J_X0_callAt_9 {l : Launch} {D : va_G} {cy : Nat → ClassId} {N d : Nat} {g : gp} (wt : WT g) (hl : l.stackTraces = false) (hd : 1 ≤ d) {a0 : Nat} {x1 : Int32} {x2 : Int32} (k0 : q_K g a0 = 0) : ∀ (δ : dp), AWD l D cy m_X0_callAt d 0 0 ei g 9 [] [] δ (J_X0_callAt_9 N g a0 x1 x2 δ) := by
    intro  δ 
    unfold J_X0_callAt_9
    refine w_iconst (v := (-1)) (μ := m_X0_callAt) (pc := 9) dX0_callAt_9 (by decide) ?_
    refine w_goto 21 (μ := m_X0_callAt) (pc := 10) dX0_callAt_10 (by decide) ?_
    exact t_J_X0_callAt_21 wt hl (by omega) k0 _ _
def D_X0_callAt (N : Nat) (g : gp) (a0 : Nat) (x1 : Int32) (x2 : Int32) (δ : dp) : Option (Int32 × dp) :=
  if x2 < 0 then (J_X0_callAt_9 N g a0 x1 x2 δ) else (if x2 < x1 then ((q_O g 0 5 a0).bind fun b_3 => if (x1 - x2) < 0 ∨ q_N g b_3 ≤ (x1 - x2).toNatClampNeg then none else J_X0_callAt_21 N g a0 x1 x2 (q_R δ b_3 (x1 - x2).toNatClampNeg) δ) else (J_X0_callAt_9 N g a0 x1 x2 δ))
set_option maxHeartbeats 4000000 in
set_option maxRecDepth 100000 in
theorem c_X0_callAt {l : Launch} {D : va_G} {cy : Nat → ClassId} {N d : Nat} {g : gp} (wt : WT g) (hl : l.stackTraces = false) (hd : 1 ≤ d) {a0 : Nat} {x1 : Int32} {x2 : Int32} {δ : dp} (k0 : q_K g a0 = 0) : CalD l D cy m_X0_callAt d 0 0 ei g [.ref a0, .int x1, .int x2] δ (D_X0_callAt N g a0 x1 x2 δ) := by
  refine CalD.of (by decide +kernel) (Nat.le_of_ble_eq_true rfl) hl ?_
  unfold D_X0_callAt
  refine w_iload_n 2 2 (μ := m_X0_callAt) (pc := 0) dX0_callAt_0 rfl rfl ?_
  refine w_if_lt 9 (μ := m_X0_callAt) (pc := 1) dX0_callAt_1 (by decide) (fun c_1 => ?_) (fun c_1 => ?_)
  · refine w_lv [] rfl ?_
    exact t_J_X0_callAt_9 wt hl (by omega) k0 _
  · refine w_iload_n 2 2 (μ := m_X0_callAt) (pc := 4) dX0_callAt_4 rfl rfl ?_
    refine w_iload_n 1 1 (μ := m_X0_callAt) (pc := 5) dX0_callAt_5 rfl rfl ?_
    refine w_icmp_lt 13 (μ := m_X0_callAt) (pc := 6) dX0_callAt_6 (by decide) (fun c_2 => ?_) (fun c_2 => ?_)
    · refine w_aload_n 0 0 (μ := m_X0_callAt) (pc := 13) dX0_callAt_13 rfl rfl ?_
      refine w_getO (μ := m_X0_callAt) (pc := 14) dX0_callAt_14 fl_X0_25 ir_0_5 id_0_5 k0 (fun b_3 e_4 => ?_)
      refine w_iload_n 1 1 (μ := m_X0_callAt) (pc := 17) dX0_callAt_17 rfl rfl ?_
      refine w_iload_n 2 2 (μ := m_X0_callAt) (pc := 18) dX0_callAt_18 rfl rfl ?_
      refine w_isub (μ := m_X0_callAt) (pc := 19) dX0_callAt_19 ?_
      refine w_ald (μ := m_X0_callAt) (pc := 20) dX0_callAt_20 (wt_0_5 wt k0 e_4) ?_
      refine w_lv [] rfl ?_
      exact t_J_X0_callAt_21 wt hl (by omega) k0 _ _
    · refine w_lv [] rfl ?_
      exact t_J_X0_callAt_9 wt hl (by omega) k0 _
def D_X0_limitOf (N : Nat) (g : gp) (a0 : Nat) (x1 : Int32) (x2 : Int32) (x3 : Int32) (δ : dp) : Option (Int32 × dp) :=
  (q_O g 0 0 a0).bind fun b_1 => (q_O g 0 0 a0).bind fun b_3 => (D_X5_mostTouches N g b_1 x1 (q_I δ 5 0 b_3) x3 δ).bind fun r_5 => (q_O g 0 3 a0).bind fun b_6 => if (x2 - 1) < 0 ∨ q_N g b_6 ≤ (x2 - 1).toNatClampNeg then none else (q_E g b_6 (x2 - 1).toNatClampNeg).bind fun b_8 => if x3 < 0 ∨ q_N g b_8 ≤ x3.toNatClampNeg then none else bi (q_R r_5.2 b_8 x3.toNatClampNeg) fun x_10 => if x1 = 0 then ((q_O g 0 3 a0).bind fun b_27 => if (x2 - 1) < 0 ∨ q_N g b_27 ≤ (x2 - 1).toNatClampNeg then none else (q_E g b_27 (x2 - 1).toNatClampNeg).bind fun b_29 => if (x3 + 1) < 0 ∨ q_N g b_29 ≤ (x3 + 1).toNatClampNeg then none else some (r_5.1 + (q_R r_5.2 b_29 (x3 + 1).toNatClampNeg), r_5.2)) else (if x1 = (1 : Int32) then ((q_O g 0 0 a0).bind fun b_14 => (q_O g 0 0 a0).bind fun b_16 => (D_X5_mostTouches N g b_14 2 (q_I r_5.2 5 0 b_16) x3 r_5.2).bind fun r_18 => bi (r_18.1 + x_10) fun x_19 => (q_O g 0 3 a0).bind fun b_21 => if (x2 - 1) < 0 ∨ q_N g b_21 ≤ (x2 - 1).toNatClampNeg then none else (q_E g b_21 (x2 - 1).toNatClampNeg).bind fun b_23 => (D_J9_max_7cf53 N g (x3 - 1) 0 r_18.2).bind fun r_25 => if r_25.1 < 0 ∨ q_N g b_23 ≤ r_25.1.toNatClampNeg then none else (D_J9_max_7cf53 N g x_19 (r_5.1 + (q_R r_25.2 b_23 r_25.1.toNatClampNeg)) r_25.2).bind fun r_26 => some (r_26.1, r_26.2)) else (some (r_5.1 + x_10, r_5.2)))
set_option maxHeartbeats 4000000 in
set_option maxRecDepth 100000 in
theorem c_X0_limitOf {l : Launch} {D : va_G} {cy : Nat → ClassId} {N d : Nat} {g : gp} (wt : WT g) (hl : l.stackTraces = false) (hd : 23 ≤ d) {a0 : Nat} {x1 : Int32} {x2 : Int32} {x3 : Int32} {δ : dp} (k0 : q_K g a0 = 0) : CalD l D cy m_X0_limitOf d 0 0 ei g [.ref a0, .int x1, .int x2, .int x3] δ (D_X0_limitOf N g a0 x1 x2 x3 δ) := by
  refine CalD.of (by decide +kernel) (Nat.le_of_ble_eq_true rfl) hl ?_
  unfold D_X0_limitOf
  refine w_aload_n 0 0 (μ := m_X0_limitOf) (pc := 0) dX0_limitOf_0 rfl rfl ?_
  refine w_getO (μ := m_X0_limitOf) (pc := 1) dX0_limitOf_1 fl_X0_29 ir_0_0 id_0_0 k0 (fun b_1 e_2 => ?_)
  refine w_iload_n 1 1 (μ := m_X0_limitOf) (pc := 4) dX0_limitOf_4 rfl rfl ?_
  refine w_aload_n 0 0 (μ := m_X0_limitOf) (pc := 5) dX0_limitOf_5 rfl rfl ?_
  refine w_getO (μ := m_X0_limitOf) (pc := 6) dX0_limitOf_6 fl_X0_29 ir_0_0 id_0_0 k0 (fun b_3 e_4 => ?_)
  refine w_getI (μ := m_X0_limitOf) (pc := 9) dX0_limitOf_9 fl_X0_73 ir_5_0 (wt_0_0 wt k0 e_4) ?_
  refine w_iload_n 3 3 (μ := m_X0_limitOf) (pc := 12) dX0_limitOf_12 rfl rfl ?_
  refine w_callV (As := [.int x1, .int (q_I δ 5 0 b_3), .int x3]) (rest := []) (μ := m_X0_limitOf) (pc := 13) dX0_limitOf_13 cv_X0_78 rfl rfl (wt_0_0 wt k0 e_2) (by decide) rfl (Nat.le_of_ble_eq_true rfl) (d' := d - 1) (by omega) he_i (c_X5_mostTouches wt hl (d := d - 1) (by omega) (wt_0_0 wt k0 e_2)) (fun r_5 => ?_)
  refine w_istore [(4, .int r_5.1), (0, .ref a0), (1, .int x1), (2, .int x2), (3, .int x3)] (μ := m_X0_limitOf) (pc := 16) dX0_limitOf_16 (by decide) rfl ?_
  refine w_aload_n 1 0 (μ := m_X0_limitOf) (pc := 18) dX0_limitOf_18 rfl rfl ?_
  refine w_getO (μ := m_X0_limitOf) (pc := 19) dX0_limitOf_19 fl_X0_22 ir_0_3 id_0_3 k0 (fun b_6 e_7 => ?_)
  refine w_iload_n 3 2 (μ := m_X0_limitOf) (pc := 22) dX0_limitOf_22 rfl rfl ?_
  refine w_iconst (v := 1) (μ := m_X0_limitOf) (pc := 23) dX0_limitOf_23 (by decide) ?_
  refine w_isub (μ := m_X0_limitOf) (pc := 24) dX0_limitOf_24 ?_
  refine w_aald 5 (ty := (.array .int)) (μ := m_X0_limitOf) (pc := 25) dX0_limitOf_25 (wt_0_3 wt k0 e_7) (by decide) rfl rfl (by decide) (fun b_8 e_9 => ?_)
  refine w_iload_n 4 3 (μ := m_X0_limitOf) (pc := 26) dX0_limitOf_26 rfl rfl ?_
  refine w_ald (μ := m_X0_limitOf) (pc := 27) dX0_limitOf_27 (we_18 wt (wt_0_3 wt k0 e_7) e_9) ?_
  refine w_bi (fun x_10 e_11 => ?_)
  refine w_istore [(5, .int x_10), (4, .int r_5.1), (0, .ref a0), (1, .int x1), (2, .int x2), (3, .int x3)] (μ := m_X0_limitOf) (pc := 28) dX0_limitOf_28 (by decide) rfl ?_
  refine w_iload_n 3 1 (μ := m_X0_limitOf) (pc := 30) dX0_limitOf_30 rfl rfl ?_
  refine w_if_ne 50 (μ := m_X0_limitOf) (pc := 31) dX0_limitOf_31 (by decide) (fun c_12 => ?_) (fun c_12 => ?_)
  · refine w_iload_n 3 1 (μ := m_X0_limitOf) (pc := 50) dX0_limitOf_50 rfl rfl ?_
    refine w_iconst (v := 1) (μ := m_X0_limitOf) (pc := 51) dX0_limitOf_51 (by decide) ?_
    refine w_icmp_ne 101 (μ := m_X0_limitOf) (pc := 52) dX0_limitOf_52 (by decide) (fun c_13 => ?_) (fun c_13 => ?_)
    · refine w_iload 1 (μ := m_X0_limitOf) (pc := 101) dX0_limitOf_101 rfl ?_
      refine w_iload 0 (μ := m_X0_limitOf) (pc := 103) dX0_limitOf_103 rfl ?_
      refine w_iadd (μ := m_X0_limitOf) (pc := 105) dX0_limitOf_105 ?_
      exact w_iret (μ := m_X0_limitOf) (pc := 106) dX0_limitOf_106 rfl rfl
    · refine w_aload_n 2 0 (μ := m_X0_limitOf) (pc := 55) dX0_limitOf_55 rfl rfl ?_
      refine w_getO (μ := m_X0_limitOf) (pc := 56) dX0_limitOf_56 fl_X0_29 ir_0_0 id_0_0 k0 (fun b_14 e_15 => ?_)
      refine w_iconst (v := 2) (μ := m_X0_limitOf) (pc := 59) dX0_limitOf_59 (by decide) ?_
      refine w_aload_n 2 0 (μ := m_X0_limitOf) (pc := 60) dX0_limitOf_60 rfl rfl ?_
      refine w_getO (μ := m_X0_limitOf) (pc := 61) dX0_limitOf_61 fl_X0_29 ir_0_0 id_0_0 k0 (fun b_16 e_17 => ?_)
      refine w_getI (μ := m_X0_limitOf) (pc := 64) dX0_limitOf_64 fl_X0_73 ir_5_0 (wt_0_0 wt k0 e_17) ?_
      refine w_iload_n 5 3 (μ := m_X0_limitOf) (pc := 67) dX0_limitOf_67 rfl rfl ?_
      refine w_callV (As := [.int 2, .int (q_I r_5.2 5 0 b_16), .int x3]) (rest := []) (μ := m_X0_limitOf) (pc := 68) dX0_limitOf_68 cv_X0_78 rfl rfl (wt_0_0 wt k0 e_15) (by decide) rfl (Nat.le_of_ble_eq_true rfl) (d' := d - 1) (by omega) he_i (c_X5_mostTouches wt hl (d := d - 1) (by omega) (wt_0_0 wt k0 e_15)) (fun r_18 => ?_)
      refine w_iload 0 (μ := m_X0_limitOf) (pc := 71) dX0_limitOf_71 rfl ?_
      refine w_iadd (μ := m_X0_limitOf) (pc := 73) dX0_limitOf_73 ?_
      refine w_bi (fun x_19 e_20 => ?_)
      refine w_istore [(6, .int x_19), (5, .int x_10), (4, .int r_5.1), (0, .ref a0), (1, .int x1), (2, .int x2), (3, .int x3)] (μ := m_X0_limitOf) (pc := 74) dX0_limitOf_74 (by decide) rfl ?_
      refine w_iload 0 (μ := m_X0_limitOf) (pc := 76) dX0_limitOf_76 rfl ?_
      refine w_iload 2 (μ := m_X0_limitOf) (pc := 78) dX0_limitOf_78 rfl ?_
      refine w_aload_n 3 0 (μ := m_X0_limitOf) (pc := 80) dX0_limitOf_80 rfl rfl ?_
      refine w_getO (μ := m_X0_limitOf) (pc := 81) dX0_limitOf_81 fl_X0_22 ir_0_3 id_0_3 k0 (fun b_21 e_22 => ?_)
      refine w_iload_n 5 2 (μ := m_X0_limitOf) (pc := 84) dX0_limitOf_84 rfl rfl ?_
      refine w_iconst (v := 1) (μ := m_X0_limitOf) (pc := 85) dX0_limitOf_85 (by decide) ?_
      refine w_isub (μ := m_X0_limitOf) (pc := 86) dX0_limitOf_86 ?_
      refine w_aald 5 (ty := (.array .int)) (μ := m_X0_limitOf) (pc := 87) dX0_limitOf_87 (wt_0_3 wt k0 e_22) (by decide) rfl rfl (by decide) (fun b_23 e_24 => ?_)
      refine w_iload_n 6 3 (μ := m_X0_limitOf) (pc := 88) dX0_limitOf_88 rfl rfl ?_
      refine w_iconst (v := 1) (μ := m_X0_limitOf) (pc := 89) dX0_limitOf_89 (by decide) ?_
      refine w_isub (μ := m_X0_limitOf) (pc := 90) dX0_limitOf_90 ?_
      refine w_iconst (v := 0) (μ := m_X0_limitOf) (pc := 91) dX0_limitOf_91 (by decide) ?_
      refine w_callS (As := [.int (x3 - 1), .int 0]) (rest := [.ref b_23, .int r_5.1, .int x_19]) (μ := m_X0_limitOf) (pc := 92) dX0_limitOf_92 cs_X0_67 rfl rfl (Nat.le_of_ble_eq_true rfl) (d' := d - 1) (by omega) he_i (c_J9_max_7cf53 wt hl (d := d - 1) (by omega) ) (fun r_25 => ?_)
      refine w_ald (μ := m_X0_limitOf) (pc := 95) dX0_limitOf_95 (we_18 wt (wt_0_3 wt k0 e_22) e_24) ?_
      refine w_iadd (μ := m_X0_limitOf) (pc := 96) dX0_limitOf_96 ?_
      refine w_callS (As := [.int x_19, .int (r_5.1 + (q_R r_25.2 b_23 r_25.1.toNatClampNeg))]) (rest := []) (μ := m_X0_limitOf) (pc := 97) dX0_limitOf_97 cs_X0_67 rfl rfl (Nat.le_of_ble_eq_true rfl) (d' := d - 1) (by omega) he_i (c_J9_max_7cf53 wt hl (d := d - 1) (by omega) ) (fun r_26 => ?_)
      exact w_iret (μ := m_X0_limitOf) (pc := 100) dX0_limitOf_100 rfl rfl
  · refine w_iload 1 (μ := m_X0_limitOf) (pc := 34) dX0_limitOf_34 rfl ?_
    refine w_aload_n 2 0 (μ := m_X0_limitOf) (pc := 36) dX0_limitOf_36 rfl rfl ?_
    refine w_getO (μ := m_X0_limitOf) (pc := 37) dX0_limitOf_37 fl_X0_22 ir_0_3 id_0_3 k0 (fun b_27 e_28 => ?_)
    refine w_iload_n 4 2 (μ := m_X0_limitOf) (pc := 40) dX0_limitOf_40 rfl rfl ?_
    refine w_iconst (v := 1) (μ := m_X0_limitOf) (pc := 41) dX0_limitOf_41 (by decide) ?_
    refine w_isub (μ := m_X0_limitOf) (pc := 42) dX0_limitOf_42 ?_
    refine w_aald 5 (ty := (.array .int)) (μ := m_X0_limitOf) (pc := 43) dX0_limitOf_43 (wt_0_3 wt k0 e_28) (by decide) rfl rfl (by decide) (fun b_29 e_30 => ?_)
    refine w_iload_n 5 3 (μ := m_X0_limitOf) (pc := 44) dX0_limitOf_44 rfl rfl ?_
    refine w_iconst (v := 1) (μ := m_X0_limitOf) (pc := 45) dX0_limitOf_45 (by decide) ?_
    refine w_iadd (μ := m_X0_limitOf) (pc := 46) dX0_limitOf_46 ?_
    refine w_ald (μ := m_X0_limitOf) (pc := 47) dX0_limitOf_47 (we_18 wt (wt_0_3 wt k0 e_28) e_30) ?_
    refine w_iadd (μ := m_X0_limitOf) (pc := 48) dX0_limitOf_48 ?_
    exact w_iret (μ := m_X0_limitOf) (pc := 49) dX0_limitOf_49 rfl rfl
def L_X0_setLimits_29 (N : Nat) (g : gp) (a0 : Nat) (kt2 : Int32 → dp → Option (dp)) (kt10 : Int32 → Int32 → dp → Option (dp)) : Nat → Int32 → Int32 → Int32 → dp → Option (dp)
  | 0, _, _, _, _ => none
  | n + 1, x1v, x2v, x3v, δ => if (5 : Int32) ≤ x3v then (bi (x2v + 1) fun x_14 => kt10 x1v x_14 δ) else ((q_O g 0 3 a0).bind fun b_16 => if x1v < 0 ∨ q_N g b_16 ≤ x1v.toNatClampNeg then none else (q_E g b_16 x1v.toNatClampNeg).bind fun b_18 => (q_O g 0 3 a0).bind fun b_20 => if x1v < 0 ∨ q_N g b_20 ≤ x1v.toNatClampNeg then none else (q_E g b_20 x1v.toNatClampNeg).bind fun b_22 => if x2v < 0 ∨ q_N g b_22 ≤ x2v.toNatClampNeg then none else (D_X0_limitOf N g a0 x3v x1v x2v δ).bind fun r_24 => (D_J9_max_7cf53 N g (q_R δ b_22 x2v.toNatClampNeg) r_24.1 r_24.2).bind fun r_25 => if x2v < 0 ∨ q_N g b_18 ≤ x2v.toNatClampNeg then none else bd (s_R r_25.2 b_18 x2v.toNatClampNeg r_25.1) fun δ_26 => bi (x3v + 1) fun x_28 => L_X0_setLimits_29 N g a0 kt2 kt10 n x1v x2v x_28 δ_26)
set_option maxHeartbeats 4000000 in
set_option maxRecDepth 100000 in
theorem t_L_X0_setLimits_29 {l : Launch} {D : va_G} {cy : Nat → ClassId} {N d : Nat} {g : gp} (wt : WT g) (hl : l.stackTraces = false) (hd : 24 ≤ d) {a0 : Nat} (k0 : q_K g a0 = 0) {kt2 : Int32 → dp → Option (dp)} {kt10 : Int32 → Int32 → dp → Option (dp)} (hk2 : ∀ (x1v : Int32) (δ : dp), AWD l D cy m_X0_setLimits d 0 0 ev g 2 [(0, .ref a0), (1, .int x1v)] [] δ (kt2 x1v δ)) (hk10 : ∀ (x1v : Int32) (x2v : Int32) (δ : dp), AWD l D cy m_X0_setLimits d 0 0 ev g 10 [(0, .ref a0), (1, .int x1v), (2, .int x2v)] [] δ (kt10 x1v x2v δ)) : ∀ (n : Nat) (x1v : Int32) (x2v : Int32) (x3v : Int32) (δ : dp), AWD l D cy m_X0_setLimits d 0 0 ev g 29 [(0, .ref a0), (1, .int x1v), (2, .int x2v), (3, .int x3v)] [] δ (L_X0_setLimits_29 N g a0 kt2 kt10 n x1v x2v x3v δ) := by
  intro n
  induction n with
  | zero => intro x1v x2v x3v δ ; exact w_none
  | succ n ih =>
    intro x1v x2v x3v δ 
    unfold L_X0_setLimits_29
    refine w_iload_n 3 3 (μ := m_X0_setLimits) (pc := 29) dX0_setLimits_29 rfl rfl ?_
    refine w_iconst (v := 5) (μ := m_X0_setLimits) (pc := 30) dX0_setLimits_30 (by decide) ?_
    refine w_icmp_ge 66 (μ := m_X0_setLimits) (pc := 31) dX0_setLimits_31 (by decide) (fun c_13 => ?_) (fun c_13 => ?_)
    · refine w_inb (fun x_14 e_15 => ?_)
      refine w_iinc 2 [(2, .int x_14), (0, .ref a0), (1, .int x1v), (3, .int x3v)] (μ := m_X0_setLimits) (pc := 66) dX0_setLimits_66 rfl (by rw [e_15]; rfl) (by decide) rfl ?_
      refine w_goto 10 (μ := m_X0_setLimits) (pc := 69) dX0_setLimits_69 (by decide) ?_
      refine w_lv [1, 2, 0] rfl ?_
      exact hk10 _ _ _
    · refine w_aload_n 0 0 (μ := m_X0_setLimits) (pc := 34) dX0_setLimits_34 rfl rfl ?_
      refine w_getO (μ := m_X0_setLimits) (pc := 35) dX0_setLimits_35 fl_X0_22 ir_0_3 id_0_3 k0 (fun b_16 e_17 => ?_)
      refine w_iload_n 1 1 (μ := m_X0_setLimits) (pc := 38) dX0_setLimits_38 rfl rfl ?_
      refine w_aald 5 (ty := (.array .int)) (μ := m_X0_setLimits) (pc := 39) dX0_setLimits_39 (wt_0_3 wt k0 e_17) (by decide) rfl rfl (by decide) (fun b_18 e_19 => ?_)
      refine w_iload_n 2 2 (μ := m_X0_setLimits) (pc := 40) dX0_setLimits_40 rfl rfl ?_
      refine w_aload_n 0 0 (μ := m_X0_setLimits) (pc := 41) dX0_setLimits_41 rfl rfl ?_
      refine w_getO (μ := m_X0_setLimits) (pc := 42) dX0_setLimits_42 fl_X0_22 ir_0_3 id_0_3 k0 (fun b_20 e_21 => ?_)
      refine w_iload_n 1 1 (μ := m_X0_setLimits) (pc := 45) dX0_setLimits_45 rfl rfl ?_
      refine w_aald 5 (ty := (.array .int)) (μ := m_X0_setLimits) (pc := 46) dX0_setLimits_46 (wt_0_3 wt k0 e_21) (by decide) rfl rfl (by decide) (fun b_22 e_23 => ?_)
      refine w_iload_n 2 2 (μ := m_X0_setLimits) (pc := 47) dX0_setLimits_47 rfl rfl ?_
      refine w_ald (μ := m_X0_setLimits) (pc := 48) dX0_setLimits_48 (we_18 wt (wt_0_3 wt k0 e_21) e_23) ?_
      refine w_aload_n 0 0 (μ := m_X0_setLimits) (pc := 49) dX0_setLimits_49 rfl rfl ?_
      refine w_iload_n 3 3 (μ := m_X0_setLimits) (pc := 50) dX0_setLimits_50 rfl rfl ?_
      refine w_iload_n 1 1 (μ := m_X0_setLimits) (pc := 51) dX0_setLimits_51 rfl rfl ?_
      refine w_iload_n 2 2 (μ := m_X0_setLimits) (pc := 52) dX0_setLimits_52 rfl rfl ?_
      refine w_callV (As := [.int x3v, .int x1v, .int x2v]) (rest := [.int (q_R δ b_22 x2v.toNatClampNeg), .int x2v, .ref b_18]) (μ := m_X0_setLimits) (pc := 53) dX0_setLimits_53 cv_X0_63 rfl rfl k0 (by decide) rfl (Nat.le_of_ble_eq_true rfl) (d' := d - 1) (by omega) he_i (c_X0_limitOf wt hl (d := d - 1) (by omega) k0) (fun r_24 => ?_)
      refine w_callS (As := [.int (q_R δ b_22 x2v.toNatClampNeg), .int r_24.1]) (rest := [.int x2v, .ref b_18]) (μ := m_X0_setLimits) (pc := 56) dX0_setLimits_56 cs_X0_67 rfl rfl (Nat.le_of_ble_eq_true rfl) (d' := d - 1) (by omega) he_i (c_J9_max_7cf53 wt hl (d := d - 1) (by omega) ) (fun r_25 => ?_)
      refine w_ast (μ := m_X0_setLimits) (pc := 59) dX0_setLimits_59 (we_18 wt (wt_0_3 wt k0 e_17) e_19) ?_
      refine w_bd (fun δ_26 e_27 => ?_)
      refine w_inb (fun x_28 e_29 => ?_)
      refine w_iinc 3 [(3, .int x_28), (0, .ref a0), (1, .int x1v), (2, .int x2v)] (μ := m_X0_setLimits) (pc := 60) dX0_setLimits_60 rfl (by rw [e_29]; rfl) (by decide) rfl ?_
      refine w_goto 29 (μ := m_X0_setLimits) (pc := 63) dX0_setLimits_63 (by decide) ?_
      refine w_lv [1, 2, 3, 0] rfl ?_
      exact ih _ _ _ _
def L_X0_setLimits_10 (N : Nat) (g : gp) (a0 : Nat) (kt2 : Int32 → dp → Option (dp)) : Nat → Int32 → Int32 → dp → Option (dp)
  | 0, _, _, _ => none
  | n + 1, x1v, x2v, δ => if (6 - x1v) < x2v then (bi (x1v + 1) fun x_5 => kt2 x_5 δ) else ((q_O g 0 3 a0).bind fun b_7 => if x1v < 0 ∨ q_N g b_7 ≤ x1v.toNatClampNeg then none else (q_E g b_7 x1v.toNatClampNeg).bind fun b_9 => if x2v < 0 ∨ q_N g b_9 ≤ x2v.toNatClampNeg then none else bd (s_R δ b_9 x2v.toNatClampNeg 0) fun δ_11 => L_X0_setLimits_29 N g a0 kt2 (L_X0_setLimits_10 N g a0 kt2 n) N x1v x2v 0 δ_11)
set_option maxHeartbeats 4000000 in
set_option maxRecDepth 100000 in
theorem t_L_X0_setLimits_10 {l : Launch} {D : va_G} {cy : Nat → ClassId} {N d : Nat} {g : gp} (wt : WT g) (hl : l.stackTraces = false) (hd : 24 ≤ d) {a0 : Nat} (k0 : q_K g a0 = 0) {kt2 : Int32 → dp → Option (dp)} (hk2 : ∀ (x1v : Int32) (δ : dp), AWD l D cy m_X0_setLimits d 0 0 ev g 2 [(0, .ref a0), (1, .int x1v)] [] δ (kt2 x1v δ)) : ∀ (n : Nat) (x1v : Int32) (x2v : Int32) (δ : dp), AWD l D cy m_X0_setLimits d 0 0 ev g 10 [(0, .ref a0), (1, .int x1v), (2, .int x2v)] [] δ (L_X0_setLimits_10 N g a0 kt2 n x1v x2v δ) := by
  intro n
  induction n with
  | zero => intro x1v x2v δ ; exact w_none
  | succ n ih =>
    intro x1v x2v δ 
    unfold L_X0_setLimits_10
    refine w_iload_n 2 2 (μ := m_X0_setLimits) (pc := 10) dX0_setLimits_10 rfl rfl ?_
    refine w_bipush (v := 6) (μ := m_X0_setLimits) (pc := 11) dX0_setLimits_11 (by decide) ?_
    refine w_iload_n 1 1 (μ := m_X0_setLimits) (pc := 13) dX0_setLimits_13 rfl rfl ?_
    refine w_isub (μ := m_X0_setLimits) (pc := 14) dX0_setLimits_14 ?_
    refine w_icmp_gt 72 (μ := m_X0_setLimits) (pc := 15) dX0_setLimits_15 (by decide) (fun c_4 => ?_) (fun c_4 => ?_)
    · refine w_inb (fun x_5 e_6 => ?_)
      refine w_iinc 1 [(1, .int x_5), (0, .ref a0), (2, .int x2v)] (μ := m_X0_setLimits) (pc := 72) dX0_setLimits_72 rfl (by rw [e_6]; rfl) (by decide) rfl ?_
      refine w_goto 2 (μ := m_X0_setLimits) (pc := 75) dX0_setLimits_75 (by decide) ?_
      refine w_lv [1, 0] rfl ?_
      exact hk2 _ _
    · refine w_aload_n 0 0 (μ := m_X0_setLimits) (pc := 18) dX0_setLimits_18 rfl rfl ?_
      refine w_getO (μ := m_X0_setLimits) (pc := 19) dX0_setLimits_19 fl_X0_22 ir_0_3 id_0_3 k0 (fun b_7 e_8 => ?_)
      refine w_iload_n 1 1 (μ := m_X0_setLimits) (pc := 22) dX0_setLimits_22 rfl rfl ?_
      refine w_aald 5 (ty := (.array .int)) (μ := m_X0_setLimits) (pc := 23) dX0_setLimits_23 (wt_0_3 wt k0 e_8) (by decide) rfl rfl (by decide) (fun b_9 e_10 => ?_)
      refine w_iload_n 2 2 (μ := m_X0_setLimits) (pc := 24) dX0_setLimits_24 rfl rfl ?_
      refine w_iconst (v := 0) (μ := m_X0_setLimits) (pc := 25) dX0_setLimits_25 (by decide) ?_
      refine w_ast (μ := m_X0_setLimits) (pc := 26) dX0_setLimits_26 (we_18 wt (wt_0_3 wt k0 e_8) e_10) ?_
      refine w_bd (fun δ_11 e_12 => ?_)
      refine w_iconst (v := 0) (μ := m_X0_setLimits) (pc := 27) dX0_setLimits_27 (by decide) ?_
      refine w_istore_n [(3, .int 0), (0, .ref a0), (1, .int x1v), (2, .int x2v)] (μ := m_X0_setLimits) (pc := 28) dX0_setLimits_28 rfl (by decide) rfl ?_
      refine w_lv [1, 2, 3, 0] rfl ?_
      exact t_L_X0_setLimits_29 wt hl (by omega) k0 hk2 ih N _ _ _ _
def L_X0_setLimits_2 (N : Nat) (g : gp) (a0 : Nat) : Nat → Int32 → dp → Option (dp)
  | 0, _, _ => none
  | n + 1, x1v, δ => if (6 : Int32) < x1v then (bd (s_I δ 0 4 a0 1) fun δ_2 => some δ_2) else (L_X0_setLimits_10 N g a0 (L_X0_setLimits_2 N g a0 n) N x1v 0 δ)
set_option maxHeartbeats 4000000 in
set_option maxRecDepth 100000 in
theorem t_L_X0_setLimits_2 {l : Launch} {D : va_G} {cy : Nat → ClassId} {N d : Nat} {g : gp} (wt : WT g) (hl : l.stackTraces = false) (hd : 24 ≤ d) {a0 : Nat} (k0 : q_K g a0 = 0) : ∀ (n : Nat) (x1v : Int32) (δ : dp), AWD l D cy m_X0_setLimits d 0 0 ev g 2 [(0, .ref a0), (1, .int x1v)] [] δ (L_X0_setLimits_2 N g a0 n x1v δ) := by
  intro n
  induction n with
  | zero => intro x1v δ ; exact w_none
  | succ n ih =>
    intro x1v δ 
    unfold L_X0_setLimits_2
    refine w_iload_n 1 1 (μ := m_X0_setLimits) (pc := 2) dX0_setLimits_2 rfl rfl ?_
    refine w_bipush (v := 6) (μ := m_X0_setLimits) (pc := 3) dX0_setLimits_3 (by decide) ?_
    refine w_icmp_gt 78 (μ := m_X0_setLimits) (pc := 5) dX0_setLimits_5 (by decide) (fun c_1 => ?_) (fun c_1 => ?_)
    · refine w_aload_n 0 0 (μ := m_X0_setLimits) (pc := 78) dX0_setLimits_78 rfl rfl ?_
      refine w_iconst (v := 1) (μ := m_X0_setLimits) (pc := 79) dX0_setLimits_79 (by decide) ?_
      refine w_putZ (μ := m_X0_setLimits) (pc := 80) dX0_setLimits_80 fl_X0_42 flw_0_4 ir_0_4 k0 (by decide) ?_
      refine w_bd (fun δ_2 e_3 => ?_)
      exact w_vret (μ := m_X0_setLimits) (pc := 83) dX0_setLimits_83 rfl rfl
    · refine w_iconst (v := 0) (μ := m_X0_setLimits) (pc := 8) dX0_setLimits_8 (by decide) ?_
      refine w_istore_n [(2, .int 0), (0, .ref a0), (1, .int x1v)] (μ := m_X0_setLimits) (pc := 9) dX0_setLimits_9 rfl (by decide) rfl ?_
      refine w_lv [1, 2, 0] rfl ?_
      exact t_L_X0_setLimits_10 wt hl (by omega) k0 ih N _ _ _
def D_X0_setLimits (N : Nat) (g : gp) (a0 : Nat) (δ : dp) : Option (dp) :=
  L_X0_setLimits_2 N g a0 N 1 δ
set_option maxHeartbeats 4000000 in
set_option maxRecDepth 100000 in
theorem c_X0_setLimits {l : Launch} {D : va_G} {cy : Nat → ClassId} {N d : Nat} {g : gp} (wt : WT g) (hl : l.stackTraces = false) (hd : 24 ≤ d) {a0 : Nat} {δ : dp} (k0 : q_K g a0 = 0) : CalD l D cy m_X0_setLimits d 0 0 ev g [.ref a0] δ (D_X0_setLimits N g a0 δ) := by
  refine CalD.of (by decide +kernel) (Nat.le_of_ble_eq_true rfl) hl ?_
  unfold D_X0_setLimits
  refine w_iconst (v := 1) (μ := m_X0_setLimits) (pc := 0) dX0_setLimits_0 (by decide) ?_
  refine w_istore_n [(1, .int 1), (0, .ref a0)] (μ := m_X0_setLimits) (pc := 1) dX0_setLimits_1 rfl (by decide) rfl ?_
  refine w_lv [1, 0] rfl ?_
  exact t_L_X0_setLimits_2 wt hl (by omega) k0 N _ _
def J_X0_findBehind_98 (N : Nat) (g : gp) (T : Nat → Int32 → Int32 → dp → Option (Int32 × dp)) (a0 : Nat) (x1 : Int32) (x2 : Int32) (x3 : Int32) (x4 : Int32) (x8v : Int32) (δ : dp) : Option (Int32 × dp) :=
  if x8v = 0 ∨ x8v = 1 then some (x8v, δ) else none
set_option maxHeartbeats 4000000 in
set_option maxRecDepth 100000 in
theorem t_J_X0_findBehind_98 {l : Launch} {D : va_G} {cy : Nat → ClassId} {N d : Nat} {g : gp} (wt : WT g) (hl : l.stackTraces = false) {T : Nat → Int32 → Int32 → dp → Option (Int32 × dp)} {dh : Nat} (hT : ∀ (a0 : Nat) (x1 : Int32) (x2 : Int32) (δ : dp), q_K g a0 = 0 → CalD l D cy m_X0_find dh 0 0 ei g [.ref a0, .int x1, .int x2] δ (T a0 x1 x2 δ)) (hh : dh + 1 ≤ d) (hd : 5 ≤ d) {a0 : Nat} {x1 : Int32} {x2 : Int32} {x3 : Int32} {x4 : Int32} (k0 : q_K g a0 = 0) : ∀ (x8v : Int32) (δ : dp), AWD l D cy m_X0_findBehind d 0 0 ei g 98 [(8, .int x8v)] [] δ (J_X0_findBehind_98 N g T a0 x1 x2 x3 x4 x8v δ) := by
    intro x8v δ 
    unfold J_X0_findBehind_98
    refine w_iload 0 (μ := m_X0_findBehind) (pc := 98) dX0_findBehind_98 rfl ?_
    exact w_zret (μ := m_X0_findBehind) (pc := 100) dX0_findBehind_100 rfl rfl
def J_X0_findBehind_84 (N : Nat) (g : gp) (T : Nat → Int32 → Int32 → dp → Option (Int32 × dp)) (a0 : Nat) (x1 : Int32) (x2 : Int32) (x3 : Int32) (x4 : Int32) (x7v : Int32) (x8v : Int32) (δ : dp) : Option (Int32 × dp) :=
  if x7v = 0 then (J_X0_findBehind_98 N g T a0 x1 x2 x3 x4 x8v δ) else ((q_O g 0 1 a0).bind fun b_9 => (D_X3_add N g b_9 x2 δ).bind fun r_11 => J_X0_findBehind_98 N g T a0 x1 x2 x3 x4 x8v r_11.2)
set_option maxHeartbeats 4000000 in
set_option maxRecDepth 100000 in
theorem t_J_X0_findBehind_84 {l : Launch} {D : va_G} {cy : Nat → ClassId} {N d : Nat} {g : gp} (wt : WT g) (hl : l.stackTraces = false) {T : Nat → Int32 → Int32 → dp → Option (Int32 × dp)} {dh : Nat} (hT : ∀ (a0 : Nat) (x1 : Int32) (x2 : Int32) (δ : dp), q_K g a0 = 0 → CalD l D cy m_X0_find dh 0 0 ei g [.ref a0, .int x1, .int x2] δ (T a0 x1 x2 δ)) (hh : dh + 1 ≤ d) (hd : 5 ≤ d) {a0 : Nat} {x1 : Int32} {x2 : Int32} {x3 : Int32} {x4 : Int32} (k0 : q_K g a0 = 0) : ∀ (x7v : Int32) (x8v : Int32) (δ : dp), AWD l D cy m_X0_findBehind d 0 0 ei g 84 [(0, .ref a0), (2, .int x2), (7, .int x7v), (8, .int x8v)] [] δ (J_X0_findBehind_84 N g T a0 x1 x2 x3 x4 x7v x8v δ) := by
    intro x7v x8v δ 
    unfold J_X0_findBehind_84
    refine w_iload 2 (μ := m_X0_findBehind) (pc := 84) dX0_findBehind_84 rfl ?_
    refine w_if_eq 98 (μ := m_X0_findBehind) (pc := 86) dX0_findBehind_86 (by decide) (fun c_8 => ?_) (fun c_8 => ?_)
    · refine w_lv [3] rfl ?_
      exact t_J_X0_findBehind_98 wt hl hT (by omega) (by omega) k0 _ _
    · refine w_aload_n 0 0 (μ := m_X0_findBehind) (pc := 89) dX0_findBehind_89 rfl rfl ?_
      refine w_getO (μ := m_X0_findBehind) (pc := 90) dX0_findBehind_90 fl_X0_16 ir_0_1 id_0_1 k0 (fun b_9 e_10 => ?_)
      refine w_iload_n 1 2 (μ := m_X0_findBehind) (pc := 93) dX0_findBehind_93 rfl rfl ?_
      refine w_callV (As := [.int x2]) (rest := []) (μ := m_X0_findBehind) (pc := 94) dX0_findBehind_94 cv_X0_95 rfl rfl (wt_0_1 wt k0 e_10) (by decide) rfl (Nat.le_of_ble_eq_true rfl) (d' := d - 1) (by omega) he_i (c_X3_add wt hl (d := d - 1) (by omega) (wt_0_1 wt k0 e_10)) (fun r_11 => ?_)
      refine w_pop (μ := m_X0_findBehind) (pc := 97) dX0_findBehind_97 rfl ?_
      refine w_lv [3] rfl ?_
      exact t_J_X0_findBehind_98 wt hl hT (by omega) (by omega) k0 _ _
def J_X0_findBehind_54 (N : Nat) (g : gp) (T : Nat → Int32 → Int32 → dp → Option (Int32 × dp)) (a0 : Nat) (x1 : Int32) (x2 : Int32) (x3 : Int32) (x4 : Int32) (xs0 : Int32) (x5v : Int32) (x6v : Int32) (δ : dp) : Option (Int32 × dp) :=
  (T a0 (x3 - 1) (x4 - x5v) δ).bind fun r_6 => if x6v = 0 then (J_X0_findBehind_84 N g T a0 x1 x2 x3 x4 xs0 r_6.1 r_6.2) else ((q_O g 0 1 a0).bind fun b_12 => (D_X3_remove N g b_12 x2 r_6.2).bind fun r_14 => J_X0_findBehind_84 N g T a0 x1 x2 x3 x4 xs0 r_6.1 r_14.2)
set_option maxHeartbeats 4000000 in
set_option maxRecDepth 100000 in
theorem t_J_X0_findBehind_54 {l : Launch} {D : va_G} {cy : Nat → ClassId} {N d : Nat} {g : gp} (wt : WT g) (hl : l.stackTraces = false) {T : Nat → Int32 → Int32 → dp → Option (Int32 × dp)} {dh : Nat} (hT : ∀ (a0 : Nat) (x1 : Int32) (x2 : Int32) (δ : dp), q_K g a0 = 0 → CalD l D cy m_X0_find dh 0 0 ei g [.ref a0, .int x1, .int x2] δ (T a0 x1 x2 δ)) (hh : dh + 1 ≤ d) (hd : 5 ≤ d) {a0 : Nat} {x1 : Int32} {x2 : Int32} {x3 : Int32} {x4 : Int32} (k0 : q_K g a0 = 0) : ∀ (xs0 : Int32) (x5v : Int32) (x6v : Int32) (δ : dp), AWD l D cy m_X0_findBehind d 0 0 ei g 54 [(0, .ref a0), (2, .int x2), (3, .int x3), (4, .int x4), (5, .int x5v), (6, .int x6v)] [.int xs0] δ (J_X0_findBehind_54 N g T a0 x1 x2 x3 x4 xs0 x5v x6v δ) := by
    intro xs0 x5v x6v δ 
    unfold J_X0_findBehind_54
    refine w_istore [(7, .int xs0), (0, .ref a0), (2, .int x2), (3, .int x3), (4, .int x4), (5, .int x5v), (6, .int x6v)] (μ := m_X0_findBehind) (pc := 54) dX0_findBehind_54 (by decide) rfl ?_
    refine w_aload_n 1 0 (μ := m_X0_findBehind) (pc := 56) dX0_findBehind_56 rfl rfl ?_
    refine w_iload_n 3 3 (μ := m_X0_findBehind) (pc := 57) dX0_findBehind_57 rfl rfl ?_
    refine w_iconst (v := 1) (μ := m_X0_findBehind) (pc := 58) dX0_findBehind_58 (by decide) ?_
    refine w_isub (μ := m_X0_findBehind) (pc := 59) dX0_findBehind_59 ?_
    refine w_iload 4 (μ := m_X0_findBehind) (pc := 60) dX0_findBehind_60 rfl ?_
    refine w_iload 5 (μ := m_X0_findBehind) (pc := 62) dX0_findBehind_62 rfl ?_
    refine w_isub (μ := m_X0_findBehind) (pc := 64) dX0_findBehind_64 ?_
    refine w_callV (As := [.int (x3 - 1), .int (x4 - x5v)]) (rest := []) (μ := m_X0_findBehind) (pc := 65) dX0_findBehind_65 cv_X0_56 rfl rfl k0 (by decide) rfl (Nat.le_of_ble_eq_true rfl) (d' := dh) (by omega) he_i (hT _ _ _ _ k0) (fun r_6 => ?_)
    refine w_istore [(8, .int r_6.1), (7, .int xs0), (0, .ref a0), (2, .int x2), (3, .int x3), (4, .int x4), (5, .int x5v), (6, .int x6v)] (μ := m_X0_findBehind) (pc := 68) dX0_findBehind_68 (by decide) rfl ?_
    refine w_iload 7 (μ := m_X0_findBehind) (pc := 70) dX0_findBehind_70 rfl ?_
    refine w_if_eq 84 (μ := m_X0_findBehind) (pc := 72) dX0_findBehind_72 (by decide) (fun c_7 => ?_) (fun c_7 => ?_)
    · refine w_lv [2, 3, 1, 0] rfl ?_
      exact t_J_X0_findBehind_84 wt hl hT (by omega) (by omega) k0 _ _ _
    · refine w_aload_n 2 0 (μ := m_X0_findBehind) (pc := 75) dX0_findBehind_75 rfl rfl ?_
      refine w_getO (μ := m_X0_findBehind) (pc := 76) dX0_findBehind_76 fl_X0_16 ir_0_1 id_0_1 k0 (fun b_12 e_13 => ?_)
      refine w_iload_n 3 2 (μ := m_X0_findBehind) (pc := 79) dX0_findBehind_79 rfl rfl ?_
      refine w_callV (As := [.int x2]) (rest := []) (μ := m_X0_findBehind) (pc := 80) dX0_findBehind_80 cv_X0_99 rfl rfl (wt_0_1 wt k0 e_13) (by decide) rfl (Nat.le_of_ble_eq_true rfl) (d' := d - 1) (by omega) he_i (c_X3_remove wt hl (d := d - 1) (by omega) (wt_0_1 wt k0 e_13)) (fun r_14 => ?_)
      refine w_pop (μ := m_X0_findBehind) (pc := 83) dX0_findBehind_83 rfl ?_
      refine w_lv [2, 3, 1, 0] rfl ?_
      exact t_J_X0_findBehind_84 wt hl hT (by omega) (by omega) k0 _ _ _
def J_X0_findBehind_53 (N : Nat) (g : gp) (T : Nat → Int32 → Int32 → dp → Option (Int32 × dp)) (a0 : Nat) (x1 : Int32) (x2 : Int32) (x3 : Int32) (x4 : Int32) (x5v : Int32) (x6v : Int32) (δ : dp) : Option (Int32 × dp) :=
  J_X0_findBehind_54 N g T a0 x1 x2 x3 x4 0 x5v x6v δ
set_option maxHeartbeats 4000000 in
set_option maxRecDepth 100000 in
theorem t_J_X0_findBehind_53 {l : Launch} {D : va_G} {cy : Nat → ClassId} {N d : Nat} {g : gp} (wt : WT g) (hl : l.stackTraces = false) {T : Nat → Int32 → Int32 → dp → Option (Int32 × dp)} {dh : Nat} (hT : ∀ (a0 : Nat) (x1 : Int32) (x2 : Int32) (δ : dp), q_K g a0 = 0 → CalD l D cy m_X0_find dh 0 0 ei g [.ref a0, .int x1, .int x2] δ (T a0 x1 x2 δ)) (hh : dh + 1 ≤ d) (hd : 5 ≤ d) {a0 : Nat} {x1 : Int32} {x2 : Int32} {x3 : Int32} {x4 : Int32} (k0 : q_K g a0 = 0) : ∀ (x5v : Int32) (x6v : Int32) (δ : dp), AWD l D cy m_X0_findBehind d 0 0 ei g 53 [(0, .ref a0), (2, .int x2), (3, .int x3), (4, .int x4), (5, .int x5v), (6, .int x6v)] [] δ (J_X0_findBehind_53 N g T a0 x1 x2 x3 x4 x5v x6v δ) := by
    intro x5v x6v δ 
    unfold J_X0_findBehind_53
    refine w_iconst (v := 0) (μ := m_X0_findBehind) (pc := 53) dX0_findBehind_53 (by decide) ?_
    exact t_J_X0_findBehind_54 wt hl hT (by omega) (by omega) k0 _ _ _ _
def J_X0_findBehind_31 (N : Nat) (g : gp) (T : Nat → Int32 → Int32 → dp → Option (Int32 × dp)) (a0 : Nat) (x1 : Int32) (x2 : Int32) (x3 : Int32) (x4 : Int32) (xs0 : Int32) (x5v : Int32) (δ : dp) : Option (Int32 × dp) :=
  if x1 = (1 : Int32) then ((q_O g 0 1 a0).bind fun b_15 => (D_X3_remove N g b_15 x2 δ).bind fun r_17 => if r_17.1 = 0 then (J_X0_findBehind_53 N g T a0 x1 x2 x3 x4 x5v xs0 r_17.2) else (J_X0_findBehind_54 N g T a0 x1 x2 x3 x4 1 x5v xs0 r_17.2)) else (J_X0_findBehind_53 N g T a0 x1 x2 x3 x4 x5v xs0 δ)
set_option maxHeartbeats 4000000 in
set_option maxRecDepth 100000 in
theorem t_J_X0_findBehind_31 {l : Launch} {D : va_G} {cy : Nat → ClassId} {N d : Nat} {g : gp} (wt : WT g) (hl : l.stackTraces = false) {T : Nat → Int32 → Int32 → dp → Option (Int32 × dp)} {dh : Nat} (hT : ∀ (a0 : Nat) (x1 : Int32) (x2 : Int32) (δ : dp), q_K g a0 = 0 → CalD l D cy m_X0_find dh 0 0 ei g [.ref a0, .int x1, .int x2] δ (T a0 x1 x2 δ)) (hh : dh + 1 ≤ d) (hd : 5 ≤ d) {a0 : Nat} {x1 : Int32} {x2 : Int32} {x3 : Int32} {x4 : Int32} (k0 : q_K g a0 = 0) : ∀ (xs0 : Int32) (x5v : Int32) (δ : dp), AWD l D cy m_X0_findBehind d 0 0 ei g 31 [(0, .ref a0), (1, .int x1), (2, .int x2), (3, .int x3), (4, .int x4), (5, .int x5v)] [.int xs0] δ (J_X0_findBehind_31 N g T a0 x1 x2 x3 x4 xs0 x5v δ) := by
    intro xs0 x5v δ 
    unfold J_X0_findBehind_31
    refine w_istore [(6, .int xs0), (0, .ref a0), (1, .int x1), (2, .int x2), (3, .int x3), (4, .int x4), (5, .int x5v)] (μ := m_X0_findBehind) (pc := 31) dX0_findBehind_31 (by decide) rfl ?_
    refine w_iload_n 2 1 (μ := m_X0_findBehind) (pc := 33) dX0_findBehind_33 rfl rfl ?_
    refine w_iconst (v := 1) (μ := m_X0_findBehind) (pc := 34) dX0_findBehind_34 (by decide) ?_
    refine w_icmp_ne 53 (μ := m_X0_findBehind) (pc := 35) dX0_findBehind_35 (by decide) (fun c_5 => ?_) (fun c_5 => ?_)
    · refine w_lv [1, 3, 4, 5, 6, 0] rfl ?_
      exact t_J_X0_findBehind_53 wt hl hT (by omega) (by omega) k0 _ _ _
    · refine w_aload_n 1 0 (μ := m_X0_findBehind) (pc := 38) dX0_findBehind_38 rfl rfl ?_
      refine w_getO (μ := m_X0_findBehind) (pc := 39) dX0_findBehind_39 fl_X0_16 ir_0_1 id_0_1 k0 (fun b_15 e_16 => ?_)
      refine w_iload_n 3 2 (μ := m_X0_findBehind) (pc := 42) dX0_findBehind_42 rfl rfl ?_
      refine w_callV (As := [.int x2]) (rest := []) (μ := m_X0_findBehind) (pc := 43) dX0_findBehind_43 cv_X0_99 rfl rfl (wt_0_1 wt k0 e_16) (by decide) rfl (Nat.le_of_ble_eq_true rfl) (d' := d - 1) (by omega) he_i (c_X3_remove wt hl (d := d - 1) (by omega) (wt_0_1 wt k0 e_16)) (fun r_17 => ?_)
      refine w_if_eq 53 (μ := m_X0_findBehind) (pc := 46) dX0_findBehind_46 (by decide) (fun c_18 => ?_) (fun c_18 => ?_)
      · refine w_lv [1, 3, 4, 5, 6, 0] rfl ?_
        exact t_J_X0_findBehind_53 wt hl hT (by omega) (by omega) k0 _ _ _
      · refine w_iconst (v := 1) (μ := m_X0_findBehind) (pc := 49) dX0_findBehind_49 (by decide) ?_
        refine w_goto 54 (μ := m_X0_findBehind) (pc := 50) dX0_findBehind_50 (by decide) ?_
        refine w_lv [1, 3, 4, 5, 6, 0] rfl ?_
        exact t_J_X0_findBehind_54 wt hl hT (by omega) (by omega) k0 _ _ _ _
def J_X0_findBehind_30 (N : Nat) (g : gp) (T : Nat → Int32 → Int32 → dp → Option (Int32 × dp)) (a0 : Nat) (x1 : Int32) (x2 : Int32) (x3 : Int32) (x4 : Int32) (x5v : Int32) (δ : dp) : Option (Int32 × dp) :=
  J_X0_findBehind_31 N g T a0 x1 x2 x3 x4 0 x5v δ
set_option maxHeartbeats 4000000 in
set_option maxRecDepth 100000 in
theorem t_J_X0_findBehind_30 {l : Launch} {D : va_G} {cy : Nat → ClassId} {N d : Nat} {g : gp} (wt : WT g) (hl : l.stackTraces = false) {T : Nat → Int32 → Int32 → dp → Option (Int32 × dp)} {dh : Nat} (hT : ∀ (a0 : Nat) (x1 : Int32) (x2 : Int32) (δ : dp), q_K g a0 = 0 → CalD l D cy m_X0_find dh 0 0 ei g [.ref a0, .int x1, .int x2] δ (T a0 x1 x2 δ)) (hh : dh + 1 ≤ d) (hd : 5 ≤ d) {a0 : Nat} {x1 : Int32} {x2 : Int32} {x3 : Int32} {x4 : Int32} (k0 : q_K g a0 = 0) : ∀ (x5v : Int32) (δ : dp), AWD l D cy m_X0_findBehind d 0 0 ei g 30 [(0, .ref a0), (1, .int x1), (2, .int x2), (3, .int x3), (4, .int x4), (5, .int x5v)] [] δ (J_X0_findBehind_30 N g T a0 x1 x2 x3 x4 x5v δ) := by
    intro x5v δ 
    unfold J_X0_findBehind_30
    refine w_iconst (v := 0) (μ := m_X0_findBehind) (pc := 30) dX0_findBehind_30 (by decide) ?_
    exact t_J_X0_findBehind_31 wt hl hT (by omega) (by omega) k0 _ _ _
def B_X0_findBehind (N : Nat) (g : gp) (T : Nat → Int32 → Int32 → dp → Option (Int32 × dp)) (a0 : Nat) (x1 : Int32) (x2 : Int32) (x3 : Int32) (x4 : Int32) (δ : dp) : Option (Int32 × dp) :=
  (q_O g 0 2 a0).bind fun b_1 => (D_X1_touchesOf N g b_1 x1 x2 δ).bind fun r_3 => if x1 = 0 then ((q_O g 0 1 a0).bind fun b_19 => (D_X3_add N g b_19 x2 r_3.2).bind fun r_21 => if r_21.1 = 0 then (J_X0_findBehind_30 N g T a0 x1 x2 x3 x4 r_3.1 r_21.2) else (J_X0_findBehind_31 N g T a0 x1 x2 x3 x4 1 r_3.1 r_21.2)) else (J_X0_findBehind_30 N g T a0 x1 x2 x3 x4 r_3.1 r_3.2)
set_option maxHeartbeats 4000000 in
set_option maxRecDepth 100000 in
theorem c_b_X0_findBehind {l : Launch} {D : va_G} {cy : Nat → ClassId} {N d : Nat} {g : gp} (wt : WT g) (hl : l.stackTraces = false) {T : Nat → Int32 → Int32 → dp → Option (Int32 × dp)} {dh : Nat} (hT : ∀ (a0 : Nat) (x1 : Int32) (x2 : Int32) (δ : dp), q_K g a0 = 0 → CalD l D cy m_X0_find dh 0 0 ei g [.ref a0, .int x1, .int x2] δ (T a0 x1 x2 δ)) (hh : dh + 1 ≤ d) (hd : 5 ≤ d) {a0 : Nat} {x1 : Int32} {x2 : Int32} {x3 : Int32} {x4 : Int32} {δ : dp} (k0 : q_K g a0 = 0) : CalD l D cy m_X0_findBehind d 0 0 ei g [.ref a0, .int x1, .int x2, .int x3, .int x4] δ (B_X0_findBehind N g T a0 x1 x2 x3 x4 δ) := by
  refine CalD.of (by decide +kernel) (Nat.le_of_ble_eq_true rfl) hl ?_
  unfold B_X0_findBehind
  refine w_aload_n 0 0 (μ := m_X0_findBehind) (pc := 0) dX0_findBehind_0 rfl rfl ?_
  refine w_getO (μ := m_X0_findBehind) (pc := 1) dX0_findBehind_1 fl_X0_38 ir_0_2 id_0_2 k0 (fun b_1 e_2 => ?_)
  refine w_iload_n 1 1 (μ := m_X0_findBehind) (pc := 4) dX0_findBehind_4 rfl rfl ?_
  refine w_iload_n 2 2 (μ := m_X0_findBehind) (pc := 5) dX0_findBehind_5 rfl rfl ?_
  refine w_callV (As := [.int x1, .int x2]) (rest := []) (μ := m_X0_findBehind) (pc := 6) dX0_findBehind_6 cv_X0_92 rfl rfl (wt_0_2 wt k0 e_2) (by decide) rfl (Nat.le_of_ble_eq_true rfl) (d' := d - 1) (by omega) he_i (c_X1_touchesOf wt hl (d := d - 1) (by omega) (wt_0_2 wt k0 e_2)) (fun r_3 => ?_)
  refine w_istore [(5, .int r_3.1), (0, .ref a0), (1, .int x1), (2, .int x2), (3, .int x3), (4, .int x4)] (μ := m_X0_findBehind) (pc := 9) dX0_findBehind_9 (by decide) rfl ?_
  refine w_iload_n 2 1 (μ := m_X0_findBehind) (pc := 11) dX0_findBehind_11 rfl rfl ?_
  refine w_if_ne 30 (μ := m_X0_findBehind) (pc := 12) dX0_findBehind_12 (by decide) (fun c_4 => ?_) (fun c_4 => ?_)
  · refine w_lv [1, 2, 3, 4, 5, 0] rfl ?_
    exact t_J_X0_findBehind_30 wt hl hT (by omega) (by omega) k0 _ _
  · refine w_aload_n 1 0 (μ := m_X0_findBehind) (pc := 15) dX0_findBehind_15 rfl rfl ?_
    refine w_getO (μ := m_X0_findBehind) (pc := 16) dX0_findBehind_16 fl_X0_16 ir_0_1 id_0_1 k0 (fun b_19 e_20 => ?_)
    refine w_iload_n 3 2 (μ := m_X0_findBehind) (pc := 19) dX0_findBehind_19 rfl rfl ?_
    refine w_callV (As := [.int x2]) (rest := []) (μ := m_X0_findBehind) (pc := 20) dX0_findBehind_20 cv_X0_95 rfl rfl (wt_0_1 wt k0 e_20) (by decide) rfl (Nat.le_of_ble_eq_true rfl) (d' := d - 1) (by omega) he_i (c_X3_add wt hl (d := d - 1) (by omega) (wt_0_1 wt k0 e_20)) (fun r_21 => ?_)
    refine w_if_eq 30 (μ := m_X0_findBehind) (pc := 23) dX0_findBehind_23 (by decide) (fun c_22 => ?_) (fun c_22 => ?_)
    · refine w_lv [1, 2, 3, 4, 5, 0] rfl ?_
      exact t_J_X0_findBehind_30 wt hl hT (by omega) (by omega) k0 _ _
    · refine w_iconst (v := 1) (μ := m_X0_findBehind) (pc := 26) dX0_findBehind_26 (by decide) ?_
      refine w_goto 31 (μ := m_X0_findBehind) (pc := 27) dX0_findBehind_27 (by decide) ?_
      refine w_lv [1, 2, 3, 4, 5, 0] rfl ?_
      exact t_J_X0_findBehind_31 wt hl hT (by omega) (by omega) k0 _ _ _
def J_X0_find_35 (N : Nat) (g : gp) (T : Nat → Int32 → Int32 → dp → Option (Int32 × dp)) (a0 : Nat) (x1 : Int32) (x2 : Int32) (xs0 : Int32) (δ : dp) : Option (Int32 × dp) :=
  if xs0 = 0 ∨ xs0 = 1 then some (xs0, δ) else none
set_option maxHeartbeats 4000000 in
set_option maxRecDepth 100000 in
theorem t_J_X0_find_35 {l : Launch} {D : va_G} {cy : Nat → ClassId} {N d : Nat} {g : gp} (wt : WT g) (hl : l.stackTraces = false) {T : Nat → Int32 → Int32 → dp → Option (Int32 × dp)} {dh : Nat} (hT : ∀ (a0 : Nat) (x1 : Int32) (x2 : Int32) (δ : dp), q_K g a0 = 0 → CalD l D cy m_X0_find dh 0 0 ei g [.ref a0, .int x1, .int x2] δ (T a0 x1 x2 δ)) (hh : dh + 2 ≤ d) (hd : 24 ≤ d) {a0 : Nat} {x1 : Int32} {x2 : Int32} (k0 : q_K g a0 = 0) : ∀ (xs0 : Int32) (δ : dp), AWD l D cy m_X0_find d 0 0 ei g 35 [] [.int xs0] δ (J_X0_find_35 N g T a0 x1 x2 xs0 δ) := by
    intro xs0 δ 
    unfold J_X0_find_35
    exact w_zret (μ := m_X0_find) (pc := 35) dX0_find_35 rfl rfl
def J_X0_find_34 (N : Nat) (g : gp) (T : Nat → Int32 → Int32 → dp → Option (Int32 × dp)) (a0 : Nat) (x1 : Int32) (x2 : Int32) (δ : dp) : Option (Int32 × dp) :=
  J_X0_find_35 N g T a0 x1 x2 0 δ
set_option maxHeartbeats 4000000 in
set_option maxRecDepth 100000 in
theorem t_J_X0_find_34 {l : Launch} {D : va_G} {cy : Nat → ClassId} {N d : Nat} {g : gp} (wt : WT g) (hl : l.stackTraces = false) {T : Nat → Int32 → Int32 → dp → Option (Int32 × dp)} {dh : Nat} (hT : ∀ (a0 : Nat) (x1 : Int32) (x2 : Int32) (δ : dp), q_K g a0 = 0 → CalD l D cy m_X0_find dh 0 0 ei g [.ref a0, .int x1, .int x2] δ (T a0 x1 x2 δ)) (hh : dh + 2 ≤ d) (hd : 24 ≤ d) {a0 : Nat} {x1 : Int32} {x2 : Int32} (k0 : q_K g a0 = 0) : ∀ (δ : dp), AWD l D cy m_X0_find d 0 0 ei g 34 [] [] δ (J_X0_find_34 N g T a0 x1 x2 δ) := by
    intro  δ 
    unfold J_X0_find_34
    refine w_iconst (v := 0) (μ := m_X0_find) (pc := 34) dX0_find_34 (by decide) ?_
    exact t_J_X0_find_35 wt hl hT (by omega) (by omega) k0 _ _
def J_X0_find_22 (N : Nat) (g : gp) (T : Nat → Int32 → Int32 → dp → Option (Int32 × dp)) (a0 : Nat) (x1 : Int32) (x2 : Int32) (δ : dp) : Option (Int32 × dp) :=
  if 0 < x1 then (J_X0_find_34 N g T a0 x1 x2 δ) else (if 0 < x2 then (J_X0_find_34 N g T a0 x1 x2 δ) else (J_X0_find_35 N g T a0 x1 x2 1 δ))
set_option maxHeartbeats 4000000 in
set_option maxRecDepth 100000 in
theorem t_J_X0_find_22 {l : Launch} {D : va_G} {cy : Nat → ClassId} {N d : Nat} {g : gp} (wt : WT g) (hl : l.stackTraces = false) {T : Nat → Int32 → Int32 → dp → Option (Int32 × dp)} {dh : Nat} (hT : ∀ (a0 : Nat) (x1 : Int32) (x2 : Int32) (δ : dp), q_K g a0 = 0 → CalD l D cy m_X0_find dh 0 0 ei g [.ref a0, .int x1, .int x2] δ (T a0 x1 x2 δ)) (hh : dh + 2 ≤ d) (hd : 24 ≤ d) {a0 : Nat} {x1 : Int32} {x2 : Int32} (k0 : q_K g a0 = 0) : ∀ (δ : dp), AWD l D cy m_X0_find d 0 0 ei g 22 [(1, .int x1), (2, .int x2)] [] δ (J_X0_find_22 N g T a0 x1 x2 δ) := by
    intro  δ 
    unfold J_X0_find_22
    refine w_iload_n 0 1 (μ := m_X0_find) (pc := 22) dX0_find_22 rfl rfl ?_
    refine w_if_gt 34 (μ := m_X0_find) (pc := 23) dX0_find_23 (by decide) (fun c_2 => ?_) (fun c_2 => ?_)
    · refine w_lv [] rfl ?_
      exact t_J_X0_find_34 wt hl hT (by omega) (by omega) k0 _
    · refine w_iload_n 1 2 (μ := m_X0_find) (pc := 26) dX0_find_26 rfl rfl ?_
      refine w_if_gt 34 (μ := m_X0_find) (pc := 27) dX0_find_27 (by decide) (fun c_3 => ?_) (fun c_3 => ?_)
      · refine w_lv [] rfl ?_
        exact t_J_X0_find_34 wt hl hT (by omega) (by omega) k0 _
      · refine w_iconst (v := 1) (μ := m_X0_find) (pc := 30) dX0_find_30 (by decide) ?_
        refine w_goto 35 (μ := m_X0_find) (pc := 31) dX0_find_31 (by decide) ?_
        refine w_lv [] rfl ?_
        exact t_J_X0_find_35 wt hl hT (by omega) (by omega) k0 _ _
def J_X0_find_120 (N : Nat) (g : gp) (T : Nat → Int32 → Int32 → dp → Option (Int32 × dp)) (a0 : Nat) (x1 : Int32) (x2 : Int32) (kt38 : Int32 → dp → Option (Int32 × dp)) (x3v : Int32) (δ : dp) : Option (Int32 × dp) :=
  bi (x3v + 1) fun x_20 => kt38 x_20 δ
set_option maxHeartbeats 4000000 in
set_option maxRecDepth 100000 in
theorem t_J_X0_find_120 {l : Launch} {D : va_G} {cy : Nat → ClassId} {N d : Nat} {g : gp} (wt : WT g) (hl : l.stackTraces = false) {T : Nat → Int32 → Int32 → dp → Option (Int32 × dp)} {dh : Nat} (hT : ∀ (a0 : Nat) (x1 : Int32) (x2 : Int32) (δ : dp), q_K g a0 = 0 → CalD l D cy m_X0_find dh 0 0 ei g [.ref a0, .int x1, .int x2] δ (T a0 x1 x2 δ)) (hh : dh + 2 ≤ d) (hd : 24 ≤ d) {a0 : Nat} {x1 : Int32} {x2 : Int32} (k0 : q_K g a0 = 0) {kt38 : Int32 → dp → Option (Int32 × dp)} (hk38 : ∀ (x3v : Int32) (δ : dp), AWD l D cy m_X0_find d 0 0 ei g 38 [(0, .ref a0), (1, .int x1), (2, .int x2), (3, .int x3v)] [] δ (kt38 x3v δ)) : ∀ (x3v : Int32) (δ : dp), AWD l D cy m_X0_find d 0 0 ei g 120 [(0, .ref a0), (1, .int x1), (2, .int x2), (3, .int x3v)] [] δ (J_X0_find_120 N g T a0 x1 x2 kt38 x3v δ) := by
    intro x3v δ 
    unfold J_X0_find_120
    refine w_inb (fun x_20 e_21 => ?_)
    refine w_iinc 3 [(3, .int x_20), (0, .ref a0), (1, .int x1), (2, .int x2)] (μ := m_X0_find) (pc := 120) dX0_find_120 rfl (by rw [e_21]; rfl) (by decide) rfl ?_
    refine w_goto 38 (μ := m_X0_find) (pc := 123) dX0_find_123 (by decide) ?_
    refine w_lv [1, 2, 3, 0] rfl ?_
    exact hk38 _ _
def L_X0_find_70 (N : Nat) (g : gp) (T : Nat → Int32 → Int32 → dp → Option (Int32 × dp)) (a0 : Nat) (x1 : Int32) (x2 : Int32) (kt38 : Int32 → dp → Option (Int32 × dp)) : Nat → Int32 → Int32 → Int32 → dp → Option (Int32 × dp)
  | 0, _, _, _, _ => none
  | n + 1, x3v, x4v, x5v, δ => (q_O g 0 0 a0).bind fun b_16 => (D_X5_greatest N g b_16 δ).bind fun r_18 => if r_18.1 < x5v then (J_X0_find_120 N g T a0 x1 x2 kt38 x3v r_18.2) else (if x4v = 0 then (J_X0_find_120 N g T a0 x1 x2 kt38 x3v r_18.2) else ((B_X0_findBehind N g T a0 x3v x5v x1 x2 r_18.2).bind fun r_23 => if r_23.1 = 0 then (bi (x5v + 1) fun x_25 => L_X0_find_70 N g T a0 x1 x2 kt38 n x3v x4v x_25 r_23.2) else ((q_O g 0 5 a0).bind fun b_27 => if x1 < 0 ∨ q_N g b_27 ≤ x1.toNatClampNeg then none else bd (s_R r_23.2 b_27 x1.toNatClampNeg ((x3v * 100) + x5v)) fun δ_29 => if (1 : Int32) = 0 ∨ (1 : Int32) = 1 then some (1, δ_29) else none)))
set_option maxHeartbeats 4000000 in
set_option maxRecDepth 100000 in
theorem t_L_X0_find_70 {l : Launch} {D : va_G} {cy : Nat → ClassId} {N d : Nat} {g : gp} (wt : WT g) (hl : l.stackTraces = false) {T : Nat → Int32 → Int32 → dp → Option (Int32 × dp)} {dh : Nat} (hT : ∀ (a0 : Nat) (x1 : Int32) (x2 : Int32) (δ : dp), q_K g a0 = 0 → CalD l D cy m_X0_find dh 0 0 ei g [.ref a0, .int x1, .int x2] δ (T a0 x1 x2 δ)) (hh : dh + 2 ≤ d) (hd : 24 ≤ d) {a0 : Nat} {x1 : Int32} {x2 : Int32} (k0 : q_K g a0 = 0) {kt38 : Int32 → dp → Option (Int32 × dp)} (hk38 : ∀ (x3v : Int32) (δ : dp), AWD l D cy m_X0_find d 0 0 ei g 38 [(0, .ref a0), (1, .int x1), (2, .int x2), (3, .int x3v)] [] δ (kt38 x3v δ)) : ∀ (n : Nat) (x3v : Int32) (x4v : Int32) (x5v : Int32) (δ : dp), AWD l D cy m_X0_find d 0 0 ei g 70 [(0, .ref a0), (1, .int x1), (2, .int x2), (3, .int x3v), (4, .int x4v), (5, .int x5v)] [] δ (L_X0_find_70 N g T a0 x1 x2 kt38 n x3v x4v x5v δ) := by
  intro n
  induction n with
  | zero => intro x3v x4v x5v δ ; exact w_none
  | succ n ih =>
    intro x3v x4v x5v δ 
    unfold L_X0_find_70
    refine w_iload 5 (μ := m_X0_find) (pc := 70) dX0_find_70 rfl ?_
    refine w_aload_n 0 0 (μ := m_X0_find) (pc := 72) dX0_find_72 rfl rfl ?_
    refine w_getO (μ := m_X0_find) (pc := 73) dX0_find_73 fl_X0_29 ir_0_0 id_0_0 k0 (fun b_16 e_17 => ?_)
    refine w_callV (As := []) (rest := [.int x5v]) (μ := m_X0_find) (pc := 76) dX0_find_76 cv_X0_84 rfl rfl (wt_0_0 wt k0 e_17) (by decide) rfl (Nat.le_of_ble_eq_true rfl) (d' := d - 1) (by omega) he_i (c_X5_greatest wt hl (d := d - 1) (by omega) (wt_0_0 wt k0 e_17)) (fun r_18 => ?_)
    refine w_icmp_gt 120 (μ := m_X0_find) (pc := 79) dX0_find_79 (by decide) (fun c_19 => ?_) (fun c_19 => ?_)
    · refine w_lv [0, 1, 2, 3] rfl ?_
      exact t_J_X0_find_120 wt hl hT (by omega) (by omega) k0 hk38 _ _
    · refine w_iload 4 (μ := m_X0_find) (pc := 82) dX0_find_82 rfl ?_
      refine w_if_eq 120 (μ := m_X0_find) (pc := 84) dX0_find_84 (by decide) (fun c_22 => ?_) (fun c_22 => ?_)
      · refine w_lv [0, 1, 2, 3] rfl ?_
        exact t_J_X0_find_120 wt hl hT (by omega) (by omega) k0 hk38 _ _
      · refine w_aload_n 0 0 (μ := m_X0_find) (pc := 87) dX0_find_87 rfl rfl ?_
        refine w_iload_n 3 3 (μ := m_X0_find) (pc := 88) dX0_find_88 rfl rfl ?_
        refine w_iload 5 (μ := m_X0_find) (pc := 89) dX0_find_89 rfl ?_
        refine w_iload_n 1 1 (μ := m_X0_find) (pc := 91) dX0_find_91 rfl rfl ?_
        refine w_iload_n 2 2 (μ := m_X0_find) (pc := 92) dX0_find_92 rfl rfl ?_
        refine w_callV (As := [.int x3v, .int x5v, .int x1, .int x2]) (rest := []) (μ := m_X0_find) (pc := 93) dX0_find_93 cv_X0_88 rfl rfl k0 (by decide) rfl (Nat.le_of_ble_eq_true rfl) (d' := d - 1) (by omega) he_i (c_b_X0_findBehind wt hl (d := d - 1) hT (by omega) (by omega) k0) (fun r_23 => ?_)
        refine w_if_eq 114 (μ := m_X0_find) (pc := 96) dX0_find_96 (by decide) (fun c_24 => ?_) (fun c_24 => ?_)
        · refine w_inb (fun x_25 e_26 => ?_)
          refine w_iinc 5 [(5, .int x_25), (0, .ref a0), (1, .int x1), (2, .int x2), (3, .int x3v), (4, .int x4v)] (μ := m_X0_find) (pc := 114) dX0_find_114 rfl (by rw [e_26]; rfl) (by decide) rfl ?_
          refine w_goto 70 (μ := m_X0_find) (pc := 117) dX0_find_117 (by decide) ?_
          refine w_lv [1, 2, 3, 4, 5, 0] rfl ?_
          exact ih _ _ _ _
        · refine w_aload_n 0 0 (μ := m_X0_find) (pc := 99) dX0_find_99 rfl rfl ?_
          refine w_getO (μ := m_X0_find) (pc := 100) dX0_find_100 fl_X0_25 ir_0_5 id_0_5 k0 (fun b_27 e_28 => ?_)
          refine w_iload_n 1 1 (μ := m_X0_find) (pc := 103) dX0_find_103 rfl rfl ?_
          refine w_iload_n 3 3 (μ := m_X0_find) (pc := 104) dX0_find_104 rfl rfl ?_
          refine w_bipush (v := 100) (μ := m_X0_find) (pc := 105) dX0_find_105 (by decide) ?_
          refine w_imul (μ := m_X0_find) (pc := 107) dX0_find_107 ?_
          refine w_iload 5 (μ := m_X0_find) (pc := 108) dX0_find_108 rfl ?_
          refine w_iadd (μ := m_X0_find) (pc := 110) dX0_find_110 ?_
          refine w_ast (μ := m_X0_find) (pc := 111) dX0_find_111 (wt_0_5 wt k0 e_28) ?_
          refine w_bd (fun δ_29 e_30 => ?_)
          refine w_iconst (v := 1) (μ := m_X0_find) (pc := 112) dX0_find_112 (by decide) ?_
          exact w_zret (μ := m_X0_find) (pc := 113) dX0_find_113 rfl rfl
def J_X0_find_65 (N : Nat) (g : gp) (T : Nat → Int32 → Int32 → dp → Option (Int32 × dp)) (a0 : Nat) (x1 : Int32) (x2 : Int32) (kt38 : Int32 → dp → Option (Int32 × dp)) (xs0 : Int32) (x3v : Int32) (δ : dp) : Option (Int32 × dp) :=
  L_X0_find_70 N g T a0 x1 x2 kt38 N x3v xs0 0 δ
set_option maxHeartbeats 4000000 in
set_option maxRecDepth 100000 in
theorem t_J_X0_find_65 {l : Launch} {D : va_G} {cy : Nat → ClassId} {N d : Nat} {g : gp} (wt : WT g) (hl : l.stackTraces = false) {T : Nat → Int32 → Int32 → dp → Option (Int32 × dp)} {dh : Nat} (hT : ∀ (a0 : Nat) (x1 : Int32) (x2 : Int32) (δ : dp), q_K g a0 = 0 → CalD l D cy m_X0_find dh 0 0 ei g [.ref a0, .int x1, .int x2] δ (T a0 x1 x2 δ)) (hh : dh + 2 ≤ d) (hd : 24 ≤ d) {a0 : Nat} {x1 : Int32} {x2 : Int32} (k0 : q_K g a0 = 0) {kt38 : Int32 → dp → Option (Int32 × dp)} (hk38 : ∀ (x3v : Int32) (δ : dp), AWD l D cy m_X0_find d 0 0 ei g 38 [(0, .ref a0), (1, .int x1), (2, .int x2), (3, .int x3v)] [] δ (kt38 x3v δ)) : ∀ (xs0 : Int32) (x3v : Int32) (δ : dp), AWD l D cy m_X0_find d 0 0 ei g 65 [(0, .ref a0), (1, .int x1), (2, .int x2), (3, .int x3v)] [.int xs0] δ (J_X0_find_65 N g T a0 x1 x2 kt38 xs0 x3v δ) := by
    intro xs0 x3v δ 
    unfold J_X0_find_65
    refine w_istore [(4, .int xs0), (0, .ref a0), (1, .int x1), (2, .int x2), (3, .int x3v)] (μ := m_X0_find) (pc := 65) dX0_find_65 (by decide) rfl ?_
    refine w_iconst (v := 0) (μ := m_X0_find) (pc := 67) dX0_find_67 (by decide) ?_
    refine w_istore [(5, .int 0), (4, .int xs0), (0, .ref a0), (1, .int x1), (2, .int x2), (3, .int x3v)] (μ := m_X0_find) (pc := 68) dX0_find_68 (by decide) rfl ?_
    refine w_lv [2, 3, 4, 5, 1, 0] rfl ?_
    exact t_L_X0_find_70 wt hl hT (by omega) (by omega) k0 hk38 N _ _ _ _
def L_X0_find_38 (N : Nat) (g : gp) (T : Nat → Int32 → Int32 → dp → Option (Int32 × dp)) (a0 : Nat) (x1 : Int32) (x2 : Int32) : Nat → Int32 → dp → Option (Int32 × dp)
  | 0, _, _ => none
  | n + 1, x3v, δ => if (5 : Int32) ≤ x3v then (if (0 : Int32) = 0 ∨ (0 : Int32) = 1 then some (0, δ) else none) else ((q_O g 0 1 a0).bind fun b_12 => (D_X0_limitOf N g a0 x3v x1 (q_I δ 3 1 b_12) δ).bind fun r_14 => if r_14.1 < x2 then (J_X0_find_65 N g T a0 x1 x2 (L_X0_find_38 N g T a0 x1 x2 n) 0 x3v r_14.2) else (J_X0_find_65 N g T a0 x1 x2 (L_X0_find_38 N g T a0 x1 x2 n) 1 x3v r_14.2))
set_option maxHeartbeats 4000000 in
set_option maxRecDepth 100000 in
theorem t_L_X0_find_38 {l : Launch} {D : va_G} {cy : Nat → ClassId} {N d : Nat} {g : gp} (wt : WT g) (hl : l.stackTraces = false) {T : Nat → Int32 → Int32 → dp → Option (Int32 × dp)} {dh : Nat} (hT : ∀ (a0 : Nat) (x1 : Int32) (x2 : Int32) (δ : dp), q_K g a0 = 0 → CalD l D cy m_X0_find dh 0 0 ei g [.ref a0, .int x1, .int x2] δ (T a0 x1 x2 δ)) (hh : dh + 2 ≤ d) (hd : 24 ≤ d) {a0 : Nat} {x1 : Int32} {x2 : Int32} (k0 : q_K g a0 = 0) : ∀ (n : Nat) (x3v : Int32) (δ : dp), AWD l D cy m_X0_find d 0 0 ei g 38 [(0, .ref a0), (1, .int x1), (2, .int x2), (3, .int x3v)] [] δ (L_X0_find_38 N g T a0 x1 x2 n x3v δ) := by
  intro n
  induction n with
  | zero => intro x3v δ ; exact w_none
  | succ n ih =>
    intro x3v δ 
    unfold L_X0_find_38
    refine w_iload_n 3 3 (μ := m_X0_find) (pc := 38) dX0_find_38 rfl rfl ?_
    refine w_iconst (v := 5) (μ := m_X0_find) (pc := 39) dX0_find_39 (by decide) ?_
    refine w_icmp_ge 126 (μ := m_X0_find) (pc := 40) dX0_find_40 (by decide) (fun c_11 => ?_) (fun c_11 => ?_)
    · refine w_iconst (v := 0) (μ := m_X0_find) (pc := 126) dX0_find_126 (by decide) ?_
      exact w_zret (μ := m_X0_find) (pc := 127) dX0_find_127 rfl rfl
    · refine w_aload_n 0 0 (μ := m_X0_find) (pc := 43) dX0_find_43 rfl rfl ?_
      refine w_iload_n 3 3 (μ := m_X0_find) (pc := 44) dX0_find_44 rfl rfl ?_
      refine w_iload_n 1 1 (μ := m_X0_find) (pc := 45) dX0_find_45 rfl rfl ?_
      refine w_aload_n 0 0 (μ := m_X0_find) (pc := 46) dX0_find_46 rfl rfl ?_
      refine w_getO (μ := m_X0_find) (pc := 47) dX0_find_47 fl_X0_16 ir_0_1 id_0_1 k0 (fun b_12 e_13 => ?_)
      refine w_getI (μ := m_X0_find) (pc := 50) dX0_find_50 fl_X0_81 ir_3_1 (wt_0_1 wt k0 e_13) ?_
      refine w_callV (As := [.int x3v, .int x1, .int (q_I δ 3 1 b_12)]) (rest := []) (μ := m_X0_find) (pc := 53) dX0_find_53 cv_X0_63 rfl rfl k0 (by decide) rfl (Nat.le_of_ble_eq_true rfl) (d' := d - 1) (by omega) he_i (c_X0_limitOf wt hl (d := d - 1) (by omega) k0) (fun r_14 => ?_)
      refine w_iload_n 2 2 (μ := m_X0_find) (pc := 56) dX0_find_56 rfl rfl ?_
      refine w_icmp_lt 64 (μ := m_X0_find) (pc := 57) dX0_find_57 (by decide) (fun c_15 => ?_) (fun c_15 => ?_)
      · refine w_iconst (v := 0) (μ := m_X0_find) (pc := 64) dX0_find_64 (by decide) ?_
        exact t_J_X0_find_65 wt hl hT (by omega) (by omega) k0 ih _ _ _
      · refine w_iconst (v := 1) (μ := m_X0_find) (pc := 60) dX0_find_60 (by decide) ?_
        refine w_goto 65 (μ := m_X0_find) (pc := 61) dX0_find_61 (by decide) ?_
        exact t_J_X0_find_65 wt hl hT (by omega) (by omega) k0 ih _ _ _
def B_X0_find (N : Nat) (g : gp) (T : Nat → Int32 → Int32 → dp → Option (Int32 × dp)) (a0 : Nat) (x1 : Int32) (x2 : Int32) (δ : dp) : Option (Int32 × dp) :=
  if x1 ≤ 0 then (J_X0_find_22 N g T a0 x1 x2 δ) else ((q_O g 0 3 a0).bind fun b_4 => if x1 < 0 ∨ q_N g b_4 ≤ x1.toNatClampNeg then none else (q_E g b_4 x1.toNatClampNeg).bind fun b_6 => (q_O g 0 1 a0).bind fun b_8 => if (q_I δ 3 1 b_8) < 0 ∨ q_N g b_6 ≤ (q_I δ 3 1 b_8).toNatClampNeg then none else if x2 ≤ (q_R δ b_6 (q_I δ 3 1 b_8).toNatClampNeg) then (L_X0_find_38 N g T a0 x1 x2 N 0 δ) else (J_X0_find_22 N g T a0 x1 x2 δ))
set_option maxHeartbeats 4000000 in
set_option maxRecDepth 100000 in
theorem c_b_X0_find {l : Launch} {D : va_G} {cy : Nat → ClassId} {N d : Nat} {g : gp} (wt : WT g) (hl : l.stackTraces = false) {T : Nat → Int32 → Int32 → dp → Option (Int32 × dp)} {dh : Nat} (hT : ∀ (a0 : Nat) (x1 : Int32) (x2 : Int32) (δ : dp), q_K g a0 = 0 → CalD l D cy m_X0_find dh 0 0 ei g [.ref a0, .int x1, .int x2] δ (T a0 x1 x2 δ)) (hh : dh + 2 ≤ d) (hd : 24 ≤ d) {a0 : Nat} {x1 : Int32} {x2 : Int32} {δ : dp} (k0 : q_K g a0 = 0) : CalD l D cy m_X0_find d 0 0 ei g [.ref a0, .int x1, .int x2] δ (B_X0_find N g T a0 x1 x2 δ) := by
  refine CalD.of (by decide +kernel) (Nat.le_of_ble_eq_true rfl) hl ?_
  unfold B_X0_find
  refine w_iload_n 1 1 (μ := m_X0_find) (pc := 0) dX0_find_0 rfl rfl ?_
  refine w_if_le 22 (μ := m_X0_find) (pc := 1) dX0_find_1 (by decide) (fun c_1 => ?_) (fun c_1 => ?_)
  · refine w_lv [1, 2] rfl ?_
    exact t_J_X0_find_22 wt hl hT (by omega) (by omega) k0 _
  · refine w_iload_n 2 2 (μ := m_X0_find) (pc := 4) dX0_find_4 rfl rfl ?_
    refine w_aload_n 0 0 (μ := m_X0_find) (pc := 5) dX0_find_5 rfl rfl ?_
    refine w_getO (μ := m_X0_find) (pc := 6) dX0_find_6 fl_X0_22 ir_0_3 id_0_3 k0 (fun b_4 e_5 => ?_)
    refine w_iload_n 1 1 (μ := m_X0_find) (pc := 9) dX0_find_9 rfl rfl ?_
    refine w_aald 5 (ty := (.array .int)) (μ := m_X0_find) (pc := 10) dX0_find_10 (wt_0_3 wt k0 e_5) (by decide) rfl rfl (by decide) (fun b_6 e_7 => ?_)
    refine w_aload_n 0 0 (μ := m_X0_find) (pc := 11) dX0_find_11 rfl rfl ?_
    refine w_getO (μ := m_X0_find) (pc := 12) dX0_find_12 fl_X0_16 ir_0_1 id_0_1 k0 (fun b_8 e_9 => ?_)
    refine w_getI (μ := m_X0_find) (pc := 15) dX0_find_15 fl_X0_81 ir_3_1 (wt_0_1 wt k0 e_9) ?_
    refine w_ald (μ := m_X0_find) (pc := 18) dX0_find_18 (we_18 wt (wt_0_3 wt k0 e_5) e_7) ?_
    refine w_icmp_le 36 (μ := m_X0_find) (pc := 19) dX0_find_19 (by decide) (fun c_10 => ?_) (fun c_10 => ?_)
    · refine w_iconst (v := 0) (μ := m_X0_find) (pc := 36) dX0_find_36 (by decide) ?_
      refine w_istore_n [(3, .int 0), (0, .ref a0), (1, .int x1), (2, .int x2)] (μ := m_X0_find) (pc := 37) dX0_find_37 rfl (by decide) rfl ?_
      refine w_lv [1, 2, 3, 0] rfl ?_
      exact t_L_X0_find_38 wt hl hT (by omega) (by omega) k0 N _ _
    · refine w_lv [1, 2] rfl ?_
      exact t_J_X0_find_22 wt hl hT (by omega) (by omega) k0 _
def E_X0_find (N : Nat) (g : gp) : Nat → Nat → Int32 → Int32 → dp → Option (Int32 × dp)
  | 0, _, _, _, _ => none
  | k + 1, a0, x1, x2, δ => B_X0_find N g (E_X0_find N g k) a0 x1 x2 δ
theorem e_X0_find {l : Launch} {D : va_G} {cy : Nat → ClassId} {N : Nat} {g : gp} (wt : WT g) (hl : l.stackTraces = false) : ∀ (k d : Nat), 24 + 2 * k ≤ d → ∀ (a0 : Nat) (x1 : Int32) (x2 : Int32) (δ : dp), q_K g a0 = 0 → CalD l D cy m_X0_find d 0 0 ei g [.ref a0, .int x1, .int x2] δ (E_X0_find N g k a0 x1 x2 δ) := by
  intro k
  induction k with
  | zero => intro d _ a0 x1 x2 δ k0 r hr; cases hr
  | succ k ih =>
    intro d hd a0 x1 x2 δ k0
    unfold E_X0_find
    exact c_b_X0_find wt hl (ih (24 + 2 * k) (Nat.le_refl _)) (by omega) (by omega) k0
def D_X0_find (N : Nat) (g : gp) (a0 : Nat) (x1 : Int32) (x2 : Int32) (δ : dp) : Option (Int32 × dp) := E_X0_find N g 20 a0 x1 x2 δ
theorem c_X0_find {l : Launch} {D : va_G} {cy : Nat → ClassId} {N d : Nat} {g : gp} (wt : WT g) (hl : l.stackTraces = false) (hd : 64 ≤ d) {a0 : Nat} {x1 : Int32} {x2 : Int32} {δ : dp} (k0 : q_K g a0 = 0) : CalD l D cy m_X0_find d 0 0 ei g [.ref a0, .int x1, .int x2] δ (D_X0_find N g a0 x1 x2 δ) := e_X0_find wt hl 20 d (by omega) _ _ _ _ k0
def J_X0_learn_64 (N : Nat) (g : gp) (a0 : Nat) (x1 : Int32) (δ : dp) : Option (Int32 × dp) :=
  some (q_I δ 0 7 a0, δ)
set_option maxHeartbeats 4000000 in
set_option maxRecDepth 100000 in
theorem t_J_X0_learn_64 {l : Launch} {D : va_G} {cy : Nat → ClassId} {N d : Nat} {g : gp} (wt : WT g) (hl : l.stackTraces = false) (hd : 65 ≤ d) {a0 : Nat} {x1 : Int32} (k0 : q_K g a0 = 0) : ∀ (δ : dp), AWD l D cy m_X0_learn d 0 0 ei g 64 [(0, .ref a0)] [] δ (J_X0_learn_64 N g a0 x1 δ) := by
    intro  δ 
    unfold J_X0_learn_64
    refine w_aload_n 0 0 (μ := m_X0_learn) (pc := 64) dX0_learn_64 rfl rfl ?_
    refine w_getI (μ := m_X0_learn) (pc := 65) dX0_learn_65 fl_X0_60 ir_0_7 k0 ?_
    exact w_iret (μ := m_X0_learn) (pc := 68) dX0_learn_68 rfl rfl
def J_X0_learn_54 (N : Nat) (g : gp) (a0 : Nat) (x1 : Int32) (x2v : Int32) (δ : dp) : Option (Int32 × dp) :=
  bd (s_I δ 0 6 a0 x1) fun δ_13 => bd (s_I δ_13 0 7 a0 x2v) fun δ_15 => J_X0_learn_64 N g a0 x1 δ_15
set_option maxHeartbeats 4000000 in
set_option maxRecDepth 100000 in
theorem t_J_X0_learn_54 {l : Launch} {D : va_G} {cy : Nat → ClassId} {N d : Nat} {g : gp} (wt : WT g) (hl : l.stackTraces = false) (hd : 65 ≤ d) {a0 : Nat} {x1 : Int32} (k0 : q_K g a0 = 0) : ∀ (x2v : Int32) (δ : dp), AWD l D cy m_X0_learn d 0 0 ei g 54 [(0, .ref a0), (1, .int x1), (2, .int x2v)] [] δ (J_X0_learn_54 N g a0 x1 x2v δ) := by
    intro x2v δ 
    unfold J_X0_learn_54
    refine w_aload_n 0 0 (μ := m_X0_learn) (pc := 54) dX0_learn_54 rfl rfl ?_
    refine w_iload_n 1 1 (μ := m_X0_learn) (pc := 55) dX0_learn_55 rfl rfl ?_
    refine w_putI (μ := m_X0_learn) (pc := 56) dX0_learn_56 fl_X0_46 flw_0_6 ir_0_6 k0 ?_
    refine w_bd (fun δ_13 e_14 => ?_)
    refine w_aload_n 0 0 (μ := m_X0_learn) (pc := 59) dX0_learn_59 rfl rfl ?_
    refine w_iload_n 2 2 (μ := m_X0_learn) (pc := 60) dX0_learn_60 rfl rfl ?_
    refine w_putI (μ := m_X0_learn) (pc := 61) dX0_learn_61 fl_X0_60 flw_0_7 ir_0_7 k0 ?_
    refine w_bd (fun δ_15 e_16 => ?_)
    refine w_lv [0] rfl ?_
    exact t_J_X0_learn_64 wt hl (by omega) k0 _
def L_X0_learn_35 (N : Nat) (g : gp) (a0 : Nat) (x1 : Int32) : Nat → Int32 → dp → Option (Int32 × dp)
  | 0, _, _ => none
  | n + 1, x2v, δ => if x2v ≤ 0 then (J_X0_learn_54 N g a0 x1 x2v δ) else ((D_X0_find N g a0 x1 x2v δ).bind fun r_17 => if r_17.1 = 0 then (bi (x2v + (-1)) fun x_19 => L_X0_learn_35 N g a0 x1 n x_19 r_17.2) else (J_X0_learn_54 N g a0 x1 x2v r_17.2))
set_option maxHeartbeats 4000000 in
set_option maxRecDepth 100000 in
theorem t_L_X0_learn_35 {l : Launch} {D : va_G} {cy : Nat → ClassId} {N d : Nat} {g : gp} (wt : WT g) (hl : l.stackTraces = false) (hd : 65 ≤ d) {a0 : Nat} {x1 : Int32} (k0 : q_K g a0 = 0) : ∀ (n : Nat) (x2v : Int32) (δ : dp), AWD l D cy m_X0_learn d 0 0 ei g 35 [(0, .ref a0), (1, .int x1), (2, .int x2v)] [] δ (L_X0_learn_35 N g a0 x1 n x2v δ) := by
  intro n
  induction n with
  | zero => intro x2v δ ; exact w_none
  | succ n ih =>
    intro x2v δ 
    unfold L_X0_learn_35
    refine w_iload_n 2 2 (μ := m_X0_learn) (pc := 35) dX0_learn_35 rfl rfl ?_
    refine w_if_le 54 (μ := m_X0_learn) (pc := 36) dX0_learn_36 (by decide) (fun c_12 => ?_) (fun c_12 => ?_)
    · exact t_J_X0_learn_54 wt hl (by omega) k0 _ _
    · refine w_aload_n 0 0 (μ := m_X0_learn) (pc := 39) dX0_learn_39 rfl rfl ?_
      refine w_iload_n 1 1 (μ := m_X0_learn) (pc := 40) dX0_learn_40 rfl rfl ?_
      refine w_iload_n 2 2 (μ := m_X0_learn) (pc := 41) dX0_learn_41 rfl rfl ?_
      refine w_callV (As := [.int x1, .int x2v]) (rest := []) (μ := m_X0_learn) (pc := 42) dX0_learn_42 cv_X0_56 rfl rfl k0 (by decide) rfl (Nat.le_of_ble_eq_true rfl) (d' := d - 1) (by omega) he_i (c_X0_find wt hl (d := d - 1) (by omega) k0) (fun r_17 => ?_)
      refine w_if_ne 54 (μ := m_X0_learn) (pc := 45) dX0_learn_45 (by decide) (fun c_18 => ?_) (fun c_18 => ?_)
      · exact t_J_X0_learn_54 wt hl (by omega) k0 _ _
      · refine w_inb (fun x_19 e_20 => ?_)
        refine w_iinc 2 [(2, .int x_19), (0, .ref a0), (1, .int x1)] (μ := m_X0_learn) (pc := 48) dX0_learn_48 rfl (by rw [e_20]; rfl) (by decide) rfl ?_
        refine w_goto 35 (μ := m_X0_learn) (pc := 51) dX0_learn_51 (by decide) ?_
        refine w_lv [1, 2, 0] rfl ?_
        exact ih _ _
def J_X0_learn_11 (N : Nat) (g : gp) (a0 : Nat) (x1 : Int32) (δ : dp) : Option (Int32 × dp) :=
  if (q_I δ 0 6 a0) = x1 then (J_X0_learn_64 N g a0 x1 δ) else ((q_O g 0 1 a0).bind fun b_3 => (D_X3_clear N g b_3 δ).bind fun r_5 => (q_O g 0 3 a0).bind fun b_6 => if x1 < 0 ∨ q_N g b_6 ≤ x1.toNatClampNeg then none else (q_E g b_6 x1.toNatClampNeg).bind fun b_8 => if (0 : Int32) < 0 ∨ q_N g b_8 ≤ (0 : Int32).toNatClampNeg then none else bi (q_R r_5 b_8 (0 : Int32).toNatClampNeg) fun x_10 => L_X0_learn_35 N g a0 x1 N x_10 r_5)
set_option maxHeartbeats 4000000 in
set_option maxRecDepth 100000 in
theorem t_J_X0_learn_11 {l : Launch} {D : va_G} {cy : Nat → ClassId} {N d : Nat} {g : gp} (wt : WT g) (hl : l.stackTraces = false) (hd : 65 ≤ d) {a0 : Nat} {x1 : Int32} (k0 : q_K g a0 = 0) : ∀ (δ : dp), AWD l D cy m_X0_learn d 0 0 ei g 11 [(0, .ref a0), (1, .int x1)] [] δ (J_X0_learn_11 N g a0 x1 δ) := by
    intro  δ 
    unfold J_X0_learn_11
    refine w_aload_n 0 0 (μ := m_X0_learn) (pc := 11) dX0_learn_11 rfl rfl ?_
    refine w_getI (μ := m_X0_learn) (pc := 12) dX0_learn_12 fl_X0_46 ir_0_6 k0 ?_
    refine w_iload_n 1 1 (μ := m_X0_learn) (pc := 15) dX0_learn_15 rfl rfl ?_
    refine w_icmp_eq 64 (μ := m_X0_learn) (pc := 16) dX0_learn_16 (by decide) (fun c_2 => ?_) (fun c_2 => ?_)
    · refine w_lv [0] rfl ?_
      exact t_J_X0_learn_64 wt hl (by omega) k0 _
    · refine w_aload_n 0 0 (μ := m_X0_learn) (pc := 19) dX0_learn_19 rfl rfl ?_
      refine w_getO (μ := m_X0_learn) (pc := 20) dX0_learn_20 fl_X0_16 ir_0_1 id_0_1 k0 (fun b_3 e_4 => ?_)
      refine w_callV (As := []) (rest := []) (μ := m_X0_learn) (pc := 23) dX0_learn_23 cv_X0_53 rfl rfl (wt_0_1 wt k0 e_4) (by decide) rfl (Nat.le_of_ble_eq_true rfl) (d' := d - 1) (by omega) he_v (c_X3_clear wt hl (d := d - 1) (by omega) (wt_0_1 wt k0 e_4)) (fun r_5 => ?_)
      refine w_aload_n 0 0 (μ := m_X0_learn) (pc := 26) dX0_learn_26 rfl rfl ?_
      refine w_getO (μ := m_X0_learn) (pc := 27) dX0_learn_27 fl_X0_22 ir_0_3 id_0_3 k0 (fun b_6 e_7 => ?_)
      refine w_iload_n 1 1 (μ := m_X0_learn) (pc := 30) dX0_learn_30 rfl rfl ?_
      refine w_aald 5 (ty := (.array .int)) (μ := m_X0_learn) (pc := 31) dX0_learn_31 (wt_0_3 wt k0 e_7) (by decide) rfl rfl (by decide) (fun b_8 e_9 => ?_)
      refine w_iconst (v := 0) (μ := m_X0_learn) (pc := 32) dX0_learn_32 (by decide) ?_
      refine w_ald (μ := m_X0_learn) (pc := 33) dX0_learn_33 (we_18 wt (wt_0_3 wt k0 e_7) e_9) ?_
      refine w_bi (fun x_10 e_11 => ?_)
      refine w_istore_n [(2, .int x_10), (0, .ref a0), (1, .int x1)] (μ := m_X0_learn) (pc := 34) dX0_learn_34 rfl (by decide) rfl ?_
      refine w_lv [1, 2, 0] rfl ?_
      exact t_L_X0_learn_35 wt hl (by omega) k0 N _ _
def D_X0_learn (N : Nat) (g : gp) (a0 : Nat) (x1 : Int32) (δ : dp) : Option (Int32 × dp) :=
  if (q_I δ 0 4 a0) = 0 then ((D_X0_setLimits N g a0 δ).bind fun r_21 => J_X0_learn_11 N g a0 x1 r_21) else (J_X0_learn_11 N g a0 x1 δ)
set_option maxHeartbeats 4000000 in
set_option maxRecDepth 100000 in
theorem c_X0_learn {l : Launch} {D : va_G} {cy : Nat → ClassId} {N d : Nat} {g : gp} (wt : WT g) (hl : l.stackTraces = false) (hd : 65 ≤ d) {a0 : Nat} {x1 : Int32} {δ : dp} (k0 : q_K g a0 = 0) : CalD l D cy m_X0_learn d 0 0 ei g [.ref a0, .int x1] δ (D_X0_learn N g a0 x1 δ) := by
  refine CalD.of (by decide +kernel) (Nat.le_of_ble_eq_true rfl) hl ?_
  unfold D_X0_learn
  refine w_aload_n 0 0 (μ := m_X0_learn) (pc := 0) dX0_learn_0 rfl rfl ?_
  refine w_getI (μ := m_X0_learn) (pc := 1) dX0_learn_1 fl_X0_42 ir_0_4 k0 ?_
  refine w_if_ne 11 (μ := m_X0_learn) (pc := 4) dX0_learn_4 (by decide) (fun c_1 => ?_) (fun c_1 => ?_)
  · exact t_J_X0_learn_11 wt hl (by omega) k0 _
  · refine w_aload_n 0 0 (μ := m_X0_learn) (pc := 7) dX0_learn_7 rfl rfl ?_
    refine w_callV (As := []) (rest := []) (μ := m_X0_learn) (pc := 8) dX0_learn_8 cv_X0_50 rfl rfl k0 (by decide) rfl (Nat.le_of_ble_eq_true rfl) (d' := d - 1) (by omega) he_v (c_X0_setLimits wt hl (d := d - 1) (by omega) k0) (fun r_21 => ?_)
    exact t_J_X0_learn_11 wt hl (by omega) k0 _
