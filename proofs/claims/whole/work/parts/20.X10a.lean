theorem dX10_forget_0 : decode cX10_forget 0 = .ok (.iconst 0, 1) := by decide +kernel
theorem dX10_forget_1 : decode cX10_forget 1 = .ok (.istore_n 1, 1) := by decide +kernel
theorem dX10_forget_2 : decode cX10_forget 2 = .ok (.iload_n 1, 1) := by decide +kernel
theorem dX10_forget_3 : decode cX10_forget 3 = .ok (.iconst 5, 1) := by decide +kernel
theorem dX10_forget_4 : decode cX10_forget 4 = .ok (.if_icmp .ge 16, 3) := by decide +kernel
theorem dX10_forget_7 : decode cX10_forget 7 = .ok (.aload_n 0, 1) := by decide +kernel
theorem dX10_forget_8 : decode cX10_forget 8 = .ok (.getfield 20, 3) := by decide +kernel
theorem dX10_forget_11 : decode cX10_forget 11 = .ok (.iload_n 1, 1) := by decide +kernel
theorem dX10_forget_12 : decode cX10_forget 12 = .ok (.iconst 0, 1) := by decide +kernel
theorem dX10_forget_13 : decode cX10_forget 13 = .ok (.iastore, 1) := by decide +kernel
theorem dX10_forget_14 : decode cX10_forget 14 = .ok (.iinc 1 1, 3) := by decide +kernel
theorem dX10_forget_17 : decode cX10_forget 17 = .ok (.goto (-15), 3) := by decide +kernel
theorem dX10_forget_20 : decode cX10_forget 20 = .ok (.return_, 1) := by decide +kernel
theorem dX10_learn_0 : decode cX10_learn 0 = .ok (.aload_n 0, 1) := by decide +kernel
theorem dX10_learn_1 : decode cX10_learn 1 = .ok (.getfield 20, 3) := by decide +kernel
theorem dX10_learn_4 : decode cX10_learn 4 = .ok (.iload_n 1, 1) := by decide +kernel
theorem dX10_learn_5 : decode cX10_learn 5 = .ok (.iaload, 1) := by decide +kernel
theorem dX10_learn_6 : decode cX10_learn 6 = .ok (.istore_n 3, 1) := by decide +kernel
theorem dX10_learn_7 : decode cX10_learn 7 = .ok (.iload_n 3, 1) := by decide +kernel
theorem dX10_learn_8 : decode cX10_learn 8 = .ok (.iload_n 2, 1) := by decide +kernel
theorem dX10_learn_9 : decode cX10_learn 9 = .ok (.if_icmp .gt 102, 3) := by decide +kernel
theorem dX10_learn_12 : decode cX10_learn 12 = .ok (.aload_n 0, 1) := by decide +kernel
theorem dX10_learn_13 : decode cX10_learn 13 = .ok (.getfield 26, 3) := by decide +kernel
theorem dX10_learn_16 : decode cX10_learn 16 = .ok (.iload_n 1, 1) := by decide +kernel
theorem dX10_learn_17 : decode cX10_learn 17 = .ok (.aaload, 1) := by decide +kernel
theorem dX10_learn_18 : decode cX10_learn 18 = .ok (.iload_n 3, 1) := by decide +kernel
theorem dX10_learn_19 : decode cX10_learn 19 = .ok (.iload_n 3, 1) := by decide +kernel
theorem dX10_learn_20 : decode cX10_learn 20 = .ok (.ifCond .ne 7, 3) := by decide +kernel
theorem dX10_learn_23 : decode cX10_learn 23 = .ok (.iconst 0, 1) := by decide +kernel
theorem dX10_learn_24 : decode cX10_learn 24 = .ok (.goto 13, 3) := by decide +kernel
theorem dX10_learn_27 : decode cX10_learn 27 = .ok (.aload_n 0, 1) := by decide +kernel
theorem dX10_learn_28 : decode cX10_learn 28 = .ok (.getfield 26, 3) := by decide +kernel
theorem dX10_learn_31 : decode cX10_learn 31 = .ok (.iload_n 1, 1) := by decide +kernel
theorem dX10_learn_32 : decode cX10_learn 32 = .ok (.aaload, 1) := by decide +kernel
theorem dX10_learn_33 : decode cX10_learn 33 = .ok (.iload_n 3, 1) := by decide +kernel
theorem dX10_learn_34 : decode cX10_learn 34 = .ok (.iconst 1, 1) := by decide +kernel
theorem dX10_learn_35 : decode cX10_learn 35 = .ok (.isub, 1) := by decide +kernel
theorem dX10_learn_36 : decode cX10_learn 36 = .ok (.iaload, 1) := by decide +kernel
theorem dX10_learn_37 : decode cX10_learn 37 = .ok (.iastore, 1) := by decide +kernel
theorem dX10_learn_38 : decode cX10_learn 38 = .ok (.aload_n 0, 1) := by decide +kernel
theorem dX10_learn_39 : decode cX10_learn 39 = .ok (.getfield 29, 3) := by decide +kernel
theorem dX10_learn_42 : decode cX10_learn 42 = .ok (.iload_n 1, 1) := by decide +kernel
theorem dX10_learn_43 : decode cX10_learn 43 = .ok (.aaload, 1) := by decide +kernel
theorem dX10_learn_44 : decode cX10_learn 44 = .ok (.iload_n 3, 1) := by decide +kernel
theorem dX10_learn_45 : decode cX10_learn 45 = .ok (.iload_n 3, 1) := by decide +kernel
theorem dX10_learn_46 : decode cX10_learn 46 = .ok (.ifCond .ne 7, 3) := by decide +kernel
theorem dX10_learn_49 : decode cX10_learn 49 = .ok (.iconst 0, 1) := by decide +kernel
theorem dX10_learn_50 : decode cX10_learn 50 = .ok (.goto 13, 3) := by decide +kernel
theorem dX10_learn_53 : decode cX10_learn 53 = .ok (.aload_n 0, 1) := by decide +kernel
theorem dX10_learn_54 : decode cX10_learn 54 = .ok (.getfield 29, 3) := by decide +kernel
theorem dX10_learn_57 : decode cX10_learn 57 = .ok (.iload_n 1, 1) := by decide +kernel
theorem dX10_learn_58 : decode cX10_learn 58 = .ok (.aaload, 1) := by decide +kernel
theorem dX10_learn_59 : decode cX10_learn 59 = .ok (.iload_n 3, 1) := by decide +kernel
theorem dX10_learn_60 : decode cX10_learn 60 = .ok (.iconst 1, 1) := by decide +kernel
theorem dX10_learn_61 : decode cX10_learn 61 = .ok (.isub, 1) := by decide +kernel
theorem dX10_learn_62 : decode cX10_learn 62 = .ok (.iaload, 1) := by decide +kernel
theorem dX10_learn_63 : decode cX10_learn 63 = .ok (.iastore, 1) := by decide +kernel
theorem dX10_learn_64 : decode cX10_learn 64 = .ok (.aload_n 0, 1) := by decide +kernel
theorem dX10_learn_65 : decode cX10_learn 65 = .ok (.getfield 34, 3) := by decide +kernel
theorem dX10_learn_68 : decode cX10_learn 68 = .ok (.iload_n 1, 1) := by decide +kernel
theorem dX10_learn_69 : decode cX10_learn 69 = .ok (.aaload, 1) := by decide +kernel
theorem dX10_learn_70 : decode cX10_learn 70 = .ok (.iload_n 3, 1) := by decide +kernel
theorem dX10_learn_71 : decode cX10_learn 71 = .ok (.iload_n 3, 1) := by decide +kernel
theorem dX10_learn_72 : decode cX10_learn 72 = .ok (.ifCond .ne 7, 3) := by decide +kernel
theorem dX10_learn_75 : decode cX10_learn 75 = .ok (.lconst 0, 1) := by decide +kernel
theorem dX10_learn_76 : decode cX10_learn 76 = .ok (.goto 13, 3) := by decide +kernel
theorem dX10_learn_79 : decode cX10_learn 79 = .ok (.aload_n 0, 1) := by decide +kernel
theorem dX10_learn_80 : decode cX10_learn 80 = .ok (.getfield 34, 3) := by decide +kernel
theorem dX10_learn_83 : decode cX10_learn 83 = .ok (.iload_n 1, 1) := by decide +kernel
theorem dX10_learn_84 : decode cX10_learn 84 = .ok (.aaload, 1) := by decide +kernel
theorem dX10_learn_85 : decode cX10_learn 85 = .ok (.iload_n 3, 1) := by decide +kernel
theorem dX10_learn_86 : decode cX10_learn 86 = .ok (.iconst 1, 1) := by decide +kernel
theorem dX10_learn_87 : decode cX10_learn 87 = .ok (.isub, 1) := by decide +kernel
theorem dX10_learn_88 : decode cX10_learn 88 = .ok (.laload, 1) := by decide +kernel
theorem dX10_learn_89 : decode cX10_learn 89 = .ok (.lastore, 1) := by decide +kernel
theorem dX10_learn_90 : decode cX10_learn 90 = .ok (.aload_n 0, 1) := by decide +kernel
theorem dX10_learn_91 : decode cX10_learn 91 = .ok (.iload_n 1, 1) := by decide +kernel
theorem dX10_learn_92 : decode cX10_learn 92 = .ok (.iload_n 3, 1) := by decide +kernel
theorem dX10_learn_93 : decode cX10_learn 93 = .ok (.invokevirtual 50, 3) := by decide +kernel
theorem dX10_learn_96 : decode cX10_learn 96 = .ok (.aload_n 0, 1) := by decide +kernel
theorem dX10_learn_97 : decode cX10_learn 97 = .ok (.getfield 20, 3) := by decide +kernel
theorem dX10_learn_100 : decode cX10_learn 100 = .ok (.iload_n 1, 1) := by decide +kernel
theorem dX10_learn_101 : decode cX10_learn 101 = .ok (.iload_n 3, 1) := by decide +kernel
theorem dX10_learn_102 : decode cX10_learn 102 = .ok (.iconst 1, 1) := by decide +kernel
theorem dX10_learn_103 : decode cX10_learn 103 = .ok (.iadd, 1) := by decide +kernel
theorem dX10_learn_104 : decode cX10_learn 104 = .ok (.iastore, 1) := by decide +kernel
theorem dX10_learn_105 : decode cX10_learn 105 = .ok (.iinc 3 1, 3) := by decide +kernel
theorem dX10_learn_108 : decode cX10_learn 108 = .ok (.goto (-101), 3) := by decide +kernel
theorem dX10_learn_111 : decode cX10_learn 111 = .ok (.return_, 1) := by decide +kernel
theorem dX10_member_0 : decode cX10_member 0 = .ok (.iload_n 3, 1) := by decide +kernel
theorem dX10_member_1 : decode cX10_member 1 = .ok (.istore 4, 2) := by decide +kernel
theorem dX10_member_3 : decode cX10_member 3 = .ok (.iconst 0, 1) := by decide +kernel
theorem dX10_member_4 : decode cX10_member 4 = .ok (.istore 5, 2) := by decide +kernel
theorem dX10_member_6 : decode cX10_member 6 = .ok (.iload 5, 2) := by decide +kernel
theorem dX10_member_8 : decode cX10_member 8 = .ok (.bipush 64, 2) := by decide +kernel
theorem dX10_member_10 : decode cX10_member 10 = .ok (.if_icmp .ge 43, 3) := by decide +kernel
theorem dX10_member_13 : decode cX10_member 13 = .ok (.iload 4, 2) := by decide +kernel
theorem dX10_member_15 : decode cX10_member 15 = .ok (.ifCond .lt 38, 3) := by decide +kernel
theorem dX10_member_18 : decode cX10_member 18 = .ok (.aload_n 0, 1) := by decide +kernel
theorem dX10_member_19 : decode cX10_member 19 = .ok (.getfield 34, 3) := by decide +kernel
theorem dX10_member_22 : decode cX10_member 22 = .ok (.iload_n 1, 1) := by decide +kernel
theorem dX10_member_23 : decode cX10_member 23 = .ok (.aaload, 1) := by decide +kernel
theorem dX10_member_24 : decode cX10_member 24 = .ok (.iload_n 2, 1) := by decide +kernel
theorem dX10_member_25 : decode cX10_member 25 = .ok (.laload, 1) := by decide +kernel
theorem dX10_member_26 : decode cX10_member 26 = .ok (.iload 5, 2) := by decide +kernel
theorem dX10_member_28 : decode cX10_member 28 = .ok (.lushr, 1) := by decide +kernel
theorem dX10_member_29 : decode cX10_member 29 = .ok (.lconst 1, 1) := by decide +kernel
theorem dX10_member_30 : decode cX10_member 30 = .ok (.land, 1) := by decide +kernel
theorem dX10_member_31 : decode cX10_member 31 = .ok (.lconst 0, 1) := by decide +kernel
theorem dX10_member_32 : decode cX10_member 32 = .ok (.lcmp, 1) := by decide +kernel
theorem dX10_member_33 : decode cX10_member 33 = .ok (.ifCond .eq 14, 3) := by decide +kernel
theorem dX10_member_36 : decode cX10_member 36 = .ok (.iload 4, 2) := by decide +kernel
theorem dX10_member_38 : decode cX10_member 38 = .ok (.ifCond .ne 6, 3) := by decide +kernel
theorem dX10_member_41 : decode cX10_member 41 = .ok (.iload 5, 2) := by decide +kernel
theorem dX10_member_43 : decode cX10_member 43 = .ok (.ireturn, 1) := by decide +kernel
theorem dX10_member_44 : decode cX10_member 44 = .ok (.iinc 4 (-1), 3) := by decide +kernel
theorem dX10_member_47 : decode cX10_member 47 = .ok (.iinc 5 1, 3) := by decide +kernel
theorem dX10_member_50 : decode cX10_member 50 = .ok (.goto (-44), 3) := by decide +kernel
theorem dX10_member_53 : decode cX10_member 53 = .ok (.iconst (-1), 1) := by decide +kernel
theorem dX10_member_54 : decode cX10_member 54 = .ok (.ireturn, 1) := by decide +kernel
theorem dX10_goThroughAll_0 : decode cX10_goThroughAll 0 = .ok (.aload_n 0, 1) := by decide +kernel
theorem dX10_goThroughAll_1 : decode cX10_goThroughAll 1 = .ok (.getfield 37, 3) := by decide +kernel
theorem dX10_goThroughAll_4 : decode cX10_goThroughAll 4 = .ok (.invokevirtual 54, 3) := by decide +kernel
theorem dX10_goThroughAll_7 : decode cX10_goThroughAll 7 = .ok (.iconst 1, 1) := by decide +kernel
theorem dX10_goThroughAll_8 : decode cX10_goThroughAll 8 = .ok (.iadd, 1) := by decide +kernel
theorem dX10_goThroughAll_9 : decode cX10_goThroughAll 9 = .ok (.istore_n 3, 1) := by decide +kernel
theorem dX10_goThroughAll_10 : decode cX10_goThroughAll 10 = .ok (.aload_n 0, 1) := by decide +kernel
theorem dX10_goThroughAll_11 : decode cX10_goThroughAll 11 = .ok (.getfield 37, 3) := by decide +kernel
theorem dX10_goThroughAll_14 : decode cX10_goThroughAll 14 = .ok (.iload_n 1, 1) := by decide +kernel
theorem dX10_goThroughAll_15 : decode cX10_goThroughAll 15 = .ok (.aload_n 0, 1) := by decide +kernel
theorem dX10_goThroughAll_16 : decode cX10_goThroughAll 16 = .ok (.getfield 37, 3) := by decide +kernel
theorem dX10_goThroughAll_19 : decode cX10_goThroughAll 19 = .ok (.getfield 60, 3) := by decide +kernel
theorem dX10_goThroughAll_22 : decode cX10_goThroughAll 22 = .ok (.iload_n 2, 1) := by decide +kernel
theorem dX10_goThroughAll_23 : decode cX10_goThroughAll 23 = .ok (.invokevirtual 64, 3) := by decide +kernel
theorem dX10_goThroughAll_26 : decode cX10_goThroughAll 26 = .ok (.istore 4, 2) := by decide +kernel
theorem dX10_goThroughAll_28 : decode cX10_goThroughAll 28 = .ok (.iload_n 2, 1) := by decide +kernel
theorem dX10_goThroughAll_29 : decode cX10_goThroughAll 29 = .ok (.iload_n 3, 1) := by decide +kernel
theorem dX10_goThroughAll_30 : decode cX10_goThroughAll 30 = .ok (.if_icmp .gt 7, 3) := by decide +kernel
theorem dX10_goThroughAll_33 : decode cX10_goThroughAll 33 = .ok (.iconst 1, 1) := by decide +kernel
theorem dX10_goThroughAll_34 : decode cX10_goThroughAll 34 = .ok (.goto 4, 3) := by decide +kernel
theorem dX10_goThroughAll_37 : decode cX10_goThroughAll 37 = .ok (.iconst 0, 1) := by decide +kernel
theorem dX10_goThroughAll_38 : decode cX10_goThroughAll 38 = .ok (.istore 5, 2) := by decide +kernel
theorem dX10_goThroughAll_40 : decode cX10_goThroughAll 40 = .ok (.aload_n 0, 1) := by decide +kernel
theorem dX10_goThroughAll_41 : decode cX10_goThroughAll 41 = .ok (.getfield 16, 3) := by decide +kernel
theorem dX10_goThroughAll_44 : decode cX10_goThroughAll 44 = .ok (.iload_n 2, 1) := by decide +kernel
theorem dX10_goThroughAll_45 : decode cX10_goThroughAll 45 = .ok (.invokevirtual 68, 3) := by decide +kernel
theorem dX10_goThroughAll_48 : decode cX10_goThroughAll 48 = .ok (.iconst 0, 1) := by decide +kernel
theorem dX10_goThroughAll_49 : decode cX10_goThroughAll 49 = .ok (.istore 6, 2) := by decide +kernel
theorem dX10_goThroughAll_51 : decode cX10_goThroughAll 51 = .ok (.iload 6, 2) := by decide +kernel
theorem dX10_goThroughAll_53 : decode cX10_goThroughAll 53 = .ok (.ldc 71, 2) := by decide +kernel
theorem dX10_goThroughAll_55 : decode cX10_goThroughAll 55 = .ok (.if_icmp .ge 43, 3) := by decide +kernel
theorem dX10_goThroughAll_58 : decode cX10_goThroughAll 58 = .ok (.iload 5, 2) := by decide +kernel
theorem dX10_goThroughAll_60 : decode cX10_goThroughAll 60 = .ok (.ifCond .eq 38, 3) := by decide +kernel
theorem dX10_goThroughAll_63 : decode cX10_goThroughAll 63 = .ok (.aload_n 0, 1) := by decide +kernel
theorem dX10_goThroughAll_64 : decode cX10_goThroughAll 64 = .ok (.getfield 26, 3) := by decide +kernel
theorem dX10_goThroughAll_67 : decode cX10_goThroughAll 67 = .ok (.iload_n 1, 1) := by decide +kernel
theorem dX10_goThroughAll_68 : decode cX10_goThroughAll 68 = .ok (.aaload, 1) := by decide +kernel
theorem dX10_goThroughAll_69 : decode cX10_goThroughAll 69 = .ok (.iload_n 2, 1) := by decide +kernel
theorem dX10_goThroughAll_70 : decode cX10_goThroughAll 70 = .ok (.iaload, 1) := by decide +kernel
theorem dX10_goThroughAll_71 : decode cX10_goThroughAll 71 = .ok (.iload 4, 2) := by decide +kernel
theorem dX10_goThroughAll_73 : decode cX10_goThroughAll 73 = .ok (.if_icmp .ge 25, 3) := by decide +kernel
theorem dX10_goThroughAll_76 : decode cX10_goThroughAll 76 = .ok (.aload_n 0, 1) := by decide +kernel
theorem dX10_goThroughAll_77 : decode cX10_goThroughAll 77 = .ok (.iload_n 1, 1) := by decide +kernel
theorem dX10_goThroughAll_78 : decode cX10_goThroughAll 78 = .ok (.iload_n 2, 1) := by decide +kernel
theorem dX10_goThroughAll_79 : decode cX10_goThroughAll 79 = .ok (.invokevirtual 72, 3) := by decide +kernel
theorem dX10_goThroughAll_82 : decode cX10_goThroughAll 82 = .ok (.aload_n 0, 1) := by decide +kernel
theorem dX10_goThroughAll_83 : decode cX10_goThroughAll 83 = .ok (.getfield 16, 3) := by decide +kernel
theorem dX10_goThroughAll_86 : decode cX10_goThroughAll 86 = .ok (.iload_n 3, 1) := by decide +kernel
theorem dX10_goThroughAll_87 : decode cX10_goThroughAll 87 = .ok (.invokevirtual 75, 3) := by decide +kernel
theorem dX10_goThroughAll_90 : decode cX10_goThroughAll 90 = .ok (.istore 5, 2) := by decide +kernel
theorem dX10_goThroughAll_92 : decode cX10_goThroughAll 92 = .ok (.iinc 6 1, 3) := by decide +kernel
theorem dX10_goThroughAll_95 : decode cX10_goThroughAll 95 = .ok (.goto (-44), 3) := by decide +kernel
theorem dX10_goThroughAll_98 : decode cX10_goThroughAll 98 = .ok (.return_, 1) := by decide +kernel
theorem dX10_tryAll_0 : decode cX10_tryAll 0 = .ok (.iconst 0, 1) := by decide +kernel
theorem dX10_tryAll_1 : decode cX10_tryAll 1 = .ok (.istore_n 3, 1) := by decide +kernel
theorem dX10_tryAll_2 : decode cX10_tryAll 2 = .ok (.iload_n 3, 1) := by decide +kernel
theorem dX10_tryAll_3 : decode cX10_tryAll 3 = .ok (.aload_n 0, 1) := by decide +kernel
theorem dX10_tryAll_4 : decode cX10_tryAll 4 = .ok (.getfield 37, 3) := by decide +kernel
theorem dX10_tryAll_7 : decode cX10_tryAll 7 = .ok (.invokevirtual 54, 3) := by decide +kernel
theorem dX10_tryAll_10 : decode cX10_tryAll 10 = .ok (.if_icmp .gt 64, 3) := by decide +kernel
theorem dX10_tryAll_13 : decode cX10_tryAll 13 = .ok (.aload_n 0, 1) := by decide +kernel
theorem dX10_tryAll_14 : decode cX10_tryAll 14 = .ok (.getfield 46, 3) := by decide +kernel
theorem dX10_tryAll_17 : decode cX10_tryAll 17 = .ok (.iload_n 1, 1) := by decide +kernel
theorem dX10_tryAll_18 : decode cX10_tryAll 18 = .ok (.iload_n 3, 1) := by decide +kernel
theorem dX10_tryAll_19 : decode cX10_tryAll 19 = .ok (.invokevirtual 79, 3) := by decide +kernel
theorem dX10_tryAll_22 : decode cX10_tryAll 22 = .ok (.istore 4, 2) := by decide +kernel
theorem dX10_tryAll_24 : decode cX10_tryAll 24 = .ok (.iload 4, 2) := by decide +kernel
theorem dX10_tryAll_26 : decode cX10_tryAll 26 = .ok (.aload_n 0, 1) := by decide +kernel
theorem dX10_tryAll_27 : decode cX10_tryAll 27 = .ok (.getfield 26, 3) := by decide +kernel
theorem dX10_tryAll_30 : decode cX10_tryAll 30 = .ok (.iload_n 1, 1) := by decide +kernel
theorem dX10_tryAll_31 : decode cX10_tryAll 31 = .ok (.aaload, 1) := by decide +kernel
theorem dX10_tryAll_32 : decode cX10_tryAll 32 = .ok (.iload_n 2, 1) := by decide +kernel
theorem dX10_tryAll_33 : decode cX10_tryAll 33 = .ok (.iaload, 1) := by decide +kernel
theorem dX10_tryAll_34 : decode cX10_tryAll 34 = .ok (.if_icmp .le 34, 3) := by decide +kernel
theorem dX10_tryAll_37 : decode cX10_tryAll 37 = .ok (.aload_n 0, 1) := by decide +kernel
theorem dX10_tryAll_38 : decode cX10_tryAll 38 = .ok (.getfield 26, 3) := by decide +kernel
theorem dX10_tryAll_41 : decode cX10_tryAll 41 = .ok (.iload_n 1, 1) := by decide +kernel
theorem dX10_tryAll_42 : decode cX10_tryAll 42 = .ok (.aaload, 1) := by decide +kernel
theorem dX10_tryAll_43 : decode cX10_tryAll 43 = .ok (.iload_n 2, 1) := by decide +kernel
theorem dX10_tryAll_44 : decode cX10_tryAll 44 = .ok (.iload 4, 2) := by decide +kernel
theorem dX10_tryAll_46 : decode cX10_tryAll 46 = .ok (.iastore, 1) := by decide +kernel
theorem dX10_tryAll_47 : decode cX10_tryAll 47 = .ok (.aload_n 0, 1) := by decide +kernel
theorem dX10_tryAll_48 : decode cX10_tryAll 48 = .ok (.getfield 29, 3) := by decide +kernel
theorem dX10_tryAll_51 : decode cX10_tryAll 51 = .ok (.iload_n 1, 1) := by decide +kernel
theorem dX10_tryAll_52 : decode cX10_tryAll 52 = .ok (.aaload, 1) := by decide +kernel
theorem dX10_tryAll_53 : decode cX10_tryAll 53 = .ok (.iload_n 2, 1) := by decide +kernel
theorem dX10_tryAll_54 : decode cX10_tryAll 54 = .ok (.iload_n 3, 1) := by decide +kernel
theorem dX10_tryAll_55 : decode cX10_tryAll 55 = .ok (.iastore, 1) := by decide +kernel
theorem dX10_tryAll_56 : decode cX10_tryAll 56 = .ok (.aload_n 0, 1) := by decide +kernel
theorem dX10_tryAll_57 : decode cX10_tryAll 57 = .ok (.getfield 34, 3) := by decide +kernel
theorem dX10_tryAll_60 : decode cX10_tryAll 60 = .ok (.iload_n 1, 1) := by decide +kernel
theorem dX10_tryAll_61 : decode cX10_tryAll 61 = .ok (.aaload, 1) := by decide +kernel
theorem dX10_tryAll_62 : decode cX10_tryAll 62 = .ok (.iload_n 2, 1) := by decide +kernel
theorem dX10_tryAll_63 : decode cX10_tryAll 63 = .ok (.aload_n 0, 1) := by decide +kernel
theorem dX10_tryAll_64 : decode cX10_tryAll 64 = .ok (.invokevirtual 83, 3) := by decide +kernel
theorem dX10_tryAll_67 : decode cX10_tryAll 67 = .ok (.lastore, 1) := by decide +kernel
theorem dX10_tryAll_68 : decode cX10_tryAll 68 = .ok (.iinc 3 1, 3) := by decide +kernel
theorem dX10_tryAll_71 : decode cX10_tryAll 71 = .ok (.goto (-69), 3) := by decide +kernel
theorem dX10_tryAll_74 : decode cX10_tryAll 74 = .ok (.return_, 1) := by decide +kernel
theorem dX10_bitsOfSet_0 : decode cX10_bitsOfSet 0 = .ok (.lconst 0, 1) := by decide +kernel
theorem dX10_bitsOfSet_1 : decode cX10_bitsOfSet 1 = .ok (.lstore_n 1, 1) := by decide +kernel
theorem dX10_bitsOfSet_2 : decode cX10_bitsOfSet 2 = .ok (.iconst 0, 1) := by decide +kernel
theorem dX10_bitsOfSet_3 : decode cX10_bitsOfSet 3 = .ok (.istore_n 3, 1) := by decide +kernel
theorem dX10_bitsOfSet_4 : decode cX10_bitsOfSet 4 = .ok (.iload_n 3, 1) := by decide +kernel
theorem dX10_bitsOfSet_5 : decode cX10_bitsOfSet 5 = .ok (.aload_n 0, 1) := by decide +kernel
theorem dX10_bitsOfSet_6 : decode cX10_bitsOfSet 6 = .ok (.getfield 16, 3) := by decide +kernel
theorem dX10_bitsOfSet_9 : decode cX10_bitsOfSet 9 = .ok (.getfield 87, 3) := by decide +kernel
theorem dX10_bitsOfSet_12 : decode cX10_bitsOfSet 12 = .ok (.if_icmp .ge 22, 3) := by decide +kernel
theorem dX10_bitsOfSet_15 : decode cX10_bitsOfSet 15 = .ok (.lload_n 1, 1) := by decide +kernel
theorem dX10_bitsOfSet_16 : decode cX10_bitsOfSet 16 = .ok (.lconst 1, 1) := by decide +kernel
theorem dX10_bitsOfSet_17 : decode cX10_bitsOfSet 17 = .ok (.aload_n 0, 1) := by decide +kernel
theorem dX10_bitsOfSet_18 : decode cX10_bitsOfSet 18 = .ok (.getfield 16, 3) := by decide +kernel
theorem dX10_bitsOfSet_21 : decode cX10_bitsOfSet 21 = .ok (.iload_n 3, 1) := by decide +kernel
theorem dX10_bitsOfSet_22 : decode cX10_bitsOfSet 22 = .ok (.invokevirtual 90, 3) := by decide +kernel
theorem dX10_bitsOfSet_25 : decode cX10_bitsOfSet 25 = .ok (.lshl, 1) := by decide +kernel
theorem dX10_bitsOfSet_26 : decode cX10_bitsOfSet 26 = .ok (.lor, 1) := by decide +kernel
theorem dX10_bitsOfSet_27 : decode cX10_bitsOfSet 27 = .ok (.lstore_n 1, 1) := by decide +kernel
theorem dX10_bitsOfSet_28 : decode cX10_bitsOfSet 28 = .ok (.iinc 3 1, 3) := by decide +kernel
theorem dX10_bitsOfSet_31 : decode cX10_bitsOfSet 31 = .ok (.goto (-27), 3) := by decide +kernel
theorem dX10_bitsOfSet_34 : decode cX10_bitsOfSet 34 = .ok (.lload_n 1, 1) := by decide +kernel
theorem dX10_bitsOfSet_35 : decode cX10_bitsOfSet 35 = .ok (.lreturn, 1) := by decide +kernel
def L_X10_forget_2 (N : Nat) (g : gp) (a0 : Nat) : Nat → Int32 → dp → Option (dp)
  | 0, _, _ => none
  | n + 1, x1v, δ => if (5 : Int32) ≤ x1v then (some δ) else ((q_O g 10 3 a0).bind fun b_2 => if x1v < 0 ∨ q_N g b_2 ≤ x1v.toNatClampNeg then none else bd (s_R δ b_2 x1v.toNatClampNeg 0) fun δ_4 => bi (x1v + 1) fun x_6 => L_X10_forget_2 N g a0 n x_6 δ_4)
set_option maxHeartbeats 4000000 in
set_option maxRecDepth 100000 in
theorem t_L_X10_forget_2 {l : Launch} {D : va_G} {cy : Nat → ClassId} {N d : Nat} {g : gp} (wt : WT g) (hl : l.stackTraces = false) (hd : 1 ≤ d) {a0 : Nat} (k0 : q_K g a0 = 10) : ∀ (n : Nat) (x1v : Int32) (δ : dp), AWD l D cy m_X10_forget d 0 0 ev g 2 [(0, .ref a0), (1, .int x1v)] [] δ (L_X10_forget_2 N g a0 n x1v δ) := by
  intro n
  induction n with
  | zero => intro x1v δ ; exact w_none
  | succ n ih =>
    intro x1v δ 
    unfold L_X10_forget_2
    refine w_iload_n 1 1 (μ := m_X10_forget) (pc := 2) dX10_forget_2 rfl rfl ?_
    refine w_iconst (v := 5) (μ := m_X10_forget) (pc := 3) dX10_forget_3 (by decide) ?_
    refine w_icmp_ge 20 (μ := m_X10_forget) (pc := 4) dX10_forget_4 (by decide) (fun c_1 => ?_) (fun c_1 => ?_)
    · exact w_vret (μ := m_X10_forget) (pc := 20) dX10_forget_20 rfl rfl
    · refine w_aload_n 0 0 (μ := m_X10_forget) (pc := 7) dX10_forget_7 rfl rfl ?_
      refine w_getO (μ := m_X10_forget) (pc := 8) dX10_forget_8 fl_X10_20 ir_10_3 id_10_3 k0 (fun b_2 e_3 => ?_)
      refine w_iload_n 1 1 (μ := m_X10_forget) (pc := 11) dX10_forget_11 rfl rfl ?_
      refine w_iconst (v := 0) (μ := m_X10_forget) (pc := 12) dX10_forget_12 (by decide) ?_
      refine w_ast (μ := m_X10_forget) (pc := 13) dX10_forget_13 (wt_10_3 wt k0 e_3) ?_
      refine w_bd (fun δ_4 e_5 => ?_)
      refine w_inb (fun x_6 e_7 => ?_)
      refine w_iinc 1 [(1, .int x_6), (0, .ref a0)] (μ := m_X10_forget) (pc := 14) dX10_forget_14 rfl (by rw [e_7]; rfl) (by decide) rfl ?_
      refine w_goto 2 (μ := m_X10_forget) (pc := 17) dX10_forget_17 (by decide) ?_
      refine w_lv [1, 0] rfl ?_
      exact ih _ _
def D_X10_forget (N : Nat) (g : gp) (a0 : Nat) (δ : dp) : Option (dp) :=
  L_X10_forget_2 N g a0 N 0 δ
set_option maxHeartbeats 4000000 in
set_option maxRecDepth 100000 in
theorem c_X10_forget {l : Launch} {D : va_G} {cy : Nat → ClassId} {N d : Nat} {g : gp} (wt : WT g) (hl : l.stackTraces = false) (hd : 1 ≤ d) {a0 : Nat} {δ : dp} (k0 : q_K g a0 = 10) : CalD l D cy m_X10_forget d 0 0 ev g [.ref a0] δ (D_X10_forget N g a0 δ) := by
  refine CalD.of (by decide +kernel) (Nat.le_of_ble_eq_true rfl) hl ?_
  unfold D_X10_forget
  refine w_iconst (v := 0) (μ := m_X10_forget) (pc := 0) dX10_forget_0 (by decide) ?_
  refine w_istore_n [(1, .int 0), (0, .ref a0)] (μ := m_X10_forget) (pc := 1) dX10_forget_1 rfl (by decide) rfl ?_
  refine w_lv [1, 0] rfl ?_
  exact t_L_X10_forget_2 wt hl (by omega) k0 N _ _
def J_X10_member_53 (N : Nat) (g : gp) (a0 : Nat) (x1 : Int32) (x2 : Int32) (x3 : Int32) (δ : dp) : Option (Int32 × dp) :=
  some ((-1), δ)
set_option maxHeartbeats 4000000 in
set_option maxRecDepth 100000 in
theorem t_J_X10_member_53 {l : Launch} {D : va_G} {cy : Nat → ClassId} {N d : Nat} {g : gp} (wt : WT g) (hl : l.stackTraces = false) (hd : 1 ≤ d) {a0 : Nat} {x1 : Int32} {x2 : Int32} {x3 : Int32} (k0 : q_K g a0 = 10) : ∀ (δ : dp), AWD l D cy m_X10_member d 0 0 ei g 53 [] [] δ (J_X10_member_53 N g a0 x1 x2 x3 δ) := by
    intro  δ 
    unfold J_X10_member_53
    refine w_iconst (v := (-1)) (μ := m_X10_member) (pc := 53) dX10_member_53 (by decide) ?_
    exact w_iret (μ := m_X10_member) (pc := 54) dX10_member_54 rfl rfl
def J_X10_member_47 (N : Nat) (g : gp) (a0 : Nat) (x1 : Int32) (x2 : Int32) (x3 : Int32) (kt6 : Int32 → Int32 → dp → Option (Int32 × dp)) (x4v : Int32) (x5v : Int32) (δ : dp) : Option (Int32 × dp) :=
  bi (x5v + 1) fun x_8 => kt6 x4v x_8 δ
set_option maxHeartbeats 4000000 in
set_option maxRecDepth 100000 in
theorem t_J_X10_member_47 {l : Launch} {D : va_G} {cy : Nat → ClassId} {N d : Nat} {g : gp} (wt : WT g) (hl : l.stackTraces = false) (hd : 1 ≤ d) {a0 : Nat} {x1 : Int32} {x2 : Int32} {x3 : Int32} (k0 : q_K g a0 = 10) {kt6 : Int32 → Int32 → dp → Option (Int32 × dp)} (hk6 : ∀ (x4v : Int32) (x5v : Int32) (δ : dp), AWD l D cy m_X10_member d 0 0 ei g 6 [(0, .ref a0), (1, .int x1), (2, .int x2), (4, .int x4v), (5, .int x5v)] [] δ (kt6 x4v x5v δ)) : ∀ (x4v : Int32) (x5v : Int32) (δ : dp), AWD l D cy m_X10_member d 0 0 ei g 47 [(0, .ref a0), (1, .int x1), (2, .int x2), (4, .int x4v), (5, .int x5v)] [] δ (J_X10_member_47 N g a0 x1 x2 x3 kt6 x4v x5v δ) := by
    intro x4v x5v δ 
    unfold J_X10_member_47
    refine w_inb (fun x_8 e_9 => ?_)
    refine w_iinc 4 [(5, .int x_8), (0, .ref a0), (1, .int x1), (2, .int x2), (4, .int x4v)] (μ := m_X10_member) (pc := 47) dX10_member_47 rfl (by rw [e_9]; rfl) (by decide) rfl ?_
    refine w_goto 6 (μ := m_X10_member) (pc := 50) dX10_member_50 (by decide) ?_
    refine w_lv [1, 2, 3, 4, 0] rfl ?_
    exact hk6 _ _ _
def L_X10_member_6 (N : Nat) (g : gp) (a0 : Nat) (x1 : Int32) (x2 : Int32) (x3 : Int32) : Nat → Int32 → Int32 → dp → Option (Int32 × dp)
  | 0, _, _, _ => none
  | n + 1, x4v, x5v, δ => if (64 : Int32) ≤ x5v then (J_X10_member_53 N g a0 x1 x2 x3 δ) else (if x4v < 0 then (J_X10_member_53 N g a0 x1 x2 x3 δ) else ((q_O g 10 6 a0).bind fun b_3 => if x1 < 0 ∨ q_N g b_3 ≤ x1.toNatClampNeg then none else (q_E g b_3 x1.toNatClampNeg).bind fun b_5 => if x2 < 0 ∨ q_N g b_5 ≤ x2.toNatClampNeg then none else if (lg_cmp ((((q_J δ b_5 x2.toNatClampNeg).toUInt64 >>> (x5v.toInt64.toUInt64 &&& Int64.toUInt64 63)).toInt64) &&& 1) 0) = 0 then (J_X10_member_47 N g a0 x1 x2 x3 (L_X10_member_6 N g a0 x1 x2 x3 n) x4v x5v δ) else (if x4v = 0 then (some (x5v, δ)) else (bi (x4v + (-1)) fun x_11 => J_X10_member_47 N g a0 x1 x2 x3 (L_X10_member_6 N g a0 x1 x2 x3 n) x_11 x5v δ))))
set_option maxHeartbeats 4000000 in
set_option maxRecDepth 100000 in
theorem t_L_X10_member_6 {l : Launch} {D : va_G} {cy : Nat → ClassId} {N d : Nat} {g : gp} (wt : WT g) (hl : l.stackTraces = false) (hd : 1 ≤ d) {a0 : Nat} {x1 : Int32} {x2 : Int32} {x3 : Int32} (k0 : q_K g a0 = 10) : ∀ (n : Nat) (x4v : Int32) (x5v : Int32) (δ : dp), AWD l D cy m_X10_member d 0 0 ei g 6 [(0, .ref a0), (1, .int x1), (2, .int x2), (4, .int x4v), (5, .int x5v)] [] δ (L_X10_member_6 N g a0 x1 x2 x3 n x4v x5v δ) := by
  intro n
  induction n with
  | zero => intro x4v x5v δ ; exact w_none
  | succ n ih =>
    intro x4v x5v δ 
    unfold L_X10_member_6
    refine w_iload 4 (μ := m_X10_member) (pc := 6) dX10_member_6 rfl ?_
    refine w_bipush (v := 64) (μ := m_X10_member) (pc := 8) dX10_member_8 (by decide) ?_
    refine w_icmp_ge 53 (μ := m_X10_member) (pc := 10) dX10_member_10 (by decide) (fun c_1 => ?_) (fun c_1 => ?_)
    · refine w_lv [] rfl ?_
      exact t_J_X10_member_53 wt hl (by omega) k0 _
    · refine w_iload 3 (μ := m_X10_member) (pc := 13) dX10_member_13 rfl ?_
      refine w_if_lt 53 (μ := m_X10_member) (pc := 15) dX10_member_15 (by decide) (fun c_2 => ?_) (fun c_2 => ?_)
      · refine w_lv [] rfl ?_
        exact t_J_X10_member_53 wt hl (by omega) k0 _
      · refine w_aload_n 0 0 (μ := m_X10_member) (pc := 18) dX10_member_18 rfl rfl ?_
        refine w_getO (μ := m_X10_member) (pc := 19) dX10_member_19 fl_X10_34 ir_10_6 id_10_6 k0 (fun b_3 e_4 => ?_)
        refine w_iload_n 1 1 (μ := m_X10_member) (pc := 22) dX10_member_22 rfl rfl ?_
        refine w_aald 6 (ty := (.array .long)) (μ := m_X10_member) (pc := 23) dX10_member_23 (wt_10_6 wt k0 e_4) (by decide) rfl rfl (by decide) (fun b_5 e_6 => ?_)
        refine w_iload_n 2 2 (μ := m_X10_member) (pc := 24) dX10_member_24 rfl rfl ?_
        refine w_lald (μ := m_X10_member) (pc := 25) dX10_member_25 (we_19 wt (wt_10_6 wt k0 e_4) e_6) ?_
        refine w_iload 4 (μ := m_X10_member) (pc := 26) dX10_member_26 rfl ?_
        refine w_lushr (μ := m_X10_member) (pc := 28) dX10_member_28 ?_
        refine w_lconst (v := 1) (μ := m_X10_member) (pc := 29) dX10_member_29 (by decide) ?_
        refine w_land (μ := m_X10_member) (pc := 30) dX10_member_30 ?_
        refine w_lconst (v := 0) (μ := m_X10_member) (pc := 31) dX10_member_31 (by decide) ?_
        refine w_lcmp (μ := m_X10_member) (pc := 32) dX10_member_32 ?_
        refine w_if_eq 47 (μ := m_X10_member) (pc := 33) dX10_member_33 (by decide) (fun c_7 => ?_) (fun c_7 => ?_)
        · exact t_J_X10_member_47 wt hl (by omega) k0 ih _ _ _
        · refine w_iload 3 (μ := m_X10_member) (pc := 36) dX10_member_36 rfl ?_
          refine w_if_ne 44 (μ := m_X10_member) (pc := 38) dX10_member_38 (by decide) (fun c_10 => ?_) (fun c_10 => ?_)
          · refine w_inb (fun x_11 e_12 => ?_)
            refine w_iinc 3 [(4, .int x_11), (0, .ref a0), (1, .int x1), (2, .int x2), (5, .int x5v)] (μ := m_X10_member) (pc := 44) dX10_member_44 rfl (by rw [e_12]; rfl) (by decide) rfl ?_
            refine w_lv [1, 2, 3, 0, 4] rfl ?_
            exact t_J_X10_member_47 wt hl (by omega) k0 ih _ _ _
          · refine w_iload 4 (μ := m_X10_member) (pc := 41) dX10_member_41 rfl ?_
            exact w_iret (μ := m_X10_member) (pc := 43) dX10_member_43 rfl rfl
def D_X10_member (N : Nat) (g : gp) (a0 : Nat) (x1 : Int32) (x2 : Int32) (x3 : Int32) (δ : dp) : Option (Int32 × dp) :=
  L_X10_member_6 N g a0 x1 x2 x3 N x3 0 δ
set_option maxHeartbeats 4000000 in
set_option maxRecDepth 100000 in
theorem c_X10_member {l : Launch} {D : va_G} {cy : Nat → ClassId} {N d : Nat} {g : gp} (wt : WT g) (hl : l.stackTraces = false) (hd : 1 ≤ d) {a0 : Nat} {x1 : Int32} {x2 : Int32} {x3 : Int32} {δ : dp} (k0 : q_K g a0 = 10) : CalD l D cy m_X10_member d 0 0 ei g [.ref a0, .int x1, .int x2, .int x3] δ (D_X10_member N g a0 x1 x2 x3 δ) := by
  refine CalD.of (by decide +kernel) (Nat.le_of_ble_eq_true rfl) hl ?_
  unfold D_X10_member
  refine w_iload_n 3 3 (μ := m_X10_member) (pc := 0) dX10_member_0 rfl rfl ?_
  refine w_istore [(4, .int x3), (0, .ref a0), (1, .int x1), (2, .int x2), (3, .int x3)] (μ := m_X10_member) (pc := 1) dX10_member_1 (by decide) rfl ?_
  refine w_iconst (v := 0) (μ := m_X10_member) (pc := 3) dX10_member_3 (by decide) ?_
  refine w_istore [(5, .int 0), (4, .int x3), (0, .ref a0), (1, .int x1), (2, .int x2), (3, .int x3)] (μ := m_X10_member) (pc := 4) dX10_member_4 (by decide) rfl ?_
  refine w_lv [2, 3, 4, 1, 0] rfl ?_
  exact t_L_X10_member_6 wt hl (by omega) k0 N _ _ _
def L_X10_bitsOfSet_4 (N : Nat) (g : gp) (a0 : Nat) : Nat → Int64 → Int32 → dp → Option (Int64 × dp)
  | 0, _, _, _ => none
  | n + 1, y1v, x3v, δ => (q_O g 10 1 a0).bind fun b_1 => if (q_I δ 3 1 b_1) ≤ x3v then (some (y1v, δ)) else ((q_O g 10 1 a0).bind fun b_4 => (D_X3_at N g b_4 x3v δ).bind fun r_6 => bl (y1v ||| (1 <<< (r_6.1.toInt64 &&& 63))) fun y_7 => bi (x3v + 1) fun x_9 => L_X10_bitsOfSet_4 N g a0 n y_7 x_9 r_6.2)
set_option maxHeartbeats 4000000 in
set_option maxRecDepth 100000 in
theorem t_L_X10_bitsOfSet_4 {l : Launch} {D : va_G} {cy : Nat → ClassId} {N d : Nat} {g : gp} (wt : WT g) (hl : l.stackTraces = false) (hd : 2 ≤ d) {a0 : Nat} (k0 : q_K g a0 = 10) : ∀ (n : Nat) (y1v : Int64) (x3v : Int32) (δ : dp), AWD l D cy m_X10_bitsOfSet d 0 0 el g 4 [(0, .ref a0), (1, .long y1v), (3, .int x3v)] [] δ (L_X10_bitsOfSet_4 N g a0 n y1v x3v δ) := by
  intro n
  induction n with
  | zero => intro y1v x3v δ ; exact w_none
  | succ n ih =>
    intro y1v x3v δ 
    unfold L_X10_bitsOfSet_4
    refine w_iload_n 2 3 (μ := m_X10_bitsOfSet) (pc := 4) dX10_bitsOfSet_4 rfl rfl ?_
    refine w_aload_n 0 0 (μ := m_X10_bitsOfSet) (pc := 5) dX10_bitsOfSet_5 rfl rfl ?_
    refine w_getO (μ := m_X10_bitsOfSet) (pc := 6) dX10_bitsOfSet_6 fl_X10_16 ir_10_1 id_10_1 k0 (fun b_1 e_2 => ?_)
    refine w_getI (μ := m_X10_bitsOfSet) (pc := 9) dX10_bitsOfSet_9 fl_X10_87 ir_3_1 (wt_10_1 wt k0 e_2) ?_
    refine w_icmp_ge 34 (μ := m_X10_bitsOfSet) (pc := 12) dX10_bitsOfSet_12 (by decide) (fun c_3 => ?_) (fun c_3 => ?_)
    · refine w_lload_n 1 1 (μ := m_X10_bitsOfSet) (pc := 34) dX10_bitsOfSet_34 rfl rfl ?_
      exact w_lret (μ := m_X10_bitsOfSet) (pc := 35) dX10_bitsOfSet_35 rfl rfl
    · refine w_lload_n 1 1 (μ := m_X10_bitsOfSet) (pc := 15) dX10_bitsOfSet_15 rfl rfl ?_
      refine w_lconst (v := 1) (μ := m_X10_bitsOfSet) (pc := 16) dX10_bitsOfSet_16 (by decide) ?_
      refine w_aload_n 0 0 (μ := m_X10_bitsOfSet) (pc := 17) dX10_bitsOfSet_17 rfl rfl ?_
      refine w_getO (μ := m_X10_bitsOfSet) (pc := 18) dX10_bitsOfSet_18 fl_X10_16 ir_10_1 id_10_1 k0 (fun b_4 e_5 => ?_)
      refine w_iload_n 2 3 (μ := m_X10_bitsOfSet) (pc := 21) dX10_bitsOfSet_21 rfl rfl ?_
      refine w_callV (As := [.int x3v]) (rest := [.long 1, .long y1v]) (μ := m_X10_bitsOfSet) (pc := 22) dX10_bitsOfSet_22 cv_X10_90 rfl rfl (wt_10_1 wt k0 e_5) (by decide) rfl (Nat.le_of_ble_eq_true rfl) (d' := d - 1) (by omega) he_i (c_X3_at wt hl (d := d - 1) (by omega) (wt_10_1 wt k0 e_5)) (fun r_6 => ?_)
      refine w_lshl (μ := m_X10_bitsOfSet) (pc := 25) dX10_bitsOfSet_25 ?_
      refine w_lor (μ := m_X10_bitsOfSet) (pc := 26) dX10_bitsOfSet_26 ?_
      refine w_bl (fun y_7 e_8 => ?_)
      refine w_lstore_n [(1, .long y_7), (0, .ref a0), (3, .int x3v)] (μ := m_X10_bitsOfSet) (pc := 27) dX10_bitsOfSet_27 rfl (by decide) rfl ?_
      refine w_inb (fun x_9 e_10 => ?_)
      refine w_iinc 2 [(3, .int x_9), (1, .long y_7), (0, .ref a0)] (μ := m_X10_bitsOfSet) (pc := 28) dX10_bitsOfSet_28 rfl (by rw [e_10]; rfl) (by decide) rfl ?_
      refine w_goto 4 (μ := m_X10_bitsOfSet) (pc := 31) dX10_bitsOfSet_31 (by decide) ?_
      refine w_lv [2, 1, 0] rfl ?_
      exact ih _ _ _
def D_X10_bitsOfSet (N : Nat) (g : gp) (a0 : Nat) (δ : dp) : Option (Int64 × dp) :=
  L_X10_bitsOfSet_4 N g a0 N 0 0 δ
set_option maxHeartbeats 4000000 in
set_option maxRecDepth 100000 in
theorem c_X10_bitsOfSet {l : Launch} {D : va_G} {cy : Nat → ClassId} {N d : Nat} {g : gp} (wt : WT g) (hl : l.stackTraces = false) (hd : 2 ≤ d) {a0 : Nat} {δ : dp} (k0 : q_K g a0 = 10) : CalD l D cy m_X10_bitsOfSet d 0 0 el g [.ref a0] δ (D_X10_bitsOfSet N g a0 δ) := by
  refine CalD.of (by decide +kernel) (Nat.le_of_ble_eq_true rfl) hl ?_
  unfold D_X10_bitsOfSet
  refine w_lconst (v := 0) (μ := m_X10_bitsOfSet) (pc := 0) dX10_bitsOfSet_0 (by decide) ?_
  refine w_lstore_n [(1, .long 0), (0, .ref a0)] (μ := m_X10_bitsOfSet) (pc := 1) dX10_bitsOfSet_1 rfl (by decide) rfl ?_
  refine w_iconst (v := 0) (μ := m_X10_bitsOfSet) (pc := 2) dX10_bitsOfSet_2 (by decide) ?_
  refine w_istore_n [(3, .int 0), (1, .long 0), (0, .ref a0)] (μ := m_X10_bitsOfSet) (pc := 3) dX10_bitsOfSet_3 rfl (by decide) rfl ?_
  refine w_lv [2, 1, 0] rfl ?_
  exact t_L_X10_bitsOfSet_4 wt hl (by omega) k0 N _ _ _
def J_X10_tryAll_68 (N : Nat) (g : gp) (a0 : Nat) (x1 : Int32) (x2 : Int32) (kt2 : Int32 → dp → Option (dp)) (x3v : Int32) (δ : dp) : Option (dp) :=
  bi (x3v + 1) fun x_13 => kt2 x_13 δ
set_option maxHeartbeats 4000000 in
set_option maxRecDepth 100000 in
theorem t_J_X10_tryAll_68 {l : Launch} {D : va_G} {cy : Nat → ClassId} {N d : Nat} {g : gp} (wt : WT g) (hl : l.stackTraces = false) (hd : 5 ≤ d) {a0 : Nat} {x1 : Int32} {x2 : Int32} (k0 : q_K g a0 = 10) {kt2 : Int32 → dp → Option (dp)} (hk2 : ∀ (x3v : Int32) (δ : dp), AWD l D cy m_X10_tryAll d 0 0 ev g 2 [(0, .ref a0), (1, .int x1), (2, .int x2), (3, .int x3v)] [] δ (kt2 x3v δ)) : ∀ (x3v : Int32) (δ : dp), AWD l D cy m_X10_tryAll d 0 0 ev g 68 [(0, .ref a0), (1, .int x1), (2, .int x2), (3, .int x3v)] [] δ (J_X10_tryAll_68 N g a0 x1 x2 kt2 x3v δ) := by
    intro x3v δ 
    unfold J_X10_tryAll_68
    refine w_inb (fun x_13 e_14 => ?_)
    refine w_iinc 3 [(3, .int x_13), (0, .ref a0), (1, .int x1), (2, .int x2)] (μ := m_X10_tryAll) (pc := 68) dX10_tryAll_68 rfl (by rw [e_14]; rfl) (by decide) rfl ?_
    refine w_goto 2 (μ := m_X10_tryAll) (pc := 71) dX10_tryAll_71 (by decide) ?_
    refine w_lv [1, 2, 3, 0] rfl ?_
    exact hk2 _ _
def L_X10_tryAll_2 (N : Nat) (g : gp) (a0 : Nat) (x1 : Int32) (x2 : Int32) : Nat → Int32 → dp → Option (dp)
  | 0, _, _ => none
  | n + 1, x3v, δ => (q_O g 10 0 a0).bind fun b_1 => (D_X5_greatest N g b_1 δ).bind fun r_3 => if r_3.1 < x3v then (some r_3.2) else ((q_O g 10 2 a0).bind fun b_5 => (D_X1_touchesOf N g b_5 x1 x3v r_3.2).bind fun r_7 => (q_O g 10 4 a0).bind fun b_8 => if x1 < 0 ∨ q_N g b_8 ≤ x1.toNatClampNeg then none else (q_E g b_8 x1.toNatClampNeg).bind fun b_10 => if x2 < 0 ∨ q_N g b_10 ≤ x2.toNatClampNeg then none else if r_7.1 ≤ (q_R r_7.2 b_10 x2.toNatClampNeg) then (J_X10_tryAll_68 N g a0 x1 x2 (L_X10_tryAll_2 N g a0 x1 x2 n) x3v r_7.2) else ((q_O g 10 4 a0).bind fun b_15 => if x1 < 0 ∨ q_N g b_15 ≤ x1.toNatClampNeg then none else (q_E g b_15 x1.toNatClampNeg).bind fun b_17 => if x2 < 0 ∨ q_N g b_17 ≤ x2.toNatClampNeg then none else bd (s_R r_7.2 b_17 x2.toNatClampNeg r_7.1) fun δ_19 => (q_O g 10 5 a0).bind fun b_21 => if x1 < 0 ∨ q_N g b_21 ≤ x1.toNatClampNeg then none else (q_E g b_21 x1.toNatClampNeg).bind fun b_23 => if x2 < 0 ∨ q_N g b_23 ≤ x2.toNatClampNeg then none else bd (s_R δ_19 b_23 x2.toNatClampNeg x3v) fun δ_25 => (q_O g 10 6 a0).bind fun b_27 => if x1 < 0 ∨ q_N g b_27 ≤ x1.toNatClampNeg then none else (q_E g b_27 x1.toNatClampNeg).bind fun b_29 => (D_X10_bitsOfSet N g a0 δ_25).bind fun r_31 => if x2 < 0 ∨ q_N g b_29 ≤ x2.toNatClampNeg then none else bd (s_J r_31.2 b_29 x2.toNatClampNeg r_31.1) fun δ_32 => J_X10_tryAll_68 N g a0 x1 x2 (L_X10_tryAll_2 N g a0 x1 x2 n) x3v δ_32))
set_option maxHeartbeats 4000000 in
set_option maxRecDepth 100000 in
theorem t_L_X10_tryAll_2 {l : Launch} {D : va_G} {cy : Nat → ClassId} {N d : Nat} {g : gp} (wt : WT g) (hl : l.stackTraces = false) (hd : 5 ≤ d) {a0 : Nat} {x1 : Int32} {x2 : Int32} (k0 : q_K g a0 = 10) : ∀ (n : Nat) (x3v : Int32) (δ : dp), AWD l D cy m_X10_tryAll d 0 0 ev g 2 [(0, .ref a0), (1, .int x1), (2, .int x2), (3, .int x3v)] [] δ (L_X10_tryAll_2 N g a0 x1 x2 n x3v δ) := by
  intro n
  induction n with
  | zero => intro x3v δ ; exact w_none
  | succ n ih =>
    intro x3v δ 
    unfold L_X10_tryAll_2
    refine w_iload_n 3 3 (μ := m_X10_tryAll) (pc := 2) dX10_tryAll_2 rfl rfl ?_
    refine w_aload_n 0 0 (μ := m_X10_tryAll) (pc := 3) dX10_tryAll_3 rfl rfl ?_
    refine w_getO (μ := m_X10_tryAll) (pc := 4) dX10_tryAll_4 fl_X10_37 ir_10_0 id_10_0 k0 (fun b_1 e_2 => ?_)
    refine w_callV (As := []) (rest := [.int x3v]) (μ := m_X10_tryAll) (pc := 7) dX10_tryAll_7 cv_X10_54 rfl rfl (wt_10_0 wt k0 e_2) (by decide) rfl (Nat.le_of_ble_eq_true rfl) (d' := d - 1) (by omega) he_i (c_X5_greatest wt hl (d := d - 1) (by omega) (wt_10_0 wt k0 e_2)) (fun r_3 => ?_)
    refine w_icmp_gt 74 (μ := m_X10_tryAll) (pc := 10) dX10_tryAll_10 (by decide) (fun c_4 => ?_) (fun c_4 => ?_)
    · exact w_vret (μ := m_X10_tryAll) (pc := 74) dX10_tryAll_74 rfl rfl
    · refine w_aload_n 0 0 (μ := m_X10_tryAll) (pc := 13) dX10_tryAll_13 rfl rfl ?_
      refine w_getO (μ := m_X10_tryAll) (pc := 14) dX10_tryAll_14 fl_X10_46 ir_10_2 id_10_2 k0 (fun b_5 e_6 => ?_)
      refine w_iload_n 1 1 (μ := m_X10_tryAll) (pc := 17) dX10_tryAll_17 rfl rfl ?_
      refine w_iload_n 3 3 (μ := m_X10_tryAll) (pc := 18) dX10_tryAll_18 rfl rfl ?_
      refine w_callV (As := [.int x1, .int x3v]) (rest := []) (μ := m_X10_tryAll) (pc := 19) dX10_tryAll_19 cv_X10_79 rfl rfl (wt_10_2 wt k0 e_6) (by decide) rfl (Nat.le_of_ble_eq_true rfl) (d' := d - 1) (by omega) he_i (c_X1_touchesOf wt hl (d := d - 1) (by omega) (wt_10_2 wt k0 e_6)) (fun r_7 => ?_)
      refine w_istore [(4, .int r_7.1), (0, .ref a0), (1, .int x1), (2, .int x2), (3, .int x3v)] (μ := m_X10_tryAll) (pc := 22) dX10_tryAll_22 (by decide) rfl ?_
      refine w_iload 0 (μ := m_X10_tryAll) (pc := 24) dX10_tryAll_24 rfl ?_
      refine w_aload_n 1 0 (μ := m_X10_tryAll) (pc := 26) dX10_tryAll_26 rfl rfl ?_
      refine w_getO (μ := m_X10_tryAll) (pc := 27) dX10_tryAll_27 fl_X10_26 ir_10_4 id_10_4 k0 (fun b_8 e_9 => ?_)
      refine w_iload_n 2 1 (μ := m_X10_tryAll) (pc := 30) dX10_tryAll_30 rfl rfl ?_
      refine w_aald 5 (ty := (.array .int)) (μ := m_X10_tryAll) (pc := 31) dX10_tryAll_31 (wt_10_4 wt k0 e_9) (by decide) rfl rfl (by decide) (fun b_10 e_11 => ?_)
      refine w_iload_n 3 2 (μ := m_X10_tryAll) (pc := 32) dX10_tryAll_32 rfl rfl ?_
      refine w_ald (μ := m_X10_tryAll) (pc := 33) dX10_tryAll_33 (we_18 wt (wt_10_4 wt k0 e_9) e_11) ?_
      refine w_icmp_le 68 (μ := m_X10_tryAll) (pc := 34) dX10_tryAll_34 (by decide) (fun c_12 => ?_) (fun c_12 => ?_)
      · refine w_lv [1, 2, 3, 4] rfl ?_
        exact t_J_X10_tryAll_68 wt hl (by omega) k0 ih _ _
      · refine w_aload_n 1 0 (μ := m_X10_tryAll) (pc := 37) dX10_tryAll_37 rfl rfl ?_
        refine w_getO (μ := m_X10_tryAll) (pc := 38) dX10_tryAll_38 fl_X10_26 ir_10_4 id_10_4 k0 (fun b_15 e_16 => ?_)
        refine w_iload_n 2 1 (μ := m_X10_tryAll) (pc := 41) dX10_tryAll_41 rfl rfl ?_
        refine w_aald 5 (ty := (.array .int)) (μ := m_X10_tryAll) (pc := 42) dX10_tryAll_42 (wt_10_4 wt k0 e_16) (by decide) rfl rfl (by decide) (fun b_17 e_18 => ?_)
        refine w_iload_n 3 2 (μ := m_X10_tryAll) (pc := 43) dX10_tryAll_43 rfl rfl ?_
        refine w_iload 0 (μ := m_X10_tryAll) (pc := 44) dX10_tryAll_44 rfl ?_
        refine w_ast (μ := m_X10_tryAll) (pc := 46) dX10_tryAll_46 (we_18 wt (wt_10_4 wt k0 e_16) e_18) ?_
        refine w_bd (fun δ_19 e_20 => ?_)
        refine w_aload_n 1 0 (μ := m_X10_tryAll) (pc := 47) dX10_tryAll_47 rfl rfl ?_
        refine w_getO (μ := m_X10_tryAll) (pc := 48) dX10_tryAll_48 fl_X10_29 ir_10_5 id_10_5 k0 (fun b_21 e_22 => ?_)
        refine w_iload_n 2 1 (μ := m_X10_tryAll) (pc := 51) dX10_tryAll_51 rfl rfl ?_
        refine w_aald 5 (ty := (.array .int)) (μ := m_X10_tryAll) (pc := 52) dX10_tryAll_52 (wt_10_5 wt k0 e_22) (by decide) rfl rfl (by decide) (fun b_23 e_24 => ?_)
        refine w_iload_n 3 2 (μ := m_X10_tryAll) (pc := 53) dX10_tryAll_53 rfl rfl ?_
        refine w_iload_n 4 3 (μ := m_X10_tryAll) (pc := 54) dX10_tryAll_54 rfl rfl ?_
        refine w_ast (μ := m_X10_tryAll) (pc := 55) dX10_tryAll_55 (we_18 wt (wt_10_5 wt k0 e_22) e_24) ?_
        refine w_bd (fun δ_25 e_26 => ?_)
        refine w_aload_n 1 0 (μ := m_X10_tryAll) (pc := 56) dX10_tryAll_56 rfl rfl ?_
        refine w_getO (μ := m_X10_tryAll) (pc := 57) dX10_tryAll_57 fl_X10_34 ir_10_6 id_10_6 k0 (fun b_27 e_28 => ?_)
        refine w_iload_n 2 1 (μ := m_X10_tryAll) (pc := 60) dX10_tryAll_60 rfl rfl ?_
        refine w_aald 6 (ty := (.array .long)) (μ := m_X10_tryAll) (pc := 61) dX10_tryAll_61 (wt_10_6 wt k0 e_28) (by decide) rfl rfl (by decide) (fun b_29 e_30 => ?_)
        refine w_iload_n 3 2 (μ := m_X10_tryAll) (pc := 62) dX10_tryAll_62 rfl rfl ?_
        refine w_aload_n 1 0 (μ := m_X10_tryAll) (pc := 63) dX10_tryAll_63 rfl rfl ?_
        refine w_callV (As := []) (rest := [.int x2, .ref b_29]) (μ := m_X10_tryAll) (pc := 64) dX10_tryAll_64 cv_X10_83 rfl rfl k0 (by decide) rfl (Nat.le_of_ble_eq_true rfl) (d' := d - 1) (by omega) he_l (c_X10_bitsOfSet wt hl (d := d - 1) (by omega) k0) (fun r_31 => ?_)
        refine w_last (μ := m_X10_tryAll) (pc := 67) dX10_tryAll_67 (we_19 wt (wt_10_6 wt k0 e_28) e_30) ?_
        refine w_bd (fun δ_32 e_33 => ?_)
        refine w_lv [1, 2, 3, 4] rfl ?_
        exact t_J_X10_tryAll_68 wt hl (by omega) k0 ih _ _
def D_X10_tryAll (N : Nat) (g : gp) (a0 : Nat) (x1 : Int32) (x2 : Int32) (δ : dp) : Option (dp) :=
  L_X10_tryAll_2 N g a0 x1 x2 N 0 δ
set_option maxHeartbeats 4000000 in
set_option maxRecDepth 100000 in
theorem c_X10_tryAll {l : Launch} {D : va_G} {cy : Nat → ClassId} {N d : Nat} {g : gp} (wt : WT g) (hl : l.stackTraces = false) (hd : 5 ≤ d) {a0 : Nat} {x1 : Int32} {x2 : Int32} {δ : dp} (k0 : q_K g a0 = 10) : CalD l D cy m_X10_tryAll d 0 0 ev g [.ref a0, .int x1, .int x2] δ (D_X10_tryAll N g a0 x1 x2 δ) := by
  refine CalD.of (by decide +kernel) (Nat.le_of_ble_eq_true rfl) hl ?_
  unfold D_X10_tryAll
  refine w_iconst (v := 0) (μ := m_X10_tryAll) (pc := 0) dX10_tryAll_0 (by decide) ?_
  refine w_istore_n [(3, .int 0), (0, .ref a0), (1, .int x1), (2, .int x2)] (μ := m_X10_tryAll) (pc := 1) dX10_tryAll_1 rfl (by decide) rfl ?_
  refine w_lv [1, 2, 3, 0] rfl ?_
  exact t_L_X10_tryAll_2 wt hl (by omega) k0 N _ _
def J_X10_goThroughAll_98 (N : Nat) (g : gp) (a0 : Nat) (x1 : Int32) (x2 : Int32) (δ : dp) : Option (dp) :=
  some δ
set_option maxHeartbeats 4000000 in
set_option maxRecDepth 100000 in
theorem t_J_X10_goThroughAll_98 {l : Launch} {D : va_G} {cy : Nat → ClassId} {N d : Nat} {g : gp} (wt : WT g) (hl : l.stackTraces = false) (hd : 23 ≤ d) {a0 : Nat} {x1 : Int32} {x2 : Int32} (k0 : q_K g a0 = 10) : ∀ (δ : dp), AWD l D cy m_X10_goThroughAll d 0 0 ev g 98 [] [] δ (J_X10_goThroughAll_98 N g a0 x1 x2 δ) := by
    intro  δ 
    unfold J_X10_goThroughAll_98
    exact w_vret (μ := m_X10_goThroughAll) (pc := 98) dX10_goThroughAll_98 rfl rfl
def L_X10_goThroughAll_51 (N : Nat) (g : gp) (a0 : Nat) (x1 : Int32) (x2 : Int32) : Nat → Int32 → Int32 → Int32 → Int32 → dp → Option (dp)
  | 0, _, _, _, _, _ => none
  | n + 1, x3v, x4v, x5v, x6v, δ => if (1000000 : Int32) ≤ x6v then (J_X10_goThroughAll_98 N g a0 x1 x2 δ) else (if x5v = 0 then (J_X10_goThroughAll_98 N g a0 x1 x2 δ) else ((q_O g 10 4 a0).bind fun b_17 => if x1 < 0 ∨ q_N g b_17 ≤ x1.toNatClampNeg then none else (q_E g b_17 x1.toNatClampNeg).bind fun b_19 => if x2 < 0 ∨ q_N g b_19 ≤ x2.toNatClampNeg then none else if x4v ≤ (q_R δ b_19 x2.toNatClampNeg) then (J_X10_goThroughAll_98 N g a0 x1 x2 δ) else ((D_X10_tryAll N g a0 x1 x2 δ).bind fun r_22 => (q_O g 10 1 a0).bind fun b_23 => (D_X3_beNextSet N g b_23 x3v r_22).bind fun r_25 => bi (x6v + 1) fun x_26 => L_X10_goThroughAll_51 N g a0 x1 x2 n x3v x4v r_25.1 x_26 r_25.2)))
set_option maxHeartbeats 4000000 in
set_option maxRecDepth 100000 in
theorem t_L_X10_goThroughAll_51 {l : Launch} {D : va_G} {cy : Nat → ClassId} {N d : Nat} {g : gp} (wt : WT g) (hl : l.stackTraces = false) (hd : 23 ≤ d) {a0 : Nat} {x1 : Int32} {x2 : Int32} (k0 : q_K g a0 = 10) : ∀ (n : Nat) (x3v : Int32) (x4v : Int32) (x5v : Int32) (x6v : Int32) (δ : dp), AWD l D cy m_X10_goThroughAll d 0 0 ev g 51 [(0, .ref a0), (1, .int x1), (2, .int x2), (3, .int x3v), (4, .int x4v), (5, .int x5v), (6, .int x6v)] [] δ (L_X10_goThroughAll_51 N g a0 x1 x2 n x3v x4v x5v x6v δ) := by
  intro n
  induction n with
  | zero => intro x3v x4v x5v x6v δ ; exact w_none
  | succ n ih =>
    intro x3v x4v x5v x6v δ 
    unfold L_X10_goThroughAll_51
    refine w_iload 6 (μ := m_X10_goThroughAll) (pc := 51) dX10_goThroughAll_51 rfl ?_
    refine w_ldc (v := 1000000) (μ := m_X10_goThroughAll) (pc := 53) dX10_goThroughAll_53 cn_X10_71 ?_
    refine w_icmp_ge 98 (μ := m_X10_goThroughAll) (pc := 55) dX10_goThroughAll_55 (by decide) (fun c_15 => ?_) (fun c_15 => ?_)
    · refine w_lv [] rfl ?_
      exact t_J_X10_goThroughAll_98 wt hl (by omega) k0 _
    · refine w_iload 5 (μ := m_X10_goThroughAll) (pc := 58) dX10_goThroughAll_58 rfl ?_
      refine w_if_eq 98 (μ := m_X10_goThroughAll) (pc := 60) dX10_goThroughAll_60 (by decide) (fun c_16 => ?_) (fun c_16 => ?_)
      · refine w_lv [] rfl ?_
        exact t_J_X10_goThroughAll_98 wt hl (by omega) k0 _
      · refine w_aload_n 0 0 (μ := m_X10_goThroughAll) (pc := 63) dX10_goThroughAll_63 rfl rfl ?_
        refine w_getO (μ := m_X10_goThroughAll) (pc := 64) dX10_goThroughAll_64 fl_X10_26 ir_10_4 id_10_4 k0 (fun b_17 e_18 => ?_)
        refine w_iload_n 1 1 (μ := m_X10_goThroughAll) (pc := 67) dX10_goThroughAll_67 rfl rfl ?_
        refine w_aald 5 (ty := (.array .int)) (μ := m_X10_goThroughAll) (pc := 68) dX10_goThroughAll_68 (wt_10_4 wt k0 e_18) (by decide) rfl rfl (by decide) (fun b_19 e_20 => ?_)
        refine w_iload_n 2 2 (μ := m_X10_goThroughAll) (pc := 69) dX10_goThroughAll_69 rfl rfl ?_
        refine w_ald (μ := m_X10_goThroughAll) (pc := 70) dX10_goThroughAll_70 (we_18 wt (wt_10_4 wt k0 e_18) e_20) ?_
        refine w_iload 4 (μ := m_X10_goThroughAll) (pc := 71) dX10_goThroughAll_71 rfl ?_
        refine w_icmp_ge 98 (μ := m_X10_goThroughAll) (pc := 73) dX10_goThroughAll_73 (by decide) (fun c_21 => ?_) (fun c_21 => ?_)
        · refine w_lv [] rfl ?_
          exact t_J_X10_goThroughAll_98 wt hl (by omega) k0 _
        · refine w_aload_n 0 0 (μ := m_X10_goThroughAll) (pc := 76) dX10_goThroughAll_76 rfl rfl ?_
          refine w_iload_n 1 1 (μ := m_X10_goThroughAll) (pc := 77) dX10_goThroughAll_77 rfl rfl ?_
          refine w_iload_n 2 2 (μ := m_X10_goThroughAll) (pc := 78) dX10_goThroughAll_78 rfl rfl ?_
          refine w_callV (As := [.int x1, .int x2]) (rest := []) (μ := m_X10_goThroughAll) (pc := 79) dX10_goThroughAll_79 cv_X10_72 rfl rfl k0 (by decide) rfl (Nat.le_of_ble_eq_true rfl) (d' := d - 1) (by omega) he_v (c_X10_tryAll wt hl (d := d - 1) (by omega) k0) (fun r_22 => ?_)
          refine w_aload_n 0 0 (μ := m_X10_goThroughAll) (pc := 82) dX10_goThroughAll_82 rfl rfl ?_
          refine w_getO (μ := m_X10_goThroughAll) (pc := 83) dX10_goThroughAll_83 fl_X10_16 ir_10_1 id_10_1 k0 (fun b_23 e_24 => ?_)
          refine w_iload_n 3 3 (μ := m_X10_goThroughAll) (pc := 86) dX10_goThroughAll_86 rfl rfl ?_
          refine w_callV (As := [.int x3v]) (rest := []) (μ := m_X10_goThroughAll) (pc := 87) dX10_goThroughAll_87 cv_X10_75 rfl rfl (wt_10_1 wt k0 e_24) (by decide) rfl (Nat.le_of_ble_eq_true rfl) (d' := d - 1) (by omega) he_i (c_X3_beNextSet wt hl (d := d - 1) (by omega) (wt_10_1 wt k0 e_24)) (fun r_25 => ?_)
          refine w_istore [(5, .int r_25.1), (0, .ref a0), (1, .int x1), (2, .int x2), (3, .int x3v), (4, .int x4v), (6, .int x6v)] (μ := m_X10_goThroughAll) (pc := 90) dX10_goThroughAll_90 (by decide) rfl ?_
          refine w_inb (fun x_26 e_27 => ?_)
          refine w_iinc 6 [(6, .int x_26), (5, .int r_25.1), (0, .ref a0), (1, .int x1), (2, .int x2), (3, .int x3v), (4, .int x4v)] (μ := m_X10_goThroughAll) (pc := 92) dX10_goThroughAll_92 rfl (by rw [e_27]; rfl) (by decide) rfl ?_
          refine w_goto 51 (μ := m_X10_goThroughAll) (pc := 95) dX10_goThroughAll_95 (by decide) ?_
          refine w_lv [2, 3, 4, 5, 6, 1, 0] rfl ?_
          exact ih _ _ _ _ _
def J_X10_goThroughAll_38 (N : Nat) (g : gp) (a0 : Nat) (x1 : Int32) (x2 : Int32) (xs0 : Int32) (x3v : Int32) (x4v : Int32) (δ : dp) : Option (dp) :=
  (q_O g 10 1 a0).bind fun b_12 => (D_X3_beFirstSet N g b_12 x2 δ).bind fun r_14 => L_X10_goThroughAll_51 N g a0 x1 x2 N x3v x4v xs0 0 r_14
set_option maxHeartbeats 4000000 in
set_option maxRecDepth 100000 in
theorem t_J_X10_goThroughAll_38 {l : Launch} {D : va_G} {cy : Nat → ClassId} {N d : Nat} {g : gp} (wt : WT g) (hl : l.stackTraces = false) (hd : 23 ≤ d) {a0 : Nat} {x1 : Int32} {x2 : Int32} (k0 : q_K g a0 = 10) : ∀ (xs0 : Int32) (x3v : Int32) (x4v : Int32) (δ : dp), AWD l D cy m_X10_goThroughAll d 0 0 ev g 38 [(0, .ref a0), (1, .int x1), (2, .int x2), (3, .int x3v), (4, .int x4v)] [.int xs0] δ (J_X10_goThroughAll_38 N g a0 x1 x2 xs0 x3v x4v δ) := by
    intro xs0 x3v x4v δ 
    unfold J_X10_goThroughAll_38
    refine w_istore [(5, .int xs0), (0, .ref a0), (1, .int x1), (2, .int x2), (3, .int x3v), (4, .int x4v)] (μ := m_X10_goThroughAll) (pc := 38) dX10_goThroughAll_38 (by decide) rfl ?_
    refine w_aload_n 1 0 (μ := m_X10_goThroughAll) (pc := 40) dX10_goThroughAll_40 rfl rfl ?_
    refine w_getO (μ := m_X10_goThroughAll) (pc := 41) dX10_goThroughAll_41 fl_X10_16 ir_10_1 id_10_1 k0 (fun b_12 e_13 => ?_)
    refine w_iload_n 3 2 (μ := m_X10_goThroughAll) (pc := 44) dX10_goThroughAll_44 rfl rfl ?_
    refine w_callV (As := [.int x2]) (rest := []) (μ := m_X10_goThroughAll) (pc := 45) dX10_goThroughAll_45 cv_X10_68 rfl rfl (wt_10_1 wt k0 e_13) (by decide) rfl (Nat.le_of_ble_eq_true rfl) (d' := d - 1) (by omega) he_v (c_X3_beFirstSet wt hl (d := d - 1) (by omega) (wt_10_1 wt k0 e_13)) (fun r_14 => ?_)
    refine w_iconst (v := 0) (μ := m_X10_goThroughAll) (pc := 48) dX10_goThroughAll_48 (by decide) ?_
    refine w_istore [(6, .int 0), (5, .int xs0), (0, .ref a0), (1, .int x1), (2, .int x2), (3, .int x3v), (4, .int x4v)] (μ := m_X10_goThroughAll) (pc := 49) dX10_goThroughAll_49 (by decide) rfl ?_
    refine w_lv [2, 3, 4, 5, 6, 1, 0] rfl ?_
    exact t_L_X10_goThroughAll_51 wt hl (by omega) k0 N _ _ _ _ _
def D_X10_goThroughAll (N : Nat) (g : gp) (a0 : Nat) (x1 : Int32) (x2 : Int32) (δ : dp) : Option (dp) :=
  (q_O g 10 0 a0).bind fun b_1 => (D_X5_greatest N g b_1 δ).bind fun r_3 => bi (r_3.1 + 1) fun x_4 => (q_O g 10 0 a0).bind fun b_6 => (q_O g 10 0 a0).bind fun b_8 => (D_X5_mostTouches N g b_6 x1 (q_I r_3.2 5 0 b_8) x2 r_3.2).bind fun r_10 => if x_4 < x2 then (J_X10_goThroughAll_38 N g a0 x1 x2 0 x_4 r_10.1 r_10.2) else (J_X10_goThroughAll_38 N g a0 x1 x2 1 x_4 r_10.1 r_10.2)
set_option maxHeartbeats 4000000 in
set_option maxRecDepth 100000 in
theorem c_X10_goThroughAll {l : Launch} {D : va_G} {cy : Nat → ClassId} {N d : Nat} {g : gp} (wt : WT g) (hl : l.stackTraces = false) (hd : 23 ≤ d) {a0 : Nat} {x1 : Int32} {x2 : Int32} {δ : dp} (k0 : q_K g a0 = 10) : CalD l D cy m_X10_goThroughAll d 0 0 ev g [.ref a0, .int x1, .int x2] δ (D_X10_goThroughAll N g a0 x1 x2 δ) := by
  refine CalD.of (by decide +kernel) (Nat.le_of_ble_eq_true rfl) hl ?_
  unfold D_X10_goThroughAll
  refine w_aload_n 0 0 (μ := m_X10_goThroughAll) (pc := 0) dX10_goThroughAll_0 rfl rfl ?_
  refine w_getO (μ := m_X10_goThroughAll) (pc := 1) dX10_goThroughAll_1 fl_X10_37 ir_10_0 id_10_0 k0 (fun b_1 e_2 => ?_)
  refine w_callV (As := []) (rest := []) (μ := m_X10_goThroughAll) (pc := 4) dX10_goThroughAll_4 cv_X10_54 rfl rfl (wt_10_0 wt k0 e_2) (by decide) rfl (Nat.le_of_ble_eq_true rfl) (d' := d - 1) (by omega) he_i (c_X5_greatest wt hl (d := d - 1) (by omega) (wt_10_0 wt k0 e_2)) (fun r_3 => ?_)
  refine w_iconst (v := 1) (μ := m_X10_goThroughAll) (pc := 7) dX10_goThroughAll_7 (by decide) ?_
  refine w_iadd (μ := m_X10_goThroughAll) (pc := 8) dX10_goThroughAll_8 ?_
  refine w_bi (fun x_4 e_5 => ?_)
  refine w_istore_n [(3, .int x_4), (0, .ref a0), (1, .int x1), (2, .int x2)] (μ := m_X10_goThroughAll) (pc := 9) dX10_goThroughAll_9 rfl (by decide) rfl ?_
  refine w_aload_n 1 0 (μ := m_X10_goThroughAll) (pc := 10) dX10_goThroughAll_10 rfl rfl ?_
  refine w_getO (μ := m_X10_goThroughAll) (pc := 11) dX10_goThroughAll_11 fl_X10_37 ir_10_0 id_10_0 k0 (fun b_6 e_7 => ?_)
  refine w_iload_n 2 1 (μ := m_X10_goThroughAll) (pc := 14) dX10_goThroughAll_14 rfl rfl ?_
  refine w_aload_n 1 0 (μ := m_X10_goThroughAll) (pc := 15) dX10_goThroughAll_15 rfl rfl ?_
  refine w_getO (μ := m_X10_goThroughAll) (pc := 16) dX10_goThroughAll_16 fl_X10_37 ir_10_0 id_10_0 k0 (fun b_8 e_9 => ?_)
  refine w_getI (μ := m_X10_goThroughAll) (pc := 19) dX10_goThroughAll_19 fl_X10_60 ir_5_0 (wt_10_0 wt k0 e_9) ?_
  refine w_iload_n 3 2 (μ := m_X10_goThroughAll) (pc := 22) dX10_goThroughAll_22 rfl rfl ?_
  refine w_callV (As := [.int x1, .int (q_I r_3.2 5 0 b_8), .int x2]) (rest := []) (μ := m_X10_goThroughAll) (pc := 23) dX10_goThroughAll_23 cv_X10_64 rfl rfl (wt_10_0 wt k0 e_7) (by decide) rfl (Nat.le_of_ble_eq_true rfl) (d' := d - 1) (by omega) he_i (c_X5_mostTouches wt hl (d := d - 1) (by omega) (wt_10_0 wt k0 e_7)) (fun r_10 => ?_)
  refine w_istore [(4, .int r_10.1), (3, .int x_4), (0, .ref a0), (1, .int x1), (2, .int x2)] (μ := m_X10_goThroughAll) (pc := 26) dX10_goThroughAll_26 (by decide) rfl ?_
  refine w_iload_n 4 2 (μ := m_X10_goThroughAll) (pc := 28) dX10_goThroughAll_28 rfl rfl ?_
  refine w_iload_n 1 3 (μ := m_X10_goThroughAll) (pc := 29) dX10_goThroughAll_29 rfl rfl ?_
  refine w_icmp_gt 37 (μ := m_X10_goThroughAll) (pc := 30) dX10_goThroughAll_30 (by decide) (fun c_11 => ?_) (fun c_11 => ?_)
  · refine w_iconst (v := 0) (μ := m_X10_goThroughAll) (pc := 37) dX10_goThroughAll_37 (by decide) ?_
    refine w_lv [2, 3, 4, 1, 0] rfl ?_
    exact t_J_X10_goThroughAll_38 wt hl (by omega) k0 _ _ _ _
  · refine w_iconst (v := 1) (μ := m_X10_goThroughAll) (pc := 33) dX10_goThroughAll_33 (by decide) ?_
    refine w_goto 38 (μ := m_X10_goThroughAll) (pc := 34) dX10_goThroughAll_34 (by decide) ?_
    refine w_lv [2, 3, 4, 1, 0] rfl ?_
    exact t_J_X10_goThroughAll_38 wt hl (by omega) k0 _ _ _ _
def J_X10_learn_89 (N : Nat) (g : gp) (a0 : Nat) (x1 : Int32) (x2 : Int32) (kt7 : Int32 → dp → Option (dp)) (ys0 : Int64) (xs1 : Int32) (as2 : Nat) (x3v : Int32) (δ : dp) : Option (dp) :=
  if xs1 < 0 ∨ q_N g as2 ≤ xs1.toNatClampNeg then none else bd (s_J δ as2 xs1.toNatClampNeg ys0) fun δ_37 => (D_X10_goThroughAll N g a0 x1 x3v δ_37).bind fun r_39 => (q_O g 10 3 a0).bind fun b_40 => if x1 < 0 ∨ q_N g b_40 ≤ x1.toNatClampNeg then none else bd (s_R r_39 b_40 x1.toNatClampNeg (x3v + 1)) fun δ_42 => bi (x3v + 1) fun x_44 => kt7 x_44 δ_42
set_option maxHeartbeats 4000000 in
set_option maxRecDepth 100000 in
theorem t_J_X10_learn_89 {l : Launch} {D : va_G} {cy : Nat → ClassId} {N d : Nat} {g : gp} (wt : WT g) (hl : l.stackTraces = false) (hd : 24 ≤ d) {a0 : Nat} {x1 : Int32} {x2 : Int32} (k0 : q_K g a0 = 10) {kt7 : Int32 → dp → Option (dp)} (hk7 : ∀ (x3v : Int32) (δ : dp), AWD l D cy m_X10_learn d 0 0 ev g 7 [(0, .ref a0), (1, .int x1), (2, .int x2), (3, .int x3v)] [] δ (kt7 x3v δ)) : ∀ (ys0 : Int64) (xs1 : Int32) (as2 : Nat) (x3v : Int32) (δ : dp), q_K g as2 = 14 → AWD l D cy m_X10_learn d 0 0 ev g 89 [(0, .ref a0), (1, .int x1), (2, .int x2), (3, .int x3v)] [.long ys0, .int xs1, .ref as2] δ (J_X10_learn_89 N g a0 x1 x2 kt7 ys0 xs1 as2 x3v δ) := by
    intro ys0 xs1 as2 x3v δ has2
    unfold J_X10_learn_89
    refine w_last (μ := m_X10_learn) (pc := 89) dX10_learn_89 has2 ?_
    refine w_bd (fun δ_37 e_38 => ?_)
    refine w_aload_n 0 0 (μ := m_X10_learn) (pc := 90) dX10_learn_90 rfl rfl ?_
    refine w_iload_n 1 1 (μ := m_X10_learn) (pc := 91) dX10_learn_91 rfl rfl ?_
    refine w_iload_n 3 3 (μ := m_X10_learn) (pc := 92) dX10_learn_92 rfl rfl ?_
    refine w_callV (As := [.int x1, .int x3v]) (rest := []) (μ := m_X10_learn) (pc := 93) dX10_learn_93 cv_X10_50 rfl rfl k0 (by decide) rfl (Nat.le_of_ble_eq_true rfl) (d' := d - 1) (by omega) he_v (c_X10_goThroughAll wt hl (d := d - 1) (by omega) k0) (fun r_39 => ?_)
    refine w_aload_n 0 0 (μ := m_X10_learn) (pc := 96) dX10_learn_96 rfl rfl ?_
    refine w_getO (μ := m_X10_learn) (pc := 97) dX10_learn_97 fl_X10_20 ir_10_3 id_10_3 k0 (fun b_40 e_41 => ?_)
    refine w_iload_n 1 1 (μ := m_X10_learn) (pc := 100) dX10_learn_100 rfl rfl ?_
    refine w_iload_n 3 3 (μ := m_X10_learn) (pc := 101) dX10_learn_101 rfl rfl ?_
    refine w_iconst (v := 1) (μ := m_X10_learn) (pc := 102) dX10_learn_102 (by decide) ?_
    refine w_iadd (μ := m_X10_learn) (pc := 103) dX10_learn_103 ?_
    refine w_ast (μ := m_X10_learn) (pc := 104) dX10_learn_104 (wt_10_3 wt k0 e_41) ?_
    refine w_bd (fun δ_42 e_43 => ?_)
    refine w_inb (fun x_44 e_45 => ?_)
    refine w_iinc 3 [(3, .int x_44), (0, .ref a0), (1, .int x1), (2, .int x2)] (μ := m_X10_learn) (pc := 105) dX10_learn_105 rfl (by rw [e_45]; rfl) (by decide) rfl ?_
    refine w_goto 7 (μ := m_X10_learn) (pc := 108) dX10_learn_108 (by decide) ?_
    refine w_lv [1, 2, 3, 0] rfl ?_
    exact hk7 _ _
def J_X10_learn_63 (N : Nat) (g : gp) (a0 : Nat) (x1 : Int32) (x2 : Int32) (kt7 : Int32 → dp → Option (dp)) (xs0 : Int32) (xs1 : Int32) (as2 : Nat) (x3v : Int32) (δ : dp) : Option (dp) :=
  if xs1 < 0 ∨ q_N g as2 ≤ xs1.toNatClampNeg then none else bd (s_R δ as2 xs1.toNatClampNeg xs0) fun δ_26 => (q_O g 10 6 a0).bind fun b_28 => if x1 < 0 ∨ q_N g b_28 ≤ x1.toNatClampNeg then none else (q_E g b_28 x1.toNatClampNeg).bind fun b_30 => if x3v = 0 then (J_X10_learn_89 N g a0 x1 x2 kt7 0 x3v b_30 x3v δ_26) else ((q_O g 10 6 a0).bind fun b_33 => if x1 < 0 ∨ q_N g b_33 ≤ x1.toNatClampNeg then none else (q_E g b_33 x1.toNatClampNeg).bind fun b_35 => if (x3v - 1) < 0 ∨ q_N g b_35 ≤ (x3v - 1).toNatClampNeg then none else J_X10_learn_89 N g a0 x1 x2 kt7 (q_J δ_26 b_35 (x3v - 1).toNatClampNeg) x3v b_30 x3v δ_26)
set_option maxHeartbeats 4000000 in
set_option maxRecDepth 100000 in
theorem t_J_X10_learn_63 {l : Launch} {D : va_G} {cy : Nat → ClassId} {N d : Nat} {g : gp} (wt : WT g) (hl : l.stackTraces = false) (hd : 24 ≤ d) {a0 : Nat} {x1 : Int32} {x2 : Int32} (k0 : q_K g a0 = 10) {kt7 : Int32 → dp → Option (dp)} (hk7 : ∀ (x3v : Int32) (δ : dp), AWD l D cy m_X10_learn d 0 0 ev g 7 [(0, .ref a0), (1, .int x1), (2, .int x2), (3, .int x3v)] [] δ (kt7 x3v δ)) : ∀ (xs0 : Int32) (xs1 : Int32) (as2 : Nat) (x3v : Int32) (δ : dp), q_K g as2 = 13 → AWD l D cy m_X10_learn d 0 0 ev g 63 [(0, .ref a0), (1, .int x1), (2, .int x2), (3, .int x3v)] [.int xs0, .int xs1, .ref as2] δ (J_X10_learn_63 N g a0 x1 x2 kt7 xs0 xs1 as2 x3v δ) := by
    intro xs0 xs1 as2 x3v δ has2
    unfold J_X10_learn_63
    refine w_ast (μ := m_X10_learn) (pc := 63) dX10_learn_63 has2 ?_
    refine w_bd (fun δ_26 e_27 => ?_)
    refine w_aload_n 0 0 (μ := m_X10_learn) (pc := 64) dX10_learn_64 rfl rfl ?_
    refine w_getO (μ := m_X10_learn) (pc := 65) dX10_learn_65 fl_X10_34 ir_10_6 id_10_6 k0 (fun b_28 e_29 => ?_)
    refine w_iload_n 1 1 (μ := m_X10_learn) (pc := 68) dX10_learn_68 rfl rfl ?_
    refine w_aald 6 (ty := (.array .long)) (μ := m_X10_learn) (pc := 69) dX10_learn_69 (wt_10_6 wt k0 e_29) (by decide) rfl rfl (by decide) (fun b_30 e_31 => ?_)
    refine w_iload_n 3 3 (μ := m_X10_learn) (pc := 70) dX10_learn_70 rfl rfl ?_
    refine w_iload_n 3 3 (μ := m_X10_learn) (pc := 71) dX10_learn_71 rfl rfl ?_
    refine w_if_ne 79 (μ := m_X10_learn) (pc := 72) dX10_learn_72 (by decide) (fun c_32 => ?_) (fun c_32 => ?_)
    · refine w_aload_n 0 0 (μ := m_X10_learn) (pc := 79) dX10_learn_79 rfl rfl ?_
      refine w_getO (μ := m_X10_learn) (pc := 80) dX10_learn_80 fl_X10_34 ir_10_6 id_10_6 k0 (fun b_33 e_34 => ?_)
      refine w_iload_n 1 1 (μ := m_X10_learn) (pc := 83) dX10_learn_83 rfl rfl ?_
      refine w_aald 6 (ty := (.array .long)) (μ := m_X10_learn) (pc := 84) dX10_learn_84 (wt_10_6 wt k0 e_34) (by decide) rfl rfl (by decide) (fun b_35 e_36 => ?_)
      refine w_iload_n 3 3 (μ := m_X10_learn) (pc := 85) dX10_learn_85 rfl rfl ?_
      refine w_iconst (v := 1) (μ := m_X10_learn) (pc := 86) dX10_learn_86 (by decide) ?_
      refine w_isub (μ := m_X10_learn) (pc := 87) dX10_learn_87 ?_
      refine w_lald (μ := m_X10_learn) (pc := 88) dX10_learn_88 (we_19 wt (wt_10_6 wt k0 e_34) e_36) ?_
      exact t_J_X10_learn_89 wt hl (by omega) k0 hk7 _ _ _ _ _ (we_19 wt (wt_10_6 wt k0 e_29) e_31)
    · refine w_lconst (v := 0) (μ := m_X10_learn) (pc := 75) dX10_learn_75 (by decide) ?_
      refine w_goto 89 (μ := m_X10_learn) (pc := 76) dX10_learn_76 (by decide) ?_
      exact t_J_X10_learn_89 wt hl (by omega) k0 hk7 _ _ _ _ _ (we_19 wt (wt_10_6 wt k0 e_29) e_31)
def J_X10_learn_37 (N : Nat) (g : gp) (a0 : Nat) (x1 : Int32) (x2 : Int32) (kt7 : Int32 → dp → Option (dp)) (xs0 : Int32) (xs1 : Int32) (as2 : Nat) (x3v : Int32) (δ : dp) : Option (dp) :=
  if xs1 < 0 ∨ q_N g as2 ≤ xs1.toNatClampNeg then none else bd (s_R δ as2 xs1.toNatClampNeg xs0) fun δ_15 => (q_O g 10 5 a0).bind fun b_17 => if x1 < 0 ∨ q_N g b_17 ≤ x1.toNatClampNeg then none else (q_E g b_17 x1.toNatClampNeg).bind fun b_19 => if x3v = 0 then (J_X10_learn_63 N g a0 x1 x2 kt7 0 x3v b_19 x3v δ_15) else ((q_O g 10 5 a0).bind fun b_22 => if x1 < 0 ∨ q_N g b_22 ≤ x1.toNatClampNeg then none else (q_E g b_22 x1.toNatClampNeg).bind fun b_24 => if (x3v - 1) < 0 ∨ q_N g b_24 ≤ (x3v - 1).toNatClampNeg then none else J_X10_learn_63 N g a0 x1 x2 kt7 (q_R δ_15 b_24 (x3v - 1).toNatClampNeg) x3v b_19 x3v δ_15)
set_option maxHeartbeats 4000000 in
set_option maxRecDepth 100000 in
theorem t_J_X10_learn_37 {l : Launch} {D : va_G} {cy : Nat → ClassId} {N d : Nat} {g : gp} (wt : WT g) (hl : l.stackTraces = false) (hd : 24 ≤ d) {a0 : Nat} {x1 : Int32} {x2 : Int32} (k0 : q_K g a0 = 10) {kt7 : Int32 → dp → Option (dp)} (hk7 : ∀ (x3v : Int32) (δ : dp), AWD l D cy m_X10_learn d 0 0 ev g 7 [(0, .ref a0), (1, .int x1), (2, .int x2), (3, .int x3v)] [] δ (kt7 x3v δ)) : ∀ (xs0 : Int32) (xs1 : Int32) (as2 : Nat) (x3v : Int32) (δ : dp), q_K g as2 = 13 → AWD l D cy m_X10_learn d 0 0 ev g 37 [(0, .ref a0), (1, .int x1), (2, .int x2), (3, .int x3v)] [.int xs0, .int xs1, .ref as2] δ (J_X10_learn_37 N g a0 x1 x2 kt7 xs0 xs1 as2 x3v δ) := by
    intro xs0 xs1 as2 x3v δ has2
    unfold J_X10_learn_37
    refine w_ast (μ := m_X10_learn) (pc := 37) dX10_learn_37 has2 ?_
    refine w_bd (fun δ_15 e_16 => ?_)
    refine w_aload_n 0 0 (μ := m_X10_learn) (pc := 38) dX10_learn_38 rfl rfl ?_
    refine w_getO (μ := m_X10_learn) (pc := 39) dX10_learn_39 fl_X10_29 ir_10_5 id_10_5 k0 (fun b_17 e_18 => ?_)
    refine w_iload_n 1 1 (μ := m_X10_learn) (pc := 42) dX10_learn_42 rfl rfl ?_
    refine w_aald 5 (ty := (.array .int)) (μ := m_X10_learn) (pc := 43) dX10_learn_43 (wt_10_5 wt k0 e_18) (by decide) rfl rfl (by decide) (fun b_19 e_20 => ?_)
    refine w_iload_n 3 3 (μ := m_X10_learn) (pc := 44) dX10_learn_44 rfl rfl ?_
    refine w_iload_n 3 3 (μ := m_X10_learn) (pc := 45) dX10_learn_45 rfl rfl ?_
    refine w_if_ne 53 (μ := m_X10_learn) (pc := 46) dX10_learn_46 (by decide) (fun c_21 => ?_) (fun c_21 => ?_)
    · refine w_aload_n 0 0 (μ := m_X10_learn) (pc := 53) dX10_learn_53 rfl rfl ?_
      refine w_getO (μ := m_X10_learn) (pc := 54) dX10_learn_54 fl_X10_29 ir_10_5 id_10_5 k0 (fun b_22 e_23 => ?_)
      refine w_iload_n 1 1 (μ := m_X10_learn) (pc := 57) dX10_learn_57 rfl rfl ?_
      refine w_aald 5 (ty := (.array .int)) (μ := m_X10_learn) (pc := 58) dX10_learn_58 (wt_10_5 wt k0 e_23) (by decide) rfl rfl (by decide) (fun b_24 e_25 => ?_)
      refine w_iload_n 3 3 (μ := m_X10_learn) (pc := 59) dX10_learn_59 rfl rfl ?_
      refine w_iconst (v := 1) (μ := m_X10_learn) (pc := 60) dX10_learn_60 (by decide) ?_
      refine w_isub (μ := m_X10_learn) (pc := 61) dX10_learn_61 ?_
      refine w_ald (μ := m_X10_learn) (pc := 62) dX10_learn_62 (we_18 wt (wt_10_5 wt k0 e_23) e_25) ?_
      exact t_J_X10_learn_63 wt hl (by omega) k0 hk7 _ _ _ _ _ (we_18 wt (wt_10_5 wt k0 e_18) e_20)
    · refine w_iconst (v := 0) (μ := m_X10_learn) (pc := 49) dX10_learn_49 (by decide) ?_
      refine w_goto 63 (μ := m_X10_learn) (pc := 50) dX10_learn_50 (by decide) ?_
      exact t_J_X10_learn_63 wt hl (by omega) k0 hk7 _ _ _ _ _ (we_18 wt (wt_10_5 wt k0 e_18) e_20)
def L_X10_learn_7 (N : Nat) (g : gp) (a0 : Nat) (x1 : Int32) (x2 : Int32) : Nat → Int32 → dp → Option (dp)
  | 0, _, _ => none
  | n + 1, x3v, δ => if x2 < x3v then (some δ) else ((q_O g 10 4 a0).bind fun b_6 => if x1 < 0 ∨ q_N g b_6 ≤ x1.toNatClampNeg then none else (q_E g b_6 x1.toNatClampNeg).bind fun b_8 => if x3v = 0 then (J_X10_learn_37 N g a0 x1 x2 (L_X10_learn_7 N g a0 x1 x2 n) 0 x3v b_8 x3v δ) else ((q_O g 10 4 a0).bind fun b_11 => if x1 < 0 ∨ q_N g b_11 ≤ x1.toNatClampNeg then none else (q_E g b_11 x1.toNatClampNeg).bind fun b_13 => if (x3v - 1) < 0 ∨ q_N g b_13 ≤ (x3v - 1).toNatClampNeg then none else J_X10_learn_37 N g a0 x1 x2 (L_X10_learn_7 N g a0 x1 x2 n) (q_R δ b_13 (x3v - 1).toNatClampNeg) x3v b_8 x3v δ))
set_option maxHeartbeats 4000000 in
set_option maxRecDepth 100000 in
theorem t_L_X10_learn_7 {l : Launch} {D : va_G} {cy : Nat → ClassId} {N d : Nat} {g : gp} (wt : WT g) (hl : l.stackTraces = false) (hd : 24 ≤ d) {a0 : Nat} {x1 : Int32} {x2 : Int32} (k0 : q_K g a0 = 10) : ∀ (n : Nat) (x3v : Int32) (δ : dp), AWD l D cy m_X10_learn d 0 0 ev g 7 [(0, .ref a0), (1, .int x1), (2, .int x2), (3, .int x3v)] [] δ (L_X10_learn_7 N g a0 x1 x2 n x3v δ) := by
  intro n
  induction n with
  | zero => intro x3v δ ; exact w_none
  | succ n ih =>
    intro x3v δ 
    unfold L_X10_learn_7
    refine w_iload_n 3 3 (μ := m_X10_learn) (pc := 7) dX10_learn_7 rfl rfl ?_
    refine w_iload_n 2 2 (μ := m_X10_learn) (pc := 8) dX10_learn_8 rfl rfl ?_
    refine w_icmp_gt 111 (μ := m_X10_learn) (pc := 9) dX10_learn_9 (by decide) (fun c_5 => ?_) (fun c_5 => ?_)
    · exact w_vret (μ := m_X10_learn) (pc := 111) dX10_learn_111 rfl rfl
    · refine w_aload_n 0 0 (μ := m_X10_learn) (pc := 12) dX10_learn_12 rfl rfl ?_
      refine w_getO (μ := m_X10_learn) (pc := 13) dX10_learn_13 fl_X10_26 ir_10_4 id_10_4 k0 (fun b_6 e_7 => ?_)
      refine w_iload_n 1 1 (μ := m_X10_learn) (pc := 16) dX10_learn_16 rfl rfl ?_
      refine w_aald 5 (ty := (.array .int)) (μ := m_X10_learn) (pc := 17) dX10_learn_17 (wt_10_4 wt k0 e_7) (by decide) rfl rfl (by decide) (fun b_8 e_9 => ?_)
      refine w_iload_n 3 3 (μ := m_X10_learn) (pc := 18) dX10_learn_18 rfl rfl ?_
      refine w_iload_n 3 3 (μ := m_X10_learn) (pc := 19) dX10_learn_19 rfl rfl ?_
      refine w_if_ne 27 (μ := m_X10_learn) (pc := 20) dX10_learn_20 (by decide) (fun c_10 => ?_) (fun c_10 => ?_)
      · refine w_aload_n 0 0 (μ := m_X10_learn) (pc := 27) dX10_learn_27 rfl rfl ?_
        refine w_getO (μ := m_X10_learn) (pc := 28) dX10_learn_28 fl_X10_26 ir_10_4 id_10_4 k0 (fun b_11 e_12 => ?_)
        refine w_iload_n 1 1 (μ := m_X10_learn) (pc := 31) dX10_learn_31 rfl rfl ?_
        refine w_aald 5 (ty := (.array .int)) (μ := m_X10_learn) (pc := 32) dX10_learn_32 (wt_10_4 wt k0 e_12) (by decide) rfl rfl (by decide) (fun b_13 e_14 => ?_)
        refine w_iload_n 3 3 (μ := m_X10_learn) (pc := 33) dX10_learn_33 rfl rfl ?_
        refine w_iconst (v := 1) (μ := m_X10_learn) (pc := 34) dX10_learn_34 (by decide) ?_
        refine w_isub (μ := m_X10_learn) (pc := 35) dX10_learn_35 ?_
        refine w_ald (μ := m_X10_learn) (pc := 36) dX10_learn_36 (we_18 wt (wt_10_4 wt k0 e_12) e_14) ?_
        exact t_J_X10_learn_37 wt hl (by omega) k0 ih _ _ _ _ _ (we_18 wt (wt_10_4 wt k0 e_7) e_9)
      · refine w_iconst (v := 0) (μ := m_X10_learn) (pc := 23) dX10_learn_23 (by decide) ?_
        refine w_goto 37 (μ := m_X10_learn) (pc := 24) dX10_learn_24 (by decide) ?_
        exact t_J_X10_learn_37 wt hl (by omega) k0 ih _ _ _ _ _ (we_18 wt (wt_10_4 wt k0 e_7) e_9)
def D_X10_learn (N : Nat) (g : gp) (a0 : Nat) (x1 : Int32) (x2 : Int32) (δ : dp) : Option (dp) :=
  (q_O g 10 3 a0).bind fun b_1 => if x1 < 0 ∨ q_N g b_1 ≤ x1.toNatClampNeg then none else bi (q_R δ b_1 x1.toNatClampNeg) fun x_3 => L_X10_learn_7 N g a0 x1 x2 N x_3 δ
set_option maxHeartbeats 4000000 in
set_option maxRecDepth 100000 in
theorem c_X10_learn {l : Launch} {D : va_G} {cy : Nat → ClassId} {N d : Nat} {g : gp} (wt : WT g) (hl : l.stackTraces = false) (hd : 24 ≤ d) {a0 : Nat} {x1 : Int32} {x2 : Int32} {δ : dp} (k0 : q_K g a0 = 10) : CalD l D cy m_X10_learn d 0 0 ev g [.ref a0, .int x1, .int x2] δ (D_X10_learn N g a0 x1 x2 δ) := by
  refine CalD.of (by decide +kernel) (Nat.le_of_ble_eq_true rfl) hl ?_
  unfold D_X10_learn
  refine w_aload_n 0 0 (μ := m_X10_learn) (pc := 0) dX10_learn_0 rfl rfl ?_
  refine w_getO (μ := m_X10_learn) (pc := 1) dX10_learn_1 fl_X10_20 ir_10_3 id_10_3 k0 (fun b_1 e_2 => ?_)
  refine w_iload_n 1 1 (μ := m_X10_learn) (pc := 4) dX10_learn_4 rfl rfl ?_
  refine w_ald (μ := m_X10_learn) (pc := 5) dX10_learn_5 (wt_10_3 wt k0 e_2) ?_
  refine w_bi (fun x_3 e_4 => ?_)
  refine w_istore_n [(3, .int x_3), (0, .ref a0), (1, .int x1), (2, .int x2)] (μ := m_X10_learn) (pc := 6) dX10_learn_6 rfl (by decide) rfl ?_
  refine w_lv [1, 2, 3, 0] rfl ?_
  exact t_L_X10_learn_7 wt hl (by omega) k0 N _ _
