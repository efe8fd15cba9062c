theorem dX12_thrown_0 : decode cX12_thrown 0 = .ok (.aload_n 0, 1) := by decide +kernel
theorem dX12_thrown_1 : decode cX12_thrown 1 = .ok (.getfield 1, 3) := by decide +kernel
theorem dX12_thrown_4 : decode cX12_thrown 4 = .ok (.ireturn, 1) := by decide +kernel
theorem dX12_may_0 : decode cX12_may 0 = .ok (.iload_n 1, 1) := by decide +kernel
theorem dX12_may_1 : decode cX12_may 1 = .ok (.ifCond .ne 25, 3) := by decide +kernel
theorem dX12_may_4 : decode cX12_may 4 = .ok (.aload_n 0, 1) := by decide +kernel
theorem dX12_may_5 : decode cX12_may 5 = .ok (.getfield 1, 3) := by decide +kernel
theorem dX12_may_8 : decode cX12_may 8 = .ok (.ifCond .ne 18, 3) := by decide +kernel
theorem dX12_may_11 : decode cX12_may 11 = .ok (.aload_n 0, 1) := by decide +kernel
theorem dX12_may_12 : decode cX12_may 12 = .ok (.iload_n 2, 1) := by decide +kernel
theorem dX12_may_13 : decode cX12_may 13 = .ok (.putfield 1, 3) := by decide +kernel
theorem dX12_may_16 : decode cX12_may 16 = .ok (.aload_n 0, 1) := by decide +kernel
theorem dX12_may_17 : decode cX12_may 17 = .ok (.getfield 7, 3) := by decide +kernel
theorem dX12_may_20 : decode cX12_may 20 = .ok (.iload_n 3, 1) := by decide +kernel
theorem dX12_may_21 : decode cX12_may 21 = .ok (.dup2, 1) := by decide +kernel
theorem dX12_may_22 : decode cX12_may 22 = .ok (.iaload, 1) := by decide +kernel
theorem dX12_may_23 : decode cX12_may 23 = .ok (.iconst 1, 1) := by decide +kernel
theorem dX12_may_24 : decode cX12_may 24 = .ok (.iadd, 1) := by decide +kernel
theorem dX12_may_25 : decode cX12_may 25 = .ok (.iastore, 1) := by decide +kernel
theorem dX12_may_26 : decode cX12_may 26 = .ok (.aload_n 0, 1) := by decide +kernel
theorem dX12_may_27 : decode cX12_may 27 = .ok (.getfield 1, 3) := by decide +kernel
theorem dX12_may_30 : decode cX12_may 30 = .ok (.ifCond .ne 7, 3) := by decide +kernel
theorem dX12_may_33 : decode cX12_may 33 = .ok (.iconst 1, 1) := by decide +kernel
theorem dX12_may_34 : decode cX12_may 34 = .ok (.goto 4, 3) := by decide +kernel
theorem dX12_may_37 : decode cX12_may 37 = .ok (.iconst 0, 1) := by decide +kernel
theorem dX12_may_38 : decode cX12_may 38 = .ok (.ireturn, 1) := by decide +kernel
theorem dX12_within_0 : decode cX12_within 0 = .ok (.iload_n 0, 1) := by decide +kernel
theorem dX12_within_1 : decode cX12_within 1 = .ok (.iload_n 1, 1) := by decide +kernel
theorem dX12_within_2 : decode cX12_within 2 = .ok (.if_icmp .lt 12, 3) := by decide +kernel
theorem dX12_within_5 : decode cX12_within 5 = .ok (.iload_n 0, 1) := by decide +kernel
theorem dX12_within_6 : decode cX12_within 6 = .ok (.iload_n 2, 1) := by decide +kernel
theorem dX12_within_7 : decode cX12_within 7 = .ok (.if_icmp .gt 7, 3) := by decide +kernel
theorem dX12_within_10 : decode cX12_within 10 = .ok (.iconst 1, 1) := by decide +kernel
theorem dX12_within_11 : decode cX12_within 11 = .ok (.goto 4, 3) := by decide +kernel
theorem dX12_within_14 : decode cX12_within 14 = .ok (.iconst 0, 1) := by decide +kernel
theorem dX12_within_15 : decode cX12_within 15 = .ok (.ireturn, 1) := by decide +kernel
theorem dX12_feed_0 : decode cX12_feed 0 = .ok (.aload_n 0, 1) := by decide +kernel
theorem dX12_feed_1 : decode cX12_feed 1 = .ok (.iconst 0, 1) := by decide +kernel
theorem dX12_feed_2 : decode cX12_feed 2 = .ok (.putfield 1, 3) := by decide +kernel
theorem dX12_feed_5 : decode cX12_feed 5 = .ok (.aload_n 0, 1) := by decide +kernel
theorem dX12_feed_6 : decode cX12_feed 6 = .ok (.getfield 109, 3) := by decide +kernel
theorem dX12_feed_9 : decode cX12_feed 9 = .ok (.bipush 20, 2) := by decide +kernel
theorem dX12_feed_11 : decode cX12_feed 11 = .ok (.iadd, 1) := by decide +kernel
theorem dX12_feed_12 : decode cX12_feed 12 = .ok (.sipush 500, 3) := by decide +kernel
theorem dX12_feed_15 : decode cX12_feed 15 = .ok (.if_icmp .le 5, 3) := by decide +kernel
theorem dX12_feed_18 : decode cX12_feed 18 = .ok (.iconst (-1), 1) := by decide +kernel
theorem dX12_feed_19 : decode cX12_feed 19 = .ok (.ireturn, 1) := by decide +kernel
theorem dX12_feed_20 : decode cX12_feed 20 = .ok (.iconst 0, 1) := by decide +kernel
theorem dX12_feed_21 : decode cX12_feed 21 = .ok (.istore 6, 2) := by decide +kernel
theorem dX12_feed_23 : decode cX12_feed 23 = .ok (.iload 6, 2) := by decide +kernel
theorem dX12_feed_25 : decode cX12_feed 25 = .ok (.bipush 20, 2) := by decide +kernel
theorem dX12_feed_27 : decode cX12_feed 27 = .ok (.if_icmp .ge 93, 3) := by decide +kernel
theorem dX12_feed_30 : decode cX12_feed 30 = .ok (.iload 6, 2) := by decide +kernel
theorem dX12_feed_32 : decode cX12_feed 32 = .ok (.iconst 4, 1) := by decide +kernel
theorem dX12_feed_33 : decode cX12_feed 33 = .ok (.if_icmp .ge 7, 3) := by decide +kernel
theorem dX12_feed_36 : decode cX12_feed 36 = .ok (.iload_n 1, 1) := by decide +kernel
theorem dX12_feed_37 : decode cX12_feed 37 = .ok (.goto 39, 3) := by decide +kernel
theorem dX12_feed_40 : decode cX12_feed 40 = .ok (.iload 6, 2) := by decide +kernel
theorem dX12_feed_42 : decode cX12_feed 42 = .ok (.bipush 8, 2) := by decide +kernel
theorem dX12_feed_44 : decode cX12_feed 44 = .ok (.if_icmp .ge 7, 3) := by decide +kernel
theorem dX12_feed_47 : decode cX12_feed 47 = .ok (.iload_n 2, 1) := by decide +kernel
theorem dX12_feed_48 : decode cX12_feed 48 = .ok (.goto 28, 3) := by decide +kernel
theorem dX12_feed_51 : decode cX12_feed 51 = .ok (.iload 6, 2) := by decide +kernel
theorem dX12_feed_53 : decode cX12_feed 53 = .ok (.bipush 12, 2) := by decide +kernel
theorem dX12_feed_55 : decode cX12_feed 55 = .ok (.if_icmp .ge 7, 3) := by decide +kernel
theorem dX12_feed_58 : decode cX12_feed 58 = .ok (.iload_n 3, 1) := by decide +kernel
theorem dX12_feed_59 : decode cX12_feed 59 = .ok (.goto 17, 3) := by decide +kernel
theorem dX12_feed_62 : decode cX12_feed 62 = .ok (.iload 6, 2) := by decide +kernel
theorem dX12_feed_64 : decode cX12_feed 64 = .ok (.bipush 16, 2) := by decide +kernel
theorem dX12_feed_66 : decode cX12_feed 66 = .ok (.if_icmp .ge 8, 3) := by decide +kernel
theorem dX12_feed_69 : decode cX12_feed 69 = .ok (.iload 4, 2) := by decide +kernel
theorem dX12_feed_71 : decode cX12_feed 71 = .ok (.goto 5, 3) := by decide +kernel
theorem dX12_feed_74 : decode cX12_feed 74 = .ok (.iload 5, 2) := by decide +kernel
theorem dX12_feed_76 : decode cX12_feed 76 = .ok (.istore 7, 2) := by decide +kernel
theorem dX12_feed_78 : decode cX12_feed 78 = .ok (.aload_n 0, 1) := by decide +kernel
theorem dX12_feed_79 : decode cX12_feed 79 = .ok (.getfield 20, 3) := by decide +kernel
theorem dX12_feed_82 : decode cX12_feed 82 = .ok (.aload_n 0, 1) := by decide +kernel
theorem dX12_feed_83 : decode cX12_feed 83 = .ok (.getfield 109, 3) := by decide +kernel
theorem dX12_feed_86 : decode cX12_feed 86 = .ok (.iload 7, 2) := by decide +kernel
theorem dX12_feed_88 : decode cX12_feed 88 = .ok (.bipush 24, 2) := by decide +kernel
theorem dX12_feed_90 : decode cX12_feed 90 = .ok (.bipush 8, 2) := by decide +kernel
theorem dX12_feed_92 : decode cX12_feed 92 = .ok (.iload 6, 2) := by decide +kernel
theorem dX12_feed_94 : decode cX12_feed 94 = .ok (.iconst 4, 1) := by decide +kernel
theorem dX12_feed_95 : decode cX12_feed 95 = .ok (.irem, 1) := by decide +kernel
theorem dX12_feed_96 : decode cX12_feed 96 = .ok (.imul, 1) := by decide +kernel
theorem dX12_feed_97 : decode cX12_feed 97 = .ok (.isub, 1) := by decide +kernel
theorem dX12_feed_98 : decode cX12_feed 98 = .ok (.ishr, 1) := by decide +kernel
theorem dX12_feed_99 : decode cX12_feed 99 = .ok (.sipush 255, 3) := by decide +kernel
theorem dX12_feed_102 : decode cX12_feed 102 = .ok (.iand, 1) := by decide +kernel
theorem dX12_feed_103 : decode cX12_feed 103 = .ok (.iastore, 1) := by decide +kernel
theorem dX12_feed_104 : decode cX12_feed 104 = .ok (.aload_n 0, 1) := by decide +kernel
theorem dX12_feed_105 : decode cX12_feed 105 = .ok (.dup, 1) := by decide +kernel
theorem dX12_feed_106 : decode cX12_feed 106 = .ok (.getfield 109, 3) := by decide +kernel
theorem dX12_feed_109 : decode cX12_feed 109 = .ok (.iconst 1, 1) := by decide +kernel
theorem dX12_feed_110 : decode cX12_feed 110 = .ok (.iadd, 1) := by decide +kernel
theorem dX12_feed_111 : decode cX12_feed 111 = .ok (.putfield 109, 3) := by decide +kernel
theorem dX12_feed_114 : decode cX12_feed 114 = .ok (.iinc 6 1, 3) := by decide +kernel
theorem dX12_feed_117 : decode cX12_feed 117 = .ok (.goto (-94), 3) := by decide +kernel
theorem dX12_feed_120 : decode cX12_feed 120 = .ok (.aload_n 0, 1) := by decide +kernel
theorem dX12_feed_121 : decode cX12_feed 121 = .ok (.getfield 109, 3) := by decide +kernel
theorem dX12_feed_124 : decode cX12_feed 124 = .ok (.ireturn, 1) := by decide +kernel
theorem dX12_fine_0 : decode cX12_fine 0 = .ok (.aload_n 0, 1) := by decide +kernel
theorem dX12_fine_1 : decode cX12_fine 1 = .ok (.getfield 112, 3) := by decide +kernel
theorem dX12_fine_4 : decode cX12_fine 4 = .ok (.iconst (-1), 1) := by decide +kernel
theorem dX12_fine_5 : decode cX12_fine 5 = .ok (.if_icmp .ne 7, 3) := by decide +kernel
theorem dX12_fine_8 : decode cX12_fine 8 = .ok (.iconst 1, 1) := by decide +kernel
theorem dX12_fine_9 : decode cX12_fine 9 = .ok (.goto 4, 3) := by decide +kernel
theorem dX12_fine_12 : decode cX12_fine 12 = .ok (.iconst 0, 1) := by decide +kernel
theorem dX12_fine_13 : decode cX12_fine 13 = .ok (.ireturn, 1) := by decide +kernel
theorem dX12_wrong_0 : decode cX12_wrong 0 = .ok (.aload_n 0, 1) := by decide +kernel
theorem dX12_wrong_1 : decode cX12_wrong 1 = .ok (.getfield 112, 3) := by decide +kernel
theorem dX12_wrong_4 : decode cX12_wrong 4 = .ok (.iconst (-1), 1) := by decide +kernel
theorem dX12_wrong_5 : decode cX12_wrong 5 = .ok (.if_icmp .eq 4, 3) := by decide +kernel
theorem dX12_wrong_8 : decode cX12_wrong 8 = .ok (.return_, 1) := by decide +kernel
theorem dX12_wrong_9 : decode cX12_wrong 9 = .ok (.aload_n 0, 1) := by decide +kernel
theorem dX12_wrong_10 : decode cX12_wrong 10 = .ok (.iload_n 2, 1) := by decide +kernel
theorem dX12_wrong_11 : decode cX12_wrong 11 = .ok (.putfield 112, 3) := by decide +kernel
theorem dX12_wrong_14 : decode cX12_wrong 14 = .ok (.aload_n 0, 1) := by decide +kernel
theorem dX12_wrong_15 : decode cX12_wrong 15 = .ok (.iload_n 1, 1) := by decide +kernel
theorem dX12_wrong_16 : decode cX12_wrong 16 = .ok (.putfield 115, 3) := by decide +kernel
theorem dX12_wrong_19 : decode cX12_wrong 19 = .ok (.return_, 1) := by decide +kernel
theorem dX12_here_0 : decode cX12_here 0 = .ok (.aload_n 0, 1) := by decide +kernel
theorem dX12_here_1 : decode cX12_here 1 = .ok (.getfield 118, 3) := by decide +kernel
theorem dX12_here_4 : decode cX12_here 4 = .ok (.aload_n 0, 1) := by decide +kernel
theorem dX12_here_5 : decode cX12_here 5 = .ok (.getfield 121, 3) := by decide +kernel
theorem dX12_here_8 : decode cX12_here 8 = .ok (.if_icmp .ge 30, 3) := by decide +kernel
theorem dX12_here_11 : decode cX12_here 11 = .ok (.aload_n 0, 1) := by decide +kernel
theorem dX12_here_12 : decode cX12_here 12 = .ok (.getfield 20, 3) := by decide +kernel
theorem dX12_here_15 : decode cX12_here 15 = .ok (.aload_n 0, 1) := by decide +kernel
theorem dX12_here_16 : decode cX12_here 16 = .ok (.getfield 118, 3) := by decide +kernel
theorem dX12_here_19 : decode cX12_here 19 = .ok (.iaload, 1) := by decide +kernel
theorem dX12_here_20 : decode cX12_here 20 = .ok (.bipush 32, 2) := by decide +kernel
theorem dX12_here_22 : decode cX12_here 22 = .ok (.if_icmp .ne 16, 3) := by decide +kernel
theorem dX12_here_25 : decode cX12_here 25 = .ok (.aload_n 0, 1) := by decide +kernel
theorem dX12_here_26 : decode cX12_here 26 = .ok (.dup, 1) := by decide +kernel
theorem dX12_here_27 : decode cX12_here 27 = .ok (.getfield 118, 3) := by decide +kernel
theorem dX12_here_30 : decode cX12_here 30 = .ok (.iconst 1, 1) := by decide +kernel
theorem dX12_here_31 : decode cX12_here 31 = .ok (.iadd, 1) := by decide +kernel
theorem dX12_here_32 : decode cX12_here 32 = .ok (.putfield 118, 3) := by decide +kernel
theorem dX12_here_35 : decode cX12_here 35 = .ok (.goto (-35), 3) := by decide +kernel
theorem dX12_here_38 : decode cX12_here 38 = .ok (.aload_n 0, 1) := by decide +kernel
theorem dX12_here_39 : decode cX12_here 39 = .ok (.getfield 118, 3) := by decide +kernel
theorem dX12_here_42 : decode cX12_here 42 = .ok (.aload_n 0, 1) := by decide +kernel
theorem dX12_here_43 : decode cX12_here 43 = .ok (.getfield 121, 3) := by decide +kernel
theorem dX12_here_46 : decode cX12_here 46 = .ok (.if_icmp .ge 15, 3) := by decide +kernel
theorem dX12_here_49 : decode cX12_here 49 = .ok (.aload_n 0, 1) := by decide +kernel
theorem dX12_here_50 : decode cX12_here 50 = .ok (.getfield 20, 3) := by decide +kernel
theorem dX12_here_53 : decode cX12_here 53 = .ok (.aload_n 0, 1) := by decide +kernel
theorem dX12_here_54 : decode cX12_here 54 = .ok (.getfield 118, 3) := by decide +kernel
theorem dX12_here_57 : decode cX12_here 57 = .ok (.iaload, 1) := by decide +kernel
theorem dX12_here_58 : decode cX12_here 58 = .ok (.goto 4, 3) := by decide +kernel
theorem dX12_here_61 : decode cX12_here 61 = .ok (.iconst 0, 1) := by decide +kernel
theorem dX12_here_62 : decode cX12_here 62 = .ok (.ireturn, 1) := by decide +kernel
theorem dX12_isSmall_0 : decode cX12_isSmall 0 = .ok (.iload_n 0, 1) := by decide +kernel
theorem dX12_isSmall_1 : decode cX12_isSmall 1 = .ok (.bipush 97, 2) := by decide +kernel
theorem dX12_isSmall_3 : decode cX12_isSmall 3 = .ok (.if_icmp .lt 13, 3) := by decide +kernel
theorem dX12_isSmall_6 : decode cX12_isSmall 6 = .ok (.iload_n 0, 1) := by decide +kernel
theorem dX12_isSmall_7 : decode cX12_isSmall 7 = .ok (.bipush 122, 2) := by decide +kernel
theorem dX12_isSmall_9 : decode cX12_isSmall 9 = .ok (.if_icmp .gt 7, 3) := by decide +kernel
theorem dX12_isSmall_12 : decode cX12_isSmall 12 = .ok (.iconst 1, 1) := by decide +kernel
theorem dX12_isSmall_13 : decode cX12_isSmall 13 = .ok (.goto 4, 3) := by decide +kernel
theorem dX12_isSmall_16 : decode cX12_isSmall 16 = .ok (.iconst 0, 1) := by decide +kernel
theorem dX12_isSmall_17 : decode cX12_isSmall 17 = .ok (.ireturn, 1) := by decide +kernel
theorem dX12_isDigit_0 : decode cX12_isDigit 0 = .ok (.iload_n 0, 1) := by decide +kernel
theorem dX12_isDigit_1 : decode cX12_isDigit 1 = .ok (.bipush 48, 2) := by decide +kernel
theorem dX12_isDigit_3 : decode cX12_isDigit 3 = .ok (.if_icmp .lt 13, 3) := by decide +kernel
theorem dX12_isDigit_6 : decode cX12_isDigit 6 = .ok (.iload_n 0, 1) := by decide +kernel
theorem dX12_isDigit_7 : decode cX12_isDigit 7 = .ok (.bipush 57, 2) := by decide +kernel
theorem dX12_isDigit_9 : decode cX12_isDigit 9 = .ok (.if_icmp .gt 7, 3) := by decide +kernel
theorem dX12_isDigit_12 : decode cX12_isDigit 12 = .ok (.iconst 1, 1) := by decide +kernel
theorem dX12_isDigit_13 : decode cX12_isDigit 13 = .ok (.goto 4, 3) := by decide +kernel
theorem dX12_isDigit_16 : decode cX12_isDigit 16 = .ok (.iconst 0, 1) := by decide +kernel
theorem dX12_isDigit_17 : decode cX12_isDigit 17 = .ok (.ireturn, 1) := by decide +kernel
theorem dX12_word_0 : decode cX12_word 0 = .ok (.aload_n 0, 1) := by decide +kernel
theorem dX12_word_1 : decode cX12_word 1 = .ok (.invokevirtual 124, 3) := by decide +kernel
theorem dX12_word_4 : decode cX12_word 4 = .ok (.pop, 1) := by decide +kernel
theorem dX12_word_5 : decode cX12_word 5 = .ok (.iconst 0, 1) := by decide +kernel
theorem dX12_word_6 : decode cX12_word 6 = .ok (.istore_n 1, 1) := by decide +kernel
theorem dX12_word_7 : decode cX12_word 7 = .ok (.iconst 0, 1) := by decide +kernel
theorem dX12_word_8 : decode cX12_word 8 = .ok (.istore_n 2, 1) := by decide +kernel
theorem dX12_word_9 : decode cX12_word 9 = .ok (.aload_n 0, 1) := by decide +kernel
theorem dX12_word_10 : decode cX12_word 10 = .ok (.getfield 118, 3) := by decide +kernel
theorem dX12_word_13 : decode cX12_word 13 = .ok (.istore_n 3, 1) := by decide +kernel
theorem dX12_word_14 : decode cX12_word 14 = .ok (.iload_n 3, 1) := by decide +kernel
theorem dX12_word_15 : decode cX12_word 15 = .ok (.aload_n 0, 1) := by decide +kernel
theorem dX12_word_16 : decode cX12_word 16 = .ok (.getfield 121, 3) := by decide +kernel
theorem dX12_word_19 : decode cX12_word 19 = .ok (.if_icmp .ge 48, 3) := by decide +kernel
theorem dX12_word_22 : decode cX12_word 22 = .ok (.aload_n 0, 1) := by decide +kernel
theorem dX12_word_23 : decode cX12_word 23 = .ok (.getfield 20, 3) := by decide +kernel
theorem dX12_word_26 : decode cX12_word 26 = .ok (.iload_n 3, 1) := by decide +kernel
theorem dX12_word_27 : decode cX12_word 27 = .ok (.iaload, 1) := by decide +kernel
theorem dX12_word_28 : decode cX12_word 28 = .ok (.invokestatic 128, 3) := by decide +kernel
theorem dX12_word_31 : decode cX12_word 31 = .ok (.ifCond .eq 36, 3) := by decide +kernel
theorem dX12_word_34 : decode cX12_word 34 = .ok (.iload_n 2, 1) := by decide +kernel
theorem dX12_word_35 : decode cX12_word 35 = .ok (.bipush 6, 2) := by decide +kernel
theorem dX12_word_37 : decode cX12_word 37 = .ok (.if_icmp .ge 19, 3) := by decide +kernel
theorem dX12_word_40 : decode cX12_word 40 = .ok (.iload_n 1, 1) := by decide +kernel
theorem dX12_word_41 : decode cX12_word 41 = .ok (.iconst 5, 1) := by decide +kernel
theorem dX12_word_42 : decode cX12_word 42 = .ok (.ishl, 1) := by decide +kernel
theorem dX12_word_43 : decode cX12_word 43 = .ok (.aload_n 0, 1) := by decide +kernel
theorem dX12_word_44 : decode cX12_word 44 = .ok (.getfield 20, 3) := by decide +kernel
theorem dX12_word_47 : decode cX12_word 47 = .ok (.iload_n 3, 1) := by decide +kernel
theorem dX12_word_48 : decode cX12_word 48 = .ok (.iaload, 1) := by decide +kernel
theorem dX12_word_49 : decode cX12_word 49 = .ok (.bipush 96, 2) := by decide +kernel
theorem dX12_word_51 : decode cX12_word 51 = .ok (.isub, 1) := by decide +kernel
theorem dX12_word_52 : decode cX12_word 52 = .ok (.ior, 1) := by decide +kernel
theorem dX12_word_53 : decode cX12_word 53 = .ok (.goto 4, 3) := by decide +kernel
theorem dX12_word_56 : decode cX12_word 56 = .ok (.iconst 0, 1) := by decide +kernel
theorem dX12_word_57 : decode cX12_word 57 = .ok (.istore_n 1, 1) := by decide +kernel
theorem dX12_word_58 : decode cX12_word 58 = .ok (.iinc 2 1, 3) := by decide +kernel
theorem dX12_word_61 : decode cX12_word 61 = .ok (.iinc 3 1, 3) := by decide +kernel
theorem dX12_word_64 : decode cX12_word 64 = .ok (.goto (-50), 3) := by decide +kernel
theorem dX12_word_67 : decode cX12_word 67 = .ok (.iload_n 2, 1) := by decide +kernel
theorem dX12_word_68 : decode cX12_word 68 = .ok (.bipush 6, 2) := by decide +kernel
theorem dX12_word_70 : decode cX12_word 70 = .ok (.if_icmp .le 7, 3) := by decide +kernel
theorem dX12_word_73 : decode cX12_word 73 = .ok (.iconst 0, 1) := by decide +kernel
theorem dX12_word_74 : decode cX12_word 74 = .ok (.goto 4, 3) := by decide +kernel
theorem dX12_word_77 : decode cX12_word 77 = .ok (.iload_n 1, 1) := by decide +kernel
theorem dX12_word_78 : decode cX12_word 78 = .ok (.ireturn, 1) := by decide +kernel
theorem dX12_of_0 : decode cX12_of 0 = .ok (.iconst 0, 1) := by decide +kernel
theorem dX12_of_1 : decode cX12_of 1 = .ok (.istore_n 1, 1) := by decide +kernel
theorem dX12_of_2 : decode cX12_of 2 = .ok (.iconst 0, 1) := by decide +kernel
theorem dX12_of_3 : decode cX12_of 3 = .ok (.istore_n 2, 1) := by decide +kernel
theorem dX12_of_4 : decode cX12_of 4 = .ok (.iload_n 2, 1) := by decide +kernel
theorem dX12_of_5 : decode cX12_of 5 = .ok (.aload_n 0, 1) := by decide +kernel
theorem dX12_of_6 : decode cX12_of 6 = .ok (.invokevirtual 132, 3) := by decide +kernel
theorem dX12_of_9 : decode cX12_of 9 = .ok (.if_icmp .ge 22, 3) := by decide +kernel
theorem dX12_of_12 : decode cX12_of 12 = .ok (.iload_n 1, 1) := by decide +kernel
theorem dX12_of_13 : decode cX12_of 13 = .ok (.iconst 5, 1) := by decide +kernel
theorem dX12_of_14 : decode cX12_of 14 = .ok (.ishl, 1) := by decide +kernel
theorem dX12_of_15 : decode cX12_of 15 = .ok (.aload_n 0, 1) := by decide +kernel
theorem dX12_of_16 : decode cX12_of 16 = .ok (.iload_n 2, 1) := by decide +kernel
theorem dX12_of_17 : decode cX12_of 17 = .ok (.invokevirtual 137, 3) := by decide +kernel
theorem dX12_of_20 : decode cX12_of 20 = .ok (.bipush 96, 2) := by decide +kernel
theorem dX12_of_22 : decode cX12_of 22 = .ok (.isub, 1) := by decide +kernel
theorem dX12_of_23 : decode cX12_of 23 = .ok (.ior, 1) := by decide +kernel
theorem dX12_of_24 : decode cX12_of 24 = .ok (.istore_n 1, 1) := by decide +kernel
theorem dX12_of_25 : decode cX12_of 25 = .ok (.iinc 2 1, 3) := by decide +kernel
theorem dX12_of_28 : decode cX12_of 28 = .ok (.goto (-24), 3) := by decide +kernel
theorem dX12_of_31 : decode cX12_of 31 = .ok (.iload_n 1, 1) := by decide +kernel
theorem dX12_of_32 : decode cX12_of 32 = .ok (.ireturn, 1) := by decide +kernel
theorem dX12_pass_0 : decode cX12_pass 0 = .ok (.aload_n 0, 1) := by decide +kernel
theorem dX12_pass_1 : decode cX12_pass 1 = .ok (.getfield 118, 3) := by decide +kernel
theorem dX12_pass_4 : decode cX12_pass 4 = .ok (.aload_n 0, 1) := by decide +kernel
theorem dX12_pass_5 : decode cX12_pass 5 = .ok (.getfield 121, 3) := by decide +kernel
theorem dX12_pass_8 : decode cX12_pass 8 = .ok (.if_icmp .ge 31, 3) := by decide +kernel
theorem dX12_pass_11 : decode cX12_pass 11 = .ok (.aload_n 0, 1) := by decide +kernel
theorem dX12_pass_12 : decode cX12_pass 12 = .ok (.getfield 20, 3) := by decide +kernel
theorem dX12_pass_15 : decode cX12_pass 15 = .ok (.aload_n 0, 1) := by decide +kernel
theorem dX12_pass_16 : decode cX12_pass 16 = .ok (.getfield 118, 3) := by decide +kernel
theorem dX12_pass_19 : decode cX12_pass 19 = .ok (.iaload, 1) := by decide +kernel
theorem dX12_pass_20 : decode cX12_pass 20 = .ok (.invokestatic 128, 3) := by decide +kernel
theorem dX12_pass_23 : decode cX12_pass 23 = .ok (.ifCond .eq 16, 3) := by decide +kernel
theorem dX12_pass_26 : decode cX12_pass 26 = .ok (.aload_n 0, 1) := by decide +kernel
theorem dX12_pass_27 : decode cX12_pass 27 = .ok (.dup, 1) := by decide +kernel
theorem dX12_pass_28 : decode cX12_pass 28 = .ok (.getfield 118, 3) := by decide +kernel
theorem dX12_pass_31 : decode cX12_pass 31 = .ok (.iconst 1, 1) := by decide +kernel
theorem dX12_pass_32 : decode cX12_pass 32 = .ok (.iadd, 1) := by decide +kernel
theorem dX12_pass_33 : decode cX12_pass 33 = .ok (.putfield 118, 3) := by decide +kernel
theorem dX12_pass_36 : decode cX12_pass 36 = .ok (.goto (-36), 3) := by decide +kernel
theorem dX12_pass_39 : decode cX12_pass 39 = .ok (.return_, 1) := by decide +kernel
theorem dX12_readNumber_0 : decode cX12_readNumber 0 = .ok (.aload_n 0, 1) := by decide +kernel
theorem dX12_readNumber_1 : decode cX12_readNumber 1 = .ok (.invokevirtual 141, 3) := by decide +kernel
theorem dX12_readNumber_4 : decode cX12_readNumber 4 = .ok (.ifCond .ne 5, 3) := by decide +kernel
theorem dX12_readNumber_7 : decode cX12_readNumber 7 = .ok (.iconst 0, 1) := by decide +kernel
theorem dX12_readNumber_8 : decode cX12_readNumber 8 = .ok (.ireturn, 1) := by decide +kernel
theorem dX12_readNumber_9 : decode cX12_readNumber 9 = .ok (.aload_n 0, 1) := by decide +kernel
theorem dX12_readNumber_10 : decode cX12_readNumber 10 = .ok (.invokevirtual 124, 3) := by decide +kernel
theorem dX12_readNumber_13 : decode cX12_readNumber 13 = .ok (.istore_n 3, 1) := by decide +kernel
theorem dX12_readNumber_14 : decode cX12_readNumber 14 = .ok (.aload_n 0, 1) := by decide +kernel
theorem dX12_readNumber_15 : decode cX12_readNumber 15 = .ok (.getfield 118, 3) := by decide +kernel
theorem dX12_readNumber_18 : decode cX12_readNumber 18 = .ok (.istore 4, 2) := by decide +kernel
theorem dX12_readNumber_20 : decode cX12_readNumber 20 = .ok (.iconst 0, 1) := by decide +kernel
theorem dX12_readNumber_21 : decode cX12_readNumber 21 = .ok (.istore 5, 2) := by decide +kernel
theorem dX12_readNumber_23 : decode cX12_readNumber 23 = .ok (.iload_n 3, 1) := by decide +kernel
theorem dX12_readNumber_24 : decode cX12_readNumber 24 = .ok (.invokestatic 145, 3) := by decide +kernel
theorem dX12_readNumber_27 : decode cX12_readNumber 27 = .ok (.ifCond .ne 14, 3) := by decide +kernel
theorem dX12_readNumber_30 : decode cX12_readNumber 30 = .ok (.aload_n 0, 1) := by decide +kernel
theorem dX12_readNumber_31 : decode cX12_readNumber 31 = .ok (.iconst 1, 1) := by decide +kernel
theorem dX12_readNumber_32 : decode cX12_readNumber 32 = .ok (.aload_n 0, 1) := by decide +kernel
theorem dX12_readNumber_33 : decode cX12_readNumber 33 = .ok (.getfield 118, 3) := by decide +kernel
theorem dX12_readNumber_36 : decode cX12_readNumber 36 = .ok (.invokevirtual 148, 3) := by decide +kernel
theorem dX12_readNumber_39 : decode cX12_readNumber 39 = .ok (.iconst 0, 1) := by decide +kernel
theorem dX12_readNumber_40 : decode cX12_readNumber 40 = .ok (.ireturn, 1) := by decide +kernel
theorem dX12_readNumber_41 : decode cX12_readNumber 41 = .ok (.aload_n 0, 1) := by decide +kernel
theorem dX12_readNumber_42 : decode cX12_readNumber 42 = .ok (.getfield 118, 3) := by decide +kernel
theorem dX12_readNumber_45 : decode cX12_readNumber 45 = .ok (.aload_n 0, 1) := by decide +kernel
theorem dX12_readNumber_46 : decode cX12_readNumber 46 = .ok (.getfield 121, 3) := by decide +kernel
theorem dX12_readNumber_49 : decode cX12_readNumber 49 = .ok (.if_icmp .ge 63, 3) := by decide +kernel
theorem dX12_readNumber_52 : decode cX12_readNumber 52 = .ok (.aload_n 0, 1) := by decide +kernel
theorem dX12_readNumber_53 : decode cX12_readNumber 53 = .ok (.getfield 20, 3) := by decide +kernel
theorem dX12_readNumber_56 : decode cX12_readNumber 56 = .ok (.aload_n 0, 1) := by decide +kernel
theorem dX12_readNumber_57 : decode cX12_readNumber 57 = .ok (.getfield 118, 3) := by decide +kernel
theorem dX12_readNumber_60 : decode cX12_readNumber 60 = .ok (.iaload, 1) := by decide +kernel
theorem dX12_readNumber_61 : decode cX12_readNumber 61 = .ok (.invokestatic 145, 3) := by decide +kernel
theorem dX12_readNumber_64 : decode cX12_readNumber 64 = .ok (.ifCond .eq 48, 3) := by decide +kernel
theorem dX12_readNumber_67 : decode cX12_readNumber 67 = .ok (.iload 5, 2) := by decide +kernel
theorem dX12_readNumber_69 : decode cX12_readNumber 69 = .ok (.ldc 152, 2) := by decide +kernel
theorem dX12_readNumber_71 : decode cX12_readNumber 71 = .ok (.if_icmp .le 8, 3) := by decide +kernel
theorem dX12_readNumber_74 : decode cX12_readNumber 74 = .ok (.ldc 153, 2) := by decide +kernel
theorem dX12_readNumber_76 : decode cX12_readNumber 76 = .ok (.goto 21, 3) := by decide +kernel
theorem dX12_readNumber_79 : decode cX12_readNumber 79 = .ok (.bipush 10, 2) := by decide +kernel
theorem dX12_readNumber_81 : decode cX12_readNumber 81 = .ok (.iload 5, 2) := by decide +kernel
theorem dX12_readNumber_83 : decode cX12_readNumber 83 = .ok (.imul, 1) := by decide +kernel
theorem dX12_readNumber_84 : decode cX12_readNumber 84 = .ok (.aload_n 0, 1) := by decide +kernel
theorem dX12_readNumber_85 : decode cX12_readNumber 85 = .ok (.getfield 20, 3) := by decide +kernel
theorem dX12_readNumber_88 : decode cX12_readNumber 88 = .ok (.aload_n 0, 1) := by decide +kernel
theorem dX12_readNumber_89 : decode cX12_readNumber 89 = .ok (.getfield 118, 3) := by decide +kernel
theorem dX12_readNumber_92 : decode cX12_readNumber 92 = .ok (.iaload, 1) := by decide +kernel
theorem dX12_readNumber_93 : decode cX12_readNumber 93 = .ok (.iadd, 1) := by decide +kernel
theorem dX12_readNumber_94 : decode cX12_readNumber 94 = .ok (.bipush 48, 2) := by decide +kernel
theorem dX12_readNumber_96 : decode cX12_readNumber 96 = .ok (.isub, 1) := by decide +kernel
theorem dX12_readNumber_97 : decode cX12_readNumber 97 = .ok (.istore 5, 2) := by decide +kernel
theorem dX12_readNumber_99 : decode cX12_readNumber 99 = .ok (.aload_n 0, 1) := by decide +kernel
theorem dX12_readNumber_100 : decode cX12_readNumber 100 = .ok (.dup, 1) := by decide +kernel
theorem dX12_readNumber_101 : decode cX12_readNumber 101 = .ok (.getfield 118, 3) := by decide +kernel
theorem dX12_readNumber_104 : decode cX12_readNumber 104 = .ok (.iconst 1, 1) := by decide +kernel
theorem dX12_readNumber_105 : decode cX12_readNumber 105 = .ok (.iadd, 1) := by decide +kernel
theorem dX12_readNumber_106 : decode cX12_readNumber 106 = .ok (.putfield 118, 3) := by decide +kernel
theorem dX12_readNumber_109 : decode cX12_readNumber 109 = .ok (.goto (-68), 3) := by decide +kernel
theorem dX12_readNumber_112 : decode cX12_readNumber 112 = .ok (.iload 5, 2) := by decide +kernel
theorem dX12_readNumber_114 : decode cX12_readNumber 114 = .ok (.iload_n 1, 1) := by decide +kernel
theorem dX12_readNumber_115 : decode cX12_readNumber 115 = .ok (.if_icmp .lt 9, 3) := by decide +kernel
theorem dX12_readNumber_118 : decode cX12_readNumber 118 = .ok (.iload 5, 2) := by decide +kernel
theorem dX12_readNumber_120 : decode cX12_readNumber 120 = .ok (.iload_n 2, 1) := by decide +kernel
theorem dX12_readNumber_121 : decode cX12_readNumber 121 = .ok (.if_icmp .le 12, 3) := by decide +kernel
theorem dX12_readNumber_124 : decode cX12_readNumber 124 = .ok (.aload_n 0, 1) := by decide +kernel
theorem dX12_readNumber_125 : decode cX12_readNumber 125 = .ok (.iconst 2, 1) := by decide +kernel
theorem dX12_readNumber_126 : decode cX12_readNumber 126 = .ok (.iload 4, 2) := by decide +kernel
theorem dX12_readNumber_128 : decode cX12_readNumber 128 = .ok (.invokevirtual 148, 3) := by decide +kernel
theorem dX12_readNumber_131 : decode cX12_readNumber 131 = .ok (.iconst 0, 1) := by decide +kernel
theorem dX12_readNumber_132 : decode cX12_readNumber 132 = .ok (.ireturn, 1) := by decide +kernel
theorem dX12_readNumber_133 : decode cX12_readNumber 133 = .ok (.iload 5, 2) := by decide +kernel
theorem dX12_readNumber_135 : decode cX12_readNumber 135 = .ok (.ireturn, 1) := by decide +kernel
theorem dX12_sign_0 : decode cX12_sign 0 = .ok (.aload_n 0, 1) := by decide +kernel
theorem dX12_sign_1 : decode cX12_sign 1 = .ok (.invokevirtual 141, 3) := by decide +kernel
theorem dX12_sign_4 : decode cX12_sign 4 = .ok (.ifCond .eq 20, 3) := by decide +kernel
theorem dX12_sign_7 : decode cX12_sign 7 = .ok (.aload_n 0, 1) := by decide +kernel
theorem dX12_sign_8 : decode cX12_sign 8 = .ok (.invokevirtual 124, 3) := by decide +kernel
theorem dX12_sign_11 : decode cX12_sign 11 = .ok (.iload_n 1, 1) := by decide +kernel
theorem dX12_sign_12 : decode cX12_sign 12 = .ok (.if_icmp .eq 12, 3) := by decide +kernel
theorem dX12_sign_15 : decode cX12_sign 15 = .ok (.aload_n 0, 1) := by decide +kernel
theorem dX12_sign_16 : decode cX12_sign 16 = .ok (.iconst 1, 1) := by decide +kernel
theorem dX12_sign_17 : decode cX12_sign 17 = .ok (.aload_n 0, 1) := by decide +kernel
theorem dX12_sign_18 : decode cX12_sign 18 = .ok (.getfield 118, 3) := by decide +kernel
theorem dX12_sign_21 : decode cX12_sign 21 = .ok (.invokevirtual 148, 3) := by decide +kernel
theorem dX12_sign_24 : decode cX12_sign 24 = .ok (.aload_n 0, 1) := by decide +kernel
theorem dX12_sign_25 : decode cX12_sign 25 = .ok (.invokevirtual 141, 3) := by decide +kernel
theorem dX12_sign_28 : decode cX12_sign 28 = .ok (.ifCond .eq 13, 3) := by decide +kernel
theorem dX12_sign_31 : decode cX12_sign 31 = .ok (.aload_n 0, 1) := by decide +kernel
theorem dX12_sign_32 : decode cX12_sign 32 = .ok (.dup, 1) := by decide +kernel
theorem dX12_sign_33 : decode cX12_sign 33 = .ok (.getfield 118, 3) := by decide +kernel
theorem dX12_sign_36 : decode cX12_sign 36 = .ok (.iconst 1, 1) := by decide +kernel
theorem dX12_sign_37 : decode cX12_sign 37 = .ok (.iadd, 1) := by decide +kernel
theorem dX12_sign_38 : decode cX12_sign 38 = .ok (.putfield 118, 3) := by decide +kernel
theorem dX12_sign_41 : decode cX12_sign 41 = .ok (.return_, 1) := by decide +kernel
theorem dX12_isMore_0 : decode cX12_isMore 0 = .ok (.aload_n 0, 1) := by decide +kernel
theorem dX12_isMore_1 : decode cX12_isMore 1 = .ok (.invokevirtual 124, 3) := by decide +kernel
theorem dX12_isMore_4 : decode cX12_isMore 4 = .ok (.pop, 1) := by decide +kernel
theorem dX12_isMore_5 : decode cX12_isMore 5 = .ok (.aload_n 0, 1) := by decide +kernel
theorem dX12_isMore_6 : decode cX12_isMore 6 = .ok (.getfield 118, 3) := by decide +kernel
theorem dX12_isMore_9 : decode cX12_isMore 9 = .ok (.aload_n 0, 1) := by decide +kernel
theorem dX12_isMore_10 : decode cX12_isMore 10 = .ok (.getfield 121, 3) := by decide +kernel
theorem dX12_isMore_13 : decode cX12_isMore 13 = .ok (.if_icmp .ge 7, 3) := by decide +kernel
theorem dX12_isMore_16 : decode cX12_isMore 16 = .ok (.iconst 1, 1) := by decide +kernel
theorem dX12_isMore_17 : decode cX12_isMore 17 = .ok (.goto 4, 3) := by decide +kernel
theorem dX12_isMore_20 : decode cX12_isMore 20 = .ok (.iconst 0, 1) := by decide +kernel
theorem dX12_isMore_21 : decode cX12_isMore 21 = .ok (.ireturn, 1) := by decide +kernel
theorem dX12_begins_0 : decode cX12_begins 0 = .ok (.aload_n 0, 1) := by decide +kernel
theorem dX12_begins_1 : decode cX12_begins 1 = .ok (.iconst 0, 1) := by decide +kernel
theorem dX12_begins_2 : decode cX12_begins 2 = .ok (.putfield 109, 3) := by decide +kernel
theorem dX12_begins_5 : decode cX12_begins 5 = .ok (.aload_n 0, 1) := by decide +kernel
theorem dX12_begins_6 : decode cX12_begins 6 = .ok (.iconst (-1), 1) := by decide +kernel
theorem dX12_begins_7 : decode cX12_begins 7 = .ok (.putfield 17, 3) := by decide +kernel
theorem dX12_begins_10 : decode cX12_begins 10 = .ok (.aload_n 0, 1) := by decide +kernel
theorem dX12_begins_11 : decode cX12_begins 11 = .ok (.iload_n 1, 1) := by decide +kernel
theorem dX12_begins_12 : decode cX12_begins 12 = .ok (.putfield 121, 3) := by decide +kernel
theorem dX12_begins_15 : decode cX12_begins 15 = .ok (.aload_n 0, 1) := by decide +kernel
theorem dX12_begins_16 : decode cX12_begins 16 = .ok (.iconst 0, 1) := by decide +kernel
theorem dX12_begins_17 : decode cX12_begins 17 = .ok (.putfield 118, 3) := by decide +kernel
theorem dX12_begins_20 : decode cX12_begins 20 = .ok (.aload_n 0, 1) := by decide +kernel
theorem dX12_begins_21 : decode cX12_begins 21 = .ok (.iconst (-1), 1) := by decide +kernel
theorem dX12_begins_22 : decode cX12_begins 22 = .ok (.putfield 112, 3) := by decide +kernel
theorem dX12_begins_25 : decode cX12_begins 25 = .ok (.aload_n 0, 1) := by decide +kernel
theorem dX12_begins_26 : decode cX12_begins 26 = .ok (.iconst 0, 1) := by decide +kernel
theorem dX12_begins_27 : decode cX12_begins 27 = .ok (.putfield 154, 3) := by decide +kernel
theorem dX12_begins_30 : decode cX12_begins 30 = .ok (.return_, 1) := by decide +kernel
theorem dX12_result_0 : decode cX12_result 0 = .ok (.aload_n 0, 1) := by decide +kernel
theorem dX12_result_1 : decode cX12_result 1 = .ok (.aload_n 0, 1) := by decide +kernel
theorem dX12_result_2 : decode cX12_result 2 = .ok (.getfield 112, 3) := by decide +kernel
theorem dX12_result_5 : decode cX12_result 5 = .ok (.putfield 17, 3) := by decide +kernel
theorem dX12_result_8 : decode cX12_result 8 = .ok (.aload_n 0, 1) := by decide +kernel
theorem dX12_result_9 : decode cX12_result 9 = .ok (.invokevirtual 141, 3) := by decide +kernel
theorem dX12_result_12 : decode cX12_result 12 = .ok (.ifCond .eq 7, 3) := by decide +kernel
theorem dX12_result_15 : decode cX12_result 15 = .ok (.iload_n 1, 1) := by decide +kernel
theorem dX12_result_16 : decode cX12_result 16 = .ok (.goto 10, 3) := by decide +kernel
theorem dX12_result_19 : decode cX12_result 19 = .ok (.aload_n 0, 1) := by decide +kernel
theorem dX12_result_20 : decode cX12_result 20 = .ok (.getfield 115, 3) := by decide +kernel
theorem dX12_result_23 : decode cX12_result 23 = .ok (.bipush 10, 2) := by decide +kernel
theorem dX12_result_25 : decode cX12_result 25 = .ok (.isub, 1) := by decide +kernel
theorem dX12_result_26 : decode cX12_result 26 = .ok (.ireturn, 1) := by decide +kernel
theorem dX12_fault_0 : decode cX12_fault 0 = .ok (.aload_n 0, 1) := by decide +kernel
theorem dX12_fault_1 : decode cX12_fault 1 = .ok (.iconst 0, 1) := by decide +kernel
theorem dX12_fault_2 : decode cX12_fault 2 = .ok (.putfield 1, 3) := by decide +kernel
theorem dX12_fault_5 : decode cX12_fault 5 = .ok (.aload_n 0, 1) := by decide +kernel
theorem dX12_fault_6 : decode cX12_fault 6 = .ok (.getfield 17, 3) := by decide +kernel
theorem dX12_fault_9 : decode cX12_fault 9 = .ok (.ireturn, 1) := by decide +kernel
theorem dX12_shape_0 : decode cX12_shape 0 = .ok (.aload_n 0, 1) := by decide +kernel
theorem dX12_shape_1 : decode cX12_shape 1 = .ok (.iconst 0, 1) := by decide +kernel
theorem dX12_shape_2 : decode cX12_shape 2 = .ok (.putfield 1, 3) := by decide +kernel
theorem dX12_shape_5 : decode cX12_shape 5 = .ok (.aload_n 0, 1) := by decide +kernel
theorem dX12_shape_6 : decode cX12_shape 6 = .ok (.iload_n 1, 1) := by decide +kernel
theorem dX12_shape_7 : decode cX12_shape 7 = .ok (.ifCond .lt 15, 3) := by decide +kernel
theorem dX12_shape_10 : decode cX12_shape 10 = .ok (.iload_n 1, 1) := by decide +kernel
theorem dX12_shape_11 : decode cX12_shape 11 = .ok (.aload_n 0, 1) := by decide +kernel
theorem dX12_shape_12 : decode cX12_shape 12 = .ok (.getfield 109, 3) := by decide +kernel
theorem dX12_shape_15 : decode cX12_shape 15 = .ok (.if_icmp .gt 7, 3) := by decide +kernel
theorem dX12_shape_18 : decode cX12_shape 18 = .ok (.iconst 1, 1) := by decide +kernel
theorem dX12_shape_19 : decode cX12_shape 19 = .ok (.goto 4, 3) := by decide +kernel
theorem dX12_shape_22 : decode cX12_shape 22 = .ok (.iconst 0, 1) := by decide +kernel
theorem dX12_shape_23 : decode cX12_shape 23 = .ok (.iconst 1, 1) := by decide +kernel
theorem dX12_shape_24 : decode cX12_shape 24 = .ok (.iconst 2, 1) := by decide +kernel
theorem dX12_shape_25 : decode cX12_shape 25 = .ok (.invokevirtual 157, 3) := by decide +kernel
theorem dX12_shape_28 : decode cX12_shape 28 = .ok (.ifCond .ne 5, 3) := by decide +kernel
theorem dX12_shape_31 : decode cX12_shape 31 = .ok (.iconst 0, 1) := by decide +kernel
theorem dX12_shape_32 : decode cX12_shape 32 = .ok (.ireturn, 1) := by decide +kernel
theorem dX12_shape_33 : decode cX12_shape 33 = .ok (.aload_n 0, 1) := by decide +kernel
theorem dX12_shape_34 : decode cX12_shape 34 = .ok (.iload_n 1, 1) := by decide +kernel
theorem dX12_shape_35 : decode cX12_shape 35 = .ok (.invokevirtual 161, 3) := by decide +kernel
theorem dX12_shape_38 : decode cX12_shape 38 = .ok (.bipush 8, 2) := by decide +kernel
theorem dX12_shape_40 : decode cX12_shape 40 = .ok (.istore_n 2, 1) := by decide +kernel
theorem dX12_shape_41 : decode cX12_shape 41 = .ok (.iconst 1, 1) := by decide +kernel
theorem dX12_shape_42 : decode cX12_shape 42 = .ok (.istore_n 3, 1) := by decide +kernel
theorem dX12_shape_43 : decode cX12_shape 43 = .ok (.iconst 1, 1) := by decide +kernel
theorem dX12_shape_44 : decode cX12_shape 44 = .ok (.istore 4, 2) := by decide +kernel
theorem dX12_shape_46 : decode cX12_shape 46 = .ok (.iconst 0, 1) := by decide +kernel
theorem dX12_shape_47 : decode cX12_shape 47 = .ok (.istore 5, 2) := by decide +kernel
theorem dX12_shape_49 : decode cX12_shape 49 = .ok (.aload_n 0, 1) := by decide +kernel
theorem dX12_shape_50 : decode cX12_shape 50 = .ok (.invokevirtual 141, 3) := by decide +kernel
theorem dX12_shape_53 : decode cX12_shape 53 = .ok (.ifCond .eq 214, 3) := by decide +kernel
theorem dX12_shape_56 : decode cX12_shape 56 = .ok (.aload_n 0, 1) := by decide +kernel
theorem dX12_shape_57 : decode cX12_shape 57 = .ok (.invokevirtual 165, 3) := by decide +kernel
theorem dX12_shape_60 : decode cX12_shape 60 = .ok (.ifCond .eq 207, 3) := by decide +kernel
theorem dX12_shape_63 : decode cX12_shape 63 = .ok (.aload_n 0, 1) := by decide +kernel
theorem dX12_shape_64 : decode cX12_shape 64 = .ok (.invokevirtual 168, 3) := by decide +kernel
theorem dX12_shape_67 : decode cX12_shape 67 = .ok (.ldc 171, 2) := by decide +kernel
theorem dX12_shape_69 : decode cX12_shape 69 = .ok (.invokestatic 172, 3) := by decide +kernel
theorem dX12_shape_72 : decode cX12_shape 72 = .ok (.if_icmp .ne 7, 3) := by decide +kernel
theorem dX12_shape_75 : decode cX12_shape 75 = .ok (.iconst 1, 1) := by decide +kernel
theorem dX12_shape_76 : decode cX12_shape 76 = .ok (.goto 36, 3) := by decide +kernel
theorem dX12_shape_79 : decode cX12_shape 79 = .ok (.aload_n 0, 1) := by decide +kernel
theorem dX12_shape_80 : decode cX12_shape 80 = .ok (.invokevirtual 168, 3) := by decide +kernel
theorem dX12_shape_83 : decode cX12_shape 83 = .ok (.ldc 176, 2) := by decide +kernel
theorem dX12_shape_85 : decode cX12_shape 85 = .ok (.invokestatic 172, 3) := by decide +kernel
theorem dX12_shape_88 : decode cX12_shape 88 = .ok (.if_icmp .ne 7, 3) := by decide +kernel
theorem dX12_shape_91 : decode cX12_shape 91 = .ok (.iconst 2, 1) := by decide +kernel
theorem dX12_shape_92 : decode cX12_shape 92 = .ok (.goto 20, 3) := by decide +kernel
theorem dX12_shape_95 : decode cX12_shape 95 = .ok (.aload_n 0, 1) := by decide +kernel
theorem dX12_shape_96 : decode cX12_shape 96 = .ok (.invokevirtual 168, 3) := by decide +kernel
theorem dX12_shape_99 : decode cX12_shape 99 = .ok (.ldc 178, 2) := by decide +kernel
theorem dX12_shape_101 : decode cX12_shape 101 = .ok (.invokestatic 172, 3) := by decide +kernel
theorem dX12_shape_104 : decode cX12_shape 104 = .ok (.if_icmp .ne 7, 3) := by decide +kernel
theorem dX12_shape_107 : decode cX12_shape 107 = .ok (.iconst 4, 1) := by decide +kernel
theorem dX12_shape_108 : decode cX12_shape 108 = .ok (.goto 4, 3) := by decide +kernel
theorem dX12_shape_111 : decode cX12_shape 111 = .ok (.iconst 0, 1) := by decide +kernel
theorem dX12_shape_112 : decode cX12_shape 112 = .ok (.istore 6, 2) := by decide +kernel
theorem dX12_shape_114 : decode cX12_shape 114 = .ok (.iload 6, 2) := by decide +kernel
theorem dX12_shape_116 : decode cX12_shape 116 = .ok (.ifCond .ne 15, 3) := by decide +kernel
theorem dX12_shape_119 : decode cX12_shape 119 = .ok (.aload_n 0, 1) := by decide +kernel
theorem dX12_shape_120 : decode cX12_shape 120 = .ok (.iconst 1, 1) := by decide +kernel
theorem dX12_shape_121 : decode cX12_shape 121 = .ok (.aload_n 0, 1) := by decide +kernel
theorem dX12_shape_122 : decode cX12_shape 122 = .ok (.getfield 118, 3) := by decide +kernel
theorem dX12_shape_125 : decode cX12_shape 125 = .ok (.invokevirtual 148, 3) := by decide +kernel
theorem dX12_shape_128 : decode cX12_shape 128 = .ok (.goto 20, 3) := by decide +kernel
theorem dX12_shape_131 : decode cX12_shape 131 = .ok (.iload 5, 2) := by decide +kernel
theorem dX12_shape_133 : decode cX12_shape 133 = .ok (.iload 6, 2) := by decide +kernel
theorem dX12_shape_135 : decode cX12_shape 135 = .ok (.iand, 1) := by decide +kernel
theorem dX12_shape_136 : decode cX12_shape 136 = .ok (.ifCond .eq 12, 3) := by decide +kernel
theorem dX12_shape_139 : decode cX12_shape 139 = .ok (.aload_n 0, 1) := by decide +kernel
theorem dX12_shape_140 : decode cX12_shape 140 = .ok (.iconst 4, 1) := by decide +kernel
theorem dX12_shape_141 : decode cX12_shape 141 = .ok (.aload_n 0, 1) := by decide +kernel
theorem dX12_shape_142 : decode cX12_shape 142 = .ok (.getfield 118, 3) := by decide +kernel
theorem dX12_shape_145 : decode cX12_shape 145 = .ok (.invokevirtual 148, 3) := by decide +kernel
theorem dX12_shape_148 : decode cX12_shape 148 = .ok (.aload_n 0, 1) := by decide +kernel
theorem dX12_shape_149 : decode cX12_shape 149 = .ok (.invokevirtual 141, 3) := by decide +kernel
theorem dX12_shape_152 : decode cX12_shape 152 = .ok (.ifCond .ne 6, 3) := by decide +kernel
theorem dX12_shape_155 : decode cX12_shape 155 = .ok (.goto 112, 3) := by decide +kernel
theorem dX12_shape_158 : decode cX12_shape 158 = .ok (.iload 5, 2) := by decide +kernel
theorem dX12_shape_160 : decode cX12_shape 160 = .ok (.iload 6, 2) := by decide +kernel
theorem dX12_shape_162 : decode cX12_shape 162 = .ok (.ior, 1) := by decide +kernel
theorem dX12_shape_163 : decode cX12_shape 163 = .ok (.istore 5, 2) := by decide +kernel
theorem dX12_shape_165 : decode cX12_shape 165 = .ok (.aload_n 0, 1) := by decide +kernel
theorem dX12_shape_166 : decode cX12_shape 166 = .ok (.invokevirtual 179, 3) := by decide +kernel
theorem dX12_shape_169 : decode cX12_shape 169 = .ok (.iload 6, 2) := by decide +kernel
theorem dX12_shape_171 : decode cX12_shape 171 = .ok (.iconst 1, 1) := by decide +kernel
theorem dX12_shape_172 : decode cX12_shape 172 = .ok (.if_icmp .ne 14, 3) := by decide +kernel
theorem dX12_shape_175 : decode cX12_shape 175 = .ok (.aload_n 0, 1) := by decide +kernel
theorem dX12_shape_176 : decode cX12_shape 176 = .ok (.iconst 2, 1) := by decide +kernel
theorem dX12_shape_177 : decode cX12_shape 177 = .ok (.bipush 16, 2) := by decide +kernel
theorem dX12_shape_179 : decode cX12_shape 179 = .ok (.invokevirtual 182, 3) := by decide +kernel
theorem dX12_shape_182 : decode cX12_shape 182 = .ok (.istore_n 2, 1) := by decide +kernel
theorem dX12_shape_183 : decode cX12_shape 183 = .ok (.goto 75, 3) := by decide +kernel
theorem dX12_shape_186 : decode cX12_shape 186 = .ok (.iload 6, 2) := by decide +kernel
theorem dX12_shape_188 : decode cX12_shape 188 = .ok (.iconst 4, 1) := by decide +kernel
theorem dX12_shape_189 : decode cX12_shape 189 = .ok (.if_icmp .ne 13, 3) := by decide +kernel
theorem dX12_shape_192 : decode cX12_shape 192 = .ok (.aload_n 0, 1) := by decide +kernel
theorem dX12_shape_193 : decode cX12_shape 193 = .ok (.iconst 1, 1) := by decide +kernel
theorem dX12_shape_194 : decode cX12_shape 194 = .ok (.iconst 5, 1) := by decide +kernel
theorem dX12_shape_195 : decode cX12_shape 195 = .ok (.invokevirtual 182, 3) := by decide +kernel
theorem dX12_shape_198 : decode cX12_shape 198 = .ok (.istore_n 3, 1) := by decide +kernel
theorem dX12_shape_199 : decode cX12_shape 199 = .ok (.goto 59, 3) := by decide +kernel
theorem dX12_shape_202 : decode cX12_shape 202 = .ok (.aload_n 0, 1) := by decide +kernel
theorem dX12_shape_203 : decode cX12_shape 203 = .ok (.invokevirtual 168, 3) := by decide +kernel
theorem dX12_shape_206 : decode cX12_shape 206 = .ok (.ldc 186, 2) := by decide +kernel
theorem dX12_shape_208 : decode cX12_shape 208 = .ok (.invokestatic 172, 3) := by decide +kernel
theorem dX12_shape_211 : decode cX12_shape 211 = .ok (.if_icmp .ne 7, 3) := by decide +kernel
theorem dX12_shape_214 : decode cX12_shape 214 = .ok (.iconst 1, 1) := by decide +kernel
theorem dX12_shape_215 : decode cX12_shape 215 = .ok (.goto 4, 3) := by decide +kernel
theorem dX12_shape_218 : decode cX12_shape 218 = .ok (.iconst 0, 1) := by decide +kernel
theorem dX12_shape_219 : decode cX12_shape 219 = .ok (.istore 4, 2) := by decide +kernel
theorem dX12_shape_221 : decode cX12_shape 221 = .ok (.iload 4, 2) := by decide +kernel
theorem dX12_shape_223 : decode cX12_shape 223 = .ok (.ifCond .ne 24, 3) := by decide +kernel
theorem dX12_shape_226 : decode cX12_shape 226 = .ok (.aload_n 0, 1) := by decide +kernel
theorem dX12_shape_227 : decode cX12_shape 227 = .ok (.invokevirtual 168, 3) := by decide +kernel
theorem dX12_shape_230 : decode cX12_shape 230 = .ok (.ldc 187, 2) := by decide +kernel
theorem dX12_shape_232 : decode cX12_shape 232 = .ok (.invokestatic 172, 3) := by decide +kernel
theorem dX12_shape_235 : decode cX12_shape 235 = .ok (.if_icmp .eq 12, 3) := by decide +kernel
theorem dX12_shape_238 : decode cX12_shape 238 = .ok (.aload_n 0, 1) := by decide +kernel
theorem dX12_shape_239 : decode cX12_shape 239 = .ok (.iconst 1, 1) := by decide +kernel
theorem dX12_shape_240 : decode cX12_shape 240 = .ok (.aload_n 0, 1) := by decide +kernel
theorem dX12_shape_241 : decode cX12_shape 241 = .ok (.getfield 118, 3) := by decide +kernel
theorem dX12_shape_244 : decode cX12_shape 244 = .ok (.invokevirtual 148, 3) := by decide +kernel
theorem dX12_shape_247 : decode cX12_shape 247 = .ok (.aload_n 0, 1) := by decide +kernel
theorem dX12_shape_248 : decode cX12_shape 248 = .ok (.invokevirtual 141, 3) := by decide +kernel
theorem dX12_shape_251 : decode cX12_shape 251 = .ok (.ifCond .eq 7, 3) := by decide +kernel
theorem dX12_shape_254 : decode cX12_shape 254 = .ok (.aload_n 0, 1) := by decide +kernel
theorem dX12_shape_255 : decode cX12_shape 255 = .ok (.invokevirtual 179, 3) := by decide +kernel
theorem dX12_shape_258 : decode cX12_shape 258 = .ok (.aload_n 0, 1) := by decide +kernel
theorem dX12_shape_259 : decode cX12_shape 259 = .ok (.bipush 59, 2) := by decide +kernel
theorem dX12_shape_261 : decode cX12_shape 261 = .ok (.invokevirtual 189, 3) := by decide +kernel
theorem dX12_shape_264 : decode cX12_shape 264 = .ok (.goto (-215), 3) := by decide +kernel
theorem dX12_shape_267 : decode cX12_shape 267 = .ok (.aload_n 0, 1) := by decide +kernel
theorem dX12_shape_268 : decode cX12_shape 268 = .ok (.invokevirtual 141, 3) := by decide +kernel
theorem dX12_shape_271 : decode cX12_shape 271 = .ok (.ifCond .ne 9, 3) := by decide +kernel
theorem dX12_shape_274 : decode cX12_shape 274 = .ok (.aload_n 0, 1) := by decide +kernel
theorem dX12_shape_275 : decode cX12_shape 275 = .ok (.iconst 0, 1) := by decide +kernel
theorem dX12_shape_276 : decode cX12_shape 276 = .ok (.invokevirtual 192, 3) := by decide +kernel
theorem dX12_shape_279 : decode cX12_shape 279 = .ok (.ireturn, 1) := by decide +kernel
theorem dX12_shape_280 : decode cX12_shape 280 = .ok (.aload_n 0, 1) := by decide +kernel
theorem dX12_shape_281 : decode cX12_shape 281 = .ok (.iload_n 2, 1) := by decide +kernel
theorem dX12_shape_282 : decode cX12_shape 282 = .ok (.putfield 23, 3) := by decide +kernel
theorem dX12_shape_285 : decode cX12_shape 285 = .ok (.aload_n 0, 1) := by decide +kernel
theorem dX12_shape_286 : decode cX12_shape 286 = .ok (.iload_n 3, 1) := by decide +kernel
theorem dX12_shape_287 : decode cX12_shape 287 = .ok (.putfield 26, 3) := by decide +kernel
theorem dX12_shape_290 : decode cX12_shape 290 = .ok (.aload_n 0, 1) := by decide +kernel
theorem dX12_shape_291 : decode cX12_shape 291 = .ok (.iload 4, 2) := by decide +kernel
theorem dX12_shape_293 : decode cX12_shape 293 = .ok (.putfield 29, 3) := by decide +kernel
theorem dX12_shape_296 : decode cX12_shape 296 = .ok (.iconst 0, 1) := by decide +kernel
theorem dX12_shape_297 : decode cX12_shape 297 = .ok (.istore 6, 2) := by decide +kernel
theorem dX12_shape_299 : decode cX12_shape 299 = .ok (.iload 6, 2) := by decide +kernel
theorem dX12_shape_301 : decode cX12_shape 301 = .ok (.iconst 4, 1) := by decide +kernel
theorem dX12_shape_302 : decode cX12_shape 302 = .ok (.if_icmp .ge 25, 3) := by decide +kernel
theorem dX12_shape_305 : decode cX12_shape 305 = .ok (.aload_n 0, 1) := by decide +kernel
theorem dX12_shape_306 : decode cX12_shape 306 = .ok (.getfield 36, 3) := by decide +kernel
theorem dX12_shape_309 : decode cX12_shape 309 = .ok (.iload 6, 2) := by decide +kernel
theorem dX12_shape_311 : decode cX12_shape 311 = .ok (.iconst 0, 1) := by decide +kernel
theorem dX12_shape_312 : decode cX12_shape 312 = .ok (.iastore, 1) := by decide +kernel
theorem dX12_shape_313 : decode cX12_shape 313 = .ok (.aload_n 0, 1) := by decide +kernel
theorem dX12_shape_314 : decode cX12_shape 314 = .ok (.getfield 45, 3) := by decide +kernel
theorem dX12_shape_317 : decode cX12_shape 317 = .ok (.iload 6, 2) := by decide +kernel
theorem dX12_shape_319 : decode cX12_shape 319 = .ok (.iconst 0, 1) := by decide +kernel
theorem dX12_shape_320 : decode cX12_shape 320 = .ok (.iastore, 1) := by decide +kernel
theorem dX12_shape_321 : decode cX12_shape 321 = .ok (.iinc 6 1, 3) := by decide +kernel
theorem dX12_shape_324 : decode cX12_shape 324 = .ok (.goto (-25), 3) := by decide +kernel
theorem dX12_shape_327 : decode cX12_shape 327 = .ok (.aload_n 0, 1) := by decide +kernel
theorem dX12_shape_328 : decode cX12_shape 328 = .ok (.iconst 0, 1) := by decide +kernel
theorem dX12_shape_329 : decode cX12_shape 329 = .ok (.putfield 196, 3) := by decide +kernel
theorem dX12_shape_332 : decode cX12_shape 332 = .ok (.aload_n 0, 1) := by decide +kernel
theorem dX12_shape_333 : decode cX12_shape 333 = .ok (.aload_n 0, 1) := by decide +kernel
theorem dX12_shape_334 : decode cX12_shape 334 = .ok (.getfield 23, 3) := by decide +kernel
theorem dX12_shape_337 : decode cX12_shape 337 = .ok (.invokevirtual 192, 3) := by decide +kernel
theorem dX12_shape_340 : decode cX12_shape 340 = .ok (.ireturn, 1) := by decide +kernel
theorem dX12_emit_0 : decode cX12_emit 0 = .ok (.aload_n 0, 1) := by decide +kernel
theorem dX12_emit_1 : decode cX12_emit 1 = .ok (.invokevirtual 141, 3) := by decide +kernel
theorem dX12_emit_4 : decode cX12_emit 4 = .ok (.ifCond .ne 4, 3) := by decide +kernel
theorem dX12_emit_7 : decode cX12_emit 7 = .ok (.return_, 1) := by decide +kernel
theorem dX12_emit_8 : decode cX12_emit 8 = .ok (.aload_n 0, 1) := by decide +kernel
theorem dX12_emit_9 : decode cX12_emit 9 = .ok (.getfield 75, 3) := by decide +kernel
theorem dX12_emit_12 : decode cX12_emit 12 = .ok (.sipush 500, 3) := by decide +kernel
theorem dX12_emit_15 : decode cX12_emit 15 = .ok (.aload_n 0, 1) := by decide +kernel
theorem dX12_emit_16 : decode cX12_emit 16 = .ok (.getfield 199, 3) := by decide +kernel
theorem dX12_emit_19 : decode cX12_emit 19 = .ok (.imul, 1) := by decide +kernel
theorem dX12_emit_20 : decode cX12_emit 20 = .ok (.aload_n 0, 1) := by decide +kernel
theorem dX12_emit_21 : decode cX12_emit 21 = .ok (.getfield 202, 3) := by decide +kernel
theorem dX12_emit_24 : decode cX12_emit 24 = .ok (.iadd, 1) := by decide +kernel
theorem dX12_emit_25 : decode cX12_emit 25 = .ok (.iload_n 1, 1) := by decide +kernel
theorem dX12_emit_26 : decode cX12_emit 26 = .ok (.iastore, 1) := by decide +kernel
theorem dX12_emit_27 : decode cX12_emit 27 = .ok (.aload_n 0, 1) := by decide +kernel
theorem dX12_emit_28 : decode cX12_emit 28 = .ok (.getfield 78, 3) := by decide +kernel
theorem dX12_emit_31 : decode cX12_emit 31 = .ok (.sipush 500, 3) := by decide +kernel
theorem dX12_emit_34 : decode cX12_emit 34 = .ok (.aload_n 0, 1) := by decide +kernel
theorem dX12_emit_35 : decode cX12_emit 35 = .ok (.getfield 199, 3) := by decide +kernel
theorem dX12_emit_38 : decode cX12_emit 38 = .ok (.imul, 1) := by decide +kernel
theorem dX12_emit_39 : decode cX12_emit 39 = .ok (.aload_n 0, 1) := by decide +kernel
theorem dX12_emit_40 : decode cX12_emit 40 = .ok (.getfield 202, 3) := by decide +kernel
theorem dX12_emit_43 : decode cX12_emit 43 = .ok (.iadd, 1) := by decide +kernel
theorem dX12_emit_44 : decode cX12_emit 44 = .ok (.iload_n 2, 1) := by decide +kernel
theorem dX12_emit_45 : decode cX12_emit 45 = .ok (.iastore, 1) := by decide +kernel
theorem dX12_emit_46 : decode cX12_emit 46 = .ok (.aload_n 0, 1) := by decide +kernel
theorem dX12_emit_47 : decode cX12_emit 47 = .ok (.dup, 1) := by decide +kernel
theorem dX12_emit_48 : decode cX12_emit 48 = .ok (.getfield 202, 3) := by decide +kernel
theorem dX12_emit_51 : decode cX12_emit 51 = .ok (.iconst 1, 1) := by decide +kernel
theorem dX12_emit_52 : decode cX12_emit 52 = .ok (.iadd, 1) := by decide +kernel
theorem dX12_emit_53 : decode cX12_emit 53 = .ok (.putfield 202, 3) := by decide +kernel
theorem dX12_emit_56 : decode cX12_emit 56 = .ok (.return_, 1) := by decide +kernel
theorem dX12_unit_0 : decode cX12_unit 0 = .ok (.aload_n 0, 1) := by decide +kernel
theorem dX12_unit_1 : decode cX12_unit 1 = .ok (.invokevirtual 141, 3) := by decide +kernel
theorem dX12_unit_4 : decode cX12_unit 4 = .ok (.ifCond .ne 4, 3) := by decide +kernel
theorem dX12_unit_7 : decode cX12_unit 7 = .ok (.return_, 1) := by decide +kernel
theorem dX12_unit_8 : decode cX12_unit 8 = .ok (.aload_n 0, 1) := by decide +kernel
theorem dX12_unit_9 : decode cX12_unit 9 = .ok (.invokevirtual 124, 3) := by decide +kernel
theorem dX12_unit_12 : decode cX12_unit 12 = .ok (.istore_n 1, 1) := by decide +kernel
theorem dX12_unit_13 : decode cX12_unit 13 = .ok (.iload_n 1, 1) := by decide +kernel
theorem dX12_unit_14 : decode cX12_unit 14 = .ok (.invokestatic 145, 3) := by decide +kernel
theorem dX12_unit_17 : decode cX12_unit 17 = .ok (.ifCond .eq 16, 3) := by decide +kernel
theorem dX12_unit_20 : decode cX12_unit 20 = .ok (.aload_n 0, 1) := by decide +kernel
theorem dX12_unit_21 : decode cX12_unit 21 = .ok (.iconst 0, 1) := by decide +kernel
theorem dX12_unit_22 : decode cX12_unit 22 = .ok (.aload_n 0, 1) := by decide +kernel
theorem dX12_unit_23 : decode cX12_unit 23 = .ok (.iconst 0, 1) := by decide +kernel
theorem dX12_unit_24 : decode cX12_unit 24 = .ok (.ldc 152, 2) := by decide +kernel
theorem dX12_unit_26 : decode cX12_unit 26 = .ok (.invokevirtual 182, 3) := by decide +kernel
theorem dX12_unit_29 : decode cX12_unit 29 = .ok (.invokevirtual 205, 3) := by decide +kernel
theorem dX12_unit_32 : decode cX12_unit 32 = .ok (.return_, 1) := by decide +kernel
theorem dX12_unit_33 : decode cX12_unit 33 = .ok (.iload_n 1, 1) := by decide +kernel
theorem dX12_unit_34 : decode cX12_unit 34 = .ok (.bipush 40, 2) := by decide +kernel
theorem dX12_unit_36 : decode cX12_unit 36 = .ok (.if_icmp .ne 69, 3) := by decide +kernel
theorem dX12_unit_39 : decode cX12_unit 39 = .ok (.aload_n 0, 1) := by decide +kernel
theorem dX12_unit_40 : decode cX12_unit 40 = .ok (.getfield 154, 3) := by decide +kernel
theorem dX12_unit_43 : decode cX12_unit 43 = .ok (.bipush 6, 2) := by decide +kernel
theorem dX12_unit_45 : decode cX12_unit 45 = .ok (.if_icmp .ne 12, 3) := by decide +kernel
theorem dX12_unit_48 : decode cX12_unit 48 = .ok (.aload_n 0, 1) := by decide +kernel
theorem dX12_unit_49 : decode cX12_unit 49 = .ok (.iconst 3, 1) := by decide +kernel
theorem dX12_unit_50 : decode cX12_unit 50 = .ok (.aload_n 0, 1) := by decide +kernel
theorem dX12_unit_51 : decode cX12_unit 51 = .ok (.getfield 118, 3) := by decide +kernel
theorem dX12_unit_54 : decode cX12_unit 54 = .ok (.invokevirtual 148, 3) := by decide +kernel
theorem dX12_unit_57 : decode cX12_unit 57 = .ok (.aload_n 0, 1) := by decide +kernel
theorem dX12_unit_58 : decode cX12_unit 58 = .ok (.invokevirtual 141, 3) := by decide +kernel
theorem dX12_unit_61 : decode cX12_unit 61 = .ok (.ifCond .eq 13, 3) := by decide +kernel
theorem dX12_unit_64 : decode cX12_unit 64 = .ok (.aload_n 0, 1) := by decide +kernel
theorem dX12_unit_65 : decode cX12_unit 65 = .ok (.dup, 1) := by decide +kernel
theorem dX12_unit_66 : decode cX12_unit 66 = .ok (.getfield 118, 3) := by decide +kernel
theorem dX12_unit_69 : decode cX12_unit 69 = .ok (.iconst 1, 1) := by decide +kernel
theorem dX12_unit_70 : decode cX12_unit 70 = .ok (.iadd, 1) := by decide +kernel
theorem dX12_unit_71 : decode cX12_unit 71 = .ok (.putfield 118, 3) := by decide +kernel
theorem dX12_unit_74 : decode cX12_unit 74 = .ok (.aload_n 0, 1) := by decide +kernel
theorem dX12_unit_75 : decode cX12_unit 75 = .ok (.dup, 1) := by decide +kernel
theorem dX12_unit_76 : decode cX12_unit 76 = .ok (.getfield 154, 3) := by decide +kernel
theorem dX12_unit_79 : decode cX12_unit 79 = .ok (.iconst 1, 1) := by decide +kernel
theorem dX12_unit_80 : decode cX12_unit 80 = .ok (.iadd, 1) := by decide +kernel
theorem dX12_unit_81 : decode cX12_unit 81 = .ok (.putfield 154, 3) := by decide +kernel
theorem dX12_unit_84 : decode cX12_unit 84 = .ok (.aload_n 0, 1) := by decide +kernel
theorem dX12_unit_85 : decode cX12_unit 85 = .ok (.invokevirtual 208, 3) := by decide +kernel
theorem dX12_unit_88 : decode cX12_unit 88 = .ok (.aload_n 0, 1) := by decide +kernel
theorem dX12_unit_89 : decode cX12_unit 89 = .ok (.bipush 41, 2) := by decide +kernel
theorem dX12_unit_91 : decode cX12_unit 91 = .ok (.invokevirtual 189, 3) := by decide +kernel
theorem dX12_unit_94 : decode cX12_unit 94 = .ok (.aload_n 0, 1) := by decide +kernel
theorem dX12_unit_95 : decode cX12_unit 95 = .ok (.dup, 1) := by decide +kernel
theorem dX12_unit_96 : decode cX12_unit 96 = .ok (.getfield 154, 3) := by decide +kernel
theorem dX12_unit_99 : decode cX12_unit 99 = .ok (.iconst 1, 1) := by decide +kernel
theorem dX12_unit_100 : decode cX12_unit 100 = .ok (.isub, 1) := by decide +kernel
theorem dX12_unit_101 : decode cX12_unit 101 = .ok (.putfield 154, 3) := by decide +kernel
theorem dX12_unit_104 : decode cX12_unit 104 = .ok (.return_, 1) := by decide +kernel
theorem dX12_unit_105 : decode cX12_unit 105 = .ok (.aload_n 0, 1) := by decide +kernel
theorem dX12_unit_106 : decode cX12_unit 106 = .ok (.invokevirtual 168, 3) := by decide +kernel
theorem dX12_unit_109 : decode cX12_unit 109 = .ok (.istore_n 2, 1) := by decide +kernel
theorem dX12_unit_110 : decode cX12_unit 110 = .ok (.iload_n 2, 1) := by decide +kernel
theorem dX12_unit_111 : decode cX12_unit 111 = .ok (.ldc 211, 2) := by decide +kernel
theorem dX12_unit_113 : decode cX12_unit 113 = .ok (.invokestatic 172, 3) := by decide +kernel
theorem dX12_unit_116 : decode cX12_unit 116 = .ok (.if_icmp .ne 7, 3) := by decide +kernel
theorem dX12_unit_119 : decode cX12_unit 119 = .ok (.iconst 1, 1) := by decide +kernel
theorem dX12_unit_120 : decode cX12_unit 120 = .ok (.goto 56, 3) := by decide +kernel
theorem dX12_unit_123 : decode cX12_unit 123 = .ok (.iload_n 2, 1) := by decide +kernel
theorem dX12_unit_124 : decode cX12_unit 124 = .ok (.ldc 213, 2) := by decide +kernel
theorem dX12_unit_126 : decode cX12_unit 126 = .ok (.invokestatic 172, 3) := by decide +kernel
theorem dX12_unit_129 : decode cX12_unit 129 = .ok (.if_icmp .ne 7, 3) := by decide +kernel
theorem dX12_unit_132 : decode cX12_unit 132 = .ok (.iconst 2, 1) := by decide +kernel
theorem dX12_unit_133 : decode cX12_unit 133 = .ok (.goto 43, 3) := by decide +kernel
theorem dX12_unit_136 : decode cX12_unit 136 = .ok (.iload_n 2, 1) := by decide +kernel
theorem dX12_unit_137 : decode cX12_unit 137 = .ok (.ldc 215, 2) := by decide +kernel
theorem dX12_unit_139 : decode cX12_unit 139 = .ok (.invokestatic 172, 3) := by decide +kernel
theorem dX12_unit_142 : decode cX12_unit 142 = .ok (.if_icmp .ne 7, 3) := by decide +kernel
theorem dX12_unit_145 : decode cX12_unit 145 = .ok (.iconst 3, 1) := by decide +kernel
theorem dX12_unit_146 : decode cX12_unit 146 = .ok (.goto 30, 3) := by decide +kernel
theorem dX12_unit_149 : decode cX12_unit 149 = .ok (.iload_n 2, 1) := by decide +kernel
theorem dX12_unit_150 : decode cX12_unit 150 = .ok (.ldc 217, 2) := by decide +kernel
theorem dX12_unit_152 : decode cX12_unit 152 = .ok (.invokestatic 172, 3) := by decide +kernel
theorem dX12_unit_155 : decode cX12_unit 155 = .ok (.if_icmp .ne 7, 3) := by decide +kernel
theorem dX12_unit_158 : decode cX12_unit 158 = .ok (.iconst 4, 1) := by decide +kernel
theorem dX12_unit_159 : decode cX12_unit 159 = .ok (.goto 17, 3) := by decide +kernel
theorem dX12_unit_162 : decode cX12_unit 162 = .ok (.iload_n 2, 1) := by decide +kernel
theorem dX12_unit_163 : decode cX12_unit 163 = .ok (.ldc 218, 2) := by decide +kernel
theorem dX12_unit_165 : decode cX12_unit 165 = .ok (.invokestatic 172, 3) := by decide +kernel
theorem dX12_unit_168 : decode cX12_unit 168 = .ok (.if_icmp .ne 7, 3) := by decide +kernel
theorem dX12_unit_171 : decode cX12_unit 171 = .ok (.iconst 5, 1) := by decide +kernel
theorem dX12_unit_172 : decode cX12_unit 172 = .ok (.goto 4, 3) := by decide +kernel
theorem dX12_unit_175 : decode cX12_unit 175 = .ok (.iconst (-1), 1) := by decide +kernel
theorem dX12_unit_176 : decode cX12_unit 176 = .ok (.istore_n 3, 1) := by decide +kernel
theorem dX12_unit_177 : decode cX12_unit 177 = .ok (.iload_n 3, 1) := by decide +kernel
theorem dX12_unit_178 : decode cX12_unit 178 = .ok (.iconst (-1), 1) := by decide +kernel
theorem dX12_unit_179 : decode cX12_unit 179 = .ok (.if_icmp .ne 13, 3) := by decide +kernel
theorem dX12_unit_182 : decode cX12_unit 182 = .ok (.aload_n 0, 1) := by decide +kernel
theorem dX12_unit_183 : decode cX12_unit 183 = .ok (.iconst 1, 1) := by decide +kernel
theorem dX12_unit_184 : decode cX12_unit 184 = .ok (.aload_n 0, 1) := by decide +kernel
theorem dX12_unit_185 : decode cX12_unit 185 = .ok (.getfield 118, 3) := by decide +kernel
theorem dX12_unit_188 : decode cX12_unit 188 = .ok (.invokevirtual 148, 3) := by decide +kernel
theorem dX12_unit_191 : decode cX12_unit 191 = .ok (.return_, 1) := by decide +kernel
theorem dX12_unit_192 : decode cX12_unit 192 = .ok (.aload_n 0, 1) := by decide +kernel
theorem dX12_unit_193 : decode cX12_unit 193 = .ok (.invokevirtual 179, 3) := by decide +kernel
theorem dX12_unit_196 : decode cX12_unit 196 = .ok (.aload_n 0, 1) := by decide +kernel
theorem dX12_unit_197 : decode cX12_unit 197 = .ok (.iload_n 3, 1) := by decide +kernel
theorem dX12_unit_198 : decode cX12_unit 198 = .ok (.iconst 0, 1) := by decide +kernel
theorem dX12_unit_199 : decode cX12_unit 199 = .ok (.invokevirtual 205, 3) := by decide +kernel
theorem dX12_unit_202 : decode cX12_unit 202 = .ok (.return_, 1) := by decide +kernel
theorem dX12_product_0 : decode cX12_product 0 = .ok (.aload_n 0, 1) := by decide +kernel
theorem dX12_product_1 : decode cX12_product 1 = .ok (.invokevirtual 220, 3) := by decide +kernel
theorem dX12_product_4 : decode cX12_product 4 = .ok (.aload_n 0, 1) := by decide +kernel
theorem dX12_product_5 : decode cX12_product 5 = .ok (.invokevirtual 141, 3) := by decide +kernel
theorem dX12_product_8 : decode cX12_product 8 = .ok (.ifCond .eq 61, 3) := by decide +kernel
theorem dX12_product_11 : decode cX12_product 11 = .ok (.aload_n 0, 1) := by decide +kernel
theorem dX12_product_12 : decode cX12_product 12 = .ok (.invokevirtual 124, 3) := by decide +kernel
theorem dX12_product_15 : decode cX12_product 15 = .ok (.bipush 42, 2) := by decide +kernel
theorem dX12_product_17 : decode cX12_product 17 = .ok (.if_icmp .eq 12, 3) := by decide +kernel
theorem dX12_product_20 : decode cX12_product 20 = .ok (.aload_n 0, 1) := by decide +kernel
theorem dX12_product_21 : decode cX12_product 21 = .ok (.invokevirtual 124, 3) := by decide +kernel
theorem dX12_product_24 : decode cX12_product 24 = .ok (.bipush 37, 2) := by decide +kernel
theorem dX12_product_26 : decode cX12_product 26 = .ok (.if_icmp .ne 43, 3) := by decide +kernel
theorem dX12_product_29 : decode cX12_product 29 = .ok (.aload_n 0, 1) := by decide +kernel
theorem dX12_product_30 : decode cX12_product 30 = .ok (.invokevirtual 124, 3) := by decide +kernel
theorem dX12_product_33 : decode cX12_product 33 = .ok (.istore_n 1, 1) := by decide +kernel
theorem dX12_product_34 : decode cX12_product 34 = .ok (.aload_n 0, 1) := by decide +kernel
theorem dX12_product_35 : decode cX12_product 35 = .ok (.dup, 1) := by decide +kernel
theorem dX12_product_36 : decode cX12_product 36 = .ok (.getfield 118, 3) := by decide +kernel
theorem dX12_product_39 : decode cX12_product 39 = .ok (.iconst 1, 1) := by decide +kernel
theorem dX12_product_40 : decode cX12_product 40 = .ok (.iadd, 1) := by decide +kernel
theorem dX12_product_41 : decode cX12_product 41 = .ok (.putfield 118, 3) := by decide +kernel
theorem dX12_product_44 : decode cX12_product 44 = .ok (.aload_n 0, 1) := by decide +kernel
theorem dX12_product_45 : decode cX12_product 45 = .ok (.invokevirtual 220, 3) := by decide +kernel
theorem dX12_product_48 : decode cX12_product 48 = .ok (.aload_n 0, 1) := by decide +kernel
theorem dX12_product_49 : decode cX12_product 49 = .ok (.iload_n 1, 1) := by decide +kernel
theorem dX12_product_50 : decode cX12_product 50 = .ok (.bipush 42, 2) := by decide +kernel
theorem dX12_product_52 : decode cX12_product 52 = .ok (.if_icmp .ne 8, 3) := by decide +kernel
theorem dX12_product_55 : decode cX12_product 55 = .ok (.bipush 8, 2) := by decide +kernel
theorem dX12_product_57 : decode cX12_product 57 = .ok (.goto 5, 3) := by decide +kernel
theorem dX12_product_60 : decode cX12_product 60 = .ok (.bipush 9, 2) := by decide +kernel
theorem dX12_product_62 : decode cX12_product 62 = .ok (.iconst 0, 1) := by decide +kernel
theorem dX12_product_63 : decode cX12_product 63 = .ok (.invokevirtual 205, 3) := by decide +kernel
theorem dX12_product_66 : decode cX12_product 66 = .ok (.goto (-62), 3) := by decide +kernel
theorem dX12_product_69 : decode cX12_product 69 = .ok (.return_, 1) := by decide +kernel
theorem dX12_sum_0 : decode cX12_sum 0 = .ok (.aload_n 0, 1) := by decide +kernel
theorem dX12_sum_1 : decode cX12_sum 1 = .ok (.invokevirtual 223, 3) := by decide +kernel
theorem dX12_sum_4 : decode cX12_sum 4 = .ok (.aload_n 0, 1) := by decide +kernel
theorem dX12_sum_5 : decode cX12_sum 5 = .ok (.invokevirtual 141, 3) := by decide +kernel
theorem dX12_sum_8 : decode cX12_sum 8 = .ok (.ifCond .eq 61, 3) := by decide +kernel
theorem dX12_sum_11 : decode cX12_sum 11 = .ok (.aload_n 0, 1) := by decide +kernel
theorem dX12_sum_12 : decode cX12_sum 12 = .ok (.invokevirtual 124, 3) := by decide +kernel
theorem dX12_sum_15 : decode cX12_sum 15 = .ok (.bipush 43, 2) := by decide +kernel
theorem dX12_sum_17 : decode cX12_sum 17 = .ok (.if_icmp .eq 12, 3) := by decide +kernel
theorem dX12_sum_20 : decode cX12_sum 20 = .ok (.aload_n 0, 1) := by decide +kernel
theorem dX12_sum_21 : decode cX12_sum 21 = .ok (.invokevirtual 124, 3) := by decide +kernel
theorem dX12_sum_24 : decode cX12_sum 24 = .ok (.bipush 45, 2) := by decide +kernel
theorem dX12_sum_26 : decode cX12_sum 26 = .ok (.if_icmp .ne 43, 3) := by decide +kernel
theorem dX12_sum_29 : decode cX12_sum 29 = .ok (.aload_n 0, 1) := by decide +kernel
theorem dX12_sum_30 : decode cX12_sum 30 = .ok (.invokevirtual 124, 3) := by decide +kernel
theorem dX12_sum_33 : decode cX12_sum 33 = .ok (.istore_n 1, 1) := by decide +kernel
theorem dX12_sum_34 : decode cX12_sum 34 = .ok (.aload_n 0, 1) := by decide +kernel
theorem dX12_sum_35 : decode cX12_sum 35 = .ok (.dup, 1) := by decide +kernel
theorem dX12_sum_36 : decode cX12_sum 36 = .ok (.getfield 118, 3) := by decide +kernel
theorem dX12_sum_39 : decode cX12_sum 39 = .ok (.iconst 1, 1) := by decide +kernel
theorem dX12_sum_40 : decode cX12_sum 40 = .ok (.iadd, 1) := by decide +kernel
theorem dX12_sum_41 : decode cX12_sum 41 = .ok (.putfield 118, 3) := by decide +kernel
theorem dX12_sum_44 : decode cX12_sum 44 = .ok (.aload_n 0, 1) := by decide +kernel
theorem dX12_sum_45 : decode cX12_sum 45 = .ok (.invokevirtual 223, 3) := by decide +kernel
theorem dX12_sum_48 : decode cX12_sum 48 = .ok (.aload_n 0, 1) := by decide +kernel
theorem dX12_sum_49 : decode cX12_sum 49 = .ok (.iload_n 1, 1) := by decide +kernel
theorem dX12_sum_50 : decode cX12_sum 50 = .ok (.bipush 43, 2) := by decide +kernel
theorem dX12_sum_52 : decode cX12_sum 52 = .ok (.if_icmp .ne 8, 3) := by decide +kernel
theorem dX12_sum_55 : decode cX12_sum 55 = .ok (.bipush 6, 2) := by decide +kernel
theorem dX12_sum_57 : decode cX12_sum 57 = .ok (.goto 5, 3) := by decide +kernel
theorem dX12_sum_60 : decode cX12_sum 60 = .ok (.bipush 7, 2) := by decide +kernel
theorem dX12_sum_62 : decode cX12_sum 62 = .ok (.iconst 0, 1) := by decide +kernel
theorem dX12_sum_63 : decode cX12_sum 63 = .ok (.invokevirtual 205, 3) := by decide +kernel
theorem dX12_sum_66 : decode cX12_sum 66 = .ok (.goto (-62), 3) := by decide +kernel
theorem dX12_sum_69 : decode cX12_sum 69 = .ok (.return_, 1) := by decide +kernel
theorem dX12_stepOf_0 : decode cX12_stepOf 0 = .ok (.iload_n 0, 1) := by decide +kernel
theorem dX12_stepOf_1 : decode cX12_stepOf 1 = .ok (.ldc 226, 2) := by decide +kernel
theorem dX12_stepOf_3 : decode cX12_stepOf 3 = .ok (.invokestatic 172, 3) := by decide +kernel
theorem dX12_stepOf_6 : decode cX12_stepOf 6 = .ok (.if_icmp .ne 7, 3) := by decide +kernel
theorem dX12_stepOf_9 : decode cX12_stepOf 9 = .ok (.iconst 0, 1) := by decide +kernel
theorem dX12_stepOf_10 : decode cX12_stepOf 10 = .ok (.goto 69, 3) := by decide +kernel
theorem dX12_stepOf_13 : decode cX12_stepOf 13 = .ok (.iload_n 0, 1) := by decide +kernel
theorem dX12_stepOf_14 : decode cX12_stepOf 14 = .ok (.ldc 228, 2) := by decide +kernel
theorem dX12_stepOf_16 : decode cX12_stepOf 16 = .ok (.invokestatic 172, 3) := by decide +kernel
theorem dX12_stepOf_19 : decode cX12_stepOf 19 = .ok (.if_icmp .ne 7, 3) := by decide +kernel
theorem dX12_stepOf_22 : decode cX12_stepOf 22 = .ok (.iconst 1, 1) := by decide +kernel
theorem dX12_stepOf_23 : decode cX12_stepOf 23 = .ok (.goto 56, 3) := by decide +kernel
theorem dX12_stepOf_26 : decode cX12_stepOf 26 = .ok (.iload_n 0, 1) := by decide +kernel
theorem dX12_stepOf_27 : decode cX12_stepOf 27 = .ok (.ldc 230, 2) := by decide +kernel
theorem dX12_stepOf_29 : decode cX12_stepOf 29 = .ok (.invokestatic 172, 3) := by decide +kernel
theorem dX12_stepOf_32 : decode cX12_stepOf 32 = .ok (.if_icmp .ne 7, 3) := by decide +kernel
theorem dX12_stepOf_35 : decode cX12_stepOf 35 = .ok (.iconst 2, 1) := by decide +kernel
theorem dX12_stepOf_36 : decode cX12_stepOf 36 = .ok (.goto 43, 3) := by decide +kernel
theorem dX12_stepOf_39 : decode cX12_stepOf 39 = .ok (.iload_n 0, 1) := by decide +kernel
theorem dX12_stepOf_40 : decode cX12_stepOf 40 = .ok (.ldc 232, 2) := by decide +kernel
theorem dX12_stepOf_42 : decode cX12_stepOf 42 = .ok (.invokestatic 172, 3) := by decide +kernel
theorem dX12_stepOf_45 : decode cX12_stepOf 45 = .ok (.if_icmp .ne 7, 3) := by decide +kernel
theorem dX12_stepOf_48 : decode cX12_stepOf 48 = .ok (.iconst 3, 1) := by decide +kernel
theorem dX12_stepOf_49 : decode cX12_stepOf 49 = .ok (.goto 30, 3) := by decide +kernel
theorem dX12_stepOf_52 : decode cX12_stepOf 52 = .ok (.iload_n 0, 1) := by decide +kernel
theorem dX12_stepOf_53 : decode cX12_stepOf 53 = .ok (.ldc 234, 2) := by decide +kernel
theorem dX12_stepOf_55 : decode cX12_stepOf 55 = .ok (.invokestatic 172, 3) := by decide +kernel
theorem dX12_stepOf_58 : decode cX12_stepOf 58 = .ok (.if_icmp .ne 7, 3) := by decide +kernel
theorem dX12_stepOf_61 : decode cX12_stepOf 61 = .ok (.iconst 4, 1) := by decide +kernel
theorem dX12_stepOf_62 : decode cX12_stepOf 62 = .ok (.goto 17, 3) := by decide +kernel
theorem dX12_stepOf_65 : decode cX12_stepOf 65 = .ok (.iload_n 0, 1) := by decide +kernel
theorem dX12_stepOf_66 : decode cX12_stepOf 66 = .ok (.ldc 236, 2) := by decide +kernel
theorem dX12_stepOf_68 : decode cX12_stepOf 68 = .ok (.invokestatic 172, 3) := by decide +kernel
theorem dX12_stepOf_71 : decode cX12_stepOf 71 = .ok (.if_icmp .ne 7, 3) := by decide +kernel
theorem dX12_stepOf_74 : decode cX12_stepOf 74 = .ok (.iconst 5, 1) := by decide +kernel
theorem dX12_stepOf_75 : decode cX12_stepOf 75 = .ok (.goto 4, 3) := by decide +kernel
theorem dX12_stepOf_78 : decode cX12_stepOf 78 = .ok (.iconst (-1), 1) := by decide +kernel
theorem dX12_stepOf_79 : decode cX12_stepOf 79 = .ok (.ireturn, 1) := by decide +kernel
theorem dX12_readSteps_0 : decode cX12_readSteps 0 = .ok (.aload_n 0, 1) := by decide +kernel
theorem dX12_readSteps_1 : decode cX12_readSteps 1 = .ok (.invokevirtual 141, 3) := by decide +kernel
theorem dX12_readSteps_4 : decode cX12_readSteps 4 = .ok (.ifCond .eq 235, 3) := by decide +kernel
theorem dX12_readSteps_7 : decode cX12_readSteps 7 = .ok (.aload_n 0, 1) := by decide +kernel
theorem dX12_readSteps_8 : decode cX12_readSteps 8 = .ok (.invokevirtual 165, 3) := by decide +kernel
theorem dX12_readSteps_11 : decode cX12_readSteps 11 = .ok (.ifCond .eq 228, 3) := by decide +kernel
theorem dX12_readSteps_14 : decode cX12_readSteps 14 = .ok (.aload_n 0, 1) := by decide +kernel
theorem dX12_readSteps_15 : decode cX12_readSteps 15 = .ok (.invokevirtual 124, 3) := by decide +kernel
theorem dX12_readSteps_18 : decode cX12_readSteps 18 = .ok (.bipush 93, 2) := by decide +kernel
theorem dX12_readSteps_20 : decode cX12_readSteps 20 = .ok (.if_icmp .eq 219, 3) := by decide +kernel
theorem dX12_readSteps_23 : decode cX12_readSteps 23 = .ok (.aload_n 0, 1) := by decide +kernel
theorem dX12_readSteps_24 : decode cX12_readSteps 24 = .ok (.invokevirtual 168, 3) := by decide +kernel
theorem dX12_readSteps_27 : decode cX12_readSteps 27 = .ok (.invokestatic 238, 3) := by decide +kernel
theorem dX12_readSteps_30 : decode cX12_readSteps 30 = .ok (.istore_n 1, 1) := by decide +kernel
theorem dX12_readSteps_31 : decode cX12_readSteps 31 = .ok (.iload_n 1, 1) := by decide +kernel
theorem dX12_readSteps_32 : decode cX12_readSteps 32 = .ok (.iconst (-1), 1) := by decide +kernel
theorem dX12_readSteps_33 : decode cX12_readSteps 33 = .ok (.if_icmp .ne 15, 3) := by decide +kernel
theorem dX12_readSteps_36 : decode cX12_readSteps 36 = .ok (.aload_n 0, 1) := by decide +kernel
theorem dX12_readSteps_37 : decode cX12_readSteps 37 = .ok (.iconst 1, 1) := by decide +kernel
theorem dX12_readSteps_38 : decode cX12_readSteps 38 = .ok (.aload_n 0, 1) := by decide +kernel
theorem dX12_readSteps_39 : decode cX12_readSteps 39 = .ok (.getfield 118, 3) := by decide +kernel
theorem dX12_readSteps_42 : decode cX12_readSteps 42 = .ok (.invokevirtual 148, 3) := by decide +kernel
theorem dX12_readSteps_45 : decode cX12_readSteps 45 = .ok (.goto 34, 3) := by decide +kernel
theorem dX12_readSteps_48 : decode cX12_readSteps 48 = .ok (.aload_n 0, 1) := by decide +kernel
theorem dX12_readSteps_49 : decode cX12_readSteps 49 = .ok (.getfield 241, 3) := by decide +kernel
theorem dX12_readSteps_52 : decode cX12_readSteps 52 = .ok (.bipush 60, 2) := by decide +kernel
theorem dX12_readSteps_54 : decode cX12_readSteps 54 = .ok (.if_icmp .eq 16, 3) := by decide +kernel
theorem dX12_readSteps_57 : decode cX12_readSteps 57 = .ok (.iload_n 1, 1) := by decide +kernel
theorem dX12_readSteps_58 : decode cX12_readSteps 58 = .ok (.iconst 5, 1) := by decide +kernel
theorem dX12_readSteps_59 : decode cX12_readSteps 59 = .ok (.if_icmp .ne 20, 3) := by decide +kernel
theorem dX12_readSteps_62 : decode cX12_readSteps 62 = .ok (.aload_n 0, 1) := by decide +kernel
theorem dX12_readSteps_63 : decode cX12_readSteps 63 = .ok (.getfield 244, 3) := by decide +kernel
theorem dX12_readSteps_66 : decode cX12_readSteps 66 = .ok (.iconst 3, 1) := by decide +kernel
theorem dX12_readSteps_67 : decode cX12_readSteps 67 = .ok (.if_icmp .ne 12, 3) := by decide +kernel
theorem dX12_readSteps_70 : decode cX12_readSteps 70 = .ok (.aload_n 0, 1) := by decide +kernel
theorem dX12_readSteps_71 : decode cX12_readSteps 71 = .ok (.iconst 3, 1) := by decide +kernel
theorem dX12_readSteps_72 : decode cX12_readSteps 72 = .ok (.aload_n 0, 1) := by decide +kernel
theorem dX12_readSteps_73 : decode cX12_readSteps 73 = .ok (.getfield 118, 3) := by decide +kernel
theorem dX12_readSteps_76 : decode cX12_readSteps 76 = .ok (.invokevirtual 148, 3) := by decide +kernel
theorem dX12_readSteps_79 : decode cX12_readSteps 79 = .ok (.aload_n 0, 1) := by decide +kernel
theorem dX12_readSteps_80 : decode cX12_readSteps 80 = .ok (.invokevirtual 141, 3) := by decide +kernel
theorem dX12_readSteps_83 : decode cX12_readSteps 83 = .ok (.ifCond .ne 4, 3) := by decide +kernel
theorem dX12_readSteps_86 : decode cX12_readSteps 86 = .ok (.return_, 1) := by decide +kernel
theorem dX12_readSteps_87 : decode cX12_readSteps 87 = .ok (.aload_n 0, 1) := by decide +kernel
theorem dX12_readSteps_88 : decode cX12_readSteps 88 = .ok (.invokevirtual 179, 3) := by decide +kernel
theorem dX12_readSteps_91 : decode cX12_readSteps 91 = .ok (.bipush 60, 2) := by decide +kernel
theorem dX12_readSteps_93 : decode cX12_readSteps 93 = .ok (.aload_n 0, 1) := by decide +kernel
theorem dX12_readSteps_94 : decode cX12_readSteps 94 = .ok (.getfield 199, 3) := by decide +kernel
theorem dX12_readSteps_97 : decode cX12_readSteps 97 = .ok (.imul, 1) := by decide +kernel
theorem dX12_readSteps_98 : decode cX12_readSteps 98 = .ok (.aload_n 0, 1) := by decide +kernel
theorem dX12_readSteps_99 : decode cX12_readSteps 99 = .ok (.getfield 241, 3) := by decide +kernel
theorem dX12_readSteps_102 : decode cX12_readSteps 102 = .ok (.iadd, 1) := by decide +kernel
theorem dX12_readSteps_103 : decode cX12_readSteps 103 = .ok (.istore_n 2, 1) := by decide +kernel
theorem dX12_readSteps_104 : decode cX12_readSteps 104 = .ok (.aload_n 0, 1) := by decide +kernel
theorem dX12_readSteps_105 : decode cX12_readSteps 105 = .ok (.dup, 1) := by decide +kernel
theorem dX12_readSteps_106 : decode cX12_readSteps 106 = .ok (.getfield 241, 3) := by decide +kernel
theorem dX12_readSteps_109 : decode cX12_readSteps 109 = .ok (.iconst 1, 1) := by decide +kernel
theorem dX12_readSteps_110 : decode cX12_readSteps 110 = .ok (.iadd, 1) := by decide +kernel
theorem dX12_readSteps_111 : decode cX12_readSteps 111 = .ok (.putfield 241, 3) := by decide +kernel
theorem dX12_readSteps_114 : decode cX12_readSteps 114 = .ok (.aload_n 0, 1) := by decide +kernel
theorem dX12_readSteps_115 : decode cX12_readSteps 115 = .ok (.getfield 66, 3) := by decide +kernel
theorem dX12_readSteps_118 : decode cX12_readSteps 118 = .ok (.iload_n 2, 1) := by decide +kernel
theorem dX12_readSteps_119 : decode cX12_readSteps 119 = .ok (.iload_n 1, 1) := by decide +kernel
theorem dX12_readSteps_120 : decode cX12_readSteps 120 = .ok (.iastore, 1) := by decide +kernel
theorem dX12_readSteps_121 : decode cX12_readSteps 121 = .ok (.iload_n 1, 1) := by decide +kernel
theorem dX12_readSteps_122 : decode cX12_readSteps 122 = .ok (.iconst 5, 1) := by decide +kernel
theorem dX12_readSteps_123 : decode cX12_readSteps 123 = .ok (.if_icmp .ne 65, 3) := by decide +kernel
theorem dX12_readSteps_126 : decode cX12_readSteps 126 = .ok (.aload_n 0, 1) := by decide +kernel
theorem dX12_readSteps_127 : decode cX12_readSteps 127 = .ok (.getfield 69, 3) := by decide +kernel
theorem dX12_readSteps_130 : decode cX12_readSteps 130 = .ok (.iload_n 2, 1) := by decide +kernel
theorem dX12_readSteps_131 : decode cX12_readSteps 131 = .ok (.aload_n 0, 1) := by decide +kernel
theorem dX12_readSteps_132 : decode cX12_readSteps 132 = .ok (.iconst 1, 1) := by decide +kernel
theorem dX12_readSteps_133 : decode cX12_readSteps 133 = .ok (.bipush 99, 2) := by decide +kernel
theorem dX12_readSteps_135 : decode cX12_readSteps 135 = .ok (.invokevirtual 182, 3) := by decide +kernel
theorem dX12_readSteps_138 : decode cX12_readSteps 138 = .ok (.iastore, 1) := by decide +kernel
theorem dX12_readSteps_139 : decode cX12_readSteps 139 = .ok (.aload_n 0, 1) := by decide +kernel
theorem dX12_readSteps_140 : decode cX12_readSteps 140 = .ok (.bipush 91, 2) := by decide +kernel
theorem dX12_readSteps_142 : decode cX12_readSteps 142 = .ok (.invokevirtual 189, 3) := by decide +kernel
theorem dX12_readSteps_145 : decode cX12_readSteps 145 = .ok (.aload_n 0, 1) := by decide +kernel
theorem dX12_readSteps_146 : decode cX12_readSteps 146 = .ok (.dup, 1) := by decide +kernel
theorem dX12_readSteps_147 : decode cX12_readSteps 147 = .ok (.getfield 244, 3) := by decide +kernel
theorem dX12_readSteps_150 : decode cX12_readSteps 150 = .ok (.iconst 1, 1) := by decide +kernel
theorem dX12_readSteps_151 : decode cX12_readSteps 151 = .ok (.iadd, 1) := by decide +kernel
theorem dX12_readSteps_152 : decode cX12_readSteps 152 = .ok (.putfield 244, 3) := by decide +kernel
theorem dX12_readSteps_155 : decode cX12_readSteps 155 = .ok (.aload_n 0, 1) := by decide +kernel
theorem dX12_readSteps_156 : decode cX12_readSteps 156 = .ok (.invokevirtual 247, 3) := by decide +kernel
theorem dX12_readSteps_159 : decode cX12_readSteps 159 = .ok (.aload_n 0, 1) := by decide +kernel
theorem dX12_readSteps_160 : decode cX12_readSteps 160 = .ok (.dup, 1) := by decide +kernel
theorem dX12_readSteps_161 : decode cX12_readSteps 161 = .ok (.getfield 244, 3) := by decide +kernel
theorem dX12_readSteps_164 : decode cX12_readSteps 164 = .ok (.iconst 1, 1) := by decide +kernel
theorem dX12_readSteps_165 : decode cX12_readSteps 165 = .ok (.isub, 1) := by decide +kernel
theorem dX12_readSteps_166 : decode cX12_readSteps 166 = .ok (.putfield 244, 3) := by decide +kernel
theorem dX12_readSteps_169 : decode cX12_readSteps 169 = .ok (.aload_n 0, 1) := by decide +kernel
theorem dX12_readSteps_170 : decode cX12_readSteps 170 = .ok (.bipush 93, 2) := by decide +kernel
theorem dX12_readSteps_172 : decode cX12_readSteps 172 = .ok (.invokevirtual 189, 3) := by decide +kernel
theorem dX12_readSteps_175 : decode cX12_readSteps 175 = .ok (.aload_n 0, 1) := by decide +kernel
theorem dX12_readSteps_176 : decode cX12_readSteps 176 = .ok (.getfield 72, 3) := by decide +kernel
theorem dX12_readSteps_179 : decode cX12_readSteps 179 = .ok (.iload_n 2, 1) := by decide +kernel
theorem dX12_readSteps_180 : decode cX12_readSteps 180 = .ok (.aload_n 0, 1) := by decide +kernel
theorem dX12_readSteps_181 : decode cX12_readSteps 181 = .ok (.getfield 241, 3) := by decide +kernel
theorem dX12_readSteps_184 : decode cX12_readSteps 184 = .ok (.iastore, 1) := by decide +kernel
theorem dX12_readSteps_185 : decode cX12_readSteps 185 = .ok (.goto 51, 3) := by decide +kernel
theorem dX12_readSteps_188 : decode cX12_readSteps 188 = .ok (.aload_n 0, 1) := by decide +kernel
theorem dX12_readSteps_189 : decode cX12_readSteps 189 = .ok (.getfield 69, 3) := by decide +kernel
theorem dX12_readSteps_192 : decode cX12_readSteps 192 = .ok (.iload_n 2, 1) := by decide +kernel
theorem dX12_readSteps_193 : decode cX12_readSteps 193 = .ok (.sipush 500, 3) := by decide +kernel
theorem dX12_readSteps_196 : decode cX12_readSteps 196 = .ok (.aload_n 0, 1) := by decide +kernel
theorem dX12_readSteps_197 : decode cX12_readSteps 197 = .ok (.getfield 199, 3) := by decide +kernel
theorem dX12_readSteps_200 : decode cX12_readSteps 200 = .ok (.imul, 1) := by decide +kernel
theorem dX12_readSteps_201 : decode cX12_readSteps 201 = .ok (.aload_n 0, 1) := by decide +kernel
theorem dX12_readSteps_202 : decode cX12_readSteps 202 = .ok (.getfield 202, 3) := by decide +kernel
theorem dX12_readSteps_205 : decode cX12_readSteps 205 = .ok (.iadd, 1) := by decide +kernel
theorem dX12_readSteps_206 : decode cX12_readSteps 206 = .ok (.iastore, 1) := by decide +kernel
theorem dX12_readSteps_207 : decode cX12_readSteps 207 = .ok (.aload_n 0, 1) := by decide +kernel
theorem dX12_readSteps_208 : decode cX12_readSteps 208 = .ok (.invokevirtual 208, 3) := by decide +kernel
theorem dX12_readSteps_211 : decode cX12_readSteps 211 = .ok (.aload_n 0, 1) := by decide +kernel
theorem dX12_readSteps_212 : decode cX12_readSteps 212 = .ok (.getfield 72, 3) := by decide +kernel
theorem dX12_readSteps_215 : decode cX12_readSteps 215 = .ok (.iload_n 2, 1) := by decide +kernel
theorem dX12_readSteps_216 : decode cX12_readSteps 216 = .ok (.sipush 500, 3) := by decide +kernel
theorem dX12_readSteps_219 : decode cX12_readSteps 219 = .ok (.aload_n 0, 1) := by decide +kernel
theorem dX12_readSteps_220 : decode cX12_readSteps 220 = .ok (.getfield 199, 3) := by decide +kernel
theorem dX12_readSteps_223 : decode cX12_readSteps 223 = .ok (.imul, 1) := by decide +kernel
theorem dX12_readSteps_224 : decode cX12_readSteps 224 = .ok (.aload_n 0, 1) := by decide +kernel
theorem dX12_readSteps_225 : decode cX12_readSteps 225 = .ok (.getfield 202, 3) := by decide +kernel
theorem dX12_readSteps_228 : decode cX12_readSteps 228 = .ok (.iadd, 1) := by decide +kernel
theorem dX12_readSteps_229 : decode cX12_readSteps 229 = .ok (.iastore, 1) := by decide +kernel
theorem dX12_readSteps_230 : decode cX12_readSteps 230 = .ok (.aload_n 0, 1) := by decide +kernel
theorem dX12_readSteps_231 : decode cX12_readSteps 231 = .ok (.bipush 59, 2) := by decide +kernel
theorem dX12_readSteps_233 : decode cX12_readSteps 233 = .ok (.invokevirtual 189, 3) := by decide +kernel
theorem dX12_readSteps_236 : decode cX12_readSteps 236 = .ok (.goto (-236), 3) := by decide +kernel
theorem dX12_readSteps_239 : decode cX12_readSteps 239 = .ok (.return_, 1) := by decide +kernel
theorem dX12_thief_0 : decode cX12_thief 0 = .ok (.aload_n 0, 1) := by decide +kernel
theorem dX12_thief_1 : decode cX12_thief 1 = .ok (.iconst 0, 1) := by decide +kernel
theorem dX12_thief_2 : decode cX12_thief 2 = .ok (.putfield 1, 3) := by decide +kernel
theorem dX12_thief_5 : decode cX12_thief 5 = .ok (.aload_n 0, 1) := by decide +kernel
theorem dX12_thief_6 : decode cX12_thief 6 = .ok (.iload_n 1, 1) := by decide +kernel
theorem dX12_thief_7 : decode cX12_thief 7 = .ok (.ifCond .lt 15, 3) := by decide +kernel
theorem dX12_thief_10 : decode cX12_thief 10 = .ok (.iload_n 1, 1) := by decide +kernel
theorem dX12_thief_11 : decode cX12_thief 11 = .ok (.aload_n 0, 1) := by decide +kernel
theorem dX12_thief_12 : decode cX12_thief 12 = .ok (.getfield 109, 3) := by decide +kernel
theorem dX12_thief_15 : decode cX12_thief 15 = .ok (.if_icmp .gt 7, 3) := by decide +kernel
theorem dX12_thief_18 : decode cX12_thief 18 = .ok (.iconst 1, 1) := by decide +kernel
theorem dX12_thief_19 : decode cX12_thief 19 = .ok (.goto 4, 3) := by decide +kernel
theorem dX12_thief_22 : decode cX12_thief 22 = .ok (.iconst 0, 1) := by decide +kernel
theorem dX12_thief_23 : decode cX12_thief 23 = .ok (.iconst 1, 1) := by decide +kernel
theorem dX12_thief_24 : decode cX12_thief 24 = .ok (.iconst 2, 1) := by decide +kernel
theorem dX12_thief_25 : decode cX12_thief 25 = .ok (.invokevirtual 157, 3) := by decide +kernel
theorem dX12_thief_28 : decode cX12_thief 28 = .ok (.ifCond .ne 5, 3) := by decide +kernel
theorem dX12_thief_31 : decode cX12_thief 31 = .ok (.iconst 0, 1) := by decide +kernel
theorem dX12_thief_32 : decode cX12_thief 32 = .ok (.ireturn, 1) := by decide +kernel
theorem dX12_thief_33 : decode cX12_thief 33 = .ok (.aload_n 0, 1) := by decide +kernel
theorem dX12_thief_34 : decode cX12_thief 34 = .ok (.iload_n 1, 1) := by decide +kernel
theorem dX12_thief_35 : decode cX12_thief 35 = .ok (.invokevirtual 161, 3) := by decide +kernel
theorem dX12_thief_38 : decode cX12_thief 38 = .ok (.aload_n 0, 1) := by decide +kernel
theorem dX12_thief_39 : decode cX12_thief 39 = .ok (.getfield 199, 3) := by decide +kernel
theorem dX12_thief_42 : decode cX12_thief 42 = .ok (.iconst 4, 1) := by decide +kernel
theorem dX12_thief_43 : decode cX12_thief 43 = .ok (.if_icmp .ne 5, 3) := by decide +kernel
theorem dX12_thief_46 : decode cX12_thief 46 = .ok (.iconst (-1), 1) := by decide +kernel
theorem dX12_thief_47 : decode cX12_thief 47 = .ok (.ireturn, 1) := by decide +kernel
theorem dX12_thief_48 : decode cX12_thief 48 = .ok (.aload_n 0, 1) := by decide +kernel
theorem dX12_thief_49 : decode cX12_thief 49 = .ok (.iconst 0, 1) := by decide +kernel
theorem dX12_thief_50 : decode cX12_thief 50 = .ok (.putfield 241, 3) := by decide +kernel
theorem dX12_thief_53 : decode cX12_thief 53 = .ok (.aload_n 0, 1) := by decide +kernel
theorem dX12_thief_54 : decode cX12_thief 54 = .ok (.iconst 0, 1) := by decide +kernel
theorem dX12_thief_55 : decode cX12_thief 55 = .ok (.putfield 202, 3) := by decide +kernel
theorem dX12_thief_58 : decode cX12_thief 58 = .ok (.aload_n 0, 1) := by decide +kernel
theorem dX12_thief_59 : decode cX12_thief 59 = .ok (.iconst 0, 1) := by decide +kernel
theorem dX12_thief_60 : decode cX12_thief 60 = .ok (.putfield 244, 3) := by decide +kernel
theorem dX12_thief_63 : decode cX12_thief 63 = .ok (.aload_n 0, 1) := by decide +kernel
theorem dX12_thief_64 : decode cX12_thief 64 = .ok (.invokevirtual 165, 3) := by decide +kernel
theorem dX12_thief_67 : decode cX12_thief 67 = .ok (.ifCond .ne 12, 3) := by decide +kernel
theorem dX12_thief_70 : decode cX12_thief 70 = .ok (.aload_n 0, 1) := by decide +kernel
theorem dX12_thief_71 : decode cX12_thief 71 = .ok (.iconst 1, 1) := by decide +kernel
theorem dX12_thief_72 : decode cX12_thief 72 = .ok (.aload_n 0, 1) := by decide +kernel
theorem dX12_thief_73 : decode cX12_thief 73 = .ok (.getfield 121, 3) := by decide +kernel
theorem dX12_thief_76 : decode cX12_thief 76 = .ok (.invokevirtual 148, 3) := by decide +kernel
theorem dX12_thief_79 : decode cX12_thief 79 = .ok (.aload_n 0, 1) := by decide +kernel
theorem dX12_thief_80 : decode cX12_thief 80 = .ok (.invokevirtual 247, 3) := by decide +kernel
theorem dX12_thief_83 : decode cX12_thief 83 = .ok (.aload_n 0, 1) := by decide +kernel
theorem dX12_thief_84 : decode cX12_thief 84 = .ok (.invokevirtual 141, 3) := by decide +kernel
theorem dX12_thief_87 : decode cX12_thief 87 = .ok (.ifCond .eq 19, 3) := by decide +kernel
theorem dX12_thief_90 : decode cX12_thief 90 = .ok (.aload_n 0, 1) := by decide +kernel
theorem dX12_thief_91 : decode cX12_thief 91 = .ok (.invokevirtual 165, 3) := by decide +kernel
theorem dX12_thief_94 : decode cX12_thief 94 = .ok (.ifCond .eq 12, 3) := by decide +kernel
theorem dX12_thief_97 : decode cX12_thief 97 = .ok (.aload_n 0, 1) := by decide +kernel
theorem dX12_thief_98 : decode cX12_thief 98 = .ok (.iconst 1, 1) := by decide +kernel
theorem dX12_thief_99 : decode cX12_thief 99 = .ok (.aload_n 0, 1) := by decide +kernel
theorem dX12_thief_100 : decode cX12_thief 100 = .ok (.getfield 118, 3) := by decide +kernel
theorem dX12_thief_103 : decode cX12_thief 103 = .ok (.invokevirtual 148, 3) := by decide +kernel
theorem dX12_thief_106 : decode cX12_thief 106 = .ok (.aload_n 0, 1) := by decide +kernel
theorem dX12_thief_107 : decode cX12_thief 107 = .ok (.aload_n 0, 1) := by decide +kernel
theorem dX12_thief_108 : decode cX12_thief 108 = .ok (.getfield 199, 3) := by decide +kernel
theorem dX12_thief_111 : decode cX12_thief 111 = .ok (.invokevirtual 192, 3) := by decide +kernel
theorem dX12_thief_114 : decode cX12_thief 114 = .ok (.istore_n 2, 1) := by decide +kernel
theorem dX12_thief_115 : decode cX12_thief 115 = .ok (.iload_n 2, 1) := by decide +kernel
theorem dX12_thief_116 : decode cX12_thief 116 = .ok (.aload_n 0, 1) := by decide +kernel
theorem dX12_thief_117 : decode cX12_thief 117 = .ok (.getfield 199, 3) := by decide +kernel
theorem dX12_thief_120 : decode cX12_thief 120 = .ok (.if_icmp .ne 26, 3) := by decide +kernel
theorem dX12_thief_123 : decode cX12_thief 123 = .ok (.aload_n 0, 1) := by decide +kernel
theorem dX12_thief_124 : decode cX12_thief 124 = .ok (.getfield 63, 3) := by decide +kernel
theorem dX12_thief_127 : decode cX12_thief 127 = .ok (.aload_n 0, 1) := by decide +kernel
theorem dX12_thief_128 : decode cX12_thief 128 = .ok (.getfield 199, 3) := by decide +kernel
theorem dX12_thief_131 : decode cX12_thief 131 = .ok (.aload_n 0, 1) := by decide +kernel
theorem dX12_thief_132 : decode cX12_thief 132 = .ok (.getfield 241, 3) := by decide +kernel
theorem dX12_thief_135 : decode cX12_thief 135 = .ok (.iastore, 1) := by decide +kernel
theorem dX12_thief_136 : decode cX12_thief 136 = .ok (.aload_n 0, 1) := by decide +kernel
theorem dX12_thief_137 : decode cX12_thief 137 = .ok (.dup, 1) := by decide +kernel
theorem dX12_thief_138 : decode cX12_thief 138 = .ok (.getfield 199, 3) := by decide +kernel
theorem dX12_thief_141 : decode cX12_thief 141 = .ok (.iconst 1, 1) := by decide +kernel
theorem dX12_thief_142 : decode cX12_thief 142 = .ok (.iadd, 1) := by decide +kernel
theorem dX12_thief_143 : decode cX12_thief 143 = .ok (.putfield 199, 3) := by decide +kernel
theorem dX12_thief_146 : decode cX12_thief 146 = .ok (.iload_n 2, 1) := by decide +kernel
theorem dX12_thief_147 : decode cX12_thief 147 = .ok (.ireturn, 1) := by decide +kernel
theorem dX12_told_0 : decode cX12_told 0 = .ok (.aload_n 0, 1) := by decide +kernel
theorem dX12_told_1 : decode cX12_told 1 = .ok (.iconst 0, 1) := by decide +kernel
theorem dX12_told_2 : decode cX12_told 2 = .ok (.putfield 1, 3) := by decide +kernel
theorem dX12_told_5 : decode cX12_told 5 = .ok (.aload_n 0, 1) := by decide +kernel
theorem dX12_told_6 : decode cX12_told 6 = .ok (.iload_n 1, 1) := by decide +kernel
theorem dX12_told_7 : decode cX12_told 7 = .ok (.iconst 0, 1) := by decide +kernel
theorem dX12_told_8 : decode cX12_told 8 = .ok (.iconst 3, 1) := by decide +kernel
theorem dX12_told_9 : decode cX12_told 9 = .ok (.invokestatic 250, 3) := by decide +kernel
theorem dX12_told_12 : decode cX12_told 12 = .ok (.iconst 1, 1) := by decide +kernel
theorem dX12_told_13 : decode cX12_told 13 = .ok (.iconst 2, 1) := by decide +kernel
theorem dX12_told_14 : decode cX12_told 14 = .ok (.invokevirtual 157, 3) := by decide +kernel
theorem dX12_told_17 : decode cX12_told 17 = .ok (.ifCond .ne 5, 3) := by decide +kernel
theorem dX12_told_20 : decode cX12_told 20 = .ok (.iconst 0, 1) := by decide +kernel
theorem dX12_told_21 : decode cX12_told 21 = .ok (.ireturn, 1) := by decide +kernel
theorem dX12_told_22 : decode cX12_told 22 = .ok (.iload_n 1, 1) := by decide +kernel
theorem dX12_told_23 : decode cX12_told 23 = .ok (.iconst 1, 1) := by decide +kernel
theorem dX12_told_24 : decode cX12_told 24 = .ok (.if_icmp .ne 16, 3) := by decide +kernel
theorem dX12_told_27 : decode cX12_told 27 = .ok (.aload_n 0, 1) := by decide +kernel
theorem dX12_told_28 : decode cX12_told 28 = .ok (.getfield 29, 3) := by decide +kernel
theorem dX12_told_31 : decode cX12_told 31 = .ok (.ifCond .eq 7, 3) := by decide +kernel
theorem dX12_told_34 : decode cX12_told 34 = .ok (.iconst 1, 1) := by decide +kernel
theorem dX12_told_35 : decode cX12_told 35 = .ok (.goto 4, 3) := by decide +kernel
theorem dX12_told_38 : decode cX12_told 38 = .ok (.iconst 0, 1) := by decide +kernel
theorem dX12_told_39 : decode cX12_told 39 = .ok (.ireturn, 1) := by decide +kernel
theorem dX12_told_40 : decode cX12_told 40 = .ok (.iload_n 1, 1) := by decide +kernel
theorem dX12_told_41 : decode cX12_told 41 = .ok (.ifCond .ne 10, 3) := by decide +kernel
theorem dX12_told_44 : decode cX12_told 44 = .ok (.aload_n 0, 1) := by decide +kernel
theorem dX12_told_45 : decode cX12_told 45 = .ok (.getfield 23, 3) := by decide +kernel
theorem dX12_told_48 : decode cX12_told 48 = .ok (.goto 19, 3) := by decide +kernel
theorem dX12_told_51 : decode cX12_told 51 = .ok (.iload_n 1, 1) := by decide +kernel
theorem dX12_told_52 : decode cX12_told 52 = .ok (.iconst 2, 1) := by decide +kernel
theorem dX12_told_53 : decode cX12_told 53 = .ok (.if_icmp .ne 10, 3) := by decide +kernel
theorem dX12_told_56 : decode cX12_told 56 = .ok (.aload_n 0, 1) := by decide +kernel
theorem dX12_told_57 : decode cX12_told 57 = .ok (.getfield 26, 3) := by decide +kernel
theorem dX12_told_60 : decode cX12_told 60 = .ok (.goto 7, 3) := by decide +kernel
theorem dX12_told_63 : decode cX12_told 63 = .ok (.aload_n 0, 1) := by decide +kernel
theorem dX12_told_64 : decode cX12_told 64 = .ok (.getfield 199, 3) := by decide +kernel
theorem dX12_told_67 : decode cX12_told 67 = .ok (.ireturn, 1) := by decide +kernel
theorem dX12_place_0 : decode cX12_place 0 = .ok (.iconst 0, 1) := by decide +kernel
theorem dX12_place_1 : decode cX12_place 1 = .ok (.istore_n 3, 1) := by decide +kernel
theorem dX12_place_2 : decode cX12_place 2 = .ok (.aload_n 0, 1) := by decide +kernel
theorem dX12_place_3 : decode cX12_place 3 = .ok (.getfield 36, 3) := by decide +kernel
theorem dX12_place_6 : decode cX12_place 6 = .ok (.iload_n 1, 1) := by decide +kernel
theorem dX12_place_7 : decode cX12_place 7 = .ok (.iaload, 1) := by decide +kernel
theorem dX12_place_8 : decode cX12_place 8 = .ok (.istore 4, 2) := by decide +kernel
theorem dX12_place_10 : decode cX12_place 10 = .ok (.iload_n 3, 1) := by decide +kernel
theorem dX12_place_11 : decode cX12_place 11 = .ok (.iload 4, 2) := by decide +kernel
theorem dX12_place_13 : decode cX12_place 13 = .ok (.if_icmp .ge 43, 3) := by decide +kernel
theorem dX12_place_16 : decode cX12_place 16 = .ok (.iload_n 3, 1) := by decide +kernel
theorem dX12_place_17 : decode cX12_place 17 = .ok (.iload 4, 2) := by decide +kernel
theorem dX12_place_19 : decode cX12_place 19 = .ok (.iadd, 1) := by decide +kernel
theorem dX12_place_20 : decode cX12_place 20 = .ok (.iconst 2, 1) := by decide +kernel
theorem dX12_place_21 : decode cX12_place 21 = .ok (.idiv, 1) := by decide +kernel
theorem dX12_place_22 : decode cX12_place 22 = .ok (.istore 5, 2) := by decide +kernel
theorem dX12_place_24 : decode cX12_place 24 = .ok (.aload_n 0, 1) := by decide +kernel
theorem dX12_place_25 : decode cX12_place 25 = .ok (.getfield 33, 3) := by decide +kernel
theorem dX12_place_28 : decode cX12_place 28 = .ok (.sipush 2000, 3) := by decide +kernel
theorem dX12_place_31 : decode cX12_place 31 = .ok (.iload_n 1, 1) := by decide +kernel
theorem dX12_place_32 : decode cX12_place 32 = .ok (.imul, 1) := by decide +kernel
theorem dX12_place_33 : decode cX12_place 33 = .ok (.iload 5, 2) := by decide +kernel
theorem dX12_place_35 : decode cX12_place 35 = .ok (.iadd, 1) := by decide +kernel
theorem dX12_place_36 : decode cX12_place 36 = .ok (.iaload, 1) := by decide +kernel
theorem dX12_place_37 : decode cX12_place 37 = .ok (.iload_n 2, 1) := by decide +kernel
theorem dX12_place_38 : decode cX12_place 38 = .ok (.if_icmp .ge 11, 3) := by decide +kernel
theorem dX12_place_41 : decode cX12_place 41 = .ok (.iload 5, 2) := by decide +kernel
theorem dX12_place_43 : decode cX12_place 43 = .ok (.iconst 1, 1) := by decide +kernel
theorem dX12_place_44 : decode cX12_place 44 = .ok (.iadd, 1) := by decide +kernel
theorem dX12_place_45 : decode cX12_place 45 = .ok (.istore_n 3, 1) := by decide +kernel
theorem dX12_place_46 : decode cX12_place 46 = .ok (.goto 7, 3) := by decide +kernel
theorem dX12_place_49 : decode cX12_place 49 = .ok (.iload 5, 2) := by decide +kernel
theorem dX12_place_51 : decode cX12_place 51 = .ok (.istore 4, 2) := by decide +kernel
theorem dX12_place_53 : decode cX12_place 53 = .ok (.goto (-43), 3) := by decide +kernel
theorem dX12_place_56 : decode cX12_place 56 = .ok (.iload_n 3, 1) := by decide +kernel
theorem dX12_place_57 : decode cX12_place 57 = .ok (.ireturn, 1) := by decide +kernel
theorem dX12_isThere_0 : decode cX12_isThere 0 = .ok (.aload_n 0, 1) := by decide +kernel
theorem dX12_isThere_1 : decode cX12_isThere 1 = .ok (.iload_n 1, 1) := by decide +kernel
theorem dX12_isThere_2 : decode cX12_isThere 2 = .ok (.iload_n 2, 1) := by decide +kernel
theorem dX12_isThere_3 : decode cX12_isThere 3 = .ok (.invokevirtual 254, 3) := by decide +kernel
theorem dX12_isThere_6 : decode cX12_isThere 6 = .ok (.istore_n 3, 1) := by decide +kernel
theorem dX12_isThere_7 : decode cX12_isThere 7 = .ok (.iload_n 3, 1) := by decide +kernel
theorem dX12_isThere_8 : decode cX12_isThere 8 = .ok (.aload_n 0, 1) := by decide +kernel
theorem dX12_isThere_9 : decode cX12_isThere 9 = .ok (.getfield 36, 3) := by decide +kernel
theorem dX12_isThere_12 : decode cX12_isThere 12 = .ok (.iload_n 1, 1) := by decide +kernel
theorem dX12_isThere_13 : decode cX12_isThere 13 = .ok (.iaload, 1) := by decide +kernel
theorem dX12_isThere_14 : decode cX12_isThere 14 = .ok (.if_icmp .ge 23, 3) := by decide +kernel
theorem dX12_isThere_17 : decode cX12_isThere 17 = .ok (.aload_n 0, 1) := by decide +kernel
theorem dX12_isThere_18 : decode cX12_isThere 18 = .ok (.getfield 33, 3) := by decide +kernel
theorem dX12_isThere_21 : decode cX12_isThere 21 = .ok (.sipush 2000, 3) := by decide +kernel
theorem dX12_isThere_24 : decode cX12_isThere 24 = .ok (.iload_n 1, 1) := by decide +kernel
theorem dX12_isThere_25 : decode cX12_isThere 25 = .ok (.imul, 1) := by decide +kernel
theorem dX12_isThere_26 : decode cX12_isThere 26 = .ok (.iload_n 3, 1) := by decide +kernel
theorem dX12_isThere_27 : decode cX12_isThere 27 = .ok (.iadd, 1) := by decide +kernel
theorem dX12_isThere_28 : decode cX12_isThere 28 = .ok (.iaload, 1) := by decide +kernel
theorem dX12_isThere_29 : decode cX12_isThere 29 = .ok (.iload_n 2, 1) := by decide +kernel
theorem dX12_isThere_30 : decode cX12_isThere 30 = .ok (.if_icmp .ne 7, 3) := by decide +kernel
theorem dX12_isThere_33 : decode cX12_isThere 33 = .ok (.iconst 1, 1) := by decide +kernel
theorem dX12_isThere_34 : decode cX12_isThere 34 = .ok (.goto 4, 3) := by decide +kernel
theorem dX12_isThere_37 : decode cX12_isThere 37 = .ok (.iconst 0, 1) := by decide +kernel
theorem dX12_isThere_38 : decode cX12_isThere 38 = .ok (.ireturn, 1) := by decide +kernel
theorem dX12_comes_0 : decode cX12_comes 0 = .ok (.sipush 2000, 3) := by decide +kernel
theorem dX12_comes_3 : decode cX12_comes 3 = .ok (.iload_n 1, 1) := by decide +kernel
theorem dX12_comes_4 : decode cX12_comes 4 = .ok (.imul, 1) := by decide +kernel
theorem dX12_comes_5 : decode cX12_comes 5 = .ok (.aload_n 0, 1) := by decide +kernel
theorem dX12_comes_6 : decode cX12_comes 6 = .ok (.iload_n 1, 1) := by decide +kernel
theorem dX12_comes_7 : decode cX12_comes 7 = .ok (.iload_n 2, 1) := by decide +kernel
theorem dX12_comes_8 : decode cX12_comes 8 = .ok (.invokevirtual 254, 3) := by decide +kernel
theorem dX12_comes_11 : decode cX12_comes 11 = .ok (.iadd, 1) := by decide +kernel
theorem dX12_comes_12 : decode cX12_comes 12 = .ok (.istore_n 3, 1) := by decide +kernel
theorem dX12_comes_13 : decode cX12_comes 13 = .ok (.sipush 2000, 3) := by decide +kernel
theorem dX12_comes_16 : decode cX12_comes 16 = .ok (.iload_n 1, 1) := by decide +kernel
theorem dX12_comes_17 : decode cX12_comes 17 = .ok (.imul, 1) := by decide +kernel
theorem dX12_comes_18 : decode cX12_comes 18 = .ok (.aload_n 0, 1) := by decide +kernel
theorem dX12_comes_19 : decode cX12_comes 19 = .ok (.getfield 36, 3) := by decide +kernel
theorem dX12_comes_22 : decode cX12_comes 22 = .ok (.iload_n 1, 1) := by decide +kernel
theorem dX12_comes_23 : decode cX12_comes 23 = .ok (.iaload, 1) := by decide +kernel
theorem dX12_comes_24 : decode cX12_comes 24 = .ok (.iadd, 1) := by decide +kernel
theorem dX12_comes_25 : decode cX12_comes 25 = .ok (.istore 4, 2) := by decide +kernel
theorem dX12_comes_27 : decode cX12_comes 27 = .ok (.iload 4, 2) := by decide +kernel
theorem dX12_comes_29 : decode cX12_comes 29 = .ok (.iload_n 3, 1) := by decide +kernel
theorem dX12_comes_30 : decode cX12_comes 30 = .ok (.if_icmp .le 25, 3) := by decide +kernel
theorem dX12_comes_33 : decode cX12_comes 33 = .ok (.aload_n 0, 1) := by decide +kernel
theorem dX12_comes_34 : decode cX12_comes 34 = .ok (.getfield 33, 3) := by decide +kernel
theorem dX12_comes_37 : decode cX12_comes 37 = .ok (.iload 4, 2) := by decide +kernel
theorem dX12_comes_39 : decode cX12_comes 39 = .ok (.aload_n 0, 1) := by decide +kernel
theorem dX12_comes_40 : decode cX12_comes 40 = .ok (.getfield 33, 3) := by decide +kernel
theorem dX12_comes_43 : decode cX12_comes 43 = .ok (.iload 4, 2) := by decide +kernel
theorem dX12_comes_45 : decode cX12_comes 45 = .ok (.iconst 1, 1) := by decide +kernel
theorem dX12_comes_46 : decode cX12_comes 46 = .ok (.isub, 1) := by decide +kernel
theorem dX12_comes_47 : decode cX12_comes 47 = .ok (.iaload, 1) := by decide +kernel
theorem dX12_comes_48 : decode cX12_comes 48 = .ok (.iastore, 1) := by decide +kernel
theorem dX12_comes_49 : decode cX12_comes 49 = .ok (.iinc 4 (-1), 3) := by decide +kernel
theorem dX12_comes_52 : decode cX12_comes 52 = .ok (.goto (-25), 3) := by decide +kernel
theorem dX12_comes_55 : decode cX12_comes 55 = .ok (.aload_n 0, 1) := by decide +kernel
theorem dX12_comes_56 : decode cX12_comes 56 = .ok (.getfield 33, 3) := by decide +kernel
theorem dX12_comes_59 : decode cX12_comes 59 = .ok (.iload_n 3, 1) := by decide +kernel
theorem dX12_comes_60 : decode cX12_comes 60 = .ok (.iload_n 2, 1) := by decide +kernel
theorem dX12_comes_61 : decode cX12_comes 61 = .ok (.iastore, 1) := by decide +kernel
theorem dX12_comes_62 : decode cX12_comes 62 = .ok (.aload_n 0, 1) := by decide +kernel
theorem dX12_comes_63 : decode cX12_comes 63 = .ok (.getfield 36, 3) := by decide +kernel
theorem dX12_comes_66 : decode cX12_comes 66 = .ok (.iload_n 1, 1) := by decide +kernel
theorem dX12_comes_67 : decode cX12_comes 67 = .ok (.dup2, 1) := by decide +kernel
theorem dX12_comes_68 : decode cX12_comes 68 = .ok (.iaload, 1) := by decide +kernel
theorem dX12_comes_69 : decode cX12_comes 69 = .ok (.iconst 1, 1) := by decide +kernel
theorem dX12_comes_70 : decode cX12_comes 70 = .ok (.iadd, 1) := by decide +kernel
theorem dX12_comes_71 : decode cX12_comes 71 = .ok (.iastore, 1) := by decide +kernel
theorem dX12_comes_72 : decode cX12_comes 72 = .ok (.return_, 1) := by decide +kernel
theorem dX12_leaves_0 : decode cX12_leaves 0 = .ok (.aload_n 0, 1) := by decide +kernel
theorem dX12_leaves_1 : decode cX12_leaves 1 = .ok (.getfield 36, 3) := by decide +kernel
theorem dX12_leaves_4 : decode cX12_leaves 4 = .ok (.iload_n 1, 1) := by decide +kernel
theorem dX12_leaves_5 : decode cX12_leaves 5 = .ok (.dup2, 1) := by decide +kernel
theorem dX12_leaves_6 : decode cX12_leaves 6 = .ok (.iaload, 1) := by decide +kernel
theorem dX12_leaves_7 : decode cX12_leaves 7 = .ok (.iconst 1, 1) := by decide +kernel
theorem dX12_leaves_8 : decode cX12_leaves 8 = .ok (.isub, 1) := by decide +kernel
theorem dX12_leaves_9 : decode cX12_leaves 9 = .ok (.iastore, 1) := by decide +kernel
theorem dX12_leaves_10 : decode cX12_leaves 10 = .ok (.sipush 2000, 3) := by decide +kernel
theorem dX12_leaves_13 : decode cX12_leaves 13 = .ok (.iload_n 1, 1) := by decide +kernel
theorem dX12_leaves_14 : decode cX12_leaves 14 = .ok (.imul, 1) := by decide +kernel
theorem dX12_leaves_15 : decode cX12_leaves 15 = .ok (.aload_n 0, 1) := by decide +kernel
theorem dX12_leaves_16 : decode cX12_leaves 16 = .ok (.iload_n 1, 1) := by decide +kernel
theorem dX12_leaves_17 : decode cX12_leaves 17 = .ok (.iload_n 2, 1) := by decide +kernel
theorem dX12_leaves_18 : decode cX12_leaves 18 = .ok (.invokevirtual 254, 3) := by decide +kernel
theorem dX12_leaves_21 : decode cX12_leaves 21 = .ok (.iadd, 1) := by decide +kernel
theorem dX12_leaves_22 : decode cX12_leaves 22 = .ok (.istore_n 3, 1) := by decide +kernel
theorem dX12_leaves_23 : decode cX12_leaves 23 = .ok (.iload_n 3, 1) := by decide +kernel
theorem dX12_leaves_24 : decode cX12_leaves 24 = .ok (.sipush 2000, 3) := by decide +kernel
theorem dX12_leaves_27 : decode cX12_leaves 27 = .ok (.iload_n 1, 1) := by decide +kernel
theorem dX12_leaves_28 : decode cX12_leaves 28 = .ok (.imul, 1) := by decide +kernel
theorem dX12_leaves_29 : decode cX12_leaves 29 = .ok (.aload_n 0, 1) := by decide +kernel
theorem dX12_leaves_30 : decode cX12_leaves 30 = .ok (.getfield 36, 3) := by decide +kernel
theorem dX12_leaves_33 : decode cX12_leaves 33 = .ok (.iload_n 1, 1) := by decide +kernel
theorem dX12_leaves_34 : decode cX12_leaves 34 = .ok (.iaload, 1) := by decide +kernel
theorem dX12_leaves_35 : decode cX12_leaves 35 = .ok (.iadd, 1) := by decide +kernel
theorem dX12_leaves_36 : decode cX12_leaves 36 = .ok (.if_icmp .ge 23, 3) := by decide +kernel
theorem dX12_leaves_39 : decode cX12_leaves 39 = .ok (.aload_n 0, 1) := by decide +kernel
theorem dX12_leaves_40 : decode cX12_leaves 40 = .ok (.getfield 33, 3) := by decide +kernel
theorem dX12_leaves_43 : decode cX12_leaves 43 = .ok (.iload_n 3, 1) := by decide +kernel
theorem dX12_leaves_44 : decode cX12_leaves 44 = .ok (.aload_n 0, 1) := by decide +kernel
theorem dX12_leaves_45 : decode cX12_leaves 45 = .ok (.getfield 33, 3) := by decide +kernel
theorem dX12_leaves_48 : decode cX12_leaves 48 = .ok (.iload_n 3, 1) := by decide +kernel
theorem dX12_leaves_49 : decode cX12_leaves 49 = .ok (.iconst 1, 1) := by decide +kernel
theorem dX12_leaves_50 : decode cX12_leaves 50 = .ok (.iadd, 1) := by decide +kernel
theorem dX12_leaves_51 : decode cX12_leaves 51 = .ok (.iaload, 1) := by decide +kernel
theorem dX12_leaves_52 : decode cX12_leaves 52 = .ok (.iastore, 1) := by decide +kernel
theorem dX12_leaves_53 : decode cX12_leaves 53 = .ok (.iinc 3 1, 3) := by decide +kernel
theorem dX12_leaves_56 : decode cX12_leaves 56 = .ok (.goto (-33), 3) := by decide +kernel
theorem dX12_leaves_59 : decode cX12_leaves 59 = .ok (.return_, 1) := by decide +kernel
theorem dX12_notesDown_0 : decode cX12_notesDown 0 = .ok (.aload_n 0, 1) := by decide +kernel
theorem dX12_notesDown_1 : decode cX12_notesDown 1 = .ok (.getfield 39, 3) := by decide +kernel
theorem dX12_notesDown_4 : decode cX12_notesDown 4 = .ok (.sipush 1000, 3) := by decide +kernel
theorem dX12_notesDown_7 : decode cX12_notesDown 7 = .ok (.iload_n 1, 1) := by decide +kernel
theorem dX12_notesDown_8 : decode cX12_notesDown 8 = .ok (.imul, 1) := by decide +kernel
theorem dX12_notesDown_9 : decode cX12_notesDown 9 = .ok (.aload_n 0, 1) := by decide +kernel
theorem dX12_notesDown_10 : decode cX12_notesDown 10 = .ok (.getfield 45, 3) := by decide +kernel
theorem dX12_notesDown_13 : decode cX12_notesDown 13 = .ok (.iload_n 1, 1) := by decide +kernel
theorem dX12_notesDown_14 : decode cX12_notesDown 14 = .ok (.iaload, 1) := by decide +kernel
theorem dX12_notesDown_15 : decode cX12_notesDown 15 = .ok (.iadd, 1) := by decide +kernel
theorem dX12_notesDown_16 : decode cX12_notesDown 16 = .ok (.iload_n 2, 1) := by decide +kernel
theorem dX12_notesDown_17 : decode cX12_notesDown 17 = .ok (.iastore, 1) := by decide +kernel
theorem dX12_notesDown_18 : decode cX12_notesDown 18 = .ok (.aload_n 0, 1) := by decide +kernel
theorem dX12_notesDown_19 : decode cX12_notesDown 19 = .ok (.getfield 42, 3) := by decide +kernel
theorem dX12_notesDown_22 : decode cX12_notesDown 22 = .ok (.sipush 1000, 3) := by decide +kernel
theorem dX12_notesDown_25 : decode cX12_notesDown 25 = .ok (.iload_n 1, 1) := by decide +kernel
theorem dX12_notesDown_26 : decode cX12_notesDown 26 = .ok (.imul, 1) := by decide +kernel
theorem dX12_notesDown_27 : decode cX12_notesDown 27 = .ok (.aload_n 0, 1) := by decide +kernel
theorem dX12_notesDown_28 : decode cX12_notesDown 28 = .ok (.getfield 45, 3) := by decide +kernel
theorem dX12_notesDown_31 : decode cX12_notesDown 31 = .ok (.iload_n 1, 1) := by decide +kernel
theorem dX12_notesDown_32 : decode cX12_notesDown 32 = .ok (.iaload, 1) := by decide +kernel
theorem dX12_notesDown_33 : decode cX12_notesDown 33 = .ok (.iadd, 1) := by decide +kernel
theorem dX12_notesDown_34 : decode cX12_notesDown 34 = .ok (.iload_n 3, 1) := by decide +kernel
theorem dX12_notesDown_35 : decode cX12_notesDown 35 = .ok (.iastore, 1) := by decide +kernel
theorem dX12_notesDown_36 : decode cX12_notesDown 36 = .ok (.aload_n 0, 1) := by decide +kernel
theorem dX12_notesDown_37 : decode cX12_notesDown 37 = .ok (.getfield 45, 3) := by decide +kernel
theorem dX12_notesDown_40 : decode cX12_notesDown 40 = .ok (.iload_n 1, 1) := by decide +kernel
theorem dX12_notesDown_41 : decode cX12_notesDown 41 = .ok (.dup2, 1) := by decide +kernel
theorem dX12_notesDown_42 : decode cX12_notesDown 42 = .ok (.iaload, 1) := by decide +kernel
theorem dX12_notesDown_43 : decode cX12_notesDown 43 = .ok (.iconst 1, 1) := by decide +kernel
theorem dX12_notesDown_44 : decode cX12_notesDown 44 = .ok (.iadd, 1) := by decide +kernel
theorem dX12_notesDown_45 : decode cX12_notesDown 45 = .ok (.iastore, 1) := by decide +kernel
theorem dX12_notesDown_46 : decode cX12_notesDown 46 = .ok (.return_, 1) := by decide +kernel
theorem dX12_isHouse_0 : decode cX12_isHouse 0 = .ok (.aload_n 0, 1) := by decide +kernel
theorem dX12_isHouse_1 : decode cX12_isHouse 1 = .ok (.iload_n 1, 1) := by decide +kernel
theorem dX12_isHouse_2 : decode cX12_isHouse 2 = .ok (.iconst 0, 1) := by decide +kernel
theorem dX12_isHouse_3 : decode cX12_isHouse 3 = .ok (.iconst 3, 1) := by decide +kernel
theorem dX12_isHouse_4 : decode cX12_isHouse 4 = .ok (.invokestatic 250, 3) := by decide +kernel
theorem dX12_isHouse_7 : decode cX12_isHouse 7 = .ok (.iload_n 2, 1) := by decide +kernel
theorem dX12_isHouse_8 : decode cX12_isHouse 8 = .ok (.iconst 0, 1) := by decide +kernel
theorem dX12_isHouse_9 : decode cX12_isHouse 9 = .ok (.invokevirtual 157, 3) := by decide +kernel
theorem dX12_isHouse_12 : decode cX12_isHouse 12 = .ok (.ireturn, 1) := by decide +kernel
theorem dX12_all_0 : decode cX12_all 0 = .ok (.iconst 1, 1) := by decide +kernel
theorem dX12_all_1 : decode cX12_all 1 = .ok (.aload_n 0, 1) := by decide +kernel
theorem dX12_all_2 : decode cX12_all 2 = .ok (.getfield 23, 3) := by decide +kernel
theorem dX12_all_5 : decode cX12_all 5 = .ok (.ishl, 1) := by decide +kernel
theorem dX12_all_6 : decode cX12_all 6 = .ok (.ireturn, 1) := by decide +kernel
theorem dX12_isNumber_0 : decode cX12_isNumber 0 = .ok (.iload_n 1, 1) := by decide +kernel
theorem dX12_isNumber_1 : decode cX12_isNumber 1 = .ok (.iconst 0, 1) := by decide +kernel
theorem dX12_isNumber_2 : decode cX12_isNumber 2 = .ok (.aload_n 0, 1) := by decide +kernel
theorem dX12_isNumber_3 : decode cX12_isNumber 3 = .ok (.invokevirtual 257, 3) := by decide +kernel
theorem dX12_isNumber_6 : decode cX12_isNumber 6 = .ok (.iconst 1, 1) := by decide +kernel
theorem dX12_isNumber_7 : decode cX12_isNumber 7 = .ok (.isub, 1) := by decide +kernel
theorem dX12_isNumber_8 : decode cX12_isNumber 8 = .ok (.invokestatic 250, 3) := by decide +kernel
theorem dX12_isNumber_11 : decode cX12_isNumber 11 = .ok (.ireturn, 1) := by decide +kernel
theorem dX12_put_0 : decode cX12_put 0 = .ok (.aload_n 0, 1) := by decide +kernel
theorem dX12_put_1 : decode cX12_put 1 = .ok (.iconst 0, 1) := by decide +kernel
theorem dX12_put_2 : decode cX12_put 2 = .ok (.putfield 1, 3) := by decide +kernel
theorem dX12_put_5 : decode cX12_put 5 = .ok (.aload_n 0, 1) := by decide +kernel
theorem dX12_put_6 : decode cX12_put 6 = .ok (.iload_n 1, 1) := by decide +kernel
theorem dX12_put_7 : decode cX12_put 7 = .ok (.iconst 1, 1) := by decide +kernel
theorem dX12_put_8 : decode cX12_put 8 = .ok (.invokevirtual 260, 3) := by decide +kernel
theorem dX12_put_11 : decode cX12_put 11 = .ok (.ifCond .eq 17, 3) := by decide +kernel
theorem dX12_put_14 : decode cX12_put 14 = .ok (.aload_n 0, 1) := by decide +kernel
theorem dX12_put_15 : decode cX12_put 15 = .ok (.aload_n 0, 1) := by decide +kernel
theorem dX12_put_16 : decode cX12_put 16 = .ok (.iload_n 2, 1) := by decide +kernel
theorem dX12_put_17 : decode cX12_put 17 = .ok (.invokevirtual 264, 3) := by decide +kernel
theorem dX12_put_20 : decode cX12_put 20 = .ok (.iconst 2, 1) := by decide +kernel
theorem dX12_put_21 : decode cX12_put 21 = .ok (.iconst 2, 1) := by decide +kernel
theorem dX12_put_22 : decode cX12_put 22 = .ok (.invokevirtual 157, 3) := by decide +kernel
theorem dX12_put_25 : decode cX12_put 25 = .ok (.ifCond .ne 5, 3) := by decide +kernel
theorem dX12_put_28 : decode cX12_put 28 = .ok (.iconst 0, 1) := by decide +kernel
theorem dX12_put_29 : decode cX12_put 29 = .ok (.ireturn, 1) := by decide +kernel
theorem dX12_put_30 : decode cX12_put 30 = .ok (.aload_n 0, 1) := by decide +kernel
theorem dX12_put_31 : decode cX12_put 31 = .ok (.iload_n 1, 1) := by decide +kernel
theorem dX12_put_32 : decode cX12_put 32 = .ok (.iload_n 2, 1) := by decide +kernel
theorem dX12_put_33 : decode cX12_put 33 = .ok (.invokevirtual 267, 3) := by decide +kernel
theorem dX12_put_36 : decode cX12_put 36 = .ok (.ifCond .eq 5, 3) := by decide +kernel
theorem dX12_put_39 : decode cX12_put 39 = .ok (.iconst 0, 1) := by decide +kernel
theorem dX12_put_40 : decode cX12_put 40 = .ok (.ireturn, 1) := by decide +kernel
theorem dX12_put_41 : decode cX12_put 41 = .ok (.aload_n 0, 1) := by decide +kernel
theorem dX12_put_42 : decode cX12_put 42 = .ok (.getfield 36, 3) := by decide +kernel
theorem dX12_put_45 : decode cX12_put 45 = .ok (.iload_n 1, 1) := by decide +kernel
theorem dX12_put_46 : decode cX12_put 46 = .ok (.iaload, 1) := by decide +kernel
theorem dX12_put_47 : decode cX12_put 47 = .ok (.sipush 2000, 3) := by decide +kernel
theorem dX12_put_50 : decode cX12_put 50 = .ok (.if_icmp .ne 5, 3) := by decide +kernel
theorem dX12_put_53 : decode cX12_put 53 = .ok (.iconst (-1), 1) := by decide +kernel
theorem dX12_put_54 : decode cX12_put 54 = .ok (.ireturn, 1) := by decide +kernel
theorem dX12_put_55 : decode cX12_put 55 = .ok (.aload_n 0, 1) := by decide +kernel
theorem dX12_put_56 : decode cX12_put 56 = .ok (.getfield 45, 3) := by decide +kernel
theorem dX12_put_59 : decode cX12_put 59 = .ok (.iload_n 1, 1) := by decide +kernel
theorem dX12_put_60 : decode cX12_put 60 = .ok (.iaload, 1) := by decide +kernel
theorem dX12_put_61 : decode cX12_put 61 = .ok (.sipush 1000, 3) := by decide +kernel
theorem dX12_put_64 : decode cX12_put 64 = .ok (.if_icmp .ne 6, 3) := by decide +kernel
theorem dX12_put_67 : decode cX12_put 67 = .ok (.bipush (-2), 2) := by decide +kernel
theorem dX12_put_69 : decode cX12_put 69 = .ok (.ireturn, 1) := by decide +kernel
theorem dX12_put_70 : decode cX12_put 70 = .ok (.aload_n 0, 1) := by decide +kernel
theorem dX12_put_71 : decode cX12_put 71 = .ok (.iload_n 1, 1) := by decide +kernel
theorem dX12_put_72 : decode cX12_put 72 = .ok (.iload_n 2, 1) := by decide +kernel
theorem dX12_put_73 : decode cX12_put 73 = .ok (.invokevirtual 270, 3) := by decide +kernel
theorem dX12_put_76 : decode cX12_put 76 = .ok (.aload_n 0, 1) := by decide +kernel
theorem dX12_put_77 : decode cX12_put 77 = .ok (.iload_n 1, 1) := by decide +kernel
theorem dX12_put_78 : decode cX12_put 78 = .ok (.iload_n 2, 1) := by decide +kernel
theorem dX12_put_79 : decode cX12_put 79 = .ok (.iconst 1, 1) := by decide +kernel
theorem dX12_put_80 : decode cX12_put 80 = .ok (.invokevirtual 273, 3) := by decide +kernel
theorem dX12_put_83 : decode cX12_put 83 = .ok (.iconst 1, 1) := by decide +kernel
theorem dX12_put_84 : decode cX12_put 84 = .ok (.ireturn, 1) := by decide +kernel
def D_X12_thrown (N : Nat) (g : gp) (a0 : Nat) (δ : dp) : Option (Int32 × dp) :=
  some (q_I δ 12 0 a0, δ)
set_option maxHeartbeats 4000000 in
set_option maxRecDepth 100000 in
theorem c_X12_thrown {l : Launch} {D : va_G} {cy : Nat → ClassId} {N d : Nat} {g : gp} (wt : WT g) (hl : l.stackTraces = false) (hd : 1 ≤ d) {a0 : Nat} {δ : dp} (k0 : q_K g a0 = 12) : CalD l D cy m_X12_thrown d 0 0 ei g [.ref a0] δ (D_X12_thrown N g a0 δ) := by
  refine CalD.of (by decide +kernel) (Nat.le_of_ble_eq_true rfl) hl ?_
  unfold D_X12_thrown
  refine w_aload_n 0 0 (μ := m_X12_thrown) (pc := 0) dX12_thrown_0 rfl rfl ?_
  refine w_getI (μ := m_X12_thrown) (pc := 1) dX12_thrown_1 fl_X12_1 ir_12_0 k0 ?_
  exact w_iret (μ := m_X12_thrown) (pc := 4) dX12_thrown_4 rfl rfl
def J_X12_may_38 (N : Nat) (g : gp) (a0 : Nat) (x1 : Int32) (x2 : Int32) (x3 : Int32) (xs0 : Int32) (δ : dp) : Option (Int32 × dp) :=
  if xs0 = 0 ∨ xs0 = 1 then some (xs0, δ) else none
set_option maxHeartbeats 4000000 in
set_option maxRecDepth 100000 in
theorem t_J_X12_may_38 {l : Launch} {D : va_G} {cy : Nat → ClassId} {N d : Nat} {g : gp} (wt : WT g) (hl : l.stackTraces = false) (hd : 1 ≤ d) {a0 : Nat} {x1 : Int32} {x2 : Int32} {x3 : Int32} (k0 : q_K g a0 = 12) : ∀ (xs0 : Int32) (δ : dp), AWD l D cy m_X12_may d 0 0 ei g 38 [] [.int xs0] δ (J_X12_may_38 N g a0 x1 x2 x3 xs0 δ) := by
    intro xs0 δ 
    unfold J_X12_may_38
    exact w_zret (μ := m_X12_may) (pc := 38) dX12_may_38 rfl rfl
def J_X12_may_26 (N : Nat) (g : gp) (a0 : Nat) (x1 : Int32) (x2 : Int32) (x3 : Int32) (δ : dp) : Option (Int32 × dp) :=
  if (q_I δ 12 0 a0) = 0 then (J_X12_may_38 N g a0 x1 x2 x3 1 δ) else (J_X12_may_38 N g a0 x1 x2 x3 0 δ)
set_option maxHeartbeats 4000000 in
set_option maxRecDepth 100000 in
theorem t_J_X12_may_26 {l : Launch} {D : va_G} {cy : Nat → ClassId} {N d : Nat} {g : gp} (wt : WT g) (hl : l.stackTraces = false) (hd : 1 ≤ d) {a0 : Nat} {x1 : Int32} {x2 : Int32} {x3 : Int32} (k0 : q_K g a0 = 12) : ∀ (δ : dp), AWD l D cy m_X12_may d 0 0 ei g 26 [(0, .ref a0)] [] δ (J_X12_may_26 N g a0 x1 x2 x3 δ) := by
    intro  δ 
    unfold J_X12_may_26
    refine w_aload_n 0 0 (μ := m_X12_may) (pc := 26) dX12_may_26 rfl rfl ?_
    refine w_getI (μ := m_X12_may) (pc := 27) dX12_may_27 fl_X12_1 ir_12_0 k0 ?_
    refine w_if_ne 37 (μ := m_X12_may) (pc := 30) dX12_may_30 (by decide) (fun c_2 => ?_) (fun c_2 => ?_)
    · refine w_iconst (v := 0) (μ := m_X12_may) (pc := 37) dX12_may_37 (by decide) ?_
      refine w_lv [] rfl ?_
      exact t_J_X12_may_38 wt hl (by omega) k0 _ _
    · refine w_iconst (v := 1) (μ := m_X12_may) (pc := 33) dX12_may_33 (by decide) ?_
      refine w_goto 38 (μ := m_X12_may) (pc := 34) dX12_may_34 (by decide) ?_
      refine w_lv [] rfl ?_
      exact t_J_X12_may_38 wt hl (by omega) k0 _ _
def D_X12_may (N : Nat) (g : gp) (a0 : Nat) (x1 : Int32) (x2 : Int32) (x3 : Int32) (δ : dp) : Option (Int32 × dp) :=
  if x1 = 0 then (if (q_I δ 12 0 a0) = 0 then (bd (s_I δ 12 0 a0 x2) fun δ_4 => (q_O g 12 1 a0).bind fun b_6 => if x3 < 0 ∨ q_N g b_6 ≤ x3.toNatClampNeg then none else if x3 < 0 ∨ q_N g b_6 ≤ x3.toNatClampNeg then none else bd (s_R δ_4 b_6 x3.toNatClampNeg ((q_R δ_4 b_6 x3.toNatClampNeg) + 1)) fun δ_8 => J_X12_may_26 N g a0 x1 x2 x3 δ_8) else (J_X12_may_26 N g a0 x1 x2 x3 δ)) else (J_X12_may_26 N g a0 x1 x2 x3 δ)
set_option maxHeartbeats 4000000 in
set_option maxRecDepth 100000 in
theorem c_X12_may {l : Launch} {D : va_G} {cy : Nat → ClassId} {N d : Nat} {g : gp} (wt : WT g) (hl : l.stackTraces = false) (hd : 1 ≤ d) {a0 : Nat} {x1 : Int32} {x2 : Int32} {x3 : Int32} {δ : dp} (k0 : q_K g a0 = 12) : CalD l D cy m_X12_may d 0 0 ei g [.ref a0, .int x1, .int x2, .int x3] δ (D_X12_may N g a0 x1 x2 x3 δ) := by
  refine CalD.of (by decide +kernel) (Nat.le_of_ble_eq_true rfl) hl ?_
  unfold D_X12_may
  refine w_iload_n 1 1 (μ := m_X12_may) (pc := 0) dX12_may_0 rfl rfl ?_
  refine w_if_ne 26 (μ := m_X12_may) (pc := 1) dX12_may_1 (by decide) (fun c_1 => ?_) (fun c_1 => ?_)
  · refine w_lv [0] rfl ?_
    exact t_J_X12_may_26 wt hl (by omega) k0 _
  · refine w_aload_n 0 0 (μ := m_X12_may) (pc := 4) dX12_may_4 rfl rfl ?_
    refine w_getI (μ := m_X12_may) (pc := 5) dX12_may_5 fl_X12_1 ir_12_0 k0 ?_
    refine w_if_ne 26 (μ := m_X12_may) (pc := 8) dX12_may_8 (by decide) (fun c_3 => ?_) (fun c_3 => ?_)
    · refine w_lv [0] rfl ?_
      exact t_J_X12_may_26 wt hl (by omega) k0 _
    · refine w_aload_n 0 0 (μ := m_X12_may) (pc := 11) dX12_may_11 rfl rfl ?_
      refine w_iload_n 2 2 (μ := m_X12_may) (pc := 12) dX12_may_12 rfl rfl ?_
      refine w_putI (μ := m_X12_may) (pc := 13) dX12_may_13 fl_X12_1 flw_12_0 ir_12_0 k0 ?_
      refine w_bd (fun δ_4 e_5 => ?_)
      refine w_aload_n 0 0 (μ := m_X12_may) (pc := 16) dX12_may_16 rfl rfl ?_
      refine w_getO (μ := m_X12_may) (pc := 17) dX12_may_17 fl_X12_7 ir_12_1 id_12_1 k0 (fun b_6 e_7 => ?_)
      refine w_iload_n 3 3 (μ := m_X12_may) (pc := 20) dX12_may_20 rfl rfl ?_
      refine w_dup2 (μ := m_X12_may) (pc := 21) dX12_may_21 rfl rfl ?_
      refine w_ald (μ := m_X12_may) (pc := 22) dX12_may_22 (wt_12_1 wt k0 e_7) ?_
      refine w_iconst (v := 1) (μ := m_X12_may) (pc := 23) dX12_may_23 (by decide) ?_
      refine w_iadd (μ := m_X12_may) (pc := 24) dX12_may_24 ?_
      refine w_ast (μ := m_X12_may) (pc := 25) dX12_may_25 (wt_12_1 wt k0 e_7) ?_
      refine w_bd (fun δ_8 e_9 => ?_)
      refine w_lv [0] rfl ?_
      exact t_J_X12_may_26 wt hl (by omega) k0 _
def J_X12_within_15 (N : Nat) (g : gp) (x0 : Int32) (x1 : Int32) (x2 : Int32) (xs0 : Int32) (δ : dp) : Option (Int32 × dp) :=
  if xs0 = 0 ∨ xs0 = 1 then some (xs0, δ) else none
set_option maxHeartbeats 4000000 in
set_option maxRecDepth 100000 in
theorem t_J_X12_within_15 {l : Launch} {D : va_G} {cy : Nat → ClassId} {N d : Nat} {g : gp} (wt : WT g) (hl : l.stackTraces = false) (hd : 1 ≤ d) {x0 : Int32} {x1 : Int32} {x2 : Int32} : ∀ (xs0 : Int32) (δ : dp), AWD l D cy m_X12_within d 0 0 ei g 15 [] [.int xs0] δ (J_X12_within_15 N g x0 x1 x2 xs0 δ) := by
    intro xs0 δ 
    unfold J_X12_within_15
    exact w_zret (μ := m_X12_within) (pc := 15) dX12_within_15 rfl rfl
def J_X12_within_14 (N : Nat) (g : gp) (x0 : Int32) (x1 : Int32) (x2 : Int32) (δ : dp) : Option (Int32 × dp) :=
  J_X12_within_15 N g x0 x1 x2 0 δ
set_option maxHeartbeats 4000000 in
set_option maxRecDepth 100000 in
theorem t_J_X12_within_14 {l : Launch} {D : va_G} {cy : Nat → ClassId} {N d : Nat} {g : gp} (wt : WT g) (hl : l.stackTraces = false) (hd : 1 ≤ d) {x0 : Int32} {x1 : Int32} {x2 : Int32} : ∀ (δ : dp), AWD l D cy m_X12_within d 0 0 ei g 14 [] [] δ (J_X12_within_14 N g x0 x1 x2 δ) := by
    intro  δ 
    unfold J_X12_within_14
    refine w_iconst (v := 0) (μ := m_X12_within) (pc := 14) dX12_within_14 (by decide) ?_
    exact t_J_X12_within_15 wt hl (by omega) _ _
def D_X12_within (N : Nat) (g : gp) (x0 : Int32) (x1 : Int32) (x2 : Int32) (δ : dp) : Option (Int32 × dp) :=
  if x0 < x1 then (J_X12_within_14 N g x0 x1 x2 δ) else (if x2 < x0 then (J_X12_within_14 N g x0 x1 x2 δ) else (J_X12_within_15 N g x0 x1 x2 1 δ))
set_option maxHeartbeats 4000000 in
set_option maxRecDepth 100000 in
theorem c_X12_within {l : Launch} {D : va_G} {cy : Nat → ClassId} {N d : Nat} {g : gp} (wt : WT g) (hl : l.stackTraces = false) (hd : 1 ≤ d) {x0 : Int32} {x1 : Int32} {x2 : Int32} {δ : dp} : CalD l D cy m_X12_within d 0 0 ei g [.int x0, .int x1, .int x2] δ (D_X12_within N g x0 x1 x2 δ) := by
  refine CalD.of (by decide +kernel) (Nat.le_of_ble_eq_true rfl) hl ?_
  unfold D_X12_within
  refine w_iload_n 0 0 (μ := m_X12_within) (pc := 0) dX12_within_0 rfl rfl ?_
  refine w_iload_n 1 1 (μ := m_X12_within) (pc := 1) dX12_within_1 rfl rfl ?_
  refine w_icmp_lt 14 (μ := m_X12_within) (pc := 2) dX12_within_2 (by decide) (fun c_1 => ?_) (fun c_1 => ?_)
  · refine w_lv [] rfl ?_
    exact t_J_X12_within_14 wt hl (by omega) _
  · refine w_iload_n 0 0 (μ := m_X12_within) (pc := 5) dX12_within_5 rfl rfl ?_
    refine w_iload_n 2 2 (μ := m_X12_within) (pc := 6) dX12_within_6 rfl rfl ?_
    refine w_icmp_gt 14 (μ := m_X12_within) (pc := 7) dX12_within_7 (by decide) (fun c_2 => ?_) (fun c_2 => ?_)
    · refine w_lv [] rfl ?_
      exact t_J_X12_within_14 wt hl (by omega) _
    · refine w_iconst (v := 1) (μ := m_X12_within) (pc := 10) dX12_within_10 (by decide) ?_
      refine w_goto 15 (μ := m_X12_within) (pc := 11) dX12_within_11 (by decide) ?_
      refine w_lv [] rfl ?_
      exact t_J_X12_within_15 wt hl (by omega) _ _
def J_X12_feed_76 (N : Nat) (g : gp) (a0 : Nat) (x1 : Int32) (x2 : Int32) (x3 : Int32) (x4 : Int32) (x5 : Int32) (kt23 : Int32 → dp → Option (Int32 × dp)) (xs0 : Int32) (x6v : Int32) (δ : dp) : Option (Int32 × dp) :=
  (q_O g 12 9 a0).bind fun b_9 => if (q_I δ 12 2 a0) < 0 ∨ q_N g b_9 ≤ (q_I δ 12 2 a0).toNatClampNeg then none else bd (s_R δ b_9 (q_I δ 12 2 a0).toNatClampNeg ((xs0 >>> ((24 - (8 * (x6v - x6v / 4 * 4))) &&& 31)) &&& 255)) fun δ_11 => bd (s_I δ_11 12 2 a0 ((q_I δ_11 12 2 a0) + 1)) fun δ_13 => bi (x6v + 1) fun x_15 => kt23 x_15 δ_13
set_option maxHeartbeats 4000000 in
set_option maxRecDepth 100000 in
theorem t_J_X12_feed_76 {l : Launch} {D : va_G} {cy : Nat → ClassId} {N d : Nat} {g : gp} (wt : WT g) (hl : l.stackTraces = false) (hd : 1 ≤ d) {a0 : Nat} {x1 : Int32} {x2 : Int32} {x3 : Int32} {x4 : Int32} {x5 : Int32} (k0 : q_K g a0 = 12) {kt23 : Int32 → dp → Option (Int32 × dp)} (hk23 : ∀ (x6v : Int32) (δ : dp), AWD l D cy m_X12_feed d 0 0 ei g 23 [(0, .ref a0), (1, .int x1), (2, .int x2), (3, .int x3), (4, .int x4), (5, .int x5), (6, .int x6v)] [] δ (kt23 x6v δ)) : ∀ (xs0 : Int32) (x6v : Int32) (δ : dp), AWD l D cy m_X12_feed d 0 0 ei g 76 [(0, .ref a0), (1, .int x1), (2, .int x2), (3, .int x3), (4, .int x4), (5, .int x5), (6, .int x6v)] [.int xs0] δ (J_X12_feed_76 N g a0 x1 x2 x3 x4 x5 kt23 xs0 x6v δ) := by
    intro xs0 x6v δ 
    unfold J_X12_feed_76
    refine w_istore [(7, .int xs0), (0, .ref a0), (1, .int x1), (2, .int x2), (3, .int x3), (4, .int x4), (5, .int x5), (6, .int x6v)] (μ := m_X12_feed) (pc := 76) dX12_feed_76 (by decide) rfl ?_
    refine w_aload_n 1 0 (μ := m_X12_feed) (pc := 78) dX12_feed_78 rfl rfl ?_
    refine w_getO (μ := m_X12_feed) (pc := 79) dX12_feed_79 fl_X12_20 ir_12_9 id_12_9 k0 (fun b_9 e_10 => ?_)
    refine w_aload_n 1 0 (μ := m_X12_feed) (pc := 82) dX12_feed_82 rfl rfl ?_
    refine w_getI (μ := m_X12_feed) (pc := 83) dX12_feed_83 fl_X12_109 ir_12_2 k0 ?_
    refine w_iload 0 (μ := m_X12_feed) (pc := 86) dX12_feed_86 rfl ?_
    refine w_bipush (v := 24) (μ := m_X12_feed) (pc := 88) dX12_feed_88 (by decide) ?_
    refine w_bipush (v := 8) (μ := m_X12_feed) (pc := 90) dX12_feed_90 (by decide) ?_
    refine w_iload 7 (μ := m_X12_feed) (pc := 92) dX12_feed_92 rfl ?_
    refine w_iconst (v := 4) (μ := m_X12_feed) (pc := 94) dX12_feed_94 (by decide) ?_
    refine w_irem (μ := m_X12_feed) (pc := 95) dX12_feed_95 (by decide) ?_
    refine w_imul (μ := m_X12_feed) (pc := 96) dX12_feed_96 ?_
    refine w_isub (μ := m_X12_feed) (pc := 97) dX12_feed_97 ?_
    refine w_ishr (μ := m_X12_feed) (pc := 98) dX12_feed_98 ?_
    refine w_sipush (v := 255) (μ := m_X12_feed) (pc := 99) dX12_feed_99 (by decide) ?_
    refine w_iand (μ := m_X12_feed) (pc := 102) dX12_feed_102 ?_
    refine w_ast (μ := m_X12_feed) (pc := 103) dX12_feed_103 (wt_12_9 wt k0 e_10) ?_
    refine w_bd (fun δ_11 e_12 => ?_)
    refine w_aload_n 1 0 (μ := m_X12_feed) (pc := 104) dX12_feed_104 rfl rfl ?_
    refine w_dup (μ := m_X12_feed) (pc := 105) dX12_feed_105 rfl ?_
    refine w_getI (μ := m_X12_feed) (pc := 106) dX12_feed_106 fl_X12_109 ir_12_2 k0 ?_
    refine w_iconst (v := 1) (μ := m_X12_feed) (pc := 109) dX12_feed_109 (by decide) ?_
    refine w_iadd (μ := m_X12_feed) (pc := 110) dX12_feed_110 ?_
    refine w_putI (μ := m_X12_feed) (pc := 111) dX12_feed_111 fl_X12_109 flw_12_2 ir_12_2 k0 ?_
    refine w_bd (fun δ_13 e_14 => ?_)
    refine w_inb (fun x_15 e_16 => ?_)
    refine w_iinc 7 [(6, .int x_15), (7, .int xs0), (0, .ref a0), (1, .int x1), (2, .int x2), (3, .int x3), (4, .int x4), (5, .int x5)] (μ := m_X12_feed) (pc := 114) dX12_feed_114 rfl (by rw [e_16]; rfl) (by decide) rfl ?_
    refine w_goto 23 (μ := m_X12_feed) (pc := 117) dX12_feed_117 (by decide) ?_
    refine w_lv [2, 3, 4, 5, 6, 7, 0] rfl ?_
    exact hk23 _ _
def L_X12_feed_23 (N : Nat) (g : gp) (a0 : Nat) (x1 : Int32) (x2 : Int32) (x3 : Int32) (x4 : Int32) (x5 : Int32) : Nat → Int32 → dp → Option (Int32 × dp)
  | 0, _, _ => none
  | n + 1, x6v, δ => if (20 : Int32) ≤ x6v then (some (q_I δ 12 2 a0, δ)) else (if (4 : Int32) ≤ x6v then (if (8 : Int32) ≤ x6v then (if (12 : Int32) ≤ x6v then (if (16 : Int32) ≤ x6v then (J_X12_feed_76 N g a0 x1 x2 x3 x4 x5 (L_X12_feed_23 N g a0 x1 x2 x3 x4 x5 n) x5 x6v δ) else (J_X12_feed_76 N g a0 x1 x2 x3 x4 x5 (L_X12_feed_23 N g a0 x1 x2 x3 x4 x5 n) x4 x6v δ)) else (J_X12_feed_76 N g a0 x1 x2 x3 x4 x5 (L_X12_feed_23 N g a0 x1 x2 x3 x4 x5 n) x3 x6v δ)) else (J_X12_feed_76 N g a0 x1 x2 x3 x4 x5 (L_X12_feed_23 N g a0 x1 x2 x3 x4 x5 n) x2 x6v δ)) else (J_X12_feed_76 N g a0 x1 x2 x3 x4 x5 (L_X12_feed_23 N g a0 x1 x2 x3 x4 x5 n) x1 x6v δ))
set_option maxHeartbeats 4000000 in
set_option maxRecDepth 100000 in
theorem t_L_X12_feed_23 {l : Launch} {D : va_G} {cy : Nat → ClassId} {N d : Nat} {g : gp} (wt : WT g) (hl : l.stackTraces = false) (hd : 1 ≤ d) {a0 : Nat} {x1 : Int32} {x2 : Int32} {x3 : Int32} {x4 : Int32} {x5 : Int32} (k0 : q_K g a0 = 12) : ∀ (n : Nat) (x6v : Int32) (δ : dp), AWD l D cy m_X12_feed d 0 0 ei g 23 [(0, .ref a0), (1, .int x1), (2, .int x2), (3, .int x3), (4, .int x4), (5, .int x5), (6, .int x6v)] [] δ (L_X12_feed_23 N g a0 x1 x2 x3 x4 x5 n x6v δ) := by
  intro n
  induction n with
  | zero => intro x6v δ ; exact w_none
  | succ n ih =>
    intro x6v δ 
    unfold L_X12_feed_23
    refine w_iload 6 (μ := m_X12_feed) (pc := 23) dX12_feed_23 rfl ?_
    refine w_bipush (v := 20) (μ := m_X12_feed) (pc := 25) dX12_feed_25 (by decide) ?_
    refine w_icmp_ge 120 (μ := m_X12_feed) (pc := 27) dX12_feed_27 (by decide) (fun c_4 => ?_) (fun c_4 => ?_)
    · refine w_aload_n 0 0 (μ := m_X12_feed) (pc := 120) dX12_feed_120 rfl rfl ?_
      refine w_getI (μ := m_X12_feed) (pc := 121) dX12_feed_121 fl_X12_109 ir_12_2 k0 ?_
      exact w_iret (μ := m_X12_feed) (pc := 124) dX12_feed_124 rfl rfl
    · refine w_iload 6 (μ := m_X12_feed) (pc := 30) dX12_feed_30 rfl ?_
      refine w_iconst (v := 4) (μ := m_X12_feed) (pc := 32) dX12_feed_32 (by decide) ?_
      refine w_icmp_ge 40 (μ := m_X12_feed) (pc := 33) dX12_feed_33 (by decide) (fun c_5 => ?_) (fun c_5 => ?_)
      · refine w_iload 6 (μ := m_X12_feed) (pc := 40) dX12_feed_40 rfl ?_
        refine w_bipush (v := 8) (μ := m_X12_feed) (pc := 42) dX12_feed_42 (by decide) ?_
        refine w_icmp_ge 51 (μ := m_X12_feed) (pc := 44) dX12_feed_44 (by decide) (fun c_6 => ?_) (fun c_6 => ?_)
        · refine w_iload 6 (μ := m_X12_feed) (pc := 51) dX12_feed_51 rfl ?_
          refine w_bipush (v := 12) (μ := m_X12_feed) (pc := 53) dX12_feed_53 (by decide) ?_
          refine w_icmp_ge 62 (μ := m_X12_feed) (pc := 55) dX12_feed_55 (by decide) (fun c_7 => ?_) (fun c_7 => ?_)
          · refine w_iload 6 (μ := m_X12_feed) (pc := 62) dX12_feed_62 rfl ?_
            refine w_bipush (v := 16) (μ := m_X12_feed) (pc := 64) dX12_feed_64 (by decide) ?_
            refine w_icmp_ge 74 (μ := m_X12_feed) (pc := 66) dX12_feed_66 (by decide) (fun c_8 => ?_) (fun c_8 => ?_)
            · refine w_iload 5 (μ := m_X12_feed) (pc := 74) dX12_feed_74 rfl ?_
              exact t_J_X12_feed_76 wt hl (by omega) k0 ih _ _ _
            · refine w_iload 4 (μ := m_X12_feed) (pc := 69) dX12_feed_69 rfl ?_
              refine w_goto 76 (μ := m_X12_feed) (pc := 71) dX12_feed_71 (by decide) ?_
              exact t_J_X12_feed_76 wt hl (by omega) k0 ih _ _ _
          · refine w_iload_n 3 3 (μ := m_X12_feed) (pc := 58) dX12_feed_58 rfl rfl ?_
            refine w_goto 76 (μ := m_X12_feed) (pc := 59) dX12_feed_59 (by decide) ?_
            exact t_J_X12_feed_76 wt hl (by omega) k0 ih _ _ _
        · refine w_iload_n 2 2 (μ := m_X12_feed) (pc := 47) dX12_feed_47 rfl rfl ?_
          refine w_goto 76 (μ := m_X12_feed) (pc := 48) dX12_feed_48 (by decide) ?_
          exact t_J_X12_feed_76 wt hl (by omega) k0 ih _ _ _
      · refine w_iload_n 1 1 (μ := m_X12_feed) (pc := 36) dX12_feed_36 rfl rfl ?_
        refine w_goto 76 (μ := m_X12_feed) (pc := 37) dX12_feed_37 (by decide) ?_
        exact t_J_X12_feed_76 wt hl (by omega) k0 ih _ _ _
def D_X12_feed (N : Nat) (g : gp) (a0 : Nat) (x1 : Int32) (x2 : Int32) (x3 : Int32) (x4 : Int32) (x5 : Int32) (δ : dp) : Option (Int32 × dp) :=
  bd (s_I δ 12 0 a0 0) fun δ_1 => if ((q_I δ_1 12 2 a0) + 20) ≤ (500 : Int32) then (L_X12_feed_23 N g a0 x1 x2 x3 x4 x5 N 0 δ_1) else (some ((-1), δ_1))
set_option maxHeartbeats 4000000 in
set_option maxRecDepth 100000 in
theorem c_X12_feed {l : Launch} {D : va_G} {cy : Nat → ClassId} {N d : Nat} {g : gp} (wt : WT g) (hl : l.stackTraces = false) (hd : 1 ≤ d) {a0 : Nat} {x1 : Int32} {x2 : Int32} {x3 : Int32} {x4 : Int32} {x5 : Int32} {δ : dp} (k0 : q_K g a0 = 12) : CalD l D cy m_X12_feed d 0 0 ei g [.ref a0, .int x1, .int x2, .int x3, .int x4, .int x5] δ (D_X12_feed N g a0 x1 x2 x3 x4 x5 δ) := by
  refine CalD.of (by decide +kernel) (Nat.le_of_ble_eq_true rfl) hl ?_
  unfold D_X12_feed
  refine w_aload_n 0 0 (μ := m_X12_feed) (pc := 0) dX12_feed_0 rfl rfl ?_
  refine w_iconst (v := 0) (μ := m_X12_feed) (pc := 1) dX12_feed_1 (by decide) ?_
  refine w_putI (μ := m_X12_feed) (pc := 2) dX12_feed_2 fl_X12_1 flw_12_0 ir_12_0 k0 ?_
  refine w_bd (fun δ_1 e_2 => ?_)
  refine w_aload_n 0 0 (μ := m_X12_feed) (pc := 5) dX12_feed_5 rfl rfl ?_
  refine w_getI (μ := m_X12_feed) (pc := 6) dX12_feed_6 fl_X12_109 ir_12_2 k0 ?_
  refine w_bipush (v := 20) (μ := m_X12_feed) (pc := 9) dX12_feed_9 (by decide) ?_
  refine w_iadd (μ := m_X12_feed) (pc := 11) dX12_feed_11 ?_
  refine w_sipush (v := 500) (μ := m_X12_feed) (pc := 12) dX12_feed_12 (by decide) ?_
  refine w_icmp_le 20 (μ := m_X12_feed) (pc := 15) dX12_feed_15 (by decide) (fun c_3 => ?_) (fun c_3 => ?_)
  · refine w_iconst (v := 0) (μ := m_X12_feed) (pc := 20) dX12_feed_20 (by decide) ?_
    refine w_istore [(6, .int 0), (0, .ref a0), (1, .int x1), (2, .int x2), (3, .int x3), (4, .int x4), (5, .int x5)] (μ := m_X12_feed) (pc := 21) dX12_feed_21 (by decide) rfl ?_
    refine w_lv [1, 2, 3, 4, 5, 6, 0] rfl ?_
    exact t_L_X12_feed_23 wt hl (by omega) k0 N _ _
  · refine w_iconst (v := (-1)) (μ := m_X12_feed) (pc := 18) dX12_feed_18 (by decide) ?_
    exact w_iret (μ := m_X12_feed) (pc := 19) dX12_feed_19 rfl rfl
def J_X12_fine_13 (N : Nat) (g : gp) (a0 : Nat) (xs0 : Int32) (δ : dp) : Option (Int32 × dp) :=
  if xs0 = 0 ∨ xs0 = 1 then some (xs0, δ) else none
set_option maxHeartbeats 4000000 in
set_option maxRecDepth 100000 in
theorem t_J_X12_fine_13 {l : Launch} {D : va_G} {cy : Nat → ClassId} {N d : Nat} {g : gp} (wt : WT g) (hl : l.stackTraces = false) (hd : 1 ≤ d) {a0 : Nat} (k0 : q_K g a0 = 12) : ∀ (xs0 : Int32) (δ : dp), AWD l D cy m_X12_fine d 0 0 ei g 13 [] [.int xs0] δ (J_X12_fine_13 N g a0 xs0 δ) := by
    intro xs0 δ 
    unfold J_X12_fine_13
    exact w_zret (μ := m_X12_fine) (pc := 13) dX12_fine_13 rfl rfl
def D_X12_fine (N : Nat) (g : gp) (a0 : Nat) (δ : dp) : Option (Int32 × dp) :=
  if (q_I δ 12 5 a0) = ((-1) : Int32) then (J_X12_fine_13 N g a0 1 δ) else (J_X12_fine_13 N g a0 0 δ)
set_option maxHeartbeats 4000000 in
set_option maxRecDepth 100000 in
theorem c_X12_fine {l : Launch} {D : va_G} {cy : Nat → ClassId} {N d : Nat} {g : gp} (wt : WT g) (hl : l.stackTraces = false) (hd : 1 ≤ d) {a0 : Nat} {δ : dp} (k0 : q_K g a0 = 12) : CalD l D cy m_X12_fine d 0 0 ei g [.ref a0] δ (D_X12_fine N g a0 δ) := by
  refine CalD.of (by decide +kernel) (Nat.le_of_ble_eq_true rfl) hl ?_
  unfold D_X12_fine
  refine w_aload_n 0 0 (μ := m_X12_fine) (pc := 0) dX12_fine_0 rfl rfl ?_
  refine w_getI (μ := m_X12_fine) (pc := 1) dX12_fine_1 fl_X12_112 ir_12_5 k0 ?_
  refine w_iconst (v := (-1)) (μ := m_X12_fine) (pc := 4) dX12_fine_4 (by decide) ?_
  refine w_icmp_ne 12 (μ := m_X12_fine) (pc := 5) dX12_fine_5 (by decide) (fun c_1 => ?_) (fun c_1 => ?_)
  · refine w_iconst (v := 0) (μ := m_X12_fine) (pc := 12) dX12_fine_12 (by decide) ?_
    refine w_lv [] rfl ?_
    exact t_J_X12_fine_13 wt hl (by omega) k0 _ _
  · refine w_iconst (v := 1) (μ := m_X12_fine) (pc := 8) dX12_fine_8 (by decide) ?_
    refine w_goto 13 (μ := m_X12_fine) (pc := 9) dX12_fine_9 (by decide) ?_
    refine w_lv [] rfl ?_
    exact t_J_X12_fine_13 wt hl (by omega) k0 _ _
def D_X12_wrong (N : Nat) (g : gp) (a0 : Nat) (x1 : Int32) (x2 : Int32) (δ : dp) : Option (dp) :=
  if (q_I δ 12 5 a0) = ((-1) : Int32) then (bd (s_I δ 12 5 a0 x2) fun δ_2 => bd (s_I δ_2 12 6 a0 x1) fun δ_4 => some δ_4) else (some δ)
set_option maxHeartbeats 4000000 in
set_option maxRecDepth 100000 in
theorem c_X12_wrong {l : Launch} {D : va_G} {cy : Nat → ClassId} {N d : Nat} {g : gp} (wt : WT g) (hl : l.stackTraces = false) (hd : 1 ≤ d) {a0 : Nat} {x1 : Int32} {x2 : Int32} {δ : dp} (k0 : q_K g a0 = 12) : CalD l D cy m_X12_wrong d 0 0 ev g [.ref a0, .int x1, .int x2] δ (D_X12_wrong N g a0 x1 x2 δ) := by
  refine CalD.of (by decide +kernel) (Nat.le_of_ble_eq_true rfl) hl ?_
  unfold D_X12_wrong
  refine w_aload_n 0 0 (μ := m_X12_wrong) (pc := 0) dX12_wrong_0 rfl rfl ?_
  refine w_getI (μ := m_X12_wrong) (pc := 1) dX12_wrong_1 fl_X12_112 ir_12_5 k0 ?_
  refine w_iconst (v := (-1)) (μ := m_X12_wrong) (pc := 4) dX12_wrong_4 (by decide) ?_
  refine w_icmp_eq 9 (μ := m_X12_wrong) (pc := 5) dX12_wrong_5 (by decide) (fun c_1 => ?_) (fun c_1 => ?_)
  · refine w_aload_n 0 0 (μ := m_X12_wrong) (pc := 9) dX12_wrong_9 rfl rfl ?_
    refine w_iload_n 2 2 (μ := m_X12_wrong) (pc := 10) dX12_wrong_10 rfl rfl ?_
    refine w_putI (μ := m_X12_wrong) (pc := 11) dX12_wrong_11 fl_X12_112 flw_12_5 ir_12_5 k0 ?_
    refine w_bd (fun δ_2 e_3 => ?_)
    refine w_aload_n 0 0 (μ := m_X12_wrong) (pc := 14) dX12_wrong_14 rfl rfl ?_
    refine w_iload_n 1 1 (μ := m_X12_wrong) (pc := 15) dX12_wrong_15 rfl rfl ?_
    refine w_putI (μ := m_X12_wrong) (pc := 16) dX12_wrong_16 fl_X12_115 flw_12_6 ir_12_6 k0 ?_
    refine w_bd (fun δ_4 e_5 => ?_)
    exact w_vret (μ := m_X12_wrong) (pc := 19) dX12_wrong_19 rfl rfl
  · exact w_vret (μ := m_X12_wrong) (pc := 8) dX12_wrong_8 rfl rfl
def J_X12_here_62 (N : Nat) (g : gp) (a0 : Nat) (xs0 : Int32) (δ : dp) : Option (Int32 × dp) :=
  some (xs0, δ)
set_option maxHeartbeats 4000000 in
set_option maxRecDepth 100000 in
theorem t_J_X12_here_62 {l : Launch} {D : va_G} {cy : Nat → ClassId} {N d : Nat} {g : gp} (wt : WT g) (hl : l.stackTraces = false) (hd : 1 ≤ d) {a0 : Nat} (k0 : q_K g a0 = 12) : ∀ (xs0 : Int32) (δ : dp), AWD l D cy m_X12_here d 0 0 ei g 62 [] [.int xs0] δ (J_X12_here_62 N g a0 xs0 δ) := by
    intro xs0 δ 
    unfold J_X12_here_62
    exact w_iret (μ := m_X12_here) (pc := 62) dX12_here_62 rfl rfl
def J_X12_here_38 (N : Nat) (g : gp) (a0 : Nat) (δ : dp) : Option (Int32 × dp) :=
  if (q_I δ 12 3 a0) ≤ (q_I δ 12 4 a0) then (J_X12_here_62 N g a0 0 δ) else ((q_O g 12 9 a0).bind fun b_3 => if (q_I δ 12 4 a0) < 0 ∨ q_N g b_3 ≤ (q_I δ 12 4 a0).toNatClampNeg then none else J_X12_here_62 N g a0 (q_R δ b_3 (q_I δ 12 4 a0).toNatClampNeg) δ)
set_option maxHeartbeats 4000000 in
set_option maxRecDepth 100000 in
theorem t_J_X12_here_38 {l : Launch} {D : va_G} {cy : Nat → ClassId} {N d : Nat} {g : gp} (wt : WT g) (hl : l.stackTraces = false) (hd : 1 ≤ d) {a0 : Nat} (k0 : q_K g a0 = 12) : ∀ (δ : dp), AWD l D cy m_X12_here d 0 0 ei g 38 [(0, .ref a0)] [] δ (J_X12_here_38 N g a0 δ) := by
    intro  δ 
    unfold J_X12_here_38
    refine w_aload_n 0 0 (μ := m_X12_here) (pc := 38) dX12_here_38 rfl rfl ?_
    refine w_getI (μ := m_X12_here) (pc := 39) dX12_here_39 fl_X12_118 ir_12_4 k0 ?_
    refine w_aload_n 0 0 (μ := m_X12_here) (pc := 42) dX12_here_42 rfl rfl ?_
    refine w_getI (μ := m_X12_here) (pc := 43) dX12_here_43 fl_X12_121 ir_12_3 k0 ?_
    refine w_icmp_ge 61 (μ := m_X12_here) (pc := 46) dX12_here_46 (by decide) (fun c_2 => ?_) (fun c_2 => ?_)
    · refine w_iconst (v := 0) (μ := m_X12_here) (pc := 61) dX12_here_61 (by decide) ?_
      refine w_lv [] rfl ?_
      exact t_J_X12_here_62 wt hl (by omega) k0 _ _
    · refine w_aload_n 0 0 (μ := m_X12_here) (pc := 49) dX12_here_49 rfl rfl ?_
      refine w_getO (μ := m_X12_here) (pc := 50) dX12_here_50 fl_X12_20 ir_12_9 id_12_9 k0 (fun b_3 e_4 => ?_)
      refine w_aload_n 0 0 (μ := m_X12_here) (pc := 53) dX12_here_53 rfl rfl ?_
      refine w_getI (μ := m_X12_here) (pc := 54) dX12_here_54 fl_X12_118 ir_12_4 k0 ?_
      refine w_ald (μ := m_X12_here) (pc := 57) dX12_here_57 (wt_12_9 wt k0 e_4) ?_
      refine w_goto 62 (μ := m_X12_here) (pc := 58) dX12_here_58 (by decide) ?_
      refine w_lv [] rfl ?_
      exact t_J_X12_here_62 wt hl (by omega) k0 _ _
def L_X12_here_0 (N : Nat) (g : gp) (a0 : Nat) : Nat → dp → Option (Int32 × dp)
  | 0, _ => none
  | n + 1, δ => if (q_I δ 12 3 a0) ≤ (q_I δ 12 4 a0) then (J_X12_here_38 N g a0 δ) else ((q_O g 12 9 a0).bind fun b_5 => if (q_I δ 12 4 a0) < 0 ∨ q_N g b_5 ≤ (q_I δ 12 4 a0).toNatClampNeg then none else if (q_R δ b_5 (q_I δ 12 4 a0).toNatClampNeg) = (32 : Int32) then (bd (s_I δ 12 4 a0 ((q_I δ 12 4 a0) + 1)) fun δ_8 => L_X12_here_0 N g a0 n δ_8) else (J_X12_here_38 N g a0 δ))
set_option maxHeartbeats 4000000 in
set_option maxRecDepth 100000 in
theorem t_L_X12_here_0 {l : Launch} {D : va_G} {cy : Nat → ClassId} {N d : Nat} {g : gp} (wt : WT g) (hl : l.stackTraces = false) (hd : 1 ≤ d) {a0 : Nat} (k0 : q_K g a0 = 12) : ∀ (n : Nat) (δ : dp), AWD l D cy m_X12_here d 0 0 ei g 0 [(0, .ref a0)] [] δ (L_X12_here_0 N g a0 n δ) := by
  intro n
  induction n with
  | zero => intro  δ ; exact w_none
  | succ n ih =>
    intro  δ 
    unfold L_X12_here_0
    refine w_aload_n 0 0 (μ := m_X12_here) (pc := 0) dX12_here_0 rfl rfl ?_
    refine w_getI (μ := m_X12_here) (pc := 1) dX12_here_1 fl_X12_118 ir_12_4 k0 ?_
    refine w_aload_n 0 0 (μ := m_X12_here) (pc := 4) dX12_here_4 rfl rfl ?_
    refine w_getI (μ := m_X12_here) (pc := 5) dX12_here_5 fl_X12_121 ir_12_3 k0 ?_
    refine w_icmp_ge 38 (μ := m_X12_here) (pc := 8) dX12_here_8 (by decide) (fun c_1 => ?_) (fun c_1 => ?_)
    · exact t_J_X12_here_38 wt hl (by omega) k0 _
    · refine w_aload_n 0 0 (μ := m_X12_here) (pc := 11) dX12_here_11 rfl rfl ?_
      refine w_getO (μ := m_X12_here) (pc := 12) dX12_here_12 fl_X12_20 ir_12_9 id_12_9 k0 (fun b_5 e_6 => ?_)
      refine w_aload_n 0 0 (μ := m_X12_here) (pc := 15) dX12_here_15 rfl rfl ?_
      refine w_getI (μ := m_X12_here) (pc := 16) dX12_here_16 fl_X12_118 ir_12_4 k0 ?_
      refine w_ald (μ := m_X12_here) (pc := 19) dX12_here_19 (wt_12_9 wt k0 e_6) ?_
      refine w_bipush (v := 32) (μ := m_X12_here) (pc := 20) dX12_here_20 (by decide) ?_
      refine w_icmp_ne 38 (μ := m_X12_here) (pc := 22) dX12_here_22 (by decide) (fun c_7 => ?_) (fun c_7 => ?_)
      · exact t_J_X12_here_38 wt hl (by omega) k0 _
      · refine w_aload_n 0 0 (μ := m_X12_here) (pc := 25) dX12_here_25 rfl rfl ?_
        refine w_dup (μ := m_X12_here) (pc := 26) dX12_here_26 rfl ?_
        refine w_getI (μ := m_X12_here) (pc := 27) dX12_here_27 fl_X12_118 ir_12_4 k0 ?_
        refine w_iconst (v := 1) (μ := m_X12_here) (pc := 30) dX12_here_30 (by decide) ?_
        refine w_iadd (μ := m_X12_here) (pc := 31) dX12_here_31 ?_
        refine w_putI (μ := m_X12_here) (pc := 32) dX12_here_32 fl_X12_118 flw_12_4 ir_12_4 k0 ?_
        refine w_bd (fun δ_8 e_9 => ?_)
        refine w_goto 0 (μ := m_X12_here) (pc := 35) dX12_here_35 (by decide) ?_
        exact ih _
def D_X12_here (N : Nat) (g : gp) (a0 : Nat) (δ : dp) : Option (Int32 × dp) :=
  L_X12_here_0 N g a0 N δ
set_option maxHeartbeats 4000000 in
set_option maxRecDepth 100000 in
theorem c_X12_here {l : Launch} {D : va_G} {cy : Nat → ClassId} {N d : Nat} {g : gp} (wt : WT g) (hl : l.stackTraces = false) (hd : 1 ≤ d) {a0 : Nat} {δ : dp} (k0 : q_K g a0 = 12) : CalD l D cy m_X12_here d 0 0 ei g [.ref a0] δ (D_X12_here N g a0 δ) := by
  refine CalD.of (by decide +kernel) (Nat.le_of_ble_eq_true rfl) hl ?_
  unfold D_X12_here
  exact t_L_X12_here_0 wt hl (by omega) k0 N _
def J_X12_isSmall_17 (N : Nat) (g : gp) (x0 : Int32) (xs0 : Int32) (δ : dp) : Option (Int32 × dp) :=
  if xs0 = 0 ∨ xs0 = 1 then some (xs0, δ) else none
set_option maxHeartbeats 4000000 in
set_option maxRecDepth 100000 in
theorem t_J_X12_isSmall_17 {l : Launch} {D : va_G} {cy : Nat → ClassId} {N d : Nat} {g : gp} (wt : WT g) (hl : l.stackTraces = false) (hd : 1 ≤ d) {x0 : Int32} : ∀ (xs0 : Int32) (δ : dp), AWD l D cy m_X12_isSmall d 0 0 ei g 17 [] [.int xs0] δ (J_X12_isSmall_17 N g x0 xs0 δ) := by
    intro xs0 δ 
    unfold J_X12_isSmall_17
    exact w_zret (μ := m_X12_isSmall) (pc := 17) dX12_isSmall_17 rfl rfl
def J_X12_isSmall_16 (N : Nat) (g : gp) (x0 : Int32) (δ : dp) : Option (Int32 × dp) :=
  J_X12_isSmall_17 N g x0 0 δ
set_option maxHeartbeats 4000000 in
set_option maxRecDepth 100000 in
theorem t_J_X12_isSmall_16 {l : Launch} {D : va_G} {cy : Nat → ClassId} {N d : Nat} {g : gp} (wt : WT g) (hl : l.stackTraces = false) (hd : 1 ≤ d) {x0 : Int32} : ∀ (δ : dp), AWD l D cy m_X12_isSmall d 0 0 ei g 16 [] [] δ (J_X12_isSmall_16 N g x0 δ) := by
    intro  δ 
    unfold J_X12_isSmall_16
    refine w_iconst (v := 0) (μ := m_X12_isSmall) (pc := 16) dX12_isSmall_16 (by decide) ?_
    exact t_J_X12_isSmall_17 wt hl (by omega) _ _
def D_X12_isSmall (N : Nat) (g : gp) (x0 : Int32) (δ : dp) : Option (Int32 × dp) :=
  if x0 < (97 : Int32) then (J_X12_isSmall_16 N g x0 δ) else (if (122 : Int32) < x0 then (J_X12_isSmall_16 N g x0 δ) else (J_X12_isSmall_17 N g x0 1 δ))
set_option maxHeartbeats 4000000 in
set_option maxRecDepth 100000 in
theorem c_X12_isSmall {l : Launch} {D : va_G} {cy : Nat → ClassId} {N d : Nat} {g : gp} (wt : WT g) (hl : l.stackTraces = false) (hd : 1 ≤ d) {x0 : Int32} {δ : dp} : CalD l D cy m_X12_isSmall d 0 0 ei g [.int x0] δ (D_X12_isSmall N g x0 δ) := by
  refine CalD.of (by decide +kernel) (Nat.le_of_ble_eq_true rfl) hl ?_
  unfold D_X12_isSmall
  refine w_iload_n 0 0 (μ := m_X12_isSmall) (pc := 0) dX12_isSmall_0 rfl rfl ?_
  refine w_bipush (v := 97) (μ := m_X12_isSmall) (pc := 1) dX12_isSmall_1 (by decide) ?_
  refine w_icmp_lt 16 (μ := m_X12_isSmall) (pc := 3) dX12_isSmall_3 (by decide) (fun c_1 => ?_) (fun c_1 => ?_)
  · refine w_lv [] rfl ?_
    exact t_J_X12_isSmall_16 wt hl (by omega) _
  · refine w_iload_n 0 0 (μ := m_X12_isSmall) (pc := 6) dX12_isSmall_6 rfl rfl ?_
    refine w_bipush (v := 122) (μ := m_X12_isSmall) (pc := 7) dX12_isSmall_7 (by decide) ?_
    refine w_icmp_gt 16 (μ := m_X12_isSmall) (pc := 9) dX12_isSmall_9 (by decide) (fun c_2 => ?_) (fun c_2 => ?_)
    · refine w_lv [] rfl ?_
      exact t_J_X12_isSmall_16 wt hl (by omega) _
    · refine w_iconst (v := 1) (μ := m_X12_isSmall) (pc := 12) dX12_isSmall_12 (by decide) ?_
      refine w_goto 17 (μ := m_X12_isSmall) (pc := 13) dX12_isSmall_13 (by decide) ?_
      refine w_lv [] rfl ?_
      exact t_J_X12_isSmall_17 wt hl (by omega) _ _
def J_X12_isDigit_17 (N : Nat) (g : gp) (x0 : Int32) (xs0 : Int32) (δ : dp) : Option (Int32 × dp) :=
  if xs0 = 0 ∨ xs0 = 1 then some (xs0, δ) else none
set_option maxHeartbeats 4000000 in
set_option maxRecDepth 100000 in
theorem t_J_X12_isDigit_17 {l : Launch} {D : va_G} {cy : Nat → ClassId} {N d : Nat} {g : gp} (wt : WT g) (hl : l.stackTraces = false) (hd : 1 ≤ d) {x0 : Int32} : ∀ (xs0 : Int32) (δ : dp), AWD l D cy m_X12_isDigit d 0 0 ei g 17 [] [.int xs0] δ (J_X12_isDigit_17 N g x0 xs0 δ) := by
    intro xs0 δ 
    unfold J_X12_isDigit_17
    exact w_zret (μ := m_X12_isDigit) (pc := 17) dX12_isDigit_17 rfl rfl
def J_X12_isDigit_16 (N : Nat) (g : gp) (x0 : Int32) (δ : dp) : Option (Int32 × dp) :=
  J_X12_isDigit_17 N g x0 0 δ
set_option maxHeartbeats 4000000 in
set_option maxRecDepth 100000 in
theorem t_J_X12_isDigit_16 {l : Launch} {D : va_G} {cy : Nat → ClassId} {N d : Nat} {g : gp} (wt : WT g) (hl : l.stackTraces = false) (hd : 1 ≤ d) {x0 : Int32} : ∀ (δ : dp), AWD l D cy m_X12_isDigit d 0 0 ei g 16 [] [] δ (J_X12_isDigit_16 N g x0 δ) := by
    intro  δ 
    unfold J_X12_isDigit_16
    refine w_iconst (v := 0) (μ := m_X12_isDigit) (pc := 16) dX12_isDigit_16 (by decide) ?_
    exact t_J_X12_isDigit_17 wt hl (by omega) _ _
def D_X12_isDigit (N : Nat) (g : gp) (x0 : Int32) (δ : dp) : Option (Int32 × dp) :=
  if x0 < (48 : Int32) then (J_X12_isDigit_16 N g x0 δ) else (if (57 : Int32) < x0 then (J_X12_isDigit_16 N g x0 δ) else (J_X12_isDigit_17 N g x0 1 δ))
set_option maxHeartbeats 4000000 in
set_option maxRecDepth 100000 in
theorem c_X12_isDigit {l : Launch} {D : va_G} {cy : Nat → ClassId} {N d : Nat} {g : gp} (wt : WT g) (hl : l.stackTraces = false) (hd : 1 ≤ d) {x0 : Int32} {δ : dp} : CalD l D cy m_X12_isDigit d 0 0 ei g [.int x0] δ (D_X12_isDigit N g x0 δ) := by
  refine CalD.of (by decide +kernel) (Nat.le_of_ble_eq_true rfl) hl ?_
  unfold D_X12_isDigit
  refine w_iload_n 0 0 (μ := m_X12_isDigit) (pc := 0) dX12_isDigit_0 rfl rfl ?_
  refine w_bipush (v := 48) (μ := m_X12_isDigit) (pc := 1) dX12_isDigit_1 (by decide) ?_
  refine w_icmp_lt 16 (μ := m_X12_isDigit) (pc := 3) dX12_isDigit_3 (by decide) (fun c_1 => ?_) (fun c_1 => ?_)
  · refine w_lv [] rfl ?_
    exact t_J_X12_isDigit_16 wt hl (by omega) _
  · refine w_iload_n 0 0 (μ := m_X12_isDigit) (pc := 6) dX12_isDigit_6 rfl rfl ?_
    refine w_bipush (v := 57) (μ := m_X12_isDigit) (pc := 7) dX12_isDigit_7 (by decide) ?_
    refine w_icmp_gt 16 (μ := m_X12_isDigit) (pc := 9) dX12_isDigit_9 (by decide) (fun c_2 => ?_) (fun c_2 => ?_)
    · refine w_lv [] rfl ?_
      exact t_J_X12_isDigit_16 wt hl (by omega) _
    · refine w_iconst (v := 1) (μ := m_X12_isDigit) (pc := 12) dX12_isDigit_12 (by decide) ?_
      refine w_goto 17 (μ := m_X12_isDigit) (pc := 13) dX12_isDigit_13 (by decide) ?_
      refine w_lv [] rfl ?_
      exact t_J_X12_isDigit_17 wt hl (by omega) _ _
def J_X12_word_78 (N : Nat) (g : gp) (a0 : Nat) (xs0 : Int32) (δ : dp) : Option (Int32 × dp) :=
  some (xs0, δ)
set_option maxHeartbeats 4000000 in
set_option maxRecDepth 100000 in
theorem t_J_X12_word_78 {l : Launch} {D : va_G} {cy : Nat → ClassId} {N d : Nat} {g : gp} (wt : WT g) (hl : l.stackTraces = false) (hd : 2 ≤ d) {a0 : Nat} (k0 : q_K g a0 = 12) : ∀ (xs0 : Int32) (δ : dp), AWD l D cy m_X12_word d 0 0 ei g 78 [] [.int xs0] δ (J_X12_word_78 N g a0 xs0 δ) := by
    intro xs0 δ 
    unfold J_X12_word_78
    exact w_iret (μ := m_X12_word) (pc := 78) dX12_word_78 rfl rfl
def J_X12_word_67 (N : Nat) (g : gp) (a0 : Nat) (x1v : Int32) (x2v : Int32) (δ : dp) : Option (Int32 × dp) :=
  if x2v ≤ (6 : Int32) then (J_X12_word_78 N g a0 x1v δ) else (J_X12_word_78 N g a0 0 δ)
set_option maxHeartbeats 4000000 in
set_option maxRecDepth 100000 in
theorem t_J_X12_word_67 {l : Launch} {D : va_G} {cy : Nat → ClassId} {N d : Nat} {g : gp} (wt : WT g) (hl : l.stackTraces = false) (hd : 2 ≤ d) {a0 : Nat} (k0 : q_K g a0 = 12) : ∀ (x1v : Int32) (x2v : Int32) (δ : dp), AWD l D cy m_X12_word d 0 0 ei g 67 [(1, .int x1v), (2, .int x2v)] [] δ (J_X12_word_67 N g a0 x1v x2v δ) := by
    intro x1v x2v δ 
    unfold J_X12_word_67
    refine w_iload_n 1 2 (μ := m_X12_word) (pc := 67) dX12_word_67 rfl rfl ?_
    refine w_bipush (v := 6) (μ := m_X12_word) (pc := 68) dX12_word_68 (by decide) ?_
    refine w_icmp_le 77 (μ := m_X12_word) (pc := 70) dX12_word_70 (by decide) (fun c_5 => ?_) (fun c_5 => ?_)
    · refine w_iload_n 0 1 (μ := m_X12_word) (pc := 77) dX12_word_77 rfl rfl ?_
      refine w_lv [] rfl ?_
      exact t_J_X12_word_78 wt hl (by omega) k0 _ _
    · refine w_iconst (v := 0) (μ := m_X12_word) (pc := 73) dX12_word_73 (by decide) ?_
      refine w_goto 78 (μ := m_X12_word) (pc := 74) dX12_word_74 (by decide) ?_
      refine w_lv [] rfl ?_
      exact t_J_X12_word_78 wt hl (by omega) k0 _ _
def J_X12_word_57 (N : Nat) (g : gp) (a0 : Nat) (kt14 : Int32 → Int32 → Int32 → dp → Option (Int32 × dp)) (xs0 : Int32) (x2v : Int32) (x3v : Int32) (δ : dp) : Option (Int32 × dp) :=
  bi (x2v + 1) fun x_11 => bi (x3v + 1) fun x_13 => kt14 xs0 x_11 x_13 δ
set_option maxHeartbeats 4000000 in
set_option maxRecDepth 100000 in
theorem t_J_X12_word_57 {l : Launch} {D : va_G} {cy : Nat → ClassId} {N d : Nat} {g : gp} (wt : WT g) (hl : l.stackTraces = false) (hd : 2 ≤ d) {a0 : Nat} (k0 : q_K g a0 = 12) {kt14 : Int32 → Int32 → Int32 → dp → Option (Int32 × dp)} (hk14 : ∀ (x1v : Int32) (x2v : Int32) (x3v : Int32) (δ : dp), AWD l D cy m_X12_word d 0 0 ei g 14 [(0, .ref a0), (1, .int x1v), (2, .int x2v), (3, .int x3v)] [] δ (kt14 x1v x2v x3v δ)) : ∀ (xs0 : Int32) (x2v : Int32) (x3v : Int32) (δ : dp), AWD l D cy m_X12_word d 0 0 ei g 57 [(0, .ref a0), (2, .int x2v), (3, .int x3v)] [.int xs0] δ (J_X12_word_57 N g a0 kt14 xs0 x2v x3v δ) := by
    intro xs0 x2v x3v δ 
    unfold J_X12_word_57
    refine w_istore_n [(1, .int xs0), (0, .ref a0), (2, .int x2v), (3, .int x3v)] (μ := m_X12_word) (pc := 57) dX12_word_57 rfl (by decide) rfl ?_
    refine w_inb (fun x_11 e_12 => ?_)
    refine w_iinc 2 [(2, .int x_11), (1, .int xs0), (0, .ref a0), (3, .int x3v)] (μ := m_X12_word) (pc := 58) dX12_word_58 rfl (by rw [e_12]; rfl) (by decide) rfl ?_
    refine w_inb (fun x_13 e_14 => ?_)
    refine w_iinc 3 [(3, .int x_13), (2, .int x_11), (1, .int xs0), (0, .ref a0)] (μ := m_X12_word) (pc := 61) dX12_word_61 rfl (by rw [e_14]; rfl) (by decide) rfl ?_
    refine w_goto 14 (μ := m_X12_word) (pc := 64) dX12_word_64 (by decide) ?_
    refine w_lv [3, 2, 1, 0] rfl ?_
    exact hk14 _ _ _ _
def L_X12_word_14 (N : Nat) (g : gp) (a0 : Nat) : Nat → Int32 → Int32 → Int32 → dp → Option (Int32 × dp)
  | 0, _, _, _, _ => none
  | n + 1, x1v, x2v, x3v, δ => if (q_I δ 12 3 a0) ≤ x3v then (J_X12_word_67 N g a0 x1v x2v δ) else ((q_O g 12 9 a0).bind fun b_6 => if x3v < 0 ∨ q_N g b_6 ≤ x3v.toNatClampNeg then none else (D_X12_isSmall N g (q_R δ b_6 x3v.toNatClampNeg) δ).bind fun r_8 => if r_8.1 = 0 then (J_X12_word_67 N g a0 x1v x2v r_8.2) else (if (6 : Int32) ≤ x2v then (J_X12_word_57 N g a0 (L_X12_word_14 N g a0 n) 0 x2v x3v r_8.2) else ((q_O g 12 9 a0).bind fun b_15 => if x3v < 0 ∨ q_N g b_15 ≤ x3v.toNatClampNeg then none else J_X12_word_57 N g a0 (L_X12_word_14 N g a0 n) ((x1v <<< (5 &&& 31)) ||| ((q_R r_8.2 b_15 x3v.toNatClampNeg) - 96)) x2v x3v r_8.2)))
set_option maxHeartbeats 4000000 in
set_option maxRecDepth 100000 in
theorem t_L_X12_word_14 {l : Launch} {D : va_G} {cy : Nat → ClassId} {N d : Nat} {g : gp} (wt : WT g) (hl : l.stackTraces = false) (hd : 2 ≤ d) {a0 : Nat} (k0 : q_K g a0 = 12) : ∀ (n : Nat) (x1v : Int32) (x2v : Int32) (x3v : Int32) (δ : dp), AWD l D cy m_X12_word d 0 0 ei g 14 [(0, .ref a0), (1, .int x1v), (2, .int x2v), (3, .int x3v)] [] δ (L_X12_word_14 N g a0 n x1v x2v x3v δ) := by
  intro n
  induction n with
  | zero => intro x1v x2v x3v δ ; exact w_none
  | succ n ih =>
    intro x1v x2v x3v δ 
    unfold L_X12_word_14
    refine w_iload_n 3 3 (μ := m_X12_word) (pc := 14) dX12_word_14 rfl rfl ?_
    refine w_aload_n 0 0 (μ := m_X12_word) (pc := 15) dX12_word_15 rfl rfl ?_
    refine w_getI (μ := m_X12_word) (pc := 16) dX12_word_16 fl_X12_121 ir_12_3 k0 ?_
    refine w_icmp_ge 67 (μ := m_X12_word) (pc := 19) dX12_word_19 (by decide) (fun c_4 => ?_) (fun c_4 => ?_)
    · refine w_lv [1, 2] rfl ?_
      exact t_J_X12_word_67 wt hl (by omega) k0 _ _ _
    · refine w_aload_n 0 0 (μ := m_X12_word) (pc := 22) dX12_word_22 rfl rfl ?_
      refine w_getO (μ := m_X12_word) (pc := 23) dX12_word_23 fl_X12_20 ir_12_9 id_12_9 k0 (fun b_6 e_7 => ?_)
      refine w_iload_n 3 3 (μ := m_X12_word) (pc := 26) dX12_word_26 rfl rfl ?_
      refine w_ald (μ := m_X12_word) (pc := 27) dX12_word_27 (wt_12_9 wt k0 e_7) ?_
      refine w_callS (As := [.int (q_R δ b_6 x3v.toNatClampNeg)]) (rest := []) (μ := m_X12_word) (pc := 28) dX12_word_28 cs_X12_128 rfl rfl (Nat.le_of_ble_eq_true rfl) (d' := d - 1) (by omega) he_i (c_X12_isSmall wt hl (d := d - 1) (by omega) ) (fun r_8 => ?_)
      refine w_if_eq 67 (μ := m_X12_word) (pc := 31) dX12_word_31 (by decide) (fun c_9 => ?_) (fun c_9 => ?_)
      · refine w_lv [1, 2] rfl ?_
        exact t_J_X12_word_67 wt hl (by omega) k0 _ _ _
      · refine w_iload_n 2 2 (μ := m_X12_word) (pc := 34) dX12_word_34 rfl rfl ?_
        refine w_bipush (v := 6) (μ := m_X12_word) (pc := 35) dX12_word_35 (by decide) ?_
        refine w_icmp_ge 56 (μ := m_X12_word) (pc := 37) dX12_word_37 (by decide) (fun c_10 => ?_) (fun c_10 => ?_)
        · refine w_iconst (v := 0) (μ := m_X12_word) (pc := 56) dX12_word_56 (by decide) ?_
          refine w_lv [0, 2, 3] rfl ?_
          exact t_J_X12_word_57 wt hl (by omega) k0 ih _ _ _ _
        · refine w_iload_n 1 1 (μ := m_X12_word) (pc := 40) dX12_word_40 rfl rfl ?_
          refine w_iconst (v := 5) (μ := m_X12_word) (pc := 41) dX12_word_41 (by decide) ?_
          refine w_ishl (μ := m_X12_word) (pc := 42) dX12_word_42 ?_
          refine w_aload_n 0 0 (μ := m_X12_word) (pc := 43) dX12_word_43 rfl rfl ?_
          refine w_getO (μ := m_X12_word) (pc := 44) dX12_word_44 fl_X12_20 ir_12_9 id_12_9 k0 (fun b_15 e_16 => ?_)
          refine w_iload_n 3 3 (μ := m_X12_word) (pc := 47) dX12_word_47 rfl rfl ?_
          refine w_ald (μ := m_X12_word) (pc := 48) dX12_word_48 (wt_12_9 wt k0 e_16) ?_
          refine w_bipush (v := 96) (μ := m_X12_word) (pc := 49) dX12_word_49 (by decide) ?_
          refine w_isub (μ := m_X12_word) (pc := 51) dX12_word_51 ?_
          refine w_ior (μ := m_X12_word) (pc := 52) dX12_word_52 ?_
          refine w_goto 57 (μ := m_X12_word) (pc := 53) dX12_word_53 (by decide) ?_
          refine w_lv [0, 2, 3] rfl ?_
          exact t_J_X12_word_57 wt hl (by omega) k0 ih _ _ _ _
def D_X12_word (N : Nat) (g : gp) (a0 : Nat) (δ : dp) : Option (Int32 × dp) :=
  (D_X12_here N g a0 δ).bind fun r_1 => bi (q_I r_1.2 12 4 a0) fun x_2 => L_X12_word_14 N g a0 N 0 0 x_2 r_1.2
set_option maxHeartbeats 4000000 in
set_option maxRecDepth 100000 in
theorem c_X12_word {l : Launch} {D : va_G} {cy : Nat → ClassId} {N d : Nat} {g : gp} (wt : WT g) (hl : l.stackTraces = false) (hd : 2 ≤ d) {a0 : Nat} {δ : dp} (k0 : q_K g a0 = 12) : CalD l D cy m_X12_word d 0 0 ei g [.ref a0] δ (D_X12_word N g a0 δ) := by
  refine CalD.of (by decide +kernel) (Nat.le_of_ble_eq_true rfl) hl ?_
  unfold D_X12_word
  refine w_aload_n 0 0 (μ := m_X12_word) (pc := 0) dX12_word_0 rfl rfl ?_
  refine w_callV (As := []) (rest := []) (μ := m_X12_word) (pc := 1) dX12_word_1 cv_X12_124 rfl rfl k0 (by decide) rfl (Nat.le_of_ble_eq_true rfl) (d' := d - 1) (by omega) he_i (c_X12_here wt hl (d := d - 1) (by omega) k0) (fun r_1 => ?_)
  refine w_pop (μ := m_X12_word) (pc := 4) dX12_word_4 rfl ?_
  refine w_iconst (v := 0) (μ := m_X12_word) (pc := 5) dX12_word_5 (by decide) ?_
  refine w_istore_n [(1, .int 0), (0, .ref a0)] (μ := m_X12_word) (pc := 6) dX12_word_6 rfl (by decide) rfl ?_
  refine w_iconst (v := 0) (μ := m_X12_word) (pc := 7) dX12_word_7 (by decide) ?_
  refine w_istore_n [(2, .int 0), (1, .int 0), (0, .ref a0)] (μ := m_X12_word) (pc := 8) dX12_word_8 rfl (by decide) rfl ?_
  refine w_aload_n 2 0 (μ := m_X12_word) (pc := 9) dX12_word_9 rfl rfl ?_
  refine w_getI (μ := m_X12_word) (pc := 10) dX12_word_10 fl_X12_118 ir_12_4 k0 ?_
  refine w_bi (fun x_2 e_3 => ?_)
  refine w_istore_n [(3, .int x_2), (2, .int 0), (1, .int 0), (0, .ref a0)] (μ := m_X12_word) (pc := 13) dX12_word_13 rfl (by decide) rfl ?_
  refine w_lv [3, 2, 1, 0] rfl ?_
  exact t_L_X12_word_14 wt hl (by omega) k0 N _ _ _ _
def L_X12_of_4 (N : Nat) (g : gp) (a0 : Nat) : Nat → Int32 → Int32 → dp → Option (Int32 × dp)
  | 0, _, _, _ => none
  | n + 1, x1v, x2v, δ => (D_J0_length_8abf5 N g a0 δ).bind fun r_1 => if r_1.1 ≤ x2v then (some (x1v, r_1.2)) else ((D_J0_charAt_5068e N g a0 x2v r_1.2).bind fun r_3 => bi ((x1v <<< (5 &&& 31)) ||| (r_3.1 - 96)) fun x_4 => bi (x2v + 1) fun x_6 => L_X12_of_4 N g a0 n x_4 x_6 r_3.2)
set_option maxHeartbeats 4000000 in
set_option maxRecDepth 100000 in
theorem t_L_X12_of_4 {l : Launch} {D : va_G} {cy : Nat → ClassId} {N d : Nat} {g : gp} (wt : WT g) (hl : l.stackTraces = false) (hd : 5 ≤ d) {a0 : Nat} (k0 : a0 < 16) : ∀ (n : Nat) (x1v : Int32) (x2v : Int32) (δ : dp), AWD l D cy m_X12_of d 0 0 ei g 4 [(0, .ref (D.2 100 a0)), (1, .int x1v), (2, .int x2v)] [] δ (L_X12_of_4 N g a0 n x1v x2v δ) := by
  intro n
  induction n with
  | zero => intro x1v x2v δ ; exact w_none
  | succ n ih =>
    intro x1v x2v δ 
    unfold L_X12_of_4
    refine w_iload_n 2 2 (μ := m_X12_of) (pc := 4) dX12_of_4 rfl rfl ?_
    refine w_aload_n 0 0 (μ := m_X12_of) (pc := 5) dX12_of_5 rfl rfl ?_
    refine w_callT (As := []) (rest := [.int x2v]) k0 (μ := m_X12_of) (pc := 6) dX12_of_6 cv_X12_132 rfl rfl rfl (Nat.le_of_ble_eq_true rfl) (d' := d - 1) (by omega) he_i (c_J0_length_8abf5 wt hl (d := d - 1) (by omega) k0) (fun r_1 => ?_)
    refine w_icmp_ge 31 (μ := m_X12_of) (pc := 9) dX12_of_9 (by decide) (fun c_2 => ?_) (fun c_2 => ?_)
    · refine w_iload_n 1 1 (μ := m_X12_of) (pc := 31) dX12_of_31 rfl rfl ?_
      exact w_iret (μ := m_X12_of) (pc := 32) dX12_of_32 rfl rfl
    · refine w_iload_n 1 1 (μ := m_X12_of) (pc := 12) dX12_of_12 rfl rfl ?_
      refine w_iconst (v := 5) (μ := m_X12_of) (pc := 13) dX12_of_13 (by decide) ?_
      refine w_ishl (μ := m_X12_of) (pc := 14) dX12_of_14 ?_
      refine w_aload_n 0 0 (μ := m_X12_of) (pc := 15) dX12_of_15 rfl rfl ?_
      refine w_iload_n 2 2 (μ := m_X12_of) (pc := 16) dX12_of_16 rfl rfl ?_
      refine w_callT (As := [.int x2v]) (rest := [.int (x1v <<< (5 &&& 31))]) k0 (μ := m_X12_of) (pc := 17) dX12_of_17 cv_X12_137 rfl rfl rfl (Nat.le_of_ble_eq_true rfl) (d' := d - 1) (by omega) he_i (c_J0_charAt_5068e wt hl (d := d - 1) (by omega) k0) (fun r_3 => ?_)
      refine w_bipush (v := 96) (μ := m_X12_of) (pc := 20) dX12_of_20 (by decide) ?_
      refine w_isub (μ := m_X12_of) (pc := 22) dX12_of_22 ?_
      refine w_ior (μ := m_X12_of) (pc := 23) dX12_of_23 ?_
      refine w_bi (fun x_4 e_5 => ?_)
      refine w_istore_n [(1, .int x_4), (0, .ref (D.2 100 a0)), (2, .int x2v)] (μ := m_X12_of) (pc := 24) dX12_of_24 rfl (by decide) rfl ?_
      refine w_inb (fun x_6 e_7 => ?_)
      refine w_iinc 2 [(2, .int x_6), (1, .int x_4), (0, .ref (D.2 100 a0))] (μ := m_X12_of) (pc := 25) dX12_of_25 rfl (by rw [e_7]; rfl) (by decide) rfl ?_
      refine w_goto 4 (μ := m_X12_of) (pc := 28) dX12_of_28 (by decide) ?_
      refine w_lv [2, 1, 0] rfl ?_
      exact ih _ _ _
def D_X12_of (N : Nat) (g : gp) (a0 : Nat) (δ : dp) : Option (Int32 × dp) :=
  L_X12_of_4 N g a0 N 0 0 δ
set_option maxHeartbeats 4000000 in
set_option maxRecDepth 100000 in
theorem c_X12_of {l : Launch} {D : va_G} {cy : Nat → ClassId} {N d : Nat} {g : gp} (wt : WT g) (hl : l.stackTraces = false) (hd : 5 ≤ d) {a0 : Nat} {δ : dp} (k0 : a0 < 16) : CalD l D cy m_X12_of d 0 0 ei g [.ref (D.2 100 a0)] δ (D_X12_of N g a0 δ) := by
  refine CalD.of (by decide +kernel) (Nat.le_of_ble_eq_true rfl) hl ?_
  unfold D_X12_of
  refine w_iconst (v := 0) (μ := m_X12_of) (pc := 0) dX12_of_0 (by decide) ?_
  refine w_istore_n [(1, .int 0), (0, .ref (D.2 100 a0))] (μ := m_X12_of) (pc := 1) dX12_of_1 rfl (by decide) rfl ?_
  refine w_iconst (v := 0) (μ := m_X12_of) (pc := 2) dX12_of_2 (by decide) ?_
  refine w_istore_n [(2, .int 0), (1, .int 0), (0, .ref (D.2 100 a0))] (μ := m_X12_of) (pc := 3) dX12_of_3 rfl (by decide) rfl ?_
  refine w_lv [2, 1, 0] rfl ?_
  exact t_L_X12_of_4 wt hl (by omega) k0 N _ _ _
def J_X12_pass_39 (N : Nat) (g : gp) (a0 : Nat) (δ : dp) : Option (dp) :=
  some δ
set_option maxHeartbeats 4000000 in
set_option maxRecDepth 100000 in
theorem t_J_X12_pass_39 {l : Launch} {D : va_G} {cy : Nat → ClassId} {N d : Nat} {g : gp} (wt : WT g) (hl : l.stackTraces = false) (hd : 2 ≤ d) {a0 : Nat} (k0 : q_K g a0 = 12) : ∀ (δ : dp), AWD l D cy m_X12_pass d 0 0 ev g 39 [] [] δ (J_X12_pass_39 N g a0 δ) := by
    intro  δ 
    unfold J_X12_pass_39
    exact w_vret (μ := m_X12_pass) (pc := 39) dX12_pass_39 rfl rfl
def L_X12_pass_0 (N : Nat) (g : gp) (a0 : Nat) : Nat → dp → Option (dp)
  | 0, _ => none
  | n + 1, δ => if (q_I δ 12 3 a0) ≤ (q_I δ 12 4 a0) then (J_X12_pass_39 N g a0 δ) else ((q_O g 12 9 a0).bind fun b_2 => if (q_I δ 12 4 a0) < 0 ∨ q_N g b_2 ≤ (q_I δ 12 4 a0).toNatClampNeg then none else (D_X12_isSmall N g (q_R δ b_2 (q_I δ 12 4 a0).toNatClampNeg) δ).bind fun r_4 => if r_4.1 = 0 then (J_X12_pass_39 N g a0 r_4.2) else (bd (s_I r_4.2 12 4 a0 ((q_I r_4.2 12 4 a0) + 1)) fun δ_6 => L_X12_pass_0 N g a0 n δ_6))
set_option maxHeartbeats 4000000 in
set_option maxRecDepth 100000 in
theorem t_L_X12_pass_0 {l : Launch} {D : va_G} {cy : Nat → ClassId} {N d : Nat} {g : gp} (wt : WT g) (hl : l.stackTraces = false) (hd : 2 ≤ d) {a0 : Nat} (k0 : q_K g a0 = 12) : ∀ (n : Nat) (δ : dp), AWD l D cy m_X12_pass d 0 0 ev g 0 [(0, .ref a0)] [] δ (L_X12_pass_0 N g a0 n δ) := by
  intro n
  induction n with
  | zero => intro  δ ; exact w_none
  | succ n ih =>
    intro  δ 
    unfold L_X12_pass_0
    refine w_aload_n 0 0 (μ := m_X12_pass) (pc := 0) dX12_pass_0 rfl rfl ?_
    refine w_getI (μ := m_X12_pass) (pc := 1) dX12_pass_1 fl_X12_118 ir_12_4 k0 ?_
    refine w_aload_n 0 0 (μ := m_X12_pass) (pc := 4) dX12_pass_4 rfl rfl ?_
    refine w_getI (μ := m_X12_pass) (pc := 5) dX12_pass_5 fl_X12_121 ir_12_3 k0 ?_
    refine w_icmp_ge 39 (μ := m_X12_pass) (pc := 8) dX12_pass_8 (by decide) (fun c_1 => ?_) (fun c_1 => ?_)
    · refine w_lv [] rfl ?_
      exact t_J_X12_pass_39 wt hl (by omega) k0 _
    · refine w_aload_n 0 0 (μ := m_X12_pass) (pc := 11) dX12_pass_11 rfl rfl ?_
      refine w_getO (μ := m_X12_pass) (pc := 12) dX12_pass_12 fl_X12_20 ir_12_9 id_12_9 k0 (fun b_2 e_3 => ?_)
      refine w_aload_n 0 0 (μ := m_X12_pass) (pc := 15) dX12_pass_15 rfl rfl ?_
      refine w_getI (μ := m_X12_pass) (pc := 16) dX12_pass_16 fl_X12_118 ir_12_4 k0 ?_
      refine w_ald (μ := m_X12_pass) (pc := 19) dX12_pass_19 (wt_12_9 wt k0 e_3) ?_
      refine w_callS (As := [.int (q_R δ b_2 (q_I δ 12 4 a0).toNatClampNeg)]) (rest := []) (μ := m_X12_pass) (pc := 20) dX12_pass_20 cs_X12_128 rfl rfl (Nat.le_of_ble_eq_true rfl) (d' := d - 1) (by omega) he_i (c_X12_isSmall wt hl (d := d - 1) (by omega) ) (fun r_4 => ?_)
      refine w_if_eq 39 (μ := m_X12_pass) (pc := 23) dX12_pass_23 (by decide) (fun c_5 => ?_) (fun c_5 => ?_)
      · refine w_lv [] rfl ?_
        exact t_J_X12_pass_39 wt hl (by omega) k0 _
      · refine w_aload_n 0 0 (μ := m_X12_pass) (pc := 26) dX12_pass_26 rfl rfl ?_
        refine w_dup (μ := m_X12_pass) (pc := 27) dX12_pass_27 rfl ?_
        refine w_getI (μ := m_X12_pass) (pc := 28) dX12_pass_28 fl_X12_118 ir_12_4 k0 ?_
        refine w_iconst (v := 1) (μ := m_X12_pass) (pc := 31) dX12_pass_31 (by decide) ?_
        refine w_iadd (μ := m_X12_pass) (pc := 32) dX12_pass_32 ?_
        refine w_putI (μ := m_X12_pass) (pc := 33) dX12_pass_33 fl_X12_118 flw_12_4 ir_12_4 k0 ?_
        refine w_bd (fun δ_6 e_7 => ?_)
        refine w_goto 0 (μ := m_X12_pass) (pc := 36) dX12_pass_36 (by decide) ?_
        exact ih _
def D_X12_pass (N : Nat) (g : gp) (a0 : Nat) (δ : dp) : Option (dp) :=
  L_X12_pass_0 N g a0 N δ
set_option maxHeartbeats 4000000 in
set_option maxRecDepth 100000 in
theorem c_X12_pass {l : Launch} {D : va_G} {cy : Nat → ClassId} {N d : Nat} {g : gp} (wt : WT g) (hl : l.stackTraces = false) (hd : 2 ≤ d) {a0 : Nat} {δ : dp} (k0 : q_K g a0 = 12) : CalD l D cy m_X12_pass d 0 0 ev g [.ref a0] δ (D_X12_pass N g a0 δ) := by
  refine CalD.of (by decide +kernel) (Nat.le_of_ble_eq_true rfl) hl ?_
  unfold D_X12_pass
  exact t_L_X12_pass_0 wt hl (by omega) k0 N _
def J_X12_readNumber_124 (N : Nat) (g : gp) (a0 : Nat) (x1 : Int32) (x2 : Int32) (x4v : Int32) (δ : dp) : Option (Int32 × dp) :=
  (D_X12_wrong N g a0 2 x4v δ).bind fun r_10 => some (0, r_10)
set_option maxHeartbeats 4000000 in
set_option maxRecDepth 100000 in
theorem t_J_X12_readNumber_124 {l : Launch} {D : va_G} {cy : Nat → ClassId} {N d : Nat} {g : gp} (wt : WT g) (hl : l.stackTraces = false) (hd : 2 ≤ d) {a0 : Nat} {x1 : Int32} {x2 : Int32} (k0 : q_K g a0 = 12) : ∀ (x4v : Int32) (δ : dp), AWD l D cy m_X12_readNumber d 0 0 ei g 124 [(0, .ref a0), (4, .int x4v)] [] δ (J_X12_readNumber_124 N g a0 x1 x2 x4v δ) := by
    intro x4v δ 
    unfold J_X12_readNumber_124
    refine w_aload_n 0 0 (μ := m_X12_readNumber) (pc := 124) dX12_readNumber_124 rfl rfl ?_
    refine w_iconst (v := 2) (μ := m_X12_readNumber) (pc := 125) dX12_readNumber_125 (by decide) ?_
    refine w_iload 1 (μ := m_X12_readNumber) (pc := 126) dX12_readNumber_126 rfl ?_
    refine w_callV (As := [.int 2, .int x4v]) (rest := []) (μ := m_X12_readNumber) (pc := 128) dX12_readNumber_128 cv_X12_148 rfl rfl k0 (by decide) rfl (Nat.le_of_ble_eq_true rfl) (d' := d - 1) (by omega) he_v (c_X12_wrong wt hl (d := d - 1) (by omega) k0) (fun r_10 => ?_)
    refine w_iconst (v := 0) (μ := m_X12_readNumber) (pc := 131) dX12_readNumber_131 (by decide) ?_
    exact w_iret (μ := m_X12_readNumber) (pc := 132) dX12_readNumber_132 rfl rfl
def J_X12_readNumber_112 (N : Nat) (g : gp) (a0 : Nat) (x1 : Int32) (x2 : Int32) (x4v : Int32) (x5v : Int32) (δ : dp) : Option (Int32 × dp) :=
  if x5v < x1 then (J_X12_readNumber_124 N g a0 x1 x2 x4v δ) else (if x5v ≤ x2 then (some (x5v, δ)) else (J_X12_readNumber_124 N g a0 x1 x2 x4v δ))
set_option maxHeartbeats 4000000 in
set_option maxRecDepth 100000 in
theorem t_J_X12_readNumber_112 {l : Launch} {D : va_G} {cy : Nat → ClassId} {N d : Nat} {g : gp} (wt : WT g) (hl : l.stackTraces = false) (hd : 2 ≤ d) {a0 : Nat} {x1 : Int32} {x2 : Int32} (k0 : q_K g a0 = 12) : ∀ (x4v : Int32) (x5v : Int32) (δ : dp), AWD l D cy m_X12_readNumber d 0 0 ei g 112 [(0, .ref a0), (1, .int x1), (2, .int x2), (4, .int x4v), (5, .int x5v)] [] δ (J_X12_readNumber_112 N g a0 x1 x2 x4v x5v δ) := by
    intro x4v x5v δ 
    unfold J_X12_readNumber_112
    refine w_iload 4 (μ := m_X12_readNumber) (pc := 112) dX12_readNumber_112 rfl ?_
    refine w_iload_n 1 1 (μ := m_X12_readNumber) (pc := 114) dX12_readNumber_114 rfl rfl ?_
    refine w_icmp_lt 124 (μ := m_X12_readNumber) (pc := 115) dX12_readNumber_115 (by decide) (fun c_9 => ?_) (fun c_9 => ?_)
    · refine w_lv [0, 3] rfl ?_
      exact t_J_X12_readNumber_124 wt hl (by omega) k0 _ _
    · refine w_iload 4 (μ := m_X12_readNumber) (pc := 118) dX12_readNumber_118 rfl ?_
      refine w_iload_n 2 2 (μ := m_X12_readNumber) (pc := 120) dX12_readNumber_120 rfl rfl ?_
      refine w_icmp_le 133 (μ := m_X12_readNumber) (pc := 121) dX12_readNumber_121 (by decide) (fun c_11 => ?_) (fun c_11 => ?_)
      · refine w_iload 4 (μ := m_X12_readNumber) (pc := 133) dX12_readNumber_133 rfl ?_
        exact w_iret (μ := m_X12_readNumber) (pc := 135) dX12_readNumber_135 rfl rfl
      · refine w_lv [0, 3] rfl ?_
        exact t_J_X12_readNumber_124 wt hl (by omega) k0 _ _
def J_X12_readNumber_97 (N : Nat) (g : gp) (a0 : Nat) (x1 : Int32) (x2 : Int32) (kt41 : Int32 → Int32 → dp → Option (Int32 × dp)) (xs0 : Int32) (x4v : Int32) (δ : dp) : Option (Int32 × dp) :=
  bd (s_I δ 12 4 a0 ((q_I δ 12 4 a0) + 1)) fun δ_19 => kt41 x4v xs0 δ_19
set_option maxHeartbeats 4000000 in
set_option maxRecDepth 100000 in
theorem t_J_X12_readNumber_97 {l : Launch} {D : va_G} {cy : Nat → ClassId} {N d : Nat} {g : gp} (wt : WT g) (hl : l.stackTraces = false) (hd : 2 ≤ d) {a0 : Nat} {x1 : Int32} {x2 : Int32} (k0 : q_K g a0 = 12) {kt41 : Int32 → Int32 → dp → Option (Int32 × dp)} (hk41 : ∀ (x4v : Int32) (x5v : Int32) (δ : dp), AWD l D cy m_X12_readNumber d 0 0 ei g 41 [(0, .ref a0), (1, .int x1), (2, .int x2), (4, .int x4v), (5, .int x5v)] [] δ (kt41 x4v x5v δ)) : ∀ (xs0 : Int32) (x4v : Int32) (δ : dp), AWD l D cy m_X12_readNumber d 0 0 ei g 97 [(0, .ref a0), (1, .int x1), (2, .int x2), (4, .int x4v)] [.int xs0] δ (J_X12_readNumber_97 N g a0 x1 x2 kt41 xs0 x4v δ) := by
    intro xs0 x4v δ 
    unfold J_X12_readNumber_97
    refine w_istore [(5, .int xs0), (0, .ref a0), (1, .int x1), (2, .int x2), (4, .int x4v)] (μ := m_X12_readNumber) (pc := 97) dX12_readNumber_97 (by decide) rfl ?_
    refine w_aload_n 1 0 (μ := m_X12_readNumber) (pc := 99) dX12_readNumber_99 rfl rfl ?_
    refine w_dup (μ := m_X12_readNumber) (pc := 100) dX12_readNumber_100 rfl ?_
    refine w_getI (μ := m_X12_readNumber) (pc := 101) dX12_readNumber_101 fl_X12_118 ir_12_4 k0 ?_
    refine w_iconst (v := 1) (μ := m_X12_readNumber) (pc := 104) dX12_readNumber_104 (by decide) ?_
    refine w_iadd (μ := m_X12_readNumber) (pc := 105) dX12_readNumber_105 ?_
    refine w_putI (μ := m_X12_readNumber) (pc := 106) dX12_readNumber_106 fl_X12_118 flw_12_4 ir_12_4 k0 ?_
    refine w_bd (fun δ_19 e_20 => ?_)
    refine w_goto 41 (μ := m_X12_readNumber) (pc := 109) dX12_readNumber_109 (by decide) ?_
    refine w_lv [1, 2, 3, 4, 0] rfl ?_
    exact hk41 _ _ _
def L_X12_readNumber_41 (N : Nat) (g : gp) (a0 : Nat) (x1 : Int32) (x2 : Int32) : Nat → Int32 → Int32 → dp → Option (Int32 × dp)
  | 0, _, _, _ => none
  | n + 1, x4v, x5v, δ => if (q_I δ 12 3 a0) ≤ (q_I δ 12 4 a0) then (J_X12_readNumber_112 N g a0 x1 x2 x4v x5v δ) else ((q_O g 12 9 a0).bind fun b_12 => if (q_I δ 12 4 a0) < 0 ∨ q_N g b_12 ≤ (q_I δ 12 4 a0).toNatClampNeg then none else (D_X12_isDigit N g (q_R δ b_12 (q_I δ 12 4 a0).toNatClampNeg) δ).bind fun r_14 => if r_14.1 = 0 then (J_X12_readNumber_112 N g a0 x1 x2 x4v x5v r_14.2) else (if x5v ≤ (99999 : Int32) then ((q_O g 12 9 a0).bind fun b_17 => if (q_I r_14.2 12 4 a0) < 0 ∨ q_N g b_17 ≤ (q_I r_14.2 12 4 a0).toNatClampNeg then none else J_X12_readNumber_97 N g a0 x1 x2 (L_X12_readNumber_41 N g a0 x1 x2 n) (((10 * x5v) + (q_R r_14.2 b_17 (q_I r_14.2 12 4 a0).toNatClampNeg)) - 48) x4v r_14.2) else (J_X12_readNumber_97 N g a0 x1 x2 (L_X12_readNumber_41 N g a0 x1 x2 n) 100000 x4v r_14.2)))
set_option maxHeartbeats 4000000 in
set_option maxRecDepth 100000 in
theorem t_L_X12_readNumber_41 {l : Launch} {D : va_G} {cy : Nat → ClassId} {N d : Nat} {g : gp} (wt : WT g) (hl : l.stackTraces = false) (hd : 2 ≤ d) {a0 : Nat} {x1 : Int32} {x2 : Int32} (k0 : q_K g a0 = 12) : ∀ (n : Nat) (x4v : Int32) (x5v : Int32) (δ : dp), AWD l D cy m_X12_readNumber d 0 0 ei g 41 [(0, .ref a0), (1, .int x1), (2, .int x2), (4, .int x4v), (5, .int x5v)] [] δ (L_X12_readNumber_41 N g a0 x1 x2 n x4v x5v δ) := by
  intro n
  induction n with
  | zero => intro x4v x5v δ ; exact w_none
  | succ n ih =>
    intro x4v x5v δ 
    unfold L_X12_readNumber_41
    refine w_aload_n 0 0 (μ := m_X12_readNumber) (pc := 41) dX12_readNumber_41 rfl rfl ?_
    refine w_getI (μ := m_X12_readNumber) (pc := 42) dX12_readNumber_42 fl_X12_118 ir_12_4 k0 ?_
    refine w_aload_n 0 0 (μ := m_X12_readNumber) (pc := 45) dX12_readNumber_45 rfl rfl ?_
    refine w_getI (μ := m_X12_readNumber) (pc := 46) dX12_readNumber_46 fl_X12_121 ir_12_3 k0 ?_
    refine w_icmp_ge 112 (μ := m_X12_readNumber) (pc := 49) dX12_readNumber_49 (by decide) (fun c_8 => ?_) (fun c_8 => ?_)
    · exact t_J_X12_readNumber_112 wt hl (by omega) k0 _ _ _
    · refine w_aload_n 0 0 (μ := m_X12_readNumber) (pc := 52) dX12_readNumber_52 rfl rfl ?_
      refine w_getO (μ := m_X12_readNumber) (pc := 53) dX12_readNumber_53 fl_X12_20 ir_12_9 id_12_9 k0 (fun b_12 e_13 => ?_)
      refine w_aload_n 0 0 (μ := m_X12_readNumber) (pc := 56) dX12_readNumber_56 rfl rfl ?_
      refine w_getI (μ := m_X12_readNumber) (pc := 57) dX12_readNumber_57 fl_X12_118 ir_12_4 k0 ?_
      refine w_ald (μ := m_X12_readNumber) (pc := 60) dX12_readNumber_60 (wt_12_9 wt k0 e_13) ?_
      refine w_callS (As := [.int (q_R δ b_12 (q_I δ 12 4 a0).toNatClampNeg)]) (rest := []) (μ := m_X12_readNumber) (pc := 61) dX12_readNumber_61 cs_X12_145 rfl rfl (Nat.le_of_ble_eq_true rfl) (d' := d - 1) (by omega) he_i (c_X12_isDigit wt hl (d := d - 1) (by omega) ) (fun r_14 => ?_)
      refine w_if_eq 112 (μ := m_X12_readNumber) (pc := 64) dX12_readNumber_64 (by decide) (fun c_15 => ?_) (fun c_15 => ?_)
      · exact t_J_X12_readNumber_112 wt hl (by omega) k0 _ _ _
      · refine w_iload 4 (μ := m_X12_readNumber) (pc := 67) dX12_readNumber_67 rfl ?_
        refine w_ldc (v := 99999) (μ := m_X12_readNumber) (pc := 69) dX12_readNumber_69 cn_X12_152 ?_
        refine w_icmp_le 79 (μ := m_X12_readNumber) (pc := 71) dX12_readNumber_71 (by decide) (fun c_16 => ?_) (fun c_16 => ?_)
        · refine w_bipush (v := 10) (μ := m_X12_readNumber) (pc := 79) dX12_readNumber_79 (by decide) ?_
          refine w_iload 4 (μ := m_X12_readNumber) (pc := 81) dX12_readNumber_81 rfl ?_
          refine w_imul (μ := m_X12_readNumber) (pc := 83) dX12_readNumber_83 ?_
          refine w_aload_n 0 0 (μ := m_X12_readNumber) (pc := 84) dX12_readNumber_84 rfl rfl ?_
          refine w_getO (μ := m_X12_readNumber) (pc := 85) dX12_readNumber_85 fl_X12_20 ir_12_9 id_12_9 k0 (fun b_17 e_18 => ?_)
          refine w_aload_n 0 0 (μ := m_X12_readNumber) (pc := 88) dX12_readNumber_88 rfl rfl ?_
          refine w_getI (μ := m_X12_readNumber) (pc := 89) dX12_readNumber_89 fl_X12_118 ir_12_4 k0 ?_
          refine w_ald (μ := m_X12_readNumber) (pc := 92) dX12_readNumber_92 (wt_12_9 wt k0 e_18) ?_
          refine w_iadd (μ := m_X12_readNumber) (pc := 93) dX12_readNumber_93 ?_
          refine w_bipush (v := 48) (μ := m_X12_readNumber) (pc := 94) dX12_readNumber_94 (by decide) ?_
          refine w_isub (μ := m_X12_readNumber) (pc := 96) dX12_readNumber_96 ?_
          refine w_lv [0, 1, 2, 3] rfl ?_
          exact t_J_X12_readNumber_97 wt hl (by omega) k0 ih _ _ _
        · refine w_ldc (v := 100000) (μ := m_X12_readNumber) (pc := 74) dX12_readNumber_74 cn_X12_153 ?_
          refine w_goto 97 (μ := m_X12_readNumber) (pc := 76) dX12_readNumber_76 (by decide) ?_
          refine w_lv [0, 1, 2, 3] rfl ?_
          exact t_J_X12_readNumber_97 wt hl (by omega) k0 ih _ _ _
def D_X12_readNumber (N : Nat) (g : gp) (a0 : Nat) (x1 : Int32) (x2 : Int32) (δ : dp) : Option (Int32 × dp) :=
  (D_X12_fine N g a0 δ).bind fun r_1 => if r_1.1 = 0 then (some (0, r_1.2)) else ((D_X12_here N g a0 r_1.2).bind fun r_3 => bi (q_I r_3.2 12 4 a0) fun x_4 => (D_X12_isDigit N g r_3.1 r_3.2).bind fun r_6 => if r_6.1 = 0 then ((D_X12_wrong N g a0 1 (q_I r_6.2 12 4 a0) r_6.2).bind fun r_21 => some (0, r_21)) else (L_X12_readNumber_41 N g a0 x1 x2 N x_4 0 r_6.2))
set_option maxHeartbeats 4000000 in
set_option maxRecDepth 100000 in
theorem c_X12_readNumber {l : Launch} {D : va_G} {cy : Nat → ClassId} {N d : Nat} {g : gp} (wt : WT g) (hl : l.stackTraces = false) (hd : 2 ≤ d) {a0 : Nat} {x1 : Int32} {x2 : Int32} {δ : dp} (k0 : q_K g a0 = 12) : CalD l D cy m_X12_readNumber d 0 0 ei g [.ref a0, .int x1, .int x2] δ (D_X12_readNumber N g a0 x1 x2 δ) := by
  refine CalD.of (by decide +kernel) (Nat.le_of_ble_eq_true rfl) hl ?_
  unfold D_X12_readNumber
  refine w_aload_n 0 0 (μ := m_X12_readNumber) (pc := 0) dX12_readNumber_0 rfl rfl ?_
  refine w_callV (As := []) (rest := []) (μ := m_X12_readNumber) (pc := 1) dX12_readNumber_1 cv_X12_141 rfl rfl k0 (by decide) rfl (Nat.le_of_ble_eq_true rfl) (d' := d - 1) (by omega) he_i (c_X12_fine wt hl (d := d - 1) (by omega) k0) (fun r_1 => ?_)
  refine w_if_ne 9 (μ := m_X12_readNumber) (pc := 4) dX12_readNumber_4 (by decide) (fun c_2 => ?_) (fun c_2 => ?_)
  · refine w_aload_n 0 0 (μ := m_X12_readNumber) (pc := 9) dX12_readNumber_9 rfl rfl ?_
    refine w_callV (As := []) (rest := []) (μ := m_X12_readNumber) (pc := 10) dX12_readNumber_10 cv_X12_124 rfl rfl k0 (by decide) rfl (Nat.le_of_ble_eq_true rfl) (d' := d - 1) (by omega) he_i (c_X12_here wt hl (d := d - 1) (by omega) k0) (fun r_3 => ?_)
    refine w_istore_n [(3, .int r_3.1), (0, .ref a0), (1, .int x1), (2, .int x2)] (μ := m_X12_readNumber) (pc := 13) dX12_readNumber_13 rfl (by decide) rfl ?_
    refine w_aload_n 1 0 (μ := m_X12_readNumber) (pc := 14) dX12_readNumber_14 rfl rfl ?_
    refine w_getI (μ := m_X12_readNumber) (pc := 15) dX12_readNumber_15 fl_X12_118 ir_12_4 k0 ?_
    refine w_bi (fun x_4 e_5 => ?_)
    refine w_istore [(4, .int x_4), (3, .int r_3.1), (0, .ref a0), (1, .int x1), (2, .int x2)] (μ := m_X12_readNumber) (pc := 18) dX12_readNumber_18 (by decide) rfl ?_
    refine w_iconst (v := 0) (μ := m_X12_readNumber) (pc := 20) dX12_readNumber_20 (by decide) ?_
    refine w_istore [(5, .int 0), (4, .int x_4), (3, .int r_3.1), (0, .ref a0), (1, .int x1), (2, .int x2)] (μ := m_X12_readNumber) (pc := 21) dX12_readNumber_21 (by decide) rfl ?_
    refine w_iload_n 2 3 (μ := m_X12_readNumber) (pc := 23) dX12_readNumber_23 rfl rfl ?_
    refine w_callS (As := [.int r_3.1]) (rest := []) (μ := m_X12_readNumber) (pc := 24) dX12_readNumber_24 cs_X12_145 rfl rfl (Nat.le_of_ble_eq_true rfl) (d' := d - 1) (by omega) he_i (c_X12_isDigit wt hl (d := d - 1) (by omega) ) (fun r_6 => ?_)
    refine w_if_ne 41 (μ := m_X12_readNumber) (pc := 27) dX12_readNumber_27 (by decide) (fun c_7 => ?_) (fun c_7 => ?_)
    · refine w_lv [3, 4, 5, 1, 0] rfl ?_
      exact t_L_X12_readNumber_41 wt hl (by omega) k0 N _ _ _
    · refine w_aload_n 3 0 (μ := m_X12_readNumber) (pc := 30) dX12_readNumber_30 rfl rfl ?_
      refine w_iconst (v := 1) (μ := m_X12_readNumber) (pc := 31) dX12_readNumber_31 (by decide) ?_
      refine w_aload_n 3 0 (μ := m_X12_readNumber) (pc := 32) dX12_readNumber_32 rfl rfl ?_
      refine w_getI (μ := m_X12_readNumber) (pc := 33) dX12_readNumber_33 fl_X12_118 ir_12_4 k0 ?_
      refine w_callV (As := [.int 1, .int (q_I r_6.2 12 4 a0)]) (rest := []) (μ := m_X12_readNumber) (pc := 36) dX12_readNumber_36 cv_X12_148 rfl rfl k0 (by decide) rfl (Nat.le_of_ble_eq_true rfl) (d' := d - 1) (by omega) he_v (c_X12_wrong wt hl (d := d - 1) (by omega) k0) (fun r_21 => ?_)
      refine w_iconst (v := 0) (μ := m_X12_readNumber) (pc := 39) dX12_readNumber_39 (by decide) ?_
      exact w_iret (μ := m_X12_readNumber) (pc := 40) dX12_readNumber_40 rfl rfl
  · refine w_iconst (v := 0) (μ := m_X12_readNumber) (pc := 7) dX12_readNumber_7 (by decide) ?_
    exact w_iret (μ := m_X12_readNumber) (pc := 8) dX12_readNumber_8 rfl rfl
def J_X12_sign_41 (N : Nat) (g : gp) (a0 : Nat) (x1 : Int32) (δ : dp) : Option (dp) :=
  some δ
set_option maxHeartbeats 4000000 in
set_option maxRecDepth 100000 in
theorem t_J_X12_sign_41 {l : Launch} {D : va_G} {cy : Nat → ClassId} {N d : Nat} {g : gp} (wt : WT g) (hl : l.stackTraces = false) (hd : 2 ≤ d) {a0 : Nat} {x1 : Int32} (k0 : q_K g a0 = 12) : ∀ (δ : dp), AWD l D cy m_X12_sign d 0 0 ev g 41 [] [] δ (J_X12_sign_41 N g a0 x1 δ) := by
    intro  δ 
    unfold J_X12_sign_41
    exact w_vret (μ := m_X12_sign) (pc := 41) dX12_sign_41 rfl rfl
def J_X12_sign_24 (N : Nat) (g : gp) (a0 : Nat) (x1 : Int32) (δ : dp) : Option (dp) :=
  (D_X12_fine N g a0 δ).bind fun r_3 => if r_3.1 = 0 then (J_X12_sign_41 N g a0 x1 r_3.2) else (bd (s_I r_3.2 12 4 a0 ((q_I r_3.2 12 4 a0) + 1)) fun δ_5 => J_X12_sign_41 N g a0 x1 δ_5)
set_option maxHeartbeats 4000000 in
set_option maxRecDepth 100000 in
theorem t_J_X12_sign_24 {l : Launch} {D : va_G} {cy : Nat → ClassId} {N d : Nat} {g : gp} (wt : WT g) (hl : l.stackTraces = false) (hd : 2 ≤ d) {a0 : Nat} {x1 : Int32} (k0 : q_K g a0 = 12) : ∀ (δ : dp), AWD l D cy m_X12_sign d 0 0 ev g 24 [(0, .ref a0)] [] δ (J_X12_sign_24 N g a0 x1 δ) := by
    intro  δ 
    unfold J_X12_sign_24
    refine w_aload_n 0 0 (μ := m_X12_sign) (pc := 24) dX12_sign_24 rfl rfl ?_
    refine w_callV (As := []) (rest := []) (μ := m_X12_sign) (pc := 25) dX12_sign_25 cv_X12_141 rfl rfl k0 (by decide) rfl (Nat.le_of_ble_eq_true rfl) (d' := d - 1) (by omega) he_i (c_X12_fine wt hl (d := d - 1) (by omega) k0) (fun r_3 => ?_)
    refine w_if_eq 41 (μ := m_X12_sign) (pc := 28) dX12_sign_28 (by decide) (fun c_4 => ?_) (fun c_4 => ?_)
    · refine w_lv [] rfl ?_
      exact t_J_X12_sign_41 wt hl (by omega) k0 _
    · refine w_aload_n 0 0 (μ := m_X12_sign) (pc := 31) dX12_sign_31 rfl rfl ?_
      refine w_dup (μ := m_X12_sign) (pc := 32) dX12_sign_32 rfl ?_
      refine w_getI (μ := m_X12_sign) (pc := 33) dX12_sign_33 fl_X12_118 ir_12_4 k0 ?_
      refine w_iconst (v := 1) (μ := m_X12_sign) (pc := 36) dX12_sign_36 (by decide) ?_
      refine w_iadd (μ := m_X12_sign) (pc := 37) dX12_sign_37 ?_
      refine w_putI (μ := m_X12_sign) (pc := 38) dX12_sign_38 fl_X12_118 flw_12_4 ir_12_4 k0 ?_
      refine w_bd (fun δ_5 e_6 => ?_)
      refine w_lv [] rfl ?_
      exact t_J_X12_sign_41 wt hl (by omega) k0 _
def D_X12_sign (N : Nat) (g : gp) (a0 : Nat) (x1 : Int32) (δ : dp) : Option (dp) :=
  (D_X12_fine N g a0 δ).bind fun r_1 => if r_1.1 = 0 then (J_X12_sign_24 N g a0 x1 r_1.2) else ((D_X12_here N g a0 r_1.2).bind fun r_7 => if r_7.1 = x1 then (J_X12_sign_24 N g a0 x1 r_7.2) else ((D_X12_wrong N g a0 1 (q_I r_7.2 12 4 a0) r_7.2).bind fun r_9 => J_X12_sign_24 N g a0 x1 r_9))
set_option maxHeartbeats 4000000 in
set_option maxRecDepth 100000 in
theorem c_X12_sign {l : Launch} {D : va_G} {cy : Nat → ClassId} {N d : Nat} {g : gp} (wt : WT g) (hl : l.stackTraces = false) (hd : 2 ≤ d) {a0 : Nat} {x1 : Int32} {δ : dp} (k0 : q_K g a0 = 12) : CalD l D cy m_X12_sign d 0 0 ev g [.ref a0, .int x1] δ (D_X12_sign N g a0 x1 δ) := by
  refine CalD.of (by decide +kernel) (Nat.le_of_ble_eq_true rfl) hl ?_
  unfold D_X12_sign
  refine w_aload_n 0 0 (μ := m_X12_sign) (pc := 0) dX12_sign_0 rfl rfl ?_
  refine w_callV (As := []) (rest := []) (μ := m_X12_sign) (pc := 1) dX12_sign_1 cv_X12_141 rfl rfl k0 (by decide) rfl (Nat.le_of_ble_eq_true rfl) (d' := d - 1) (by omega) he_i (c_X12_fine wt hl (d := d - 1) (by omega) k0) (fun r_1 => ?_)
  refine w_if_eq 24 (μ := m_X12_sign) (pc := 4) dX12_sign_4 (by decide) (fun c_2 => ?_) (fun c_2 => ?_)
  · refine w_lv [0] rfl ?_
    exact t_J_X12_sign_24 wt hl (by omega) k0 _
  · refine w_aload_n 0 0 (μ := m_X12_sign) (pc := 7) dX12_sign_7 rfl rfl ?_
    refine w_callV (As := []) (rest := []) (μ := m_X12_sign) (pc := 8) dX12_sign_8 cv_X12_124 rfl rfl k0 (by decide) rfl (Nat.le_of_ble_eq_true rfl) (d' := d - 1) (by omega) he_i (c_X12_here wt hl (d := d - 1) (by omega) k0) (fun r_7 => ?_)
    refine w_iload_n 1 1 (μ := m_X12_sign) (pc := 11) dX12_sign_11 rfl rfl ?_
    refine w_icmp_eq 24 (μ := m_X12_sign) (pc := 12) dX12_sign_12 (by decide) (fun c_8 => ?_) (fun c_8 => ?_)
    · refine w_lv [0] rfl ?_
      exact t_J_X12_sign_24 wt hl (by omega) k0 _
    · refine w_aload_n 0 0 (μ := m_X12_sign) (pc := 15) dX12_sign_15 rfl rfl ?_
      refine w_iconst (v := 1) (μ := m_X12_sign) (pc := 16) dX12_sign_16 (by decide) ?_
      refine w_aload_n 0 0 (μ := m_X12_sign) (pc := 17) dX12_sign_17 rfl rfl ?_
      refine w_getI (μ := m_X12_sign) (pc := 18) dX12_sign_18 fl_X12_118 ir_12_4 k0 ?_
      refine w_callV (As := [.int 1, .int (q_I r_7.2 12 4 a0)]) (rest := []) (μ := m_X12_sign) (pc := 21) dX12_sign_21 cv_X12_148 rfl rfl k0 (by decide) rfl (Nat.le_of_ble_eq_true rfl) (d' := d - 1) (by omega) he_v (c_X12_wrong wt hl (d := d - 1) (by omega) k0) (fun r_9 => ?_)
      refine w_lv [0] rfl ?_
      exact t_J_X12_sign_24 wt hl (by omega) k0 _
def J_X12_isMore_21 (N : Nat) (g : gp) (a0 : Nat) (xs0 : Int32) (δ : dp) : Option (Int32 × dp) :=
  if xs0 = 0 ∨ xs0 = 1 then some (xs0, δ) else none
set_option maxHeartbeats 4000000 in
set_option maxRecDepth 100000 in
theorem t_J_X12_isMore_21 {l : Launch} {D : va_G} {cy : Nat → ClassId} {N d : Nat} {g : gp} (wt : WT g) (hl : l.stackTraces = false) (hd : 2 ≤ d) {a0 : Nat} (k0 : q_K g a0 = 12) : ∀ (xs0 : Int32) (δ : dp), AWD l D cy m_X12_isMore d 0 0 ei g 21 [] [.int xs0] δ (J_X12_isMore_21 N g a0 xs0 δ) := by
    intro xs0 δ 
    unfold J_X12_isMore_21
    exact w_zret (μ := m_X12_isMore) (pc := 21) dX12_isMore_21 rfl rfl
def D_X12_isMore (N : Nat) (g : gp) (a0 : Nat) (δ : dp) : Option (Int32 × dp) :=
  (D_X12_here N g a0 δ).bind fun r_1 => if (q_I r_1.2 12 3 a0) ≤ (q_I r_1.2 12 4 a0) then (J_X12_isMore_21 N g a0 0 r_1.2) else (J_X12_isMore_21 N g a0 1 r_1.2)
set_option maxHeartbeats 4000000 in
set_option maxRecDepth 100000 in
theorem c_X12_isMore {l : Launch} {D : va_G} {cy : Nat → ClassId} {N d : Nat} {g : gp} (wt : WT g) (hl : l.stackTraces = false) (hd : 2 ≤ d) {a0 : Nat} {δ : dp} (k0 : q_K g a0 = 12) : CalD l D cy m_X12_isMore d 0 0 ei g [.ref a0] δ (D_X12_isMore N g a0 δ) := by
  refine CalD.of (by decide +kernel) (Nat.le_of_ble_eq_true rfl) hl ?_
  unfold D_X12_isMore
  refine w_aload_n 0 0 (μ := m_X12_isMore) (pc := 0) dX12_isMore_0 rfl rfl ?_
  refine w_callV (As := []) (rest := []) (μ := m_X12_isMore) (pc := 1) dX12_isMore_1 cv_X12_124 rfl rfl k0 (by decide) rfl (Nat.le_of_ble_eq_true rfl) (d' := d - 1) (by omega) he_i (c_X12_here wt hl (d := d - 1) (by omega) k0) (fun r_1 => ?_)
  refine w_pop (μ := m_X12_isMore) (pc := 4) dX12_isMore_4 rfl ?_
  refine w_aload_n 0 0 (μ := m_X12_isMore) (pc := 5) dX12_isMore_5 rfl rfl ?_
  refine w_getI (μ := m_X12_isMore) (pc := 6) dX12_isMore_6 fl_X12_118 ir_12_4 k0 ?_
  refine w_aload_n 0 0 (μ := m_X12_isMore) (pc := 9) dX12_isMore_9 rfl rfl ?_
  refine w_getI (μ := m_X12_isMore) (pc := 10) dX12_isMore_10 fl_X12_121 ir_12_3 k0 ?_
  refine w_icmp_ge 20 (μ := m_X12_isMore) (pc := 13) dX12_isMore_13 (by decide) (fun c_2 => ?_) (fun c_2 => ?_)
  · refine w_iconst (v := 0) (μ := m_X12_isMore) (pc := 20) dX12_isMore_20 (by decide) ?_
    refine w_lv [] rfl ?_
    exact t_J_X12_isMore_21 wt hl (by omega) k0 _ _
  · refine w_iconst (v := 1) (μ := m_X12_isMore) (pc := 16) dX12_isMore_16 (by decide) ?_
    refine w_goto 21 (μ := m_X12_isMore) (pc := 17) dX12_isMore_17 (by decide) ?_
    refine w_lv [] rfl ?_
    exact t_J_X12_isMore_21 wt hl (by omega) k0 _ _
def D_X12_begins (N : Nat) (g : gp) (a0 : Nat) (x1 : Int32) (δ : dp) : Option (dp) :=
  bd (s_I δ 12 2 a0 0) fun δ_1 => bd (s_I δ_1 12 8 a0 ((-1))) fun δ_3 => bd (s_I δ_3 12 3 a0 x1) fun δ_5 => bd (s_I δ_5 12 4 a0 0) fun δ_7 => bd (s_I δ_7 12 5 a0 ((-1))) fun δ_9 => bd (s_I δ_9 12 7 a0 0) fun δ_11 => some δ_11
set_option maxHeartbeats 4000000 in
set_option maxRecDepth 100000 in
theorem c_X12_begins {l : Launch} {D : va_G} {cy : Nat → ClassId} {N d : Nat} {g : gp} (wt : WT g) (hl : l.stackTraces = false) (hd : 1 ≤ d) {a0 : Nat} {x1 : Int32} {δ : dp} (k0 : q_K g a0 = 12) : CalD l D cy m_X12_begins d 0 0 ev g [.ref a0, .int x1] δ (D_X12_begins N g a0 x1 δ) := by
  refine CalD.of (by decide +kernel) (Nat.le_of_ble_eq_true rfl) hl ?_
  unfold D_X12_begins
  refine w_aload_n 0 0 (μ := m_X12_begins) (pc := 0) dX12_begins_0 rfl rfl ?_
  refine w_iconst (v := 0) (μ := m_X12_begins) (pc := 1) dX12_begins_1 (by decide) ?_
  refine w_putI (μ := m_X12_begins) (pc := 2) dX12_begins_2 fl_X12_109 flw_12_2 ir_12_2 k0 ?_
  refine w_bd (fun δ_1 e_2 => ?_)
  refine w_aload_n 0 0 (μ := m_X12_begins) (pc := 5) dX12_begins_5 rfl rfl ?_
  refine w_iconst (v := (-1)) (μ := m_X12_begins) (pc := 6) dX12_begins_6 (by decide) ?_
  refine w_putI (μ := m_X12_begins) (pc := 7) dX12_begins_7 fl_X12_17 flw_12_8 ir_12_8 k0 ?_
  refine w_bd (fun δ_3 e_4 => ?_)
  refine w_aload_n 0 0 (μ := m_X12_begins) (pc := 10) dX12_begins_10 rfl rfl ?_
  refine w_iload_n 1 1 (μ := m_X12_begins) (pc := 11) dX12_begins_11 rfl rfl ?_
  refine w_putI (μ := m_X12_begins) (pc := 12) dX12_begins_12 fl_X12_121 flw_12_3 ir_12_3 k0 ?_
  refine w_bd (fun δ_5 e_6 => ?_)
  refine w_aload_n 0 0 (μ := m_X12_begins) (pc := 15) dX12_begins_15 rfl rfl ?_
  refine w_iconst (v := 0) (μ := m_X12_begins) (pc := 16) dX12_begins_16 (by decide) ?_
  refine w_putI (μ := m_X12_begins) (pc := 17) dX12_begins_17 fl_X12_118 flw_12_4 ir_12_4 k0 ?_
  refine w_bd (fun δ_7 e_8 => ?_)
  refine w_aload_n 0 0 (μ := m_X12_begins) (pc := 20) dX12_begins_20 rfl rfl ?_
  refine w_iconst (v := (-1)) (μ := m_X12_begins) (pc := 21) dX12_begins_21 (by decide) ?_
  refine w_putI (μ := m_X12_begins) (pc := 22) dX12_begins_22 fl_X12_112 flw_12_5 ir_12_5 k0 ?_
  refine w_bd (fun δ_9 e_10 => ?_)
  refine w_aload_n 0 0 (μ := m_X12_begins) (pc := 25) dX12_begins_25 rfl rfl ?_
  refine w_iconst (v := 0) (μ := m_X12_begins) (pc := 26) dX12_begins_26 (by decide) ?_
  refine w_putI (μ := m_X12_begins) (pc := 27) dX12_begins_27 fl_X12_154 flw_12_7 ir_12_7 k0 ?_
  refine w_bd (fun δ_11 e_12 => ?_)
  exact w_vret (μ := m_X12_begins) (pc := 30) dX12_begins_30 rfl rfl
def J_X12_result_26 (N : Nat) (g : gp) (a0 : Nat) (x1 : Int32) (xs0 : Int32) (δ : dp) : Option (Int32 × dp) :=
  some (xs0, δ)
set_option maxHeartbeats 4000000 in
set_option maxRecDepth 100000 in
theorem t_J_X12_result_26 {l : Launch} {D : va_G} {cy : Nat → ClassId} {N d : Nat} {g : gp} (wt : WT g) (hl : l.stackTraces = false) (hd : 2 ≤ d) {a0 : Nat} {x1 : Int32} (k0 : q_K g a0 = 12) : ∀ (xs0 : Int32) (δ : dp), AWD l D cy m_X12_result d 0 0 ei g 26 [] [.int xs0] δ (J_X12_result_26 N g a0 x1 xs0 δ) := by
    intro xs0 δ 
    unfold J_X12_result_26
    exact w_iret (μ := m_X12_result) (pc := 26) dX12_result_26 rfl rfl
def D_X12_result (N : Nat) (g : gp) (a0 : Nat) (x1 : Int32) (δ : dp) : Option (Int32 × dp) :=
  bd (s_I δ 12 8 a0 (q_I δ 12 5 a0)) fun δ_1 => (D_X12_fine N g a0 δ_1).bind fun r_3 => if r_3.1 = 0 then (J_X12_result_26 N g a0 x1 ((q_I r_3.2 12 6 a0) - 10) r_3.2) else (J_X12_result_26 N g a0 x1 x1 r_3.2)
set_option maxHeartbeats 4000000 in
set_option maxRecDepth 100000 in
theorem c_X12_result {l : Launch} {D : va_G} {cy : Nat → ClassId} {N d : Nat} {g : gp} (wt : WT g) (hl : l.stackTraces = false) (hd : 2 ≤ d) {a0 : Nat} {x1 : Int32} {δ : dp} (k0 : q_K g a0 = 12) : CalD l D cy m_X12_result d 0 0 ei g [.ref a0, .int x1] δ (D_X12_result N g a0 x1 δ) := by
  refine CalD.of (by decide +kernel) (Nat.le_of_ble_eq_true rfl) hl ?_
  unfold D_X12_result
  refine w_aload_n 0 0 (μ := m_X12_result) (pc := 0) dX12_result_0 rfl rfl ?_
  refine w_aload_n 0 0 (μ := m_X12_result) (pc := 1) dX12_result_1 rfl rfl ?_
  refine w_getI (μ := m_X12_result) (pc := 2) dX12_result_2 fl_X12_112 ir_12_5 k0 ?_
  refine w_putI (μ := m_X12_result) (pc := 5) dX12_result_5 fl_X12_17 flw_12_8 ir_12_8 k0 ?_
  refine w_bd (fun δ_1 e_2 => ?_)
  refine w_aload_n 0 0 (μ := m_X12_result) (pc := 8) dX12_result_8 rfl rfl ?_
  refine w_callV (As := []) (rest := []) (μ := m_X12_result) (pc := 9) dX12_result_9 cv_X12_141 rfl rfl k0 (by decide) rfl (Nat.le_of_ble_eq_true rfl) (d' := d - 1) (by omega) he_i (c_X12_fine wt hl (d := d - 1) (by omega) k0) (fun r_3 => ?_)
  refine w_if_eq 19 (μ := m_X12_result) (pc := 12) dX12_result_12 (by decide) (fun c_4 => ?_) (fun c_4 => ?_)
  · refine w_aload_n 0 0 (μ := m_X12_result) (pc := 19) dX12_result_19 rfl rfl ?_
    refine w_getI (μ := m_X12_result) (pc := 20) dX12_result_20 fl_X12_115 ir_12_6 k0 ?_
    refine w_bipush (v := 10) (μ := m_X12_result) (pc := 23) dX12_result_23 (by decide) ?_
    refine w_isub (μ := m_X12_result) (pc := 25) dX12_result_25 ?_
    refine w_lv [] rfl ?_
    exact t_J_X12_result_26 wt hl (by omega) k0 _ _
  · refine w_iload_n 1 1 (μ := m_X12_result) (pc := 15) dX12_result_15 rfl rfl ?_
    refine w_goto 26 (μ := m_X12_result) (pc := 16) dX12_result_16 (by decide) ?_
    refine w_lv [] rfl ?_
    exact t_J_X12_result_26 wt hl (by omega) k0 _ _
def D_X12_fault (N : Nat) (g : gp) (a0 : Nat) (δ : dp) : Option (Int32 × dp) :=
  bd (s_I δ 12 0 a0 0) fun δ_1 => some (q_I δ_1 12 8 a0, δ_1)
set_option maxHeartbeats 4000000 in
set_option maxRecDepth 100000 in
theorem c_X12_fault {l : Launch} {D : va_G} {cy : Nat → ClassId} {N d : Nat} {g : gp} (wt : WT g) (hl : l.stackTraces = false) (hd : 1 ≤ d) {a0 : Nat} {δ : dp} (k0 : q_K g a0 = 12) : CalD l D cy m_X12_fault d 0 0 ei g [.ref a0] δ (D_X12_fault N g a0 δ) := by
  refine CalD.of (by decide +kernel) (Nat.le_of_ble_eq_true rfl) hl ?_
  unfold D_X12_fault
  refine w_aload_n 0 0 (μ := m_X12_fault) (pc := 0) dX12_fault_0 rfl rfl ?_
  refine w_iconst (v := 0) (μ := m_X12_fault) (pc := 1) dX12_fault_1 (by decide) ?_
  refine w_putI (μ := m_X12_fault) (pc := 2) dX12_fault_2 fl_X12_1 flw_12_0 ir_12_0 k0 ?_
  refine w_bd (fun δ_1 e_2 => ?_)
  refine w_aload_n 0 0 (μ := m_X12_fault) (pc := 5) dX12_fault_5 rfl rfl ?_
  refine w_getI (μ := m_X12_fault) (pc := 6) dX12_fault_6 fl_X12_17 ir_12_8 k0 ?_
  exact w_iret (μ := m_X12_fault) (pc := 9) dX12_fault_9 rfl rfl
def L_X12_shape_299 (N : Nat) (g : gp) (a0 : Nat) (x1 : Int32) : Nat → Int32 → dp → Option (Int32 × dp)
  | 0, _, _ => none
  | n + 1, x6v, δ => if (4 : Int32) ≤ x6v then (bd (s_I δ 12 18 a0 0) fun δ_18 => (D_X12_result N g a0 (q_I δ_18 12 10 a0) δ_18).bind fun r_20 => some (r_20.1, r_20.2)) else ((q_O g 12 14 a0).bind fun b_21 => if x6v < 0 ∨ q_N g b_21 ≤ x6v.toNatClampNeg then none else bd (s_R δ b_21 x6v.toNatClampNeg 0) fun δ_23 => (q_O g 12 17 a0).bind fun b_25 => if x6v < 0 ∨ q_N g b_25 ≤ x6v.toNatClampNeg then none else bd (s_R δ_23 b_25 x6v.toNatClampNeg 0) fun δ_27 => bi (x6v + 1) fun x_29 => L_X12_shape_299 N g a0 x1 n x_29 δ_27)
set_option maxHeartbeats 4000000 in
set_option maxRecDepth 100000 in
theorem t_L_X12_shape_299 {l : Launch} {D : va_G} {cy : Nat → ClassId} {N d : Nat} {g : gp} (wt : WT g) (hl : l.stackTraces = false) (hd : 6 ≤ d) {a0 : Nat} {x1 : Int32} (k0 : q_K g a0 = 12) : ∀ (n : Nat) (x6v : Int32) (δ : dp), AWD l D cy m_X12_shape d 0 0 ei g 299 [(0, .ref a0), (6, .int x6v)] [] δ (L_X12_shape_299 N g a0 x1 n x6v δ) := by
  intro n
  induction n with
  | zero => intro x6v δ ; exact w_none
  | succ n ih =>
    intro x6v δ 
    unfold L_X12_shape_299
    refine w_iload 1 (μ := m_X12_shape) (pc := 299) dX12_shape_299 rfl ?_
    refine w_iconst (v := 4) (μ := m_X12_shape) (pc := 301) dX12_shape_301 (by decide) ?_
    refine w_icmp_ge 327 (μ := m_X12_shape) (pc := 302) dX12_shape_302 (by decide) (fun c_17 => ?_) (fun c_17 => ?_)
    · refine w_aload_n 0 0 (μ := m_X12_shape) (pc := 327) dX12_shape_327 rfl rfl ?_
      refine w_iconst (v := 0) (μ := m_X12_shape) (pc := 328) dX12_shape_328 (by decide) ?_
      refine w_putI (μ := m_X12_shape) (pc := 329) dX12_shape_329 fl_X12_196 flw_12_18 ir_12_18 k0 ?_
      refine w_bd (fun δ_18 e_19 => ?_)
      refine w_aload_n 0 0 (μ := m_X12_shape) (pc := 332) dX12_shape_332 rfl rfl ?_
      refine w_aload_n 0 0 (μ := m_X12_shape) (pc := 333) dX12_shape_333 rfl rfl ?_
      refine w_getI (μ := m_X12_shape) (pc := 334) dX12_shape_334 fl_X12_23 ir_12_10 k0 ?_
      refine w_callV (As := [.int (q_I δ_18 12 10 a0)]) (rest := []) (μ := m_X12_shape) (pc := 337) dX12_shape_337 cv_X12_192 rfl rfl k0 (by decide) rfl (Nat.le_of_ble_eq_true rfl) (d' := d - 1) (by omega) he_i (c_X12_result wt hl (d := d - 1) (by omega) k0) (fun r_20 => ?_)
      exact w_iret (μ := m_X12_shape) (pc := 340) dX12_shape_340 rfl rfl
    · refine w_aload_n 0 0 (μ := m_X12_shape) (pc := 305) dX12_shape_305 rfl rfl ?_
      refine w_getO (μ := m_X12_shape) (pc := 306) dX12_shape_306 fl_X12_36 ir_12_14 id_12_14 k0 (fun b_21 e_22 => ?_)
      refine w_iload 1 (μ := m_X12_shape) (pc := 309) dX12_shape_309 rfl ?_
      refine w_iconst (v := 0) (μ := m_X12_shape) (pc := 311) dX12_shape_311 (by decide) ?_
      refine w_ast (μ := m_X12_shape) (pc := 312) dX12_shape_312 (wt_12_14 wt k0 e_22) ?_
      refine w_bd (fun δ_23 e_24 => ?_)
      refine w_aload_n 0 0 (μ := m_X12_shape) (pc := 313) dX12_shape_313 rfl rfl ?_
      refine w_getO (μ := m_X12_shape) (pc := 314) dX12_shape_314 fl_X12_45 ir_12_17 id_12_17 k0 (fun b_25 e_26 => ?_)
      refine w_iload 1 (μ := m_X12_shape) (pc := 317) dX12_shape_317 rfl ?_
      refine w_iconst (v := 0) (μ := m_X12_shape) (pc := 319) dX12_shape_319 (by decide) ?_
      refine w_ast (μ := m_X12_shape) (pc := 320) dX12_shape_320 (wt_12_17 wt k0 e_26) ?_
      refine w_bd (fun δ_27 e_28 => ?_)
      refine w_inb (fun x_29 e_30 => ?_)
      refine w_iinc 1 [(6, .int x_29), (0, .ref a0)] (μ := m_X12_shape) (pc := 321) dX12_shape_321 rfl (by rw [e_30]; rfl) (by decide) rfl ?_
      refine w_goto 299 (μ := m_X12_shape) (pc := 324) dX12_shape_324 (by decide) ?_
      refine w_lv [1, 0] rfl ?_
      exact ih _ _
def J_X12_shape_267 (N : Nat) (g : gp) (a0 : Nat) (x1 : Int32) (x2v : Int32) (x3v : Int32) (x4v : Int32) (δ : dp) : Option (Int32 × dp) :=
  (D_X12_fine N g a0 δ).bind fun r_9 => if r_9.1 = 0 then ((D_X12_result N g a0 0 r_9.2).bind fun r_32 => some (r_32.1, r_32.2)) else (bd (s_I r_9.2 12 10 a0 x2v) fun δ_11 => bd (s_I δ_11 12 11 a0 x3v) fun δ_13 => if x4v = 0 ∨ x4v = 1 then bd (s_I δ_13 12 12 a0 x4v) fun δ_15 => L_X12_shape_299 N g a0 x1 N 0 δ_15 else none)
set_option maxHeartbeats 4000000 in
set_option maxRecDepth 100000 in
theorem t_J_X12_shape_267 {l : Launch} {D : va_G} {cy : Nat → ClassId} {N d : Nat} {g : gp} (wt : WT g) (hl : l.stackTraces = false) (hd : 6 ≤ d) {a0 : Nat} {x1 : Int32} (k0 : q_K g a0 = 12) : ∀ (x2v : Int32) (x3v : Int32) (x4v : Int32) (δ : dp), AWD l D cy m_X12_shape d 0 0 ei g 267 [(0, .ref a0), (2, .int x2v), (3, .int x3v), (4, .int x4v)] [] δ (J_X12_shape_267 N g a0 x1 x2v x3v x4v δ) := by
    intro x2v x3v x4v δ 
    unfold J_X12_shape_267
    refine w_aload_n 0 0 (μ := m_X12_shape) (pc := 267) dX12_shape_267 rfl rfl ?_
    refine w_callV (As := []) (rest := []) (μ := m_X12_shape) (pc := 268) dX12_shape_268 cv_X12_141 rfl rfl k0 (by decide) rfl (Nat.le_of_ble_eq_true rfl) (d' := d - 1) (by omega) he_i (c_X12_fine wt hl (d := d - 1) (by omega) k0) (fun r_9 => ?_)
    refine w_if_ne 280 (μ := m_X12_shape) (pc := 271) dX12_shape_271 (by decide) (fun c_10 => ?_) (fun c_10 => ?_)
    · refine w_aload_n 0 0 (μ := m_X12_shape) (pc := 280) dX12_shape_280 rfl rfl ?_
      refine w_iload_n 1 2 (μ := m_X12_shape) (pc := 281) dX12_shape_281 rfl rfl ?_
      refine w_putI (μ := m_X12_shape) (pc := 282) dX12_shape_282 fl_X12_23 flw_12_10 ir_12_10 k0 ?_
      refine w_bd (fun δ_11 e_12 => ?_)
      refine w_aload_n 0 0 (μ := m_X12_shape) (pc := 285) dX12_shape_285 rfl rfl ?_
      refine w_iload_n 2 3 (μ := m_X12_shape) (pc := 286) dX12_shape_286 rfl rfl ?_
      refine w_putI (μ := m_X12_shape) (pc := 287) dX12_shape_287 fl_X12_26 flw_12_11 ir_12_11 k0 ?_
      refine w_bd (fun δ_13 e_14 => ?_)
      refine w_aload_n 0 0 (μ := m_X12_shape) (pc := 290) dX12_shape_290 rfl rfl ?_
      refine w_iload 3 (μ := m_X12_shape) (pc := 291) dX12_shape_291 rfl ?_
      refine w_gd (fun z_31 => ?_)
      refine w_putZ (μ := m_X12_shape) (pc := 293) dX12_shape_293 fl_X12_29 flw_12_12 ir_12_12 k0 z_31 ?_
      refine w_bd (fun δ_15 e_16 => ?_)
      refine w_iconst (v := 0) (μ := m_X12_shape) (pc := 296) dX12_shape_296 (by decide) ?_
      refine w_istore [(6, .int 0), (0, .ref a0), (2, .int x2v), (3, .int x3v), (4, .int x4v)] (μ := m_X12_shape) (pc := 297) dX12_shape_297 (by decide) rfl ?_
      refine w_lv [1, 0] rfl ?_
      exact t_L_X12_shape_299 wt hl (by omega) k0 N _ _
    · refine w_aload_n 0 0 (μ := m_X12_shape) (pc := 274) dX12_shape_274 rfl rfl ?_
      refine w_iconst (v := 0) (μ := m_X12_shape) (pc := 275) dX12_shape_275 (by decide) ?_
      refine w_callV (As := [.int 0]) (rest := []) (μ := m_X12_shape) (pc := 276) dX12_shape_276 cv_X12_192 rfl rfl k0 (by decide) rfl (Nat.le_of_ble_eq_true rfl) (d' := d - 1) (by omega) he_i (c_X12_result wt hl (d := d - 1) (by omega) k0) (fun r_32 => ?_)
      exact w_iret (μ := m_X12_shape) (pc := 279) dX12_shape_279 rfl rfl
def J_X12_shape_258 (N : Nat) (g : gp) (a0 : Nat) (x1 : Int32) (kt49 : Int32 → Int32 → Int32 → Int32 → dp → Option (Int32 × dp)) (x2v : Int32) (x3v : Int32) (x4v : Int32) (x5v : Int32) (δ : dp) : Option (Int32 × dp) :=
  (D_X12_sign N g a0 59 δ).bind fun r_59 => kt49 x2v x3v x4v x5v r_59
set_option maxHeartbeats 4000000 in
set_option maxRecDepth 100000 in
theorem t_J_X12_shape_258 {l : Launch} {D : va_G} {cy : Nat → ClassId} {N d : Nat} {g : gp} (wt : WT g) (hl : l.stackTraces = false) (hd : 6 ≤ d) {a0 : Nat} {x1 : Int32} (k0 : q_K g a0 = 12) {kt49 : Int32 → Int32 → Int32 → Int32 → dp → Option (Int32 × dp)} (hk49 : ∀ (x2v : Int32) (x3v : Int32) (x4v : Int32) (x5v : Int32) (δ : dp), AWD l D cy m_X12_shape d 0 0 ei g 49 [(0, .ref a0), (2, .int x2v), (3, .int x3v), (4, .int x4v), (5, .int x5v)] [] δ (kt49 x2v x3v x4v x5v δ)) : ∀ (x2v : Int32) (x3v : Int32) (x4v : Int32) (x5v : Int32) (δ : dp), AWD l D cy m_X12_shape d 0 0 ei g 258 [(0, .ref a0), (2, .int x2v), (3, .int x3v), (4, .int x4v), (5, .int x5v)] [] δ (J_X12_shape_258 N g a0 x1 kt49 x2v x3v x4v x5v δ) := by
    intro x2v x3v x4v x5v δ 
    unfold J_X12_shape_258
    refine w_aload_n 0 0 (μ := m_X12_shape) (pc := 258) dX12_shape_258 rfl rfl ?_
    refine w_bipush (v := 59) (μ := m_X12_shape) (pc := 259) dX12_shape_259 (by decide) ?_
    refine w_callV (As := [.int 59]) (rest := []) (μ := m_X12_shape) (pc := 261) dX12_shape_261 cv_X12_189 rfl rfl k0 (by decide) rfl (Nat.le_of_ble_eq_true rfl) (d' := d - 1) (by omega) he_v (c_X12_sign wt hl (d := d - 1) (by omega) k0) (fun r_59 => ?_)
    refine w_goto 49 (μ := m_X12_shape) (pc := 264) dX12_shape_264 (by decide) ?_
    exact hk49 _ _ _ _ _
def J_X12_shape_247 (N : Nat) (g : gp) (a0 : Nat) (x1 : Int32) (kt49 : Int32 → Int32 → Int32 → Int32 → dp → Option (Int32 × dp)) (x2v : Int32) (x3v : Int32) (x4v : Int32) (x5v : Int32) (δ : dp) : Option (Int32 × dp) :=
  (D_X12_fine N g a0 δ).bind fun r_57 => if r_57.1 = 0 then (J_X12_shape_258 N g a0 x1 kt49 x2v x3v x4v x5v r_57.2) else ((D_X12_pass N g a0 r_57.2).bind fun r_60 => J_X12_shape_258 N g a0 x1 kt49 x2v x3v x4v x5v r_60)
set_option maxHeartbeats 4000000 in
set_option maxRecDepth 100000 in
theorem t_J_X12_shape_247 {l : Launch} {D : va_G} {cy : Nat → ClassId} {N d : Nat} {g : gp} (wt : WT g) (hl : l.stackTraces = false) (hd : 6 ≤ d) {a0 : Nat} {x1 : Int32} (k0 : q_K g a0 = 12) {kt49 : Int32 → Int32 → Int32 → Int32 → dp → Option (Int32 × dp)} (hk49 : ∀ (x2v : Int32) (x3v : Int32) (x4v : Int32) (x5v : Int32) (δ : dp), AWD l D cy m_X12_shape d 0 0 ei g 49 [(0, .ref a0), (2, .int x2v), (3, .int x3v), (4, .int x4v), (5, .int x5v)] [] δ (kt49 x2v x3v x4v x5v δ)) : ∀ (x2v : Int32) (x3v : Int32) (x4v : Int32) (x5v : Int32) (δ : dp), AWD l D cy m_X12_shape d 0 0 ei g 247 [(0, .ref a0), (2, .int x2v), (3, .int x3v), (4, .int x4v), (5, .int x5v)] [] δ (J_X12_shape_247 N g a0 x1 kt49 x2v x3v x4v x5v δ) := by
    intro x2v x3v x4v x5v δ 
    unfold J_X12_shape_247
    refine w_aload_n 0 0 (μ := m_X12_shape) (pc := 247) dX12_shape_247 rfl rfl ?_
    refine w_callV (As := []) (rest := []) (μ := m_X12_shape) (pc := 248) dX12_shape_248 cv_X12_141 rfl rfl k0 (by decide) rfl (Nat.le_of_ble_eq_true rfl) (d' := d - 1) (by omega) he_i (c_X12_fine wt hl (d := d - 1) (by omega) k0) (fun r_57 => ?_)
    refine w_if_eq 258 (μ := m_X12_shape) (pc := 251) dX12_shape_251 (by decide) (fun c_58 => ?_) (fun c_58 => ?_)
    · exact t_J_X12_shape_258 wt hl (by omega) k0 hk49 _ _ _ _ _
    · refine w_aload_n 0 0 (μ := m_X12_shape) (pc := 254) dX12_shape_254 rfl rfl ?_
      refine w_callV (As := []) (rest := []) (μ := m_X12_shape) (pc := 255) dX12_shape_255 cv_X12_179 rfl rfl k0 (by decide) rfl (Nat.le_of_ble_eq_true rfl) (d' := d - 1) (by omega) he_v (c_X12_pass wt hl (d := d - 1) (by omega) k0) (fun r_60 => ?_)
      exact t_J_X12_shape_258 wt hl (by omega) k0 hk49 _ _ _ _ _
def J_X12_shape_219 (N : Nat) (g : gp) (a0 : Nat) (x1 : Int32) (kt49 : Int32 → Int32 → Int32 → Int32 → dp → Option (Int32 × dp)) (xs0 : Int32) (x2v : Int32) (x3v : Int32) (x5v : Int32) (δ : dp) : Option (Int32 × dp) :=
  if xs0 = 0 then ((D_X12_word N g a0 δ).bind fun r_61 => (D_X12_of N g 4 r_61.2).bind fun r_62 => if r_61.1 = r_62.1 then (J_X12_shape_247 N g a0 x1 kt49 x2v x3v xs0 x5v r_62.2) else ((D_X12_wrong N g a0 1 (q_I r_62.2 12 4 a0) r_62.2).bind fun r_64 => J_X12_shape_247 N g a0 x1 kt49 x2v x3v xs0 x5v r_64)) else (J_X12_shape_247 N g a0 x1 kt49 x2v x3v xs0 x5v δ)
set_option maxHeartbeats 4000000 in
set_option maxRecDepth 100000 in
theorem t_J_X12_shape_219 {l : Launch} {D : va_G} {cy : Nat → ClassId} {N d : Nat} {g : gp} (wt : WT g) (hl : l.stackTraces = false) (hd : 6 ≤ d) {a0 : Nat} {x1 : Int32} (k0 : q_K g a0 = 12) {kt49 : Int32 → Int32 → Int32 → Int32 → dp → Option (Int32 × dp)} (hk49 : ∀ (x2v : Int32) (x3v : Int32) (x4v : Int32) (x5v : Int32) (δ : dp), AWD l D cy m_X12_shape d 0 0 ei g 49 [(0, .ref a0), (2, .int x2v), (3, .int x3v), (4, .int x4v), (5, .int x5v)] [] δ (kt49 x2v x3v x4v x5v δ)) : ∀ (xs0 : Int32) (x2v : Int32) (x3v : Int32) (x5v : Int32) (δ : dp), AWD l D cy m_X12_shape d 0 0 ei g 219 [(0, .ref a0), (2, .int x2v), (3, .int x3v), (5, .int x5v)] [.int xs0] δ (J_X12_shape_219 N g a0 x1 kt49 xs0 x2v x3v x5v δ) := by
    intro xs0 x2v x3v x5v δ 
    unfold J_X12_shape_219
    refine w_istore [(4, .int xs0), (0, .ref a0), (2, .int x2v), (3, .int x3v), (5, .int x5v)] (μ := m_X12_shape) (pc := 219) dX12_shape_219 (by decide) rfl ?_
    refine w_iload 0 (μ := m_X12_shape) (pc := 221) dX12_shape_221 rfl ?_
    refine w_if_ne 247 (μ := m_X12_shape) (pc := 223) dX12_shape_223 (by decide) (fun c_56 => ?_) (fun c_56 => ?_)
    · refine w_lv [1, 2, 3, 0, 4] rfl ?_
      exact t_J_X12_shape_247 wt hl (by omega) k0 hk49 _ _ _ _ _
    · refine w_aload_n 1 0 (μ := m_X12_shape) (pc := 226) dX12_shape_226 rfl rfl ?_
      refine w_callV (As := []) (rest := []) (μ := m_X12_shape) (pc := 227) dX12_shape_227 cv_X12_168 rfl rfl k0 (by decide) rfl (Nat.le_of_ble_eq_true rfl) (d' := d - 1) (by omega) he_i (c_X12_word wt hl (d := d - 1) (by omega) k0) (fun r_61 => ?_)
      refine w_ldcS 4 (tx := "less") (μ := m_X12_shape) (pc := 230) dX12_shape_230 (by decide +kernel) ?_
      refine w_callS (As := [.ref (D.2 100 4)]) (rest := [.int r_61.1]) (μ := m_X12_shape) (pc := 232) dX12_shape_232 cs_X12_172 rfl rfl (Nat.le_of_ble_eq_true rfl) (d' := d - 1) (by omega) he_i (c_X12_of wt hl (d := d - 1) (by omega) (by decide)) (fun r_62 => ?_)
      refine w_icmp_eq 247 (μ := m_X12_shape) (pc := 235) dX12_shape_235 (by decide) (fun c_63 => ?_) (fun c_63 => ?_)
      · refine w_lv [1, 2, 3, 0, 4] rfl ?_
        exact t_J_X12_shape_247 wt hl (by omega) k0 hk49 _ _ _ _ _
      · refine w_aload_n 1 0 (μ := m_X12_shape) (pc := 238) dX12_shape_238 rfl rfl ?_
        refine w_iconst (v := 1) (μ := m_X12_shape) (pc := 239) dX12_shape_239 (by decide) ?_
        refine w_aload_n 1 0 (μ := m_X12_shape) (pc := 240) dX12_shape_240 rfl rfl ?_
        refine w_getI (μ := m_X12_shape) (pc := 241) dX12_shape_241 fl_X12_118 ir_12_4 k0 ?_
        refine w_callV (As := [.int 1, .int (q_I r_62.2 12 4 a0)]) (rest := []) (μ := m_X12_shape) (pc := 244) dX12_shape_244 cv_X12_148 rfl rfl k0 (by decide) rfl (Nat.le_of_ble_eq_true rfl) (d' := d - 1) (by omega) he_v (c_X12_wrong wt hl (d := d - 1) (by omega) k0) (fun r_64 => ?_)
        refine w_lv [1, 2, 3, 0, 4] rfl ?_
        exact t_J_X12_shape_247 wt hl (by omega) k0 hk49 _ _ _ _ _
def J_X12_shape_148 (N : Nat) (g : gp) (a0 : Nat) (x1 : Int32) (kt49 : Int32 → Int32 → Int32 → Int32 → dp → Option (Int32 × dp)) (x2v : Int32) (x3v : Int32) (x4v : Int32) (x5v : Int32) (x6v : Int32) (δ : dp) : Option (Int32 × dp) :=
  (D_X12_fine N g a0 δ).bind fun r_46 => if r_46.1 = 0 then (J_X12_shape_267 N g a0 x1 x2v x3v x4v r_46.2) else (bi (x5v ||| x6v) fun x_48 => (D_X12_pass N g a0 r_46.2).bind fun r_50 => if x6v = (1 : Int32) then ((D_X12_readNumber N g a0 2 16 r_50).bind fun r_66 => J_X12_shape_258 N g a0 x1 kt49 r_66.1 x3v x4v x_48 r_66.2) else (if x6v = (4 : Int32) then ((D_X12_readNumber N g a0 1 5 r_50).bind fun r_65 => J_X12_shape_258 N g a0 x1 kt49 x2v r_65.1 x4v x_48 r_65.2) else ((D_X12_word N g a0 r_50).bind fun r_53 => (D_X12_of N g 3 r_53.2).bind fun r_54 => if r_53.1 = r_54.1 then (J_X12_shape_219 N g a0 x1 kt49 1 x2v x3v x_48 r_54.2) else (J_X12_shape_219 N g a0 x1 kt49 0 x2v x3v x_48 r_54.2))))
set_option maxHeartbeats 4000000 in
set_option maxRecDepth 100000 in
theorem t_J_X12_shape_148 {l : Launch} {D : va_G} {cy : Nat → ClassId} {N d : Nat} {g : gp} (wt : WT g) (hl : l.stackTraces = false) (hd : 6 ≤ d) {a0 : Nat} {x1 : Int32} (k0 : q_K g a0 = 12) {kt49 : Int32 → Int32 → Int32 → Int32 → dp → Option (Int32 × dp)} (hk49 : ∀ (x2v : Int32) (x3v : Int32) (x4v : Int32) (x5v : Int32) (δ : dp), AWD l D cy m_X12_shape d 0 0 ei g 49 [(0, .ref a0), (2, .int x2v), (3, .int x3v), (4, .int x4v), (5, .int x5v)] [] δ (kt49 x2v x3v x4v x5v δ)) : ∀ (x2v : Int32) (x3v : Int32) (x4v : Int32) (x5v : Int32) (x6v : Int32) (δ : dp), AWD l D cy m_X12_shape d 0 0 ei g 148 [(0, .ref a0), (2, .int x2v), (3, .int x3v), (4, .int x4v), (5, .int x5v), (6, .int x6v)] [] δ (J_X12_shape_148 N g a0 x1 kt49 x2v x3v x4v x5v x6v δ) := by
    intro x2v x3v x4v x5v x6v δ 
    unfold J_X12_shape_148
    refine w_aload_n 0 0 (μ := m_X12_shape) (pc := 148) dX12_shape_148 rfl rfl ?_
    refine w_callV (As := []) (rest := []) (μ := m_X12_shape) (pc := 149) dX12_shape_149 cv_X12_141 rfl rfl k0 (by decide) rfl (Nat.le_of_ble_eq_true rfl) (d' := d - 1) (by omega) he_i (c_X12_fine wt hl (d := d - 1) (by omega) k0) (fun r_46 => ?_)
    refine w_if_ne 158 (μ := m_X12_shape) (pc := 152) dX12_shape_152 (by decide) (fun c_47 => ?_) (fun c_47 => ?_)
    · refine w_iload 4 (μ := m_X12_shape) (pc := 158) dX12_shape_158 rfl ?_
      refine w_iload 5 (μ := m_X12_shape) (pc := 160) dX12_shape_160 rfl ?_
      refine w_ior (μ := m_X12_shape) (pc := 162) dX12_shape_162 ?_
      refine w_bi (fun x_48 e_49 => ?_)
      refine w_istore [(5, .int x_48), (0, .ref a0), (2, .int x2v), (3, .int x3v), (4, .int x4v), (6, .int x6v)] (μ := m_X12_shape) (pc := 163) dX12_shape_163 (by decide) rfl ?_
      refine w_aload_n 1 0 (μ := m_X12_shape) (pc := 165) dX12_shape_165 rfl rfl ?_
      refine w_callV (As := []) (rest := []) (μ := m_X12_shape) (pc := 166) dX12_shape_166 cv_X12_179 rfl rfl k0 (by decide) rfl (Nat.le_of_ble_eq_true rfl) (d' := d - 1) (by omega) he_v (c_X12_pass wt hl (d := d - 1) (by omega) k0) (fun r_50 => ?_)
      refine w_iload 5 (μ := m_X12_shape) (pc := 169) dX12_shape_169 rfl ?_
      refine w_iconst (v := 1) (μ := m_X12_shape) (pc := 171) dX12_shape_171 (by decide) ?_
      refine w_icmp_ne 186 (μ := m_X12_shape) (pc := 172) dX12_shape_172 (by decide) (fun c_51 => ?_) (fun c_51 => ?_)
      · refine w_iload 5 (μ := m_X12_shape) (pc := 186) dX12_shape_186 rfl ?_
        refine w_iconst (v := 4) (μ := m_X12_shape) (pc := 188) dX12_shape_188 (by decide) ?_
        refine w_icmp_ne 202 (μ := m_X12_shape) (pc := 189) dX12_shape_189 (by decide) (fun c_52 => ?_) (fun c_52 => ?_)
        · refine w_aload_n 1 0 (μ := m_X12_shape) (pc := 202) dX12_shape_202 rfl rfl ?_
          refine w_callV (As := []) (rest := []) (μ := m_X12_shape) (pc := 203) dX12_shape_203 cv_X12_168 rfl rfl k0 (by decide) rfl (Nat.le_of_ble_eq_true rfl) (d' := d - 1) (by omega) he_i (c_X12_word wt hl (d := d - 1) (by omega) k0) (fun r_53 => ?_)
          refine w_ldcS 3 (tx := "more") (μ := m_X12_shape) (pc := 206) dX12_shape_206 (by decide +kernel) ?_
          refine w_callS (As := [.ref (D.2 100 3)]) (rest := [.int r_53.1]) (μ := m_X12_shape) (pc := 208) dX12_shape_208 cs_X12_172 rfl rfl (Nat.le_of_ble_eq_true rfl) (d' := d - 1) (by omega) he_i (c_X12_of wt hl (d := d - 1) (by omega) (by decide)) (fun r_54 => ?_)
          refine w_icmp_ne 218 (μ := m_X12_shape) (pc := 211) dX12_shape_211 (by decide) (fun c_55 => ?_) (fun c_55 => ?_)
          · refine w_iconst (v := 0) (μ := m_X12_shape) (pc := 218) dX12_shape_218 (by decide) ?_
            refine w_lv [1, 2, 3, 0] rfl ?_
            exact t_J_X12_shape_219 wt hl (by omega) k0 hk49 _ _ _ _ _
          · refine w_iconst (v := 1) (μ := m_X12_shape) (pc := 214) dX12_shape_214 (by decide) ?_
            refine w_goto 219 (μ := m_X12_shape) (pc := 215) dX12_shape_215 (by decide) ?_
            refine w_lv [1, 2, 3, 0] rfl ?_
            exact t_J_X12_shape_219 wt hl (by omega) k0 hk49 _ _ _ _ _
        · refine w_aload_n 1 0 (μ := m_X12_shape) (pc := 192) dX12_shape_192 rfl rfl ?_
          refine w_iconst (v := 1) (μ := m_X12_shape) (pc := 193) dX12_shape_193 (by decide) ?_
          refine w_iconst (v := 5) (μ := m_X12_shape) (pc := 194) dX12_shape_194 (by decide) ?_
          refine w_callV (As := [.int 1, .int 5]) (rest := []) (μ := m_X12_shape) (pc := 195) dX12_shape_195 cv_X12_182 rfl rfl k0 (by decide) rfl (Nat.le_of_ble_eq_true rfl) (d' := d - 1) (by omega) he_i (c_X12_readNumber wt hl (d := d - 1) (by omega) k0) (fun r_65 => ?_)
          refine w_istore_n [(3, .int r_65.1), (5, .int x_48), (0, .ref a0), (2, .int x2v), (4, .int x4v), (6, .int x6v)] (μ := m_X12_shape) (pc := 198) dX12_shape_198 rfl (by decide) rfl ?_
          refine w_goto 258 (μ := m_X12_shape) (pc := 199) dX12_shape_199 (by decide) ?_
          refine w_lv [2, 3, 0, 4, 1] rfl ?_
          exact t_J_X12_shape_258 wt hl (by omega) k0 hk49 _ _ _ _ _
      · refine w_aload_n 1 0 (μ := m_X12_shape) (pc := 175) dX12_shape_175 rfl rfl ?_
        refine w_iconst (v := 2) (μ := m_X12_shape) (pc := 176) dX12_shape_176 (by decide) ?_
        refine w_bipush (v := 16) (μ := m_X12_shape) (pc := 177) dX12_shape_177 (by decide) ?_
        refine w_callV (As := [.int 2, .int 16]) (rest := []) (μ := m_X12_shape) (pc := 179) dX12_shape_179 cv_X12_182 rfl rfl k0 (by decide) rfl (Nat.le_of_ble_eq_true rfl) (d' := d - 1) (by omega) he_i (c_X12_readNumber wt hl (d := d - 1) (by omega) k0) (fun r_66 => ?_)
        refine w_istore_n [(2, .int r_66.1), (5, .int x_48), (0, .ref a0), (3, .int x3v), (4, .int x4v), (6, .int x6v)] (μ := m_X12_shape) (pc := 182) dX12_shape_182 rfl (by decide) rfl ?_
        refine w_goto 258 (μ := m_X12_shape) (pc := 183) dX12_shape_183 (by decide) ?_
        refine w_lv [2, 0, 3, 4, 1] rfl ?_
        exact t_J_X12_shape_258 wt hl (by omega) k0 hk49 _ _ _ _ _
    · refine w_goto 267 (μ := m_X12_shape) (pc := 155) dX12_shape_155 (by decide) ?_
      refine w_lv [0, 1, 2, 3] rfl ?_
      exact t_J_X12_shape_267 wt hl (by omega) k0 _ _ _ _
def J_X12_shape_112 (N : Nat) (g : gp) (a0 : Nat) (x1 : Int32) (kt49 : Int32 → Int32 → Int32 → Int32 → dp → Option (Int32 × dp)) (xs0 : Int32) (x2v : Int32) (x3v : Int32) (x4v : Int32) (x5v : Int32) (δ : dp) : Option (Int32 × dp) :=
  if xs0 = 0 then ((D_X12_wrong N g a0 1 (q_I δ 12 4 a0) δ).bind fun r_68 => J_X12_shape_148 N g a0 x1 kt49 x2v x3v x4v x5v xs0 r_68) else (if (x5v &&& xs0) = 0 then (J_X12_shape_148 N g a0 x1 kt49 x2v x3v x4v x5v xs0 δ) else ((D_X12_wrong N g a0 4 (q_I δ 12 4 a0) δ).bind fun r_67 => J_X12_shape_148 N g a0 x1 kt49 x2v x3v x4v x5v xs0 r_67))
set_option maxHeartbeats 4000000 in
set_option maxRecDepth 100000 in
theorem t_J_X12_shape_112 {l : Launch} {D : va_G} {cy : Nat → ClassId} {N d : Nat} {g : gp} (wt : WT g) (hl : l.stackTraces = false) (hd : 6 ≤ d) {a0 : Nat} {x1 : Int32} (k0 : q_K g a0 = 12) {kt49 : Int32 → Int32 → Int32 → Int32 → dp → Option (Int32 × dp)} (hk49 : ∀ (x2v : Int32) (x3v : Int32) (x4v : Int32) (x5v : Int32) (δ : dp), AWD l D cy m_X12_shape d 0 0 ei g 49 [(0, .ref a0), (2, .int x2v), (3, .int x3v), (4, .int x4v), (5, .int x5v)] [] δ (kt49 x2v x3v x4v x5v δ)) : ∀ (xs0 : Int32) (x2v : Int32) (x3v : Int32) (x4v : Int32) (x5v : Int32) (δ : dp), AWD l D cy m_X12_shape d 0 0 ei g 112 [(0, .ref a0), (2, .int x2v), (3, .int x3v), (4, .int x4v), (5, .int x5v)] [.int xs0] δ (J_X12_shape_112 N g a0 x1 kt49 xs0 x2v x3v x4v x5v δ) := by
    intro xs0 x2v x3v x4v x5v δ 
    unfold J_X12_shape_112
    refine w_istore [(6, .int xs0), (0, .ref a0), (2, .int x2v), (3, .int x3v), (4, .int x4v), (5, .int x5v)] (μ := m_X12_shape) (pc := 112) dX12_shape_112 (by decide) rfl ?_
    refine w_iload 0 (μ := m_X12_shape) (pc := 114) dX12_shape_114 rfl ?_
    refine w_if_ne 131 (μ := m_X12_shape) (pc := 116) dX12_shape_116 (by decide) (fun c_44 => ?_) (fun c_44 => ?_)
    · refine w_iload 5 (μ := m_X12_shape) (pc := 131) dX12_shape_131 rfl ?_
      refine w_iload 0 (μ := m_X12_shape) (pc := 133) dX12_shape_133 rfl ?_
      refine w_iand (μ := m_X12_shape) (pc := 135) dX12_shape_135 ?_
      refine w_if_eq 148 (μ := m_X12_shape) (pc := 136) dX12_shape_136 (by decide) (fun c_45 => ?_) (fun c_45 => ?_)
      · refine w_lv [1, 2, 3, 4, 5, 0] rfl ?_
        exact t_J_X12_shape_148 wt hl (by omega) k0 hk49 _ _ _ _ _ _
      · refine w_aload_n 1 0 (μ := m_X12_shape) (pc := 139) dX12_shape_139 rfl rfl ?_
        refine w_iconst (v := 4) (μ := m_X12_shape) (pc := 140) dX12_shape_140 (by decide) ?_
        refine w_aload_n 1 0 (μ := m_X12_shape) (pc := 141) dX12_shape_141 rfl rfl ?_
        refine w_getI (μ := m_X12_shape) (pc := 142) dX12_shape_142 fl_X12_118 ir_12_4 k0 ?_
        refine w_callV (As := [.int 4, .int (q_I δ 12 4 a0)]) (rest := []) (μ := m_X12_shape) (pc := 145) dX12_shape_145 cv_X12_148 rfl rfl k0 (by decide) rfl (Nat.le_of_ble_eq_true rfl) (d' := d - 1) (by omega) he_v (c_X12_wrong wt hl (d := d - 1) (by omega) k0) (fun r_67 => ?_)
        refine w_lv [1, 2, 3, 4, 5, 0] rfl ?_
        exact t_J_X12_shape_148 wt hl (by omega) k0 hk49 _ _ _ _ _ _
    · refine w_aload_n 1 0 (μ := m_X12_shape) (pc := 119) dX12_shape_119 rfl rfl ?_
      refine w_iconst (v := 1) (μ := m_X12_shape) (pc := 120) dX12_shape_120 (by decide) ?_
      refine w_aload_n 1 0 (μ := m_X12_shape) (pc := 121) dX12_shape_121 rfl rfl ?_
      refine w_getI (μ := m_X12_shape) (pc := 122) dX12_shape_122 fl_X12_118 ir_12_4 k0 ?_
      refine w_callV (As := [.int 1, .int (q_I δ 12 4 a0)]) (rest := []) (μ := m_X12_shape) (pc := 125) dX12_shape_125 cv_X12_148 rfl rfl k0 (by decide) rfl (Nat.le_of_ble_eq_true rfl) (d' := d - 1) (by omega) he_v (c_X12_wrong wt hl (d := d - 1) (by omega) k0) (fun r_68 => ?_)
      refine w_goto 148 (μ := m_X12_shape) (pc := 128) dX12_shape_128 (by decide) ?_
      refine w_lv [1, 2, 3, 4, 5, 0] rfl ?_
      exact t_J_X12_shape_148 wt hl (by omega) k0 hk49 _ _ _ _ _ _
def L_X12_shape_49 (N : Nat) (g : gp) (a0 : Nat) (x1 : Int32) : Nat → Int32 → Int32 → Int32 → Int32 → dp → Option (Int32 × dp)
  | 0, _, _, _, _, _ => none
  | n + 1, x2v, x3v, x4v, x5v, δ => (D_X12_fine N g a0 δ).bind fun r_7 => if r_7.1 = 0 then (J_X12_shape_267 N g a0 x1 x2v x3v x4v r_7.2) else ((D_X12_isMore N g a0 r_7.2).bind fun r_33 => if r_33.1 = 0 then (J_X12_shape_267 N g a0 x1 x2v x3v x4v r_33.2) else ((D_X12_word N g a0 r_33.2).bind fun r_35 => (D_X12_of N g 0 r_35.2).bind fun r_36 => if r_35.1 = r_36.1 then (J_X12_shape_112 N g a0 x1 (L_X12_shape_49 N g a0 x1 n) 1 x2v x3v x4v x5v r_36.2) else ((D_X12_word N g a0 r_36.2).bind fun r_38 => (D_X12_of N g 1 r_38.2).bind fun r_39 => if r_38.1 = r_39.1 then (J_X12_shape_112 N g a0 x1 (L_X12_shape_49 N g a0 x1 n) 2 x2v x3v x4v x5v r_39.2) else ((D_X12_word N g a0 r_39.2).bind fun r_41 => (D_X12_of N g 2 r_41.2).bind fun r_42 => if r_41.1 = r_42.1 then (J_X12_shape_112 N g a0 x1 (L_X12_shape_49 N g a0 x1 n) 4 x2v x3v x4v x5v r_42.2) else (J_X12_shape_112 N g a0 x1 (L_X12_shape_49 N g a0 x1 n) 0 x2v x3v x4v x5v r_42.2)))))
set_option maxHeartbeats 4000000 in
set_option maxRecDepth 100000 in
theorem t_L_X12_shape_49 {l : Launch} {D : va_G} {cy : Nat → ClassId} {N d : Nat} {g : gp} (wt : WT g) (hl : l.stackTraces = false) (hd : 6 ≤ d) {a0 : Nat} {x1 : Int32} (k0 : q_K g a0 = 12) : ∀ (n : Nat) (x2v : Int32) (x3v : Int32) (x4v : Int32) (x5v : Int32) (δ : dp), AWD l D cy m_X12_shape d 0 0 ei g 49 [(0, .ref a0), (2, .int x2v), (3, .int x3v), (4, .int x4v), (5, .int x5v)] [] δ (L_X12_shape_49 N g a0 x1 n x2v x3v x4v x5v δ) := by
  intro n
  induction n with
  | zero => intro x2v x3v x4v x5v δ ; exact w_none
  | succ n ih =>
    intro x2v x3v x4v x5v δ 
    unfold L_X12_shape_49
    refine w_aload_n 0 0 (μ := m_X12_shape) (pc := 49) dX12_shape_49 rfl rfl ?_
    refine w_callV (As := []) (rest := []) (μ := m_X12_shape) (pc := 50) dX12_shape_50 cv_X12_141 rfl rfl k0 (by decide) rfl (Nat.le_of_ble_eq_true rfl) (d' := d - 1) (by omega) he_i (c_X12_fine wt hl (d := d - 1) (by omega) k0) (fun r_7 => ?_)
    refine w_if_eq 267 (μ := m_X12_shape) (pc := 53) dX12_shape_53 (by decide) (fun c_8 => ?_) (fun c_8 => ?_)
    · refine w_lv [0, 1, 2, 3] rfl ?_
      exact t_J_X12_shape_267 wt hl (by omega) k0 _ _ _ _
    · refine w_aload_n 0 0 (μ := m_X12_shape) (pc := 56) dX12_shape_56 rfl rfl ?_
      refine w_callV (As := []) (rest := []) (μ := m_X12_shape) (pc := 57) dX12_shape_57 cv_X12_165 rfl rfl k0 (by decide) rfl (Nat.le_of_ble_eq_true rfl) (d' := d - 1) (by omega) he_i (c_X12_isMore wt hl (d := d - 1) (by omega) k0) (fun r_33 => ?_)
      refine w_if_eq 267 (μ := m_X12_shape) (pc := 60) dX12_shape_60 (by decide) (fun c_34 => ?_) (fun c_34 => ?_)
      · refine w_lv [0, 1, 2, 3] rfl ?_
        exact t_J_X12_shape_267 wt hl (by omega) k0 _ _ _ _
      · refine w_aload_n 0 0 (μ := m_X12_shape) (pc := 63) dX12_shape_63 rfl rfl ?_
        refine w_callV (As := []) (rest := []) (μ := m_X12_shape) (pc := 64) dX12_shape_64 cv_X12_168 rfl rfl k0 (by decide) rfl (Nat.le_of_ble_eq_true rfl) (d' := d - 1) (by omega) he_i (c_X12_word wt hl (d := d - 1) (by omega) k0) (fun r_35 => ?_)
        refine w_ldcS 0 (tx := "wide") (μ := m_X12_shape) (pc := 67) dX12_shape_67 (by decide +kernel) ?_
        refine w_callS (As := [.ref (D.2 100 0)]) (rest := [.int r_35.1]) (μ := m_X12_shape) (pc := 69) dX12_shape_69 cs_X12_172 rfl rfl (Nat.le_of_ble_eq_true rfl) (d' := d - 1) (by omega) he_i (c_X12_of wt hl (d := d - 1) (by omega) (by decide)) (fun r_36 => ?_)
        refine w_icmp_ne 79 (μ := m_X12_shape) (pc := 72) dX12_shape_72 (by decide) (fun c_37 => ?_) (fun c_37 => ?_)
        · refine w_aload_n 0 0 (μ := m_X12_shape) (pc := 79) dX12_shape_79 rfl rfl ?_
          refine w_callV (As := []) (rest := []) (μ := m_X12_shape) (pc := 80) dX12_shape_80 cv_X12_168 rfl rfl k0 (by decide) rfl (Nat.le_of_ble_eq_true rfl) (d' := d - 1) (by omega) he_i (c_X12_word wt hl (d := d - 1) (by omega) k0) (fun r_38 => ?_)
          refine w_ldcS 1 (tx := "upper") (μ := m_X12_shape) (pc := 83) dX12_shape_83 (by decide +kernel) ?_
          refine w_callS (As := [.ref (D.2 100 1)]) (rest := [.int r_38.1]) (μ := m_X12_shape) (pc := 85) dX12_shape_85 cs_X12_172 rfl rfl (Nat.le_of_ble_eq_true rfl) (d' := d - 1) (by omega) he_i (c_X12_of wt hl (d := d - 1) (by omega) (by decide)) (fun r_39 => ?_)
          refine w_icmp_ne 95 (μ := m_X12_shape) (pc := 88) dX12_shape_88 (by decide) (fun c_40 => ?_) (fun c_40 => ?_)
          · refine w_aload_n 0 0 (μ := m_X12_shape) (pc := 95) dX12_shape_95 rfl rfl ?_
            refine w_callV (As := []) (rest := []) (μ := m_X12_shape) (pc := 96) dX12_shape_96 cv_X12_168 rfl rfl k0 (by decide) rfl (Nat.le_of_ble_eq_true rfl) (d' := d - 1) (by omega) he_i (c_X12_word wt hl (d := d - 1) (by omega) k0) (fun r_41 => ?_)
            refine w_ldcS 2 (tx := "ends") (μ := m_X12_shape) (pc := 99) dX12_shape_99 (by decide +kernel) ?_
            refine w_callS (As := [.ref (D.2 100 2)]) (rest := [.int r_41.1]) (μ := m_X12_shape) (pc := 101) dX12_shape_101 cs_X12_172 rfl rfl (Nat.le_of_ble_eq_true rfl) (d' := d - 1) (by omega) he_i (c_X12_of wt hl (d := d - 1) (by omega) (by decide)) (fun r_42 => ?_)
            refine w_icmp_ne 111 (μ := m_X12_shape) (pc := 104) dX12_shape_104 (by decide) (fun c_43 => ?_) (fun c_43 => ?_)
            · refine w_iconst (v := 0) (μ := m_X12_shape) (pc := 111) dX12_shape_111 (by decide) ?_
              exact t_J_X12_shape_112 wt hl (by omega) k0 ih _ _ _ _ _ _
            · refine w_iconst (v := 4) (μ := m_X12_shape) (pc := 107) dX12_shape_107 (by decide) ?_
              refine w_goto 112 (μ := m_X12_shape) (pc := 108) dX12_shape_108 (by decide) ?_
              exact t_J_X12_shape_112 wt hl (by omega) k0 ih _ _ _ _ _ _
          · refine w_iconst (v := 2) (μ := m_X12_shape) (pc := 91) dX12_shape_91 (by decide) ?_
            refine w_goto 112 (μ := m_X12_shape) (pc := 92) dX12_shape_92 (by decide) ?_
            exact t_J_X12_shape_112 wt hl (by omega) k0 ih _ _ _ _ _ _
        · refine w_iconst (v := 1) (μ := m_X12_shape) (pc := 75) dX12_shape_75 (by decide) ?_
          refine w_goto 112 (μ := m_X12_shape) (pc := 76) dX12_shape_76 (by decide) ?_
          exact t_J_X12_shape_112 wt hl (by omega) k0 ih _ _ _ _ _ _
def J_X12_shape_23 (N : Nat) (g : gp) (a0 : Nat) (x1 : Int32) (xs0 : Int32) (as1 : Nat) (δ : dp) : Option (Int32 × dp) :=
  (D_X12_may N g as1 xs0 1 2 δ).bind fun r_4 => if r_4.1 = 0 then (some (0, r_4.2)) else ((D_X12_begins N g a0 x1 r_4.2).bind fun r_6 => L_X12_shape_49 N g a0 x1 N 8 1 1 0 r_6)
set_option maxHeartbeats 4000000 in
set_option maxRecDepth 100000 in
theorem t_J_X12_shape_23 {l : Launch} {D : va_G} {cy : Nat → ClassId} {N d : Nat} {g : gp} (wt : WT g) (hl : l.stackTraces = false) (hd : 6 ≤ d) {a0 : Nat} {x1 : Int32} (k0 : q_K g a0 = 12) : ∀ (xs0 : Int32) (as1 : Nat) (δ : dp), q_K g as1 = 12 → AWD l D cy m_X12_shape d 0 0 ei g 23 [(0, .ref a0), (1, .int x1)] [.int xs0, .ref as1] δ (J_X12_shape_23 N g a0 x1 xs0 as1 δ) := by
    intro xs0 as1 δ has1
    unfold J_X12_shape_23
    refine w_iconst (v := 1) (μ := m_X12_shape) (pc := 23) dX12_shape_23 (by decide) ?_
    refine w_iconst (v := 2) (μ := m_X12_shape) (pc := 24) dX12_shape_24 (by decide) ?_
    refine w_callV (As := [.int xs0, .int 1, .int 2]) (rest := []) (μ := m_X12_shape) (pc := 25) dX12_shape_25 cv_X12_157 rfl rfl has1 (by decide) rfl (Nat.le_of_ble_eq_true rfl) (d' := d - 1) (by omega) he_i (c_X12_may wt hl (d := d - 1) (by omega) has1) (fun r_4 => ?_)
    refine w_if_ne 33 (μ := m_X12_shape) (pc := 28) dX12_shape_28 (by decide) (fun c_5 => ?_) (fun c_5 => ?_)
    · refine w_aload_n 0 0 (μ := m_X12_shape) (pc := 33) dX12_shape_33 rfl rfl ?_
      refine w_iload_n 1 1 (μ := m_X12_shape) (pc := 34) dX12_shape_34 rfl rfl ?_
      refine w_callV (As := [.int x1]) (rest := []) (μ := m_X12_shape) (pc := 35) dX12_shape_35 cv_X12_161 rfl rfl k0 (by decide) rfl (Nat.le_of_ble_eq_true rfl) (d' := d - 1) (by omega) he_v (c_X12_begins wt hl (d := d - 1) (by omega) k0) (fun r_6 => ?_)
      refine w_bipush (v := 8) (μ := m_X12_shape) (pc := 38) dX12_shape_38 (by decide) ?_
      refine w_istore_n [(2, .int 8), (0, .ref a0), (1, .int x1)] (μ := m_X12_shape) (pc := 40) dX12_shape_40 rfl (by decide) rfl ?_
      refine w_iconst (v := 1) (μ := m_X12_shape) (pc := 41) dX12_shape_41 (by decide) ?_
      refine w_istore_n [(3, .int 1), (2, .int 8), (0, .ref a0), (1, .int x1)] (μ := m_X12_shape) (pc := 42) dX12_shape_42 rfl (by decide) rfl ?_
      refine w_iconst (v := 1) (μ := m_X12_shape) (pc := 43) dX12_shape_43 (by decide) ?_
      refine w_istore [(4, .int 1), (3, .int 1), (2, .int 8), (0, .ref a0), (1, .int x1)] (μ := m_X12_shape) (pc := 44) dX12_shape_44 (by decide) rfl ?_
      refine w_iconst (v := 0) (μ := m_X12_shape) (pc := 46) dX12_shape_46 (by decide) ?_
      refine w_istore [(5, .int 0), (4, .int 1), (3, .int 1), (2, .int 8), (0, .ref a0), (1, .int x1)] (μ := m_X12_shape) (pc := 47) dX12_shape_47 (by decide) rfl ?_
      refine w_lv [4, 3, 2, 1, 0] rfl ?_
      exact t_L_X12_shape_49 wt hl (by omega) k0 N _ _ _ _ _
    · refine w_iconst (v := 0) (μ := m_X12_shape) (pc := 31) dX12_shape_31 (by decide) ?_
      exact w_iret (μ := m_X12_shape) (pc := 32) dX12_shape_32 rfl rfl
def J_X12_shape_22 (N : Nat) (g : gp) (a0 : Nat) (x1 : Int32) (as0 : Nat) (δ : dp) : Option (Int32 × dp) :=
  J_X12_shape_23 N g a0 x1 0 as0 δ
set_option maxHeartbeats 4000000 in
set_option maxRecDepth 100000 in
theorem t_J_X12_shape_22 {l : Launch} {D : va_G} {cy : Nat → ClassId} {N d : Nat} {g : gp} (wt : WT g) (hl : l.stackTraces = false) (hd : 6 ≤ d) {a0 : Nat} {x1 : Int32} (k0 : q_K g a0 = 12) : ∀ (as0 : Nat) (δ : dp), q_K g as0 = 12 → AWD l D cy m_X12_shape d 0 0 ei g 22 [(0, .ref a0), (1, .int x1)] [.ref as0] δ (J_X12_shape_22 N g a0 x1 as0 δ) := by
    intro as0 δ has0
    unfold J_X12_shape_22
    refine w_iconst (v := 0) (μ := m_X12_shape) (pc := 22) dX12_shape_22 (by decide) ?_
    exact t_J_X12_shape_23 wt hl (by omega) k0 _ _ _ has0
def D_X12_shape (N : Nat) (g : gp) (a0 : Nat) (x1 : Int32) (δ : dp) : Option (Int32 × dp) :=
  bd (s_I δ 12 0 a0 0) fun δ_1 => if x1 < 0 then (J_X12_shape_22 N g a0 x1 a0 δ_1) else (if (q_I δ_1 12 2 a0) < x1 then (J_X12_shape_22 N g a0 x1 a0 δ_1) else (J_X12_shape_23 N g a0 x1 1 a0 δ_1))
set_option maxHeartbeats 4000000 in
set_option maxRecDepth 100000 in
theorem c_X12_shape {l : Launch} {D : va_G} {cy : Nat → ClassId} {N d : Nat} {g : gp} (wt : WT g) (hl : l.stackTraces = false) (hd : 6 ≤ d) {a0 : Nat} {x1 : Int32} {δ : dp} (k0 : q_K g a0 = 12) : CalD l D cy m_X12_shape d 0 0 ei g [.ref a0, .int x1] δ (D_X12_shape N g a0 x1 δ) := by
  refine CalD.of (by decide +kernel) (Nat.le_of_ble_eq_true rfl) hl ?_
  unfold D_X12_shape
  refine w_aload_n 0 0 (μ := m_X12_shape) (pc := 0) dX12_shape_0 rfl rfl ?_
  refine w_iconst (v := 0) (μ := m_X12_shape) (pc := 1) dX12_shape_1 (by decide) ?_
  refine w_putI (μ := m_X12_shape) (pc := 2) dX12_shape_2 fl_X12_1 flw_12_0 ir_12_0 k0 ?_
  refine w_bd (fun δ_1 e_2 => ?_)
  refine w_aload_n 0 0 (μ := m_X12_shape) (pc := 5) dX12_shape_5 rfl rfl ?_
  refine w_iload_n 1 1 (μ := m_X12_shape) (pc := 6) dX12_shape_6 rfl rfl ?_
  refine w_if_lt 22 (μ := m_X12_shape) (pc := 7) dX12_shape_7 (by decide) (fun c_3 => ?_) (fun c_3 => ?_)
  · exact t_J_X12_shape_22 wt hl (by omega) k0 _ _ k0
  · refine w_iload_n 1 1 (μ := m_X12_shape) (pc := 10) dX12_shape_10 rfl rfl ?_
    refine w_aload_n 0 0 (μ := m_X12_shape) (pc := 11) dX12_shape_11 rfl rfl ?_
    refine w_getI (μ := m_X12_shape) (pc := 12) dX12_shape_12 fl_X12_109 ir_12_2 k0 ?_
    refine w_icmp_gt 22 (μ := m_X12_shape) (pc := 15) dX12_shape_15 (by decide) (fun c_69 => ?_) (fun c_69 => ?_)
    · exact t_J_X12_shape_22 wt hl (by omega) k0 _ _ k0
    · refine w_iconst (v := 1) (μ := m_X12_shape) (pc := 18) dX12_shape_18 (by decide) ?_
      refine w_goto 23 (μ := m_X12_shape) (pc := 19) dX12_shape_19 (by decide) ?_
      exact t_J_X12_shape_23 wt hl (by omega) k0 _ _ _ k0
def D_X12_emit (N : Nat) (g : gp) (a0 : Nat) (x1 : Int32) (x2 : Int32) (δ : dp) : Option (dp) :=
  (D_X12_fine N g a0 δ).bind fun r_1 => if r_1.1 = 0 then (some r_1.2) else ((q_O g 12 32 a0).bind fun b_3 => if ((500 * (q_I r_1.2 12 24 a0)) + (q_I r_1.2 12 26 a0)) < 0 ∨ q_N g b_3 ≤ ((500 * (q_I r_1.2 12 24 a0)) + (q_I r_1.2 12 26 a0)).toNatClampNeg then none else bd (s_R r_1.2 b_3 ((500 * (q_I r_1.2 12 24 a0)) + (q_I r_1.2 12 26 a0)).toNatClampNeg x1) fun δ_5 => (q_O g 12 33 a0).bind fun b_7 => if ((500 * (q_I δ_5 12 24 a0)) + (q_I δ_5 12 26 a0)) < 0 ∨ q_N g b_7 ≤ ((500 * (q_I δ_5 12 24 a0)) + (q_I δ_5 12 26 a0)).toNatClampNeg then none else bd (s_R δ_5 b_7 ((500 * (q_I δ_5 12 24 a0)) + (q_I δ_5 12 26 a0)).toNatClampNeg x2) fun δ_9 => bd (s_I δ_9 12 26 a0 ((q_I δ_9 12 26 a0) + 1)) fun δ_11 => some δ_11)
set_option maxHeartbeats 4000000 in
set_option maxRecDepth 100000 in
theorem c_X12_emit {l : Launch} {D : va_G} {cy : Nat → ClassId} {N d : Nat} {g : gp} (wt : WT g) (hl : l.stackTraces = false) (hd : 2 ≤ d) {a0 : Nat} {x1 : Int32} {x2 : Int32} {δ : dp} (k0 : q_K g a0 = 12) : CalD l D cy m_X12_emit d 0 0 ev g [.ref a0, .int x1, .int x2] δ (D_X12_emit N g a0 x1 x2 δ) := by
  refine CalD.of (by decide +kernel) (Nat.le_of_ble_eq_true rfl) hl ?_
  unfold D_X12_emit
  refine w_aload_n 0 0 (μ := m_X12_emit) (pc := 0) dX12_emit_0 rfl rfl ?_
  refine w_callV (As := []) (rest := []) (μ := m_X12_emit) (pc := 1) dX12_emit_1 cv_X12_141 rfl rfl k0 (by decide) rfl (Nat.le_of_ble_eq_true rfl) (d' := d - 1) (by omega) he_i (c_X12_fine wt hl (d := d - 1) (by omega) k0) (fun r_1 => ?_)
  refine w_if_ne 8 (μ := m_X12_emit) (pc := 4) dX12_emit_4 (by decide) (fun c_2 => ?_) (fun c_2 => ?_)
  · refine w_aload_n 0 0 (μ := m_X12_emit) (pc := 8) dX12_emit_8 rfl rfl ?_
    refine w_getO (μ := m_X12_emit) (pc := 9) dX12_emit_9 fl_X12_75 ir_12_32 id_12_32 k0 (fun b_3 e_4 => ?_)
    refine w_sipush (v := 500) (μ := m_X12_emit) (pc := 12) dX12_emit_12 (by decide) ?_
    refine w_aload_n 0 0 (μ := m_X12_emit) (pc := 15) dX12_emit_15 rfl rfl ?_
    refine w_getI (μ := m_X12_emit) (pc := 16) dX12_emit_16 fl_X12_199 ir_12_24 k0 ?_
    refine w_imul (μ := m_X12_emit) (pc := 19) dX12_emit_19 ?_
    refine w_aload_n 0 0 (μ := m_X12_emit) (pc := 20) dX12_emit_20 rfl rfl ?_
    refine w_getI (μ := m_X12_emit) (pc := 21) dX12_emit_21 fl_X12_202 ir_12_26 k0 ?_
    refine w_iadd (μ := m_X12_emit) (pc := 24) dX12_emit_24 ?_
    refine w_iload_n 1 1 (μ := m_X12_emit) (pc := 25) dX12_emit_25 rfl rfl ?_
    refine w_ast (μ := m_X12_emit) (pc := 26) dX12_emit_26 (wt_12_32 wt k0 e_4) ?_
    refine w_bd (fun δ_5 e_6 => ?_)
    refine w_aload_n 0 0 (μ := m_X12_emit) (pc := 27) dX12_emit_27 rfl rfl ?_
    refine w_getO (μ := m_X12_emit) (pc := 28) dX12_emit_28 fl_X12_78 ir_12_33 id_12_33 k0 (fun b_7 e_8 => ?_)
    refine w_sipush (v := 500) (μ := m_X12_emit) (pc := 31) dX12_emit_31 (by decide) ?_
    refine w_aload_n 0 0 (μ := m_X12_emit) (pc := 34) dX12_emit_34 rfl rfl ?_
    refine w_getI (μ := m_X12_emit) (pc := 35) dX12_emit_35 fl_X12_199 ir_12_24 k0 ?_
    refine w_imul (μ := m_X12_emit) (pc := 38) dX12_emit_38 ?_
    refine w_aload_n 0 0 (μ := m_X12_emit) (pc := 39) dX12_emit_39 rfl rfl ?_
    refine w_getI (μ := m_X12_emit) (pc := 40) dX12_emit_40 fl_X12_202 ir_12_26 k0 ?_
    refine w_iadd (μ := m_X12_emit) (pc := 43) dX12_emit_43 ?_
    refine w_iload_n 2 2 (μ := m_X12_emit) (pc := 44) dX12_emit_44 rfl rfl ?_
    refine w_ast (μ := m_X12_emit) (pc := 45) dX12_emit_45 (wt_12_33 wt k0 e_8) ?_
    refine w_bd (fun δ_9 e_10 => ?_)
    refine w_aload_n 0 0 (μ := m_X12_emit) (pc := 46) dX12_emit_46 rfl rfl ?_
    refine w_dup (μ := m_X12_emit) (pc := 47) dX12_emit_47 rfl ?_
    refine w_getI (μ := m_X12_emit) (pc := 48) dX12_emit_48 fl_X12_202 ir_12_26 k0 ?_
    refine w_iconst (v := 1) (μ := m_X12_emit) (pc := 51) dX12_emit_51 (by decide) ?_
    refine w_iadd (μ := m_X12_emit) (pc := 52) dX12_emit_52 ?_
    refine w_putI (μ := m_X12_emit) (pc := 53) dX12_emit_53 fl_X12_202 flw_12_26 ir_12_26 k0 ?_
    refine w_bd (fun δ_11 e_12 => ?_)
    exact w_vret (μ := m_X12_emit) (pc := 56) dX12_emit_56 rfl rfl
  · exact w_vret (μ := m_X12_emit) (pc := 7) dX12_emit_7 rfl rfl
def J_X12_unit_176 (N : Nat) (g : gp) (T : Nat → dp → Option (dp)) (a0 : Nat) (xs0 : Int32) (δ : dp) : Option (dp) :=
  if xs0 = ((-1) : Int32) then ((D_X12_wrong N g a0 1 (q_I δ 12 4 a0) δ).bind fun r_21 => some r_21) else ((D_X12_pass N g a0 δ).bind fun r_19 => (D_X12_emit N g a0 xs0 0 r_19).bind fun r_20 => some r_20)
set_option maxHeartbeats 4000000 in
set_option maxRecDepth 100000 in
theorem t_J_X12_unit_176 {l : Launch} {D : va_G} {cy : Nat → ClassId} {N d : Nat} {g : gp} (wt : WT g) (hl : l.stackTraces = false) {T : Nat → dp → Option (dp)} {dh : Nat} (hT : ∀ (a0 : Nat) (δ : dp), q_K g a0 = 12 → CalD l D cy m_X12_sum dh 0 0 ev g [.ref a0] δ (T a0 δ)) (hh : dh + 1 ≤ d) (hd : 6 ≤ d) {a0 : Nat} (k0 : q_K g a0 = 12) : ∀ (xs0 : Int32) (δ : dp), AWD l D cy m_X12_unit d 0 0 ev g 176 [(0, .ref a0)] [.int xs0] δ (J_X12_unit_176 N g T a0 xs0 δ) := by
    intro xs0 δ 
    unfold J_X12_unit_176
    refine w_istore_n [(3, .int xs0), (0, .ref a0)] (μ := m_X12_unit) (pc := 176) dX12_unit_176 rfl (by decide) rfl ?_
    refine w_iload_n 0 3 (μ := m_X12_unit) (pc := 177) dX12_unit_177 rfl rfl ?_
    refine w_iconst (v := (-1)) (μ := m_X12_unit) (pc := 178) dX12_unit_178 (by decide) ?_
    refine w_icmp_ne 192 (μ := m_X12_unit) (pc := 179) dX12_unit_179 (by decide) (fun c_18 => ?_) (fun c_18 => ?_)
    · refine w_aload_n 1 0 (μ := m_X12_unit) (pc := 192) dX12_unit_192 rfl rfl ?_
      refine w_callV (As := []) (rest := []) (μ := m_X12_unit) (pc := 193) dX12_unit_193 cv_X12_179 rfl rfl k0 (by decide) rfl (Nat.le_of_ble_eq_true rfl) (d' := d - 1) (by omega) he_v (c_X12_pass wt hl (d := d - 1) (by omega) k0) (fun r_19 => ?_)
      refine w_aload_n 1 0 (μ := m_X12_unit) (pc := 196) dX12_unit_196 rfl rfl ?_
      refine w_iload_n 0 3 (μ := m_X12_unit) (pc := 197) dX12_unit_197 rfl rfl ?_
      refine w_iconst (v := 0) (μ := m_X12_unit) (pc := 198) dX12_unit_198 (by decide) ?_
      refine w_callV (As := [.int xs0, .int 0]) (rest := []) (μ := m_X12_unit) (pc := 199) dX12_unit_199 cv_X12_205 rfl rfl k0 (by decide) rfl (Nat.le_of_ble_eq_true rfl) (d' := d - 1) (by omega) he_v (c_X12_emit wt hl (d := d - 1) (by omega) k0) (fun r_20 => ?_)
      exact w_vret (μ := m_X12_unit) (pc := 202) dX12_unit_202 rfl rfl
    · refine w_aload_n 1 0 (μ := m_X12_unit) (pc := 182) dX12_unit_182 rfl rfl ?_
      refine w_iconst (v := 1) (μ := m_X12_unit) (pc := 183) dX12_unit_183 (by decide) ?_
      refine w_aload_n 1 0 (μ := m_X12_unit) (pc := 184) dX12_unit_184 rfl rfl ?_
      refine w_getI (μ := m_X12_unit) (pc := 185) dX12_unit_185 fl_X12_118 ir_12_4 k0 ?_
      refine w_callV (As := [.int 1, .int (q_I δ 12 4 a0)]) (rest := []) (μ := m_X12_unit) (pc := 188) dX12_unit_188 cv_X12_148 rfl rfl k0 (by decide) rfl (Nat.le_of_ble_eq_true rfl) (d' := d - 1) (by omega) he_v (c_X12_wrong wt hl (d := d - 1) (by omega) k0) (fun r_21 => ?_)
      exact w_vret (μ := m_X12_unit) (pc := 191) dX12_unit_191 rfl rfl
def J_X12_unit_74 (N : Nat) (g : gp) (T : Nat → dp → Option (dp)) (a0 : Nat) (δ : dp) : Option (dp) :=
  bd (s_I δ 12 7 a0 ((q_I δ 12 7 a0) + 1)) fun δ_25 => (T a0 δ_25).bind fun r_27 => (D_X12_sign N g a0 41 r_27).bind fun r_28 => bd (s_I r_28 12 7 a0 ((q_I r_28 12 7 a0) - 1)) fun δ_29 => some δ_29
set_option maxHeartbeats 4000000 in
set_option maxRecDepth 100000 in
theorem t_J_X12_unit_74 {l : Launch} {D : va_G} {cy : Nat → ClassId} {N d : Nat} {g : gp} (wt : WT g) (hl : l.stackTraces = false) {T : Nat → dp → Option (dp)} {dh : Nat} (hT : ∀ (a0 : Nat) (δ : dp), q_K g a0 = 12 → CalD l D cy m_X12_sum dh 0 0 ev g [.ref a0] δ (T a0 δ)) (hh : dh + 1 ≤ d) (hd : 6 ≤ d) {a0 : Nat} (k0 : q_K g a0 = 12) : ∀ (δ : dp), AWD l D cy m_X12_unit d 0 0 ev g 74 [(0, .ref a0)] [] δ (J_X12_unit_74 N g T a0 δ) := by
    intro  δ 
    unfold J_X12_unit_74
    refine w_aload_n 0 0 (μ := m_X12_unit) (pc := 74) dX12_unit_74 rfl rfl ?_
    refine w_dup (μ := m_X12_unit) (pc := 75) dX12_unit_75 rfl ?_
    refine w_getI (μ := m_X12_unit) (pc := 76) dX12_unit_76 fl_X12_154 ir_12_7 k0 ?_
    refine w_iconst (v := 1) (μ := m_X12_unit) (pc := 79) dX12_unit_79 (by decide) ?_
    refine w_iadd (μ := m_X12_unit) (pc := 80) dX12_unit_80 ?_
    refine w_putI (μ := m_X12_unit) (pc := 81) dX12_unit_81 fl_X12_154 flw_12_7 ir_12_7 k0 ?_
    refine w_bd (fun δ_25 e_26 => ?_)
    refine w_aload_n 0 0 (μ := m_X12_unit) (pc := 84) dX12_unit_84 rfl rfl ?_
    refine w_callV (As := []) (rest := []) (μ := m_X12_unit) (pc := 85) dX12_unit_85 cv_X12_208 rfl rfl k0 (by decide) rfl (Nat.le_of_ble_eq_true rfl) (d' := dh) (by omega) he_v (hT _ _ k0) (fun r_27 => ?_)
    refine w_aload_n 0 0 (μ := m_X12_unit) (pc := 88) dX12_unit_88 rfl rfl ?_
    refine w_bipush (v := 41) (μ := m_X12_unit) (pc := 89) dX12_unit_89 (by decide) ?_
    refine w_callV (As := [.int 41]) (rest := []) (μ := m_X12_unit) (pc := 91) dX12_unit_91 cv_X12_189 rfl rfl k0 (by decide) rfl (Nat.le_of_ble_eq_true rfl) (d' := d - 1) (by omega) he_v (c_X12_sign wt hl (d := d - 1) (by omega) k0) (fun r_28 => ?_)
    refine w_aload_n 0 0 (μ := m_X12_unit) (pc := 94) dX12_unit_94 rfl rfl ?_
    refine w_dup (μ := m_X12_unit) (pc := 95) dX12_unit_95 rfl ?_
    refine w_getI (μ := m_X12_unit) (pc := 96) dX12_unit_96 fl_X12_154 ir_12_7 k0 ?_
    refine w_iconst (v := 1) (μ := m_X12_unit) (pc := 99) dX12_unit_99 (by decide) ?_
    refine w_isub (μ := m_X12_unit) (pc := 100) dX12_unit_100 ?_
    refine w_putI (μ := m_X12_unit) (pc := 101) dX12_unit_101 fl_X12_154 flw_12_7 ir_12_7 k0 ?_
    refine w_bd (fun δ_29 e_30 => ?_)
    exact w_vret (μ := m_X12_unit) (pc := 104) dX12_unit_104 rfl rfl
def J_X12_unit_57 (N : Nat) (g : gp) (T : Nat → dp → Option (dp)) (a0 : Nat) (δ : dp) : Option (dp) :=
  (D_X12_fine N g a0 δ).bind fun r_23 => if r_23.1 = 0 then (J_X12_unit_74 N g T a0 r_23.2) else (bd (s_I r_23.2 12 4 a0 ((q_I r_23.2 12 4 a0) + 1)) fun δ_31 => J_X12_unit_74 N g T a0 δ_31)
set_option maxHeartbeats 4000000 in
set_option maxRecDepth 100000 in
theorem t_J_X12_unit_57 {l : Launch} {D : va_G} {cy : Nat → ClassId} {N d : Nat} {g : gp} (wt : WT g) (hl : l.stackTraces = false) {T : Nat → dp → Option (dp)} {dh : Nat} (hT : ∀ (a0 : Nat) (δ : dp), q_K g a0 = 12 → CalD l D cy m_X12_sum dh 0 0 ev g [.ref a0] δ (T a0 δ)) (hh : dh + 1 ≤ d) (hd : 6 ≤ d) {a0 : Nat} (k0 : q_K g a0 = 12) : ∀ (δ : dp), AWD l D cy m_X12_unit d 0 0 ev g 57 [(0, .ref a0)] [] δ (J_X12_unit_57 N g T a0 δ) := by
    intro  δ 
    unfold J_X12_unit_57
    refine w_aload_n 0 0 (μ := m_X12_unit) (pc := 57) dX12_unit_57 rfl rfl ?_
    refine w_callV (As := []) (rest := []) (μ := m_X12_unit) (pc := 58) dX12_unit_58 cv_X12_141 rfl rfl k0 (by decide) rfl (Nat.le_of_ble_eq_true rfl) (d' := d - 1) (by omega) he_i (c_X12_fine wt hl (d := d - 1) (by omega) k0) (fun r_23 => ?_)
    refine w_if_eq 74 (μ := m_X12_unit) (pc := 61) dX12_unit_61 (by decide) (fun c_24 => ?_) (fun c_24 => ?_)
    · exact t_J_X12_unit_74 wt hl hT (by omega) (by omega) k0 _
    · refine w_aload_n 0 0 (μ := m_X12_unit) (pc := 64) dX12_unit_64 rfl rfl ?_
      refine w_dup (μ := m_X12_unit) (pc := 65) dX12_unit_65 rfl ?_
      refine w_getI (μ := m_X12_unit) (pc := 66) dX12_unit_66 fl_X12_118 ir_12_4 k0 ?_
      refine w_iconst (v := 1) (μ := m_X12_unit) (pc := 69) dX12_unit_69 (by decide) ?_
      refine w_iadd (μ := m_X12_unit) (pc := 70) dX12_unit_70 ?_
      refine w_putI (μ := m_X12_unit) (pc := 71) dX12_unit_71 fl_X12_118 flw_12_4 ir_12_4 k0 ?_
      refine w_bd (fun δ_31 e_32 => ?_)
      exact t_J_X12_unit_74 wt hl hT (by omega) (by omega) k0 _
def B_X12_unit (N : Nat) (g : gp) (T : Nat → dp → Option (dp)) (a0 : Nat) (δ : dp) : Option (dp) :=
  (D_X12_fine N g a0 δ).bind fun r_1 => if r_1.1 = 0 then (some r_1.2) else ((D_X12_here N g a0 r_1.2).bind fun r_3 => (D_X12_isDigit N g r_3.1 r_3.2).bind fun r_4 => if r_4.1 = 0 then (if r_3.1 = (40 : Int32) then (if (q_I r_4.2 12 7 a0) = (6 : Int32) then ((D_X12_wrong N g a0 3 (q_I r_4.2 12 4 a0) r_4.2).bind fun r_33 => J_X12_unit_57 N g T a0 r_33) else (J_X12_unit_57 N g T a0 r_4.2)) else ((D_X12_word N g a0 r_4.2).bind fun r_7 => (D_X12_of N g 11 r_7.2).bind fun r_8 => if r_7.1 = r_8.1 then (J_X12_unit_176 N g T a0 1 r_8.2) else ((D_X12_of N g 12 r_8.2).bind fun r_10 => if r_7.1 = r_10.1 then (J_X12_unit_176 N g T a0 2 r_10.2) else ((D_X12_of N g 13 r_10.2).bind fun r_12 => if r_7.1 = r_12.1 then (J_X12_unit_176 N g T a0 3 r_12.2) else ((D_X12_of N g 14 r_12.2).bind fun r_14 => if r_7.1 = r_14.1 then (J_X12_unit_176 N g T a0 4 r_14.2) else ((D_X12_of N g 15 r_14.2).bind fun r_16 => if r_7.1 = r_16.1 then (J_X12_unit_176 N g T a0 5 r_16.2) else (J_X12_unit_176 N g T a0 ((-1)) r_16.2))))))) else ((D_X12_readNumber N g a0 0 99999 r_4.2).bind fun r_34 => (D_X12_emit N g a0 0 r_34.1 r_34.2).bind fun r_35 => some r_35))
set_option maxHeartbeats 4000000 in
set_option maxRecDepth 100000 in
theorem c_b_X12_unit {l : Launch} {D : va_G} {cy : Nat → ClassId} {N d : Nat} {g : gp} (wt : WT g) (hl : l.stackTraces = false) {T : Nat → dp → Option (dp)} {dh : Nat} (hT : ∀ (a0 : Nat) (δ : dp), q_K g a0 = 12 → CalD l D cy m_X12_sum dh 0 0 ev g [.ref a0] δ (T a0 δ)) (hh : dh + 1 ≤ d) (hd : 6 ≤ d) {a0 : Nat} {δ : dp} (k0 : q_K g a0 = 12) : CalD l D cy m_X12_unit d 0 0 ev g [.ref a0] δ (B_X12_unit N g T a0 δ) := by
  refine CalD.of (by decide +kernel) (Nat.le_of_ble_eq_true rfl) hl ?_
  unfold B_X12_unit
  refine w_aload_n 0 0 (μ := m_X12_unit) (pc := 0) dX12_unit_0 rfl rfl ?_
  refine w_callV (As := []) (rest := []) (μ := m_X12_unit) (pc := 1) dX12_unit_1 cv_X12_141 rfl rfl k0 (by decide) rfl (Nat.le_of_ble_eq_true rfl) (d' := d - 1) (by omega) he_i (c_X12_fine wt hl (d := d - 1) (by omega) k0) (fun r_1 => ?_)
  refine w_if_ne 8 (μ := m_X12_unit) (pc := 4) dX12_unit_4 (by decide) (fun c_2 => ?_) (fun c_2 => ?_)
  · refine w_aload_n 0 0 (μ := m_X12_unit) (pc := 8) dX12_unit_8 rfl rfl ?_
    refine w_callV (As := []) (rest := []) (μ := m_X12_unit) (pc := 9) dX12_unit_9 cv_X12_124 rfl rfl k0 (by decide) rfl (Nat.le_of_ble_eq_true rfl) (d' := d - 1) (by omega) he_i (c_X12_here wt hl (d := d - 1) (by omega) k0) (fun r_3 => ?_)
    refine w_istore_n [(1, .int r_3.1), (0, .ref a0)] (μ := m_X12_unit) (pc := 12) dX12_unit_12 rfl (by decide) rfl ?_
    refine w_iload_n 0 1 (μ := m_X12_unit) (pc := 13) dX12_unit_13 rfl rfl ?_
    refine w_callS (As := [.int r_3.1]) (rest := []) (μ := m_X12_unit) (pc := 14) dX12_unit_14 cs_X12_145 rfl rfl (Nat.le_of_ble_eq_true rfl) (d' := d - 1) (by omega) he_i (c_X12_isDigit wt hl (d := d - 1) (by omega) ) (fun r_4 => ?_)
    refine w_if_eq 33 (μ := m_X12_unit) (pc := 17) dX12_unit_17 (by decide) (fun c_5 => ?_) (fun c_5 => ?_)
    · refine w_iload_n 0 1 (μ := m_X12_unit) (pc := 33) dX12_unit_33 rfl rfl ?_
      refine w_bipush (v := 40) (μ := m_X12_unit) (pc := 34) dX12_unit_34 (by decide) ?_
      refine w_icmp_ne 105 (μ := m_X12_unit) (pc := 36) dX12_unit_36 (by decide) (fun c_6 => ?_) (fun c_6 => ?_)
      · refine w_aload_n 1 0 (μ := m_X12_unit) (pc := 105) dX12_unit_105 rfl rfl ?_
        refine w_callV (As := []) (rest := []) (μ := m_X12_unit) (pc := 106) dX12_unit_106 cv_X12_168 rfl rfl k0 (by decide) rfl (Nat.le_of_ble_eq_true rfl) (d' := d - 1) (by omega) he_i (c_X12_word wt hl (d := d - 1) (by omega) k0) (fun r_7 => ?_)
        refine w_istore_n [(2, .int r_7.1), (1, .int r_3.1), (0, .ref a0)] (μ := m_X12_unit) (pc := 109) dX12_unit_109 rfl (by decide) rfl ?_
        refine w_iload_n 0 2 (μ := m_X12_unit) (pc := 110) dX12_unit_110 rfl rfl ?_
        refine w_ldcS 11 (tx := "i") (μ := m_X12_unit) (pc := 111) dX12_unit_111 (by decide +kernel) ?_
        refine w_callS (As := [.ref (D.2 100 11)]) (rest := [.int r_7.1]) (μ := m_X12_unit) (pc := 113) dX12_unit_113 cs_X12_172 rfl rfl (Nat.le_of_ble_eq_true rfl) (d' := d - 1) (by omega) he_i (c_X12_of wt hl (d := d - 1) (by omega) (by decide)) (fun r_8 => ?_)
        refine w_icmp_ne 123 (μ := m_X12_unit) (pc := 116) dX12_unit_116 (by decide) (fun c_9 => ?_) (fun c_9 => ?_)
        · refine w_iload_n 0 2 (μ := m_X12_unit) (pc := 123) dX12_unit_123 rfl rfl ?_
          refine w_ldcS 12 (tx := "o") (μ := m_X12_unit) (pc := 124) dX12_unit_124 (by decide +kernel) ?_
          refine w_callS (As := [.ref (D.2 100 12)]) (rest := [.int r_7.1]) (μ := m_X12_unit) (pc := 126) dX12_unit_126 cs_X12_172 rfl rfl (Nat.le_of_ble_eq_true rfl) (d' := d - 1) (by omega) he_i (c_X12_of wt hl (d := d - 1) (by omega) (by decide)) (fun r_10 => ?_)
          refine w_icmp_ne 136 (μ := m_X12_unit) (pc := 129) dX12_unit_129 (by decide) (fun c_11 => ?_) (fun c_11 => ?_)
          · refine w_iload_n 0 2 (μ := m_X12_unit) (pc := 136) dX12_unit_136 rfl rfl ?_
            refine w_ldcS 13 (tx := "last") (μ := m_X12_unit) (pc := 137) dX12_unit_137 (by decide +kernel) ?_
            refine w_callS (As := [.ref (D.2 100 13)]) (rest := [.int r_7.1]) (μ := m_X12_unit) (pc := 139) dX12_unit_139 cs_X12_172 rfl rfl (Nat.le_of_ble_eq_true rfl) (d' := d - 1) (by omega) he_i (c_X12_of wt hl (d := d - 1) (by omega) (by decide)) (fun r_12 => ?_)
            refine w_icmp_ne 149 (μ := m_X12_unit) (pc := 142) dX12_unit_142 (by decide) (fun c_13 => ?_) (fun c_13 => ?_)
            · refine w_iload_n 0 2 (μ := m_X12_unit) (pc := 149) dX12_unit_149 rfl rfl ?_
              refine w_ldcS 14 (tx := "many") (μ := m_X12_unit) (pc := 150) dX12_unit_150 (by decide +kernel) ?_
              refine w_callS (As := [.ref (D.2 100 14)]) (rest := [.int r_7.1]) (μ := m_X12_unit) (pc := 152) dX12_unit_152 cs_X12_172 rfl rfl (Nat.le_of_ble_eq_true rfl) (d' := d - 1) (by omega) he_i (c_X12_of wt hl (d := d - 1) (by omega) (by decide)) (fun r_14 => ?_)
              refine w_icmp_ne 162 (μ := m_X12_unit) (pc := 155) dX12_unit_155 (by decide) (fun c_15 => ?_) (fun c_15 => ?_)
              · refine w_iload_n 0 2 (μ := m_X12_unit) (pc := 162) dX12_unit_162 rfl rfl ?_
                refine w_ldcS 15 (tx := "draw") (μ := m_X12_unit) (pc := 163) dX12_unit_163 (by decide +kernel) ?_
                refine w_callS (As := [.ref (D.2 100 15)]) (rest := [.int r_7.1]) (μ := m_X12_unit) (pc := 165) dX12_unit_165 cs_X12_172 rfl rfl (Nat.le_of_ble_eq_true rfl) (d' := d - 1) (by omega) he_i (c_X12_of wt hl (d := d - 1) (by omega) (by decide)) (fun r_16 => ?_)
                refine w_icmp_ne 175 (μ := m_X12_unit) (pc := 168) dX12_unit_168 (by decide) (fun c_17 => ?_) (fun c_17 => ?_)
                · refine w_iconst (v := (-1)) (μ := m_X12_unit) (pc := 175) dX12_unit_175 (by decide) ?_
                  refine w_lv [2] rfl ?_
                  exact t_J_X12_unit_176 wt hl hT (by omega) (by omega) k0 _ _
                · refine w_iconst (v := 5) (μ := m_X12_unit) (pc := 171) dX12_unit_171 (by decide) ?_
                  refine w_goto 176 (μ := m_X12_unit) (pc := 172) dX12_unit_172 (by decide) ?_
                  refine w_lv [2] rfl ?_
                  exact t_J_X12_unit_176 wt hl hT (by omega) (by omega) k0 _ _
              · refine w_iconst (v := 4) (μ := m_X12_unit) (pc := 158) dX12_unit_158 (by decide) ?_
                refine w_goto 176 (μ := m_X12_unit) (pc := 159) dX12_unit_159 (by decide) ?_
                refine w_lv [2] rfl ?_
                exact t_J_X12_unit_176 wt hl hT (by omega) (by omega) k0 _ _
            · refine w_iconst (v := 3) (μ := m_X12_unit) (pc := 145) dX12_unit_145 (by decide) ?_
              refine w_goto 176 (μ := m_X12_unit) (pc := 146) dX12_unit_146 (by decide) ?_
              refine w_lv [2] rfl ?_
              exact t_J_X12_unit_176 wt hl hT (by omega) (by omega) k0 _ _
          · refine w_iconst (v := 2) (μ := m_X12_unit) (pc := 132) dX12_unit_132 (by decide) ?_
            refine w_goto 176 (μ := m_X12_unit) (pc := 133) dX12_unit_133 (by decide) ?_
            refine w_lv [2] rfl ?_
            exact t_J_X12_unit_176 wt hl hT (by omega) (by omega) k0 _ _
        · refine w_iconst (v := 1) (μ := m_X12_unit) (pc := 119) dX12_unit_119 (by decide) ?_
          refine w_goto 176 (μ := m_X12_unit) (pc := 120) dX12_unit_120 (by decide) ?_
          refine w_lv [2] rfl ?_
          exact t_J_X12_unit_176 wt hl hT (by omega) (by omega) k0 _ _
      · refine w_aload_n 1 0 (μ := m_X12_unit) (pc := 39) dX12_unit_39 rfl rfl ?_
        refine w_getI (μ := m_X12_unit) (pc := 40) dX12_unit_40 fl_X12_154 ir_12_7 k0 ?_
        refine w_bipush (v := 6) (μ := m_X12_unit) (pc := 43) dX12_unit_43 (by decide) ?_
        refine w_icmp_ne 57 (μ := m_X12_unit) (pc := 45) dX12_unit_45 (by decide) (fun c_22 => ?_) (fun c_22 => ?_)
        · refine w_lv [1] rfl ?_
          exact t_J_X12_unit_57 wt hl hT (by omega) (by omega) k0 _
        · refine w_aload_n 1 0 (μ := m_X12_unit) (pc := 48) dX12_unit_48 rfl rfl ?_
          refine w_iconst (v := 3) (μ := m_X12_unit) (pc := 49) dX12_unit_49 (by decide) ?_
          refine w_aload_n 1 0 (μ := m_X12_unit) (pc := 50) dX12_unit_50 rfl rfl ?_
          refine w_getI (μ := m_X12_unit) (pc := 51) dX12_unit_51 fl_X12_118 ir_12_4 k0 ?_
          refine w_callV (As := [.int 3, .int (q_I r_4.2 12 4 a0)]) (rest := []) (μ := m_X12_unit) (pc := 54) dX12_unit_54 cv_X12_148 rfl rfl k0 (by decide) rfl (Nat.le_of_ble_eq_true rfl) (d' := d - 1) (by omega) he_v (c_X12_wrong wt hl (d := d - 1) (by omega) k0) (fun r_33 => ?_)
          refine w_lv [1] rfl ?_
          exact t_J_X12_unit_57 wt hl hT (by omega) (by omega) k0 _
    · refine w_aload_n 1 0 (μ := m_X12_unit) (pc := 20) dX12_unit_20 rfl rfl ?_
      refine w_iconst (v := 0) (μ := m_X12_unit) (pc := 21) dX12_unit_21 (by decide) ?_
      refine w_aload_n 1 0 (μ := m_X12_unit) (pc := 22) dX12_unit_22 rfl rfl ?_
      refine w_iconst (v := 0) (μ := m_X12_unit) (pc := 23) dX12_unit_23 (by decide) ?_
      refine w_ldc (v := 99999) (μ := m_X12_unit) (pc := 24) dX12_unit_24 cn_X12_152 ?_
      refine w_callV (As := [.int 0, .int 99999]) (rest := [.int 0, .ref a0]) (μ := m_X12_unit) (pc := 26) dX12_unit_26 cv_X12_182 rfl rfl k0 (by decide) rfl (Nat.le_of_ble_eq_true rfl) (d' := d - 1) (by omega) he_i (c_X12_readNumber wt hl (d := d - 1) (by omega) k0) (fun r_34 => ?_)
      refine w_callV (As := [.int 0, .int r_34.1]) (rest := []) (μ := m_X12_unit) (pc := 29) dX12_unit_29 cv_X12_205 rfl rfl k0 (by decide) rfl (Nat.le_of_ble_eq_true rfl) (d' := d - 1) (by omega) he_v (c_X12_emit wt hl (d := d - 1) (by omega) k0) (fun r_35 => ?_)
      exact w_vret (μ := m_X12_unit) (pc := 32) dX12_unit_32 rfl rfl
  · exact w_vret (μ := m_X12_unit) (pc := 7) dX12_unit_7 rfl rfl
def J_X12_product_69 (N : Nat) (g : gp) (T : Nat → dp → Option (dp)) (a0 : Nat) (δ : dp) : Option (dp) :=
  some δ
set_option maxHeartbeats 4000000 in
set_option maxRecDepth 100000 in
theorem t_J_X12_product_69 {l : Launch} {D : va_G} {cy : Nat → ClassId} {N d : Nat} {g : gp} (wt : WT g) (hl : l.stackTraces = false) {T : Nat → dp → Option (dp)} {dh : Nat} (hT : ∀ (a0 : Nat) (δ : dp), q_K g a0 = 12 → CalD l D cy m_X12_sum dh 0 0 ev g [.ref a0] δ (T a0 δ)) (hh : dh + 2 ≤ d) (hd : 7 ≤ d) {a0 : Nat} (k0 : q_K g a0 = 12) : ∀ (δ : dp), AWD l D cy m_X12_product d 0 0 ev g 69 [] [] δ (J_X12_product_69 N g T a0 δ) := by
    intro  δ 
    unfold J_X12_product_69
    exact w_vret (μ := m_X12_product) (pc := 69) dX12_product_69 rfl rfl
def J_X12_product_62 (N : Nat) (g : gp) (T : Nat → dp → Option (dp)) (a0 : Nat) (kt4 : dp → Option (dp)) (xs0 : Int32) (as1 : Nat) (δ : dp) : Option (dp) :=
  (D_X12_emit N g as1 xs0 0 δ).bind fun r_11 => kt4 r_11
set_option maxHeartbeats 4000000 in
set_option maxRecDepth 100000 in
theorem t_J_X12_product_62 {l : Launch} {D : va_G} {cy : Nat → ClassId} {N d : Nat} {g : gp} (wt : WT g) (hl : l.stackTraces = false) {T : Nat → dp → Option (dp)} {dh : Nat} (hT : ∀ (a0 : Nat) (δ : dp), q_K g a0 = 12 → CalD l D cy m_X12_sum dh 0 0 ev g [.ref a0] δ (T a0 δ)) (hh : dh + 2 ≤ d) (hd : 7 ≤ d) {a0 : Nat} (k0 : q_K g a0 = 12) {kt4 : dp → Option (dp)} (hk4 : ∀ (δ : dp), AWD l D cy m_X12_product d 0 0 ev g 4 [(0, .ref a0)] [] δ (kt4  δ)) : ∀ (xs0 : Int32) (as1 : Nat) (δ : dp), q_K g as1 = 12 → AWD l D cy m_X12_product d 0 0 ev g 62 [(0, .ref a0)] [.int xs0, .ref as1] δ (J_X12_product_62 N g T a0 kt4 xs0 as1 δ) := by
    intro xs0 as1 δ has1
    unfold J_X12_product_62
    refine w_iconst (v := 0) (μ := m_X12_product) (pc := 62) dX12_product_62 (by decide) ?_
    refine w_callV (As := [.int xs0, .int 0]) (rest := []) (μ := m_X12_product) (pc := 63) dX12_product_63 cv_X12_205 rfl rfl has1 (by decide) rfl (Nat.le_of_ble_eq_true rfl) (d' := d - 1) (by omega) he_v (c_X12_emit wt hl (d := d - 1) (by omega) has1) (fun r_11 => ?_)
    refine w_goto 4 (μ := m_X12_product) (pc := 66) dX12_product_66 (by decide) ?_
    exact hk4 _
def J_X12_product_29 (N : Nat) (g : gp) (T : Nat → dp → Option (dp)) (a0 : Nat) (kt4 : dp → Option (dp)) (δ : dp) : Option (dp) :=
  (D_X12_here N g a0 δ).bind fun r_6 => bd (s_I r_6.2 12 4 a0 ((q_I r_6.2 12 4 a0) + 1)) fun δ_7 => (B_X12_unit N g T a0 δ_7).bind fun r_9 => if r_6.1 = (42 : Int32) then (J_X12_product_62 N g T a0 kt4 8 a0 r_9) else (J_X12_product_62 N g T a0 kt4 9 a0 r_9)
set_option maxHeartbeats 4000000 in
set_option maxRecDepth 100000 in
theorem t_J_X12_product_29 {l : Launch} {D : va_G} {cy : Nat → ClassId} {N d : Nat} {g : gp} (wt : WT g) (hl : l.stackTraces = false) {T : Nat → dp → Option (dp)} {dh : Nat} (hT : ∀ (a0 : Nat) (δ : dp), q_K g a0 = 12 → CalD l D cy m_X12_sum dh 0 0 ev g [.ref a0] δ (T a0 δ)) (hh : dh + 2 ≤ d) (hd : 7 ≤ d) {a0 : Nat} (k0 : q_K g a0 = 12) {kt4 : dp → Option (dp)} (hk4 : ∀ (δ : dp), AWD l D cy m_X12_product d 0 0 ev g 4 [(0, .ref a0)] [] δ (kt4  δ)) : ∀ (δ : dp), AWD l D cy m_X12_product d 0 0 ev g 29 [(0, .ref a0)] [] δ (J_X12_product_29 N g T a0 kt4 δ) := by
    intro  δ 
    unfold J_X12_product_29
    refine w_aload_n 0 0 (μ := m_X12_product) (pc := 29) dX12_product_29 rfl rfl ?_
    refine w_callV (As := []) (rest := []) (μ := m_X12_product) (pc := 30) dX12_product_30 cv_X12_124 rfl rfl k0 (by decide) rfl (Nat.le_of_ble_eq_true rfl) (d' := d - 1) (by omega) he_i (c_X12_here wt hl (d := d - 1) (by omega) k0) (fun r_6 => ?_)
    refine w_istore_n [(1, .int r_6.1), (0, .ref a0)] (μ := m_X12_product) (pc := 33) dX12_product_33 rfl (by decide) rfl ?_
    refine w_aload_n 1 0 (μ := m_X12_product) (pc := 34) dX12_product_34 rfl rfl ?_
    refine w_dup (μ := m_X12_product) (pc := 35) dX12_product_35 rfl ?_
    refine w_getI (μ := m_X12_product) (pc := 36) dX12_product_36 fl_X12_118 ir_12_4 k0 ?_
    refine w_iconst (v := 1) (μ := m_X12_product) (pc := 39) dX12_product_39 (by decide) ?_
    refine w_iadd (μ := m_X12_product) (pc := 40) dX12_product_40 ?_
    refine w_putI (μ := m_X12_product) (pc := 41) dX12_product_41 fl_X12_118 flw_12_4 ir_12_4 k0 ?_
    refine w_bd (fun δ_7 e_8 => ?_)
    refine w_aload_n 1 0 (μ := m_X12_product) (pc := 44) dX12_product_44 rfl rfl ?_
    refine w_callV (As := []) (rest := []) (μ := m_X12_product) (pc := 45) dX12_product_45 cv_X12_220 rfl rfl k0 (by decide) rfl (Nat.le_of_ble_eq_true rfl) (d' := d - 1) (by omega) he_v (c_b_X12_unit wt hl (d := d - 1) hT (by omega) (by omega) k0) (fun r_9 => ?_)
    refine w_aload_n 1 0 (μ := m_X12_product) (pc := 48) dX12_product_48 rfl rfl ?_
    refine w_iload_n 0 1 (μ := m_X12_product) (pc := 49) dX12_product_49 rfl rfl ?_
    refine w_bipush (v := 42) (μ := m_X12_product) (pc := 50) dX12_product_50 (by decide) ?_
    refine w_icmp_ne 60 (μ := m_X12_product) (pc := 52) dX12_product_52 (by decide) (fun c_10 => ?_) (fun c_10 => ?_)
    · refine w_bipush (v := 9) (μ := m_X12_product) (pc := 60) dX12_product_60 (by decide) ?_
      refine w_lv [1] rfl ?_
      exact t_J_X12_product_62 wt hl hT (by omega) (by omega) k0 hk4 _ _ _ k0
    · refine w_bipush (v := 8) (μ := m_X12_product) (pc := 55) dX12_product_55 (by decide) ?_
      refine w_goto 62 (μ := m_X12_product) (pc := 57) dX12_product_57 (by decide) ?_
      refine w_lv [1] rfl ?_
      exact t_J_X12_product_62 wt hl hT (by omega) (by omega) k0 hk4 _ _ _ k0
def L_X12_product_4 (N : Nat) (g : gp) (T : Nat → dp → Option (dp)) (a0 : Nat) : Nat → dp → Option (dp)
  | 0, _ => none
  | n + 1, δ => (D_X12_fine N g a0 δ).bind fun r_2 => if r_2.1 = 0 then (J_X12_product_69 N g T a0 r_2.2) else ((D_X12_here N g a0 r_2.2).bind fun r_4 => if r_4.1 = (42 : Int32) then (J_X12_product_29 N g T a0 (L_X12_product_4 N g T a0 n) r_4.2) else ((D_X12_here N g a0 r_4.2).bind fun r_12 => if r_12.1 = (37 : Int32) then (J_X12_product_29 N g T a0 (L_X12_product_4 N g T a0 n) r_12.2) else (J_X12_product_69 N g T a0 r_12.2)))
set_option maxHeartbeats 4000000 in
set_option maxRecDepth 100000 in
theorem t_L_X12_product_4 {l : Launch} {D : va_G} {cy : Nat → ClassId} {N d : Nat} {g : gp} (wt : WT g) (hl : l.stackTraces = false) {T : Nat → dp → Option (dp)} {dh : Nat} (hT : ∀ (a0 : Nat) (δ : dp), q_K g a0 = 12 → CalD l D cy m_X12_sum dh 0 0 ev g [.ref a0] δ (T a0 δ)) (hh : dh + 2 ≤ d) (hd : 7 ≤ d) {a0 : Nat} (k0 : q_K g a0 = 12) : ∀ (n : Nat) (δ : dp), AWD l D cy m_X12_product d 0 0 ev g 4 [(0, .ref a0)] [] δ (L_X12_product_4 N g T a0 n δ) := by
  intro n
  induction n with
  | zero => intro  δ ; exact w_none
  | succ n ih =>
    intro  δ 
    unfold L_X12_product_4
    refine w_aload_n 0 0 (μ := m_X12_product) (pc := 4) dX12_product_4 rfl rfl ?_
    refine w_callV (As := []) (rest := []) (μ := m_X12_product) (pc := 5) dX12_product_5 cv_X12_141 rfl rfl k0 (by decide) rfl (Nat.le_of_ble_eq_true rfl) (d' := d - 1) (by omega) he_i (c_X12_fine wt hl (d := d - 1) (by omega) k0) (fun r_2 => ?_)
    refine w_if_eq 69 (μ := m_X12_product) (pc := 8) dX12_product_8 (by decide) (fun c_3 => ?_) (fun c_3 => ?_)
    · refine w_lv [] rfl ?_
      exact t_J_X12_product_69 wt hl hT (by omega) (by omega) k0 _
    · refine w_aload_n 0 0 (μ := m_X12_product) (pc := 11) dX12_product_11 rfl rfl ?_
      refine w_callV (As := []) (rest := []) (μ := m_X12_product) (pc := 12) dX12_product_12 cv_X12_124 rfl rfl k0 (by decide) rfl (Nat.le_of_ble_eq_true rfl) (d' := d - 1) (by omega) he_i (c_X12_here wt hl (d := d - 1) (by omega) k0) (fun r_4 => ?_)
      refine w_bipush (v := 42) (μ := m_X12_product) (pc := 15) dX12_product_15 (by decide) ?_
      refine w_icmp_eq 29 (μ := m_X12_product) (pc := 17) dX12_product_17 (by decide) (fun c_5 => ?_) (fun c_5 => ?_)
      · exact t_J_X12_product_29 wt hl hT (by omega) (by omega) k0 ih _
      · refine w_aload_n 0 0 (μ := m_X12_product) (pc := 20) dX12_product_20 rfl rfl ?_
        refine w_callV (As := []) (rest := []) (μ := m_X12_product) (pc := 21) dX12_product_21 cv_X12_124 rfl rfl k0 (by decide) rfl (Nat.le_of_ble_eq_true rfl) (d' := d - 1) (by omega) he_i (c_X12_here wt hl (d := d - 1) (by omega) k0) (fun r_12 => ?_)
        refine w_bipush (v := 37) (μ := m_X12_product) (pc := 24) dX12_product_24 (by decide) ?_
        refine w_icmp_ne 69 (μ := m_X12_product) (pc := 26) dX12_product_26 (by decide) (fun c_13 => ?_) (fun c_13 => ?_)
        · refine w_lv [] rfl ?_
          exact t_J_X12_product_69 wt hl hT (by omega) (by omega) k0 _
        · exact t_J_X12_product_29 wt hl hT (by omega) (by omega) k0 ih _
def B_X12_product (N : Nat) (g : gp) (T : Nat → dp → Option (dp)) (a0 : Nat) (δ : dp) : Option (dp) :=
  (B_X12_unit N g T a0 δ).bind fun r_1 => L_X12_product_4 N g T a0 N r_1
set_option maxHeartbeats 4000000 in
set_option maxRecDepth 100000 in
theorem c_b_X12_product {l : Launch} {D : va_G} {cy : Nat → ClassId} {N d : Nat} {g : gp} (wt : WT g) (hl : l.stackTraces = false) {T : Nat → dp → Option (dp)} {dh : Nat} (hT : ∀ (a0 : Nat) (δ : dp), q_K g a0 = 12 → CalD l D cy m_X12_sum dh 0 0 ev g [.ref a0] δ (T a0 δ)) (hh : dh + 2 ≤ d) (hd : 7 ≤ d) {a0 : Nat} {δ : dp} (k0 : q_K g a0 = 12) : CalD l D cy m_X12_product d 0 0 ev g [.ref a0] δ (B_X12_product N g T a0 δ) := by
  refine CalD.of (by decide +kernel) (Nat.le_of_ble_eq_true rfl) hl ?_
  unfold B_X12_product
  refine w_aload_n 0 0 (μ := m_X12_product) (pc := 0) dX12_product_0 rfl rfl ?_
  refine w_callV (As := []) (rest := []) (μ := m_X12_product) (pc := 1) dX12_product_1 cv_X12_220 rfl rfl k0 (by decide) rfl (Nat.le_of_ble_eq_true rfl) (d' := d - 1) (by omega) he_v (c_b_X12_unit wt hl (d := d - 1) hT (by omega) (by omega) k0) (fun r_1 => ?_)
  exact t_L_X12_product_4 wt hl hT (by omega) (by omega) k0 N _
def J_X12_sum_69 (N : Nat) (g : gp) (T : Nat → dp → Option (dp)) (a0 : Nat) (δ : dp) : Option (dp) :=
  some δ
set_option maxHeartbeats 4000000 in
set_option maxRecDepth 100000 in
theorem t_J_X12_sum_69 {l : Launch} {D : va_G} {cy : Nat → ClassId} {N d : Nat} {g : gp} (wt : WT g) (hl : l.stackTraces = false) {T : Nat → dp → Option (dp)} {dh : Nat} (hT : ∀ (a0 : Nat) (δ : dp), q_K g a0 = 12 → CalD l D cy m_X12_sum dh 0 0 ev g [.ref a0] δ (T a0 δ)) (hh : dh + 3 ≤ d) (hd : 8 ≤ d) {a0 : Nat} (k0 : q_K g a0 = 12) : ∀ (δ : dp), AWD l D cy m_X12_sum d 0 0 ev g 69 [] [] δ (J_X12_sum_69 N g T a0 δ) := by
    intro  δ 
    unfold J_X12_sum_69
    exact w_vret (μ := m_X12_sum) (pc := 69) dX12_sum_69 rfl rfl
def J_X12_sum_62 (N : Nat) (g : gp) (T : Nat → dp → Option (dp)) (a0 : Nat) (kt4 : dp → Option (dp)) (xs0 : Int32) (as1 : Nat) (δ : dp) : Option (dp) :=
  (D_X12_emit N g as1 xs0 0 δ).bind fun r_11 => kt4 r_11
set_option maxHeartbeats 4000000 in
set_option maxRecDepth 100000 in
theorem t_J_X12_sum_62 {l : Launch} {D : va_G} {cy : Nat → ClassId} {N d : Nat} {g : gp} (wt : WT g) (hl : l.stackTraces = false) {T : Nat → dp → Option (dp)} {dh : Nat} (hT : ∀ (a0 : Nat) (δ : dp), q_K g a0 = 12 → CalD l D cy m_X12_sum dh 0 0 ev g [.ref a0] δ (T a0 δ)) (hh : dh + 3 ≤ d) (hd : 8 ≤ d) {a0 : Nat} (k0 : q_K g a0 = 12) {kt4 : dp → Option (dp)} (hk4 : ∀ (δ : dp), AWD l D cy m_X12_sum d 0 0 ev g 4 [(0, .ref a0)] [] δ (kt4  δ)) : ∀ (xs0 : Int32) (as1 : Nat) (δ : dp), q_K g as1 = 12 → AWD l D cy m_X12_sum d 0 0 ev g 62 [(0, .ref a0)] [.int xs0, .ref as1] δ (J_X12_sum_62 N g T a0 kt4 xs0 as1 δ) := by
    intro xs0 as1 δ has1
    unfold J_X12_sum_62
    refine w_iconst (v := 0) (μ := m_X12_sum) (pc := 62) dX12_sum_62 (by decide) ?_
    refine w_callV (As := [.int xs0, .int 0]) (rest := []) (μ := m_X12_sum) (pc := 63) dX12_sum_63 cv_X12_205 rfl rfl has1 (by decide) rfl (Nat.le_of_ble_eq_true rfl) (d' := d - 1) (by omega) he_v (c_X12_emit wt hl (d := d - 1) (by omega) has1) (fun r_11 => ?_)
    refine w_goto 4 (μ := m_X12_sum) (pc := 66) dX12_sum_66 (by decide) ?_
    exact hk4 _
def J_X12_sum_29 (N : Nat) (g : gp) (T : Nat → dp → Option (dp)) (a0 : Nat) (kt4 : dp → Option (dp)) (δ : dp) : Option (dp) :=
  (D_X12_here N g a0 δ).bind fun r_6 => bd (s_I r_6.2 12 4 a0 ((q_I r_6.2 12 4 a0) + 1)) fun δ_7 => (B_X12_product N g T a0 δ_7).bind fun r_9 => if r_6.1 = (43 : Int32) then (J_X12_sum_62 N g T a0 kt4 6 a0 r_9) else (J_X12_sum_62 N g T a0 kt4 7 a0 r_9)
set_option maxHeartbeats 4000000 in
set_option maxRecDepth 100000 in
theorem t_J_X12_sum_29 {l : Launch} {D : va_G} {cy : Nat → ClassId} {N d : Nat} {g : gp} (wt : WT g) (hl : l.stackTraces = false) {T : Nat → dp → Option (dp)} {dh : Nat} (hT : ∀ (a0 : Nat) (δ : dp), q_K g a0 = 12 → CalD l D cy m_X12_sum dh 0 0 ev g [.ref a0] δ (T a0 δ)) (hh : dh + 3 ≤ d) (hd : 8 ≤ d) {a0 : Nat} (k0 : q_K g a0 = 12) {kt4 : dp → Option (dp)} (hk4 : ∀ (δ : dp), AWD l D cy m_X12_sum d 0 0 ev g 4 [(0, .ref a0)] [] δ (kt4  δ)) : ∀ (δ : dp), AWD l D cy m_X12_sum d 0 0 ev g 29 [(0, .ref a0)] [] δ (J_X12_sum_29 N g T a0 kt4 δ) := by
    intro  δ 
    unfold J_X12_sum_29
    refine w_aload_n 0 0 (μ := m_X12_sum) (pc := 29) dX12_sum_29 rfl rfl ?_
    refine w_callV (As := []) (rest := []) (μ := m_X12_sum) (pc := 30) dX12_sum_30 cv_X12_124 rfl rfl k0 (by decide) rfl (Nat.le_of_ble_eq_true rfl) (d' := d - 1) (by omega) he_i (c_X12_here wt hl (d := d - 1) (by omega) k0) (fun r_6 => ?_)
    refine w_istore_n [(1, .int r_6.1), (0, .ref a0)] (μ := m_X12_sum) (pc := 33) dX12_sum_33 rfl (by decide) rfl ?_
    refine w_aload_n 1 0 (μ := m_X12_sum) (pc := 34) dX12_sum_34 rfl rfl ?_
    refine w_dup (μ := m_X12_sum) (pc := 35) dX12_sum_35 rfl ?_
    refine w_getI (μ := m_X12_sum) (pc := 36) dX12_sum_36 fl_X12_118 ir_12_4 k0 ?_
    refine w_iconst (v := 1) (μ := m_X12_sum) (pc := 39) dX12_sum_39 (by decide) ?_
    refine w_iadd (μ := m_X12_sum) (pc := 40) dX12_sum_40 ?_
    refine w_putI (μ := m_X12_sum) (pc := 41) dX12_sum_41 fl_X12_118 flw_12_4 ir_12_4 k0 ?_
    refine w_bd (fun δ_7 e_8 => ?_)
    refine w_aload_n 1 0 (μ := m_X12_sum) (pc := 44) dX12_sum_44 rfl rfl ?_
    refine w_callV (As := []) (rest := []) (μ := m_X12_sum) (pc := 45) dX12_sum_45 cv_X12_223 rfl rfl k0 (by decide) rfl (Nat.le_of_ble_eq_true rfl) (d' := d - 1) (by omega) he_v (c_b_X12_product wt hl (d := d - 1) hT (by omega) (by omega) k0) (fun r_9 => ?_)
    refine w_aload_n 1 0 (μ := m_X12_sum) (pc := 48) dX12_sum_48 rfl rfl ?_
    refine w_iload_n 0 1 (μ := m_X12_sum) (pc := 49) dX12_sum_49 rfl rfl ?_
    refine w_bipush (v := 43) (μ := m_X12_sum) (pc := 50) dX12_sum_50 (by decide) ?_
    refine w_icmp_ne 60 (μ := m_X12_sum) (pc := 52) dX12_sum_52 (by decide) (fun c_10 => ?_) (fun c_10 => ?_)
    · refine w_bipush (v := 7) (μ := m_X12_sum) (pc := 60) dX12_sum_60 (by decide) ?_
      refine w_lv [1] rfl ?_
      exact t_J_X12_sum_62 wt hl hT (by omega) (by omega) k0 hk4 _ _ _ k0
    · refine w_bipush (v := 6) (μ := m_X12_sum) (pc := 55) dX12_sum_55 (by decide) ?_
      refine w_goto 62 (μ := m_X12_sum) (pc := 57) dX12_sum_57 (by decide) ?_
      refine w_lv [1] rfl ?_
      exact t_J_X12_sum_62 wt hl hT (by omega) (by omega) k0 hk4 _ _ _ k0
def L_X12_sum_4 (N : Nat) (g : gp) (T : Nat → dp → Option (dp)) (a0 : Nat) : Nat → dp → Option (dp)
  | 0, _ => none
  | n + 1, δ => (D_X12_fine N g a0 δ).bind fun r_2 => if r_2.1 = 0 then (J_X12_sum_69 N g T a0 r_2.2) else ((D_X12_here N g a0 r_2.2).bind fun r_4 => if r_4.1 = (43 : Int32) then (J_X12_sum_29 N g T a0 (L_X12_sum_4 N g T a0 n) r_4.2) else ((D_X12_here N g a0 r_4.2).bind fun r_12 => if r_12.1 = (45 : Int32) then (J_X12_sum_29 N g T a0 (L_X12_sum_4 N g T a0 n) r_12.2) else (J_X12_sum_69 N g T a0 r_12.2)))
set_option maxHeartbeats 4000000 in
set_option maxRecDepth 100000 in
theorem t_L_X12_sum_4 {l : Launch} {D : va_G} {cy : Nat → ClassId} {N d : Nat} {g : gp} (wt : WT g) (hl : l.stackTraces = false) {T : Nat → dp → Option (dp)} {dh : Nat} (hT : ∀ (a0 : Nat) (δ : dp), q_K g a0 = 12 → CalD l D cy m_X12_sum dh 0 0 ev g [.ref a0] δ (T a0 δ)) (hh : dh + 3 ≤ d) (hd : 8 ≤ d) {a0 : Nat} (k0 : q_K g a0 = 12) : ∀ (n : Nat) (δ : dp), AWD l D cy m_X12_sum d 0 0 ev g 4 [(0, .ref a0)] [] δ (L_X12_sum_4 N g T a0 n δ) := by
  intro n
  induction n with
  | zero => intro  δ ; exact w_none
  | succ n ih =>
    intro  δ 
    unfold L_X12_sum_4
    refine w_aload_n 0 0 (μ := m_X12_sum) (pc := 4) dX12_sum_4 rfl rfl ?_
    refine w_callV (As := []) (rest := []) (μ := m_X12_sum) (pc := 5) dX12_sum_5 cv_X12_141 rfl rfl k0 (by decide) rfl (Nat.le_of_ble_eq_true rfl) (d' := d - 1) (by omega) he_i (c_X12_fine wt hl (d := d - 1) (by omega) k0) (fun r_2 => ?_)
    refine w_if_eq 69 (μ := m_X12_sum) (pc := 8) dX12_sum_8 (by decide) (fun c_3 => ?_) (fun c_3 => ?_)
    · refine w_lv [] rfl ?_
      exact t_J_X12_sum_69 wt hl hT (by omega) (by omega) k0 _
    · refine w_aload_n 0 0 (μ := m_X12_sum) (pc := 11) dX12_sum_11 rfl rfl ?_
      refine w_callV (As := []) (rest := []) (μ := m_X12_sum) (pc := 12) dX12_sum_12 cv_X12_124 rfl rfl k0 (by decide) rfl (Nat.le_of_ble_eq_true rfl) (d' := d - 1) (by omega) he_i (c_X12_here wt hl (d := d - 1) (by omega) k0) (fun r_4 => ?_)
      refine w_bipush (v := 43) (μ := m_X12_sum) (pc := 15) dX12_sum_15 (by decide) ?_
      refine w_icmp_eq 29 (μ := m_X12_sum) (pc := 17) dX12_sum_17 (by decide) (fun c_5 => ?_) (fun c_5 => ?_)
      · exact t_J_X12_sum_29 wt hl hT (by omega) (by omega) k0 ih _
      · refine w_aload_n 0 0 (μ := m_X12_sum) (pc := 20) dX12_sum_20 rfl rfl ?_
        refine w_callV (As := []) (rest := []) (μ := m_X12_sum) (pc := 21) dX12_sum_21 cv_X12_124 rfl rfl k0 (by decide) rfl (Nat.le_of_ble_eq_true rfl) (d' := d - 1) (by omega) he_i (c_X12_here wt hl (d := d - 1) (by omega) k0) (fun r_12 => ?_)
        refine w_bipush (v := 45) (μ := m_X12_sum) (pc := 24) dX12_sum_24 (by decide) ?_
        refine w_icmp_ne 69 (μ := m_X12_sum) (pc := 26) dX12_sum_26 (by decide) (fun c_13 => ?_) (fun c_13 => ?_)
        · refine w_lv [] rfl ?_
          exact t_J_X12_sum_69 wt hl hT (by omega) (by omega) k0 _
        · exact t_J_X12_sum_29 wt hl hT (by omega) (by omega) k0 ih _
def B_X12_sum (N : Nat) (g : gp) (T : Nat → dp → Option (dp)) (a0 : Nat) (δ : dp) : Option (dp) :=
  (B_X12_product N g T a0 δ).bind fun r_1 => L_X12_sum_4 N g T a0 N r_1
set_option maxHeartbeats 4000000 in
set_option maxRecDepth 100000 in
theorem c_b_X12_sum {l : Launch} {D : va_G} {cy : Nat → ClassId} {N d : Nat} {g : gp} (wt : WT g) (hl : l.stackTraces = false) {T : Nat → dp → Option (dp)} {dh : Nat} (hT : ∀ (a0 : Nat) (δ : dp), q_K g a0 = 12 → CalD l D cy m_X12_sum dh 0 0 ev g [.ref a0] δ (T a0 δ)) (hh : dh + 3 ≤ d) (hd : 8 ≤ d) {a0 : Nat} {δ : dp} (k0 : q_K g a0 = 12) : CalD l D cy m_X12_sum d 0 0 ev g [.ref a0] δ (B_X12_sum N g T a0 δ) := by
  refine CalD.of (by decide +kernel) (Nat.le_of_ble_eq_true rfl) hl ?_
  unfold B_X12_sum
  refine w_aload_n 0 0 (μ := m_X12_sum) (pc := 0) dX12_sum_0 rfl rfl ?_
  refine w_callV (As := []) (rest := []) (μ := m_X12_sum) (pc := 1) dX12_sum_1 cv_X12_223 rfl rfl k0 (by decide) rfl (Nat.le_of_ble_eq_true rfl) (d' := d - 1) (by omega) he_v (c_b_X12_product wt hl (d := d - 1) hT (by omega) (by omega) k0) (fun r_1 => ?_)
  exact t_L_X12_sum_4 wt hl hT (by omega) (by omega) k0 N _
def E_X12_sum (N : Nat) (g : gp) : Nat → Nat → dp → Option (dp)
  | 0, _, _ => none
  | k + 1, a0, δ => B_X12_sum N g (E_X12_sum N g k) a0 δ
theorem e_X12_sum {l : Launch} {D : va_G} {cy : Nat → ClassId} {N : Nat} {g : gp} (wt : WT g) (hl : l.stackTraces = false) : ∀ (k d : Nat), 8 + 3 * k ≤ d → ∀ (a0 : Nat) (δ : dp), q_K g a0 = 12 → CalD l D cy m_X12_sum d 0 0 ev g [.ref a0] δ (E_X12_sum N g k a0 δ) := by
  intro k
  induction k with
  | zero => intro d _ a0 δ k0 r hr; cases hr
  | succ k ih =>
    intro d hd a0 δ k0
    unfold E_X12_sum
    exact c_b_X12_sum wt hl (ih (8 + 3 * k) (Nat.le_refl _)) (by omega) (by omega) k0
def D_X12_sum (N : Nat) (g : gp) (a0 : Nat) (δ : dp) : Option (dp) := E_X12_sum N g 20 a0 δ
theorem c_X12_sum {l : Launch} {D : va_G} {cy : Nat → ClassId} {N d : Nat} {g : gp} (wt : WT g) (hl : l.stackTraces = false) (hd : 68 ≤ d) {a0 : Nat} {δ : dp} (k0 : q_K g a0 = 12) : CalD l D cy m_X12_sum d 0 0 ev g [.ref a0] δ (D_X12_sum N g a0 δ) := e_X12_sum wt hl 20 d (by omega) _ _ k0
def J_X12_stepOf_79 (N : Nat) (g : gp) (x0 : Int32) (xs0 : Int32) (δ : dp) : Option (Int32 × dp) :=
  some (xs0, δ)
set_option maxHeartbeats 4000000 in
set_option maxRecDepth 100000 in
theorem t_J_X12_stepOf_79 {l : Launch} {D : va_G} {cy : Nat → ClassId} {N d : Nat} {g : gp} (wt : WT g) (hl : l.stackTraces = false) (hd : 6 ≤ d) {x0 : Int32} : ∀ (xs0 : Int32) (δ : dp), AWD l D cy m_X12_stepOf d 0 0 ei g 79 [] [.int xs0] δ (J_X12_stepOf_79 N g x0 xs0 δ) := by
    intro xs0 δ 
    unfold J_X12_stepOf_79
    exact w_iret (μ := m_X12_stepOf) (pc := 79) dX12_stepOf_79 rfl rfl
def D_X12_stepOf (N : Nat) (g : gp) (x0 : Int32) (δ : dp) : Option (Int32 × dp) :=
  (D_X12_of N g 5 δ).bind fun r_1 => if x0 = r_1.1 then (J_X12_stepOf_79 N g x0 0 r_1.2) else ((D_X12_of N g 6 r_1.2).bind fun r_3 => if x0 = r_3.1 then (J_X12_stepOf_79 N g x0 1 r_3.2) else ((D_X12_of N g 7 r_3.2).bind fun r_5 => if x0 = r_5.1 then (J_X12_stepOf_79 N g x0 2 r_5.2) else ((D_X12_of N g 8 r_5.2).bind fun r_7 => if x0 = r_7.1 then (J_X12_stepOf_79 N g x0 3 r_7.2) else ((D_X12_of N g 9 r_7.2).bind fun r_9 => if x0 = r_9.1 then (J_X12_stepOf_79 N g x0 4 r_9.2) else ((D_X12_of N g 10 r_9.2).bind fun r_11 => if x0 = r_11.1 then (J_X12_stepOf_79 N g x0 5 r_11.2) else (J_X12_stepOf_79 N g x0 ((-1)) r_11.2))))))
set_option maxHeartbeats 4000000 in
set_option maxRecDepth 100000 in
theorem c_X12_stepOf {l : Launch} {D : va_G} {cy : Nat → ClassId} {N d : Nat} {g : gp} (wt : WT g) (hl : l.stackTraces = false) (hd : 6 ≤ d) {x0 : Int32} {δ : dp} : CalD l D cy m_X12_stepOf d 0 0 ei g [.int x0] δ (D_X12_stepOf N g x0 δ) := by
  refine CalD.of (by decide +kernel) (Nat.le_of_ble_eq_true rfl) hl ?_
  unfold D_X12_stepOf
  refine w_iload_n 0 0 (μ := m_X12_stepOf) (pc := 0) dX12_stepOf_0 rfl rfl ?_
  refine w_ldcS 5 (tx := "put") (μ := m_X12_stepOf) (pc := 1) dX12_stepOf_1 (by decide +kernel) ?_
  refine w_callS (As := [.ref (D.2 100 5)]) (rest := [.int x0]) (μ := m_X12_stepOf) (pc := 3) dX12_stepOf_3 cs_X12_172 rfl rfl (Nat.le_of_ble_eq_true rfl) (d' := d - 1) (by omega) he_i (c_X12_of wt hl (d := d - 1) (by omega) (by decide)) (fun r_1 => ?_)
  refine w_icmp_ne 13 (μ := m_X12_stepOf) (pc := 6) dX12_stepOf_6 (by decide) (fun c_2 => ?_) (fun c_2 => ?_)
  · refine w_iload_n 0 0 (μ := m_X12_stepOf) (pc := 13) dX12_stepOf_13 rfl rfl ?_
    refine w_ldcS 6 (tx := "drop") (μ := m_X12_stepOf) (pc := 14) dX12_stepOf_14 (by decide +kernel) ?_
    refine w_callS (As := [.ref (D.2 100 6)]) (rest := [.int x0]) (μ := m_X12_stepOf) (pc := 16) dX12_stepOf_16 cs_X12_172 rfl rfl (Nat.le_of_ble_eq_true rfl) (d' := d - 1) (by omega) he_i (c_X12_of wt hl (d := d - 1) (by omega) (by decide)) (fun r_3 => ?_)
    refine w_icmp_ne 26 (μ := m_X12_stepOf) (pc := 19) dX12_stepOf_19 (by decide) (fun c_4 => ?_) (fun c_4 => ?_)
    · refine w_iload_n 0 0 (μ := m_X12_stepOf) (pc := 26) dX12_stepOf_26 rfl rfl ?_
      refine w_ldcS 7 (tx := "has") (μ := m_X12_stepOf) (pc := 27) dX12_stepOf_27 (by decide +kernel) ?_
      refine w_callS (As := [.ref (D.2 100 7)]) (rest := [.int x0]) (μ := m_X12_stepOf) (pc := 29) dX12_stepOf_29 cs_X12_172 rfl rfl (Nat.le_of_ble_eq_true rfl) (d' := d - 1) (by omega) he_i (c_X12_of wt hl (d := d - 1) (by omega) (by decide)) (fun r_5 => ?_)
      refine w_icmp_ne 39 (μ := m_X12_stepOf) (pc := 32) dX12_stepOf_32 (by decide) (fun c_6 => ?_) (fun c_6 => ?_)
      · refine w_iload_n 0 0 (μ := m_X12_stepOf) (pc := 39) dX12_stepOf_39 rfl rfl ?_
        refine w_ldcS 8 (tx := "next") (μ := m_X12_stepOf) (pc := 40) dX12_stepOf_40 (by decide +kernel) ?_
        refine w_callS (As := [.ref (D.2 100 8)]) (rest := [.int x0]) (μ := m_X12_stepOf) (pc := 42) dX12_stepOf_42 cs_X12_172 rfl rfl (Nat.le_of_ble_eq_true rfl) (d' := d - 1) (by omega) he_i (c_X12_of wt hl (d := d - 1) (by omega) (by decide)) (fun r_7 => ?_)
        refine w_icmp_ne 52 (μ := m_X12_stepOf) (pc := 45) dX12_stepOf_45 (by decide) (fun c_8 => ?_) (fun c_8 => ?_)
        · refine w_iload_n 0 0 (μ := m_X12_stepOf) (pc := 52) dX12_stepOf_52 rfl rfl ?_
          refine w_ldcS 9 (tx := "before") (μ := m_X12_stepOf) (pc := 53) dX12_stepOf_53 (by decide +kernel) ?_
          refine w_callS (As := [.ref (D.2 100 9)]) (rest := [.int x0]) (μ := m_X12_stepOf) (pc := 55) dX12_stepOf_55 cs_X12_172 rfl rfl (Nat.le_of_ble_eq_true rfl) (d' := d - 1) (by omega) he_i (c_X12_of wt hl (d := d - 1) (by omega) (by decide)) (fun r_9 => ?_)
          refine w_icmp_ne 65 (μ := m_X12_stepOf) (pc := 58) dX12_stepOf_58 (by decide) (fun c_10 => ?_) (fun c_10 => ?_)
          · refine w_iload_n 0 0 (μ := m_X12_stepOf) (pc := 65) dX12_stepOf_65 rfl rfl ?_
            refine w_ldcS 10 (tx := "times") (μ := m_X12_stepOf) (pc := 66) dX12_stepOf_66 (by decide +kernel) ?_
            refine w_callS (As := [.ref (D.2 100 10)]) (rest := [.int x0]) (μ := m_X12_stepOf) (pc := 68) dX12_stepOf_68 cs_X12_172 rfl rfl (Nat.le_of_ble_eq_true rfl) (d' := d - 1) (by omega) he_i (c_X12_of wt hl (d := d - 1) (by omega) (by decide)) (fun r_11 => ?_)
            refine w_icmp_ne 78 (μ := m_X12_stepOf) (pc := 71) dX12_stepOf_71 (by decide) (fun c_12 => ?_) (fun c_12 => ?_)
            · refine w_iconst (v := (-1)) (μ := m_X12_stepOf) (pc := 78) dX12_stepOf_78 (by decide) ?_
              refine w_lv [] rfl ?_
              exact t_J_X12_stepOf_79 wt hl (by omega) _ _
            · refine w_iconst (v := 5) (μ := m_X12_stepOf) (pc := 74) dX12_stepOf_74 (by decide) ?_
              refine w_goto 79 (μ := m_X12_stepOf) (pc := 75) dX12_stepOf_75 (by decide) ?_
              refine w_lv [] rfl ?_
              exact t_J_X12_stepOf_79 wt hl (by omega) _ _
          · refine w_iconst (v := 4) (μ := m_X12_stepOf) (pc := 61) dX12_stepOf_61 (by decide) ?_
            refine w_goto 79 (μ := m_X12_stepOf) (pc := 62) dX12_stepOf_62 (by decide) ?_
            refine w_lv [] rfl ?_
            exact t_J_X12_stepOf_79 wt hl (by omega) _ _
        · refine w_iconst (v := 3) (μ := m_X12_stepOf) (pc := 48) dX12_stepOf_48 (by decide) ?_
          refine w_goto 79 (μ := m_X12_stepOf) (pc := 49) dX12_stepOf_49 (by decide) ?_
          refine w_lv [] rfl ?_
          exact t_J_X12_stepOf_79 wt hl (by omega) _ _
      · refine w_iconst (v := 2) (μ := m_X12_stepOf) (pc := 35) dX12_stepOf_35 (by decide) ?_
        refine w_goto 79 (μ := m_X12_stepOf) (pc := 36) dX12_stepOf_36 (by decide) ?_
        refine w_lv [] rfl ?_
        exact t_J_X12_stepOf_79 wt hl (by omega) _ _
    · refine w_iconst (v := 1) (μ := m_X12_stepOf) (pc := 22) dX12_stepOf_22 (by decide) ?_
      refine w_goto 79 (μ := m_X12_stepOf) (pc := 23) dX12_stepOf_23 (by decide) ?_
      refine w_lv [] rfl ?_
      exact t_J_X12_stepOf_79 wt hl (by omega) _ _
  · refine w_iconst (v := 0) (μ := m_X12_stepOf) (pc := 9) dX12_stepOf_9 (by decide) ?_
    refine w_goto 79 (μ := m_X12_stepOf) (pc := 10) dX12_stepOf_10 (by decide) ?_
    refine w_lv [] rfl ?_
    exact t_J_X12_stepOf_79 wt hl (by omega) _ _
def J_X12_readSteps_239 (N : Nat) (g : gp) (T : Nat → dp → Option (dp)) (a0 : Nat) (δ : dp) : Option (dp) :=
  some δ
set_option maxHeartbeats 4000000 in
set_option maxRecDepth 100000 in
theorem t_J_X12_readSteps_239 {l : Launch} {D : va_G} {cy : Nat → ClassId} {N d : Nat} {g : gp} (wt : WT g) (hl : l.stackTraces = false) {T : Nat → dp → Option (dp)} {dh : Nat} (hT : ∀ (a0 : Nat) (δ : dp), q_K g a0 = 12 → CalD l D cy m_X12_readSteps dh 0 0 ev g [.ref a0] δ (T a0 δ)) (hh : dh + 1 ≤ d) (hd : 69 ≤ d) {a0 : Nat} (k0 : q_K g a0 = 12) : ∀ (δ : dp), AWD l D cy m_X12_readSteps d 0 0 ev g 239 [] [] δ (J_X12_readSteps_239 N g T a0 δ) := by
    intro  δ 
    unfold J_X12_readSteps_239
    exact w_vret (μ := m_X12_readSteps) (pc := 239) dX12_readSteps_239 rfl rfl
def J_X12_readSteps_236 (N : Nat) (g : gp) (T : Nat → dp → Option (dp)) (a0 : Nat) (kt0 : dp → Option (dp)) (δ : dp) : Option (dp) :=
  kt0 δ
set_option maxHeartbeats 4000000 in
set_option maxRecDepth 100000 in
theorem t_J_X12_readSteps_236 {l : Launch} {D : va_G} {cy : Nat → ClassId} {N d : Nat} {g : gp} (wt : WT g) (hl : l.stackTraces = false) {T : Nat → dp → Option (dp)} {dh : Nat} (hT : ∀ (a0 : Nat) (δ : dp), q_K g a0 = 12 → CalD l D cy m_X12_readSteps dh 0 0 ev g [.ref a0] δ (T a0 δ)) (hh : dh + 1 ≤ d) (hd : 69 ≤ d) {a0 : Nat} (k0 : q_K g a0 = 12) {kt0 : dp → Option (dp)} (hk0 : ∀ (δ : dp), AWD l D cy m_X12_readSteps d 0 0 ev g 0 [(0, .ref a0)] [] δ (kt0  δ)) : ∀ (δ : dp), AWD l D cy m_X12_readSteps d 0 0 ev g 236 [(0, .ref a0)] [] δ (J_X12_readSteps_236 N g T a0 kt0 δ) := by
    intro  δ 
    unfold J_X12_readSteps_236
    refine w_goto 0 (μ := m_X12_readSteps) (pc := 236) dX12_readSteps_236 (by decide) ?_
    exact hk0 _
def J_X12_readSteps_79 (N : Nat) (g : gp) (T : Nat → dp → Option (dp)) (a0 : Nat) (kt0 : dp → Option (dp)) (x1v : Int32) (δ : dp) : Option (dp) :=
  (D_X12_fine N g a0 δ).bind fun r_12 => if r_12.1 = 0 then (some r_12.2) else ((D_X12_pass N g a0 r_12.2).bind fun r_14 => bi ((60 * (q_I r_14 12 24 a0)) + (q_I r_14 12 25 a0)) fun x_15 => bd (s_I r_14 12 25 a0 ((q_I r_14 12 25 a0) + 1)) fun δ_17 => (q_O g 12 29 a0).bind fun b_19 => if x_15 < 0 ∨ q_N g b_19 ≤ x_15.toNatClampNeg then none else bd (s_R δ_17 b_19 x_15.toNatClampNeg x1v) fun δ_21 => if x1v = (5 : Int32) then ((q_O g 12 30 a0).bind fun b_34 => (D_X12_readNumber N g a0 1 99 δ_21).bind fun r_36 => if x_15 < 0 ∨ q_N g b_34 ≤ x_15.toNatClampNeg then none else bd (s_R r_36.2 b_34 x_15.toNatClampNeg r_36.1) fun δ_37 => (D_X12_sign N g a0 91 δ_37).bind fun r_39 => bd (s_I r_39 12 27 a0 ((q_I r_39 12 27 a0) + 1)) fun δ_40 => (T a0 δ_40).bind fun r_42 => bd (s_I r_42 12 27 a0 ((q_I r_42 12 27 a0) - 1)) fun δ_43 => (D_X12_sign N g a0 93 δ_43).bind fun r_45 => (q_O g 12 31 a0).bind fun b_46 => if x_15 < 0 ∨ q_N g b_46 ≤ x_15.toNatClampNeg then none else bd (s_R r_45 b_46 x_15.toNatClampNeg (q_I r_45 12 25 a0)) fun δ_48 => J_X12_readSteps_236 N g T a0 kt0 δ_48) else ((q_O g 12 30 a0).bind fun b_24 => if x_15 < 0 ∨ q_N g b_24 ≤ x_15.toNatClampNeg then none else bd (s_R δ_21 b_24 x_15.toNatClampNeg ((500 * (q_I δ_21 12 24 a0)) + (q_I δ_21 12 26 a0))) fun δ_26 => (D_X12_sum N g a0 δ_26).bind fun r_28 => (q_O g 12 31 a0).bind fun b_29 => if x_15 < 0 ∨ q_N g b_29 ≤ x_15.toNatClampNeg then none else bd (s_R r_28 b_29 x_15.toNatClampNeg ((500 * (q_I r_28 12 24 a0)) + (q_I r_28 12 26 a0))) fun δ_31 => (D_X12_sign N g a0 59 δ_31).bind fun r_33 => J_X12_readSteps_236 N g T a0 kt0 r_33))
set_option maxHeartbeats 4000000 in
set_option maxRecDepth 100000 in
theorem t_J_X12_readSteps_79 {l : Launch} {D : va_G} {cy : Nat → ClassId} {N d : Nat} {g : gp} (wt : WT g) (hl : l.stackTraces = false) {T : Nat → dp → Option (dp)} {dh : Nat} (hT : ∀ (a0 : Nat) (δ : dp), q_K g a0 = 12 → CalD l D cy m_X12_readSteps dh 0 0 ev g [.ref a0] δ (T a0 δ)) (hh : dh + 1 ≤ d) (hd : 69 ≤ d) {a0 : Nat} (k0 : q_K g a0 = 12) {kt0 : dp → Option (dp)} (hk0 : ∀ (δ : dp), AWD l D cy m_X12_readSteps d 0 0 ev g 0 [(0, .ref a0)] [] δ (kt0  δ)) : ∀ (x1v : Int32) (δ : dp), AWD l D cy m_X12_readSteps d 0 0 ev g 79 [(0, .ref a0), (1, .int x1v)] [] δ (J_X12_readSteps_79 N g T a0 kt0 x1v δ) := by
    intro x1v δ 
    unfold J_X12_readSteps_79
    refine w_aload_n 0 0 (μ := m_X12_readSteps) (pc := 79) dX12_readSteps_79 rfl rfl ?_
    refine w_callV (As := []) (rest := []) (μ := m_X12_readSteps) (pc := 80) dX12_readSteps_80 cv_X12_141 rfl rfl k0 (by decide) rfl (Nat.le_of_ble_eq_true rfl) (d' := d - 1) (by omega) he_i (c_X12_fine wt hl (d := d - 1) (by omega) k0) (fun r_12 => ?_)
    refine w_if_ne 87 (μ := m_X12_readSteps) (pc := 83) dX12_readSteps_83 (by decide) (fun c_13 => ?_) (fun c_13 => ?_)
    · refine w_aload_n 0 0 (μ := m_X12_readSteps) (pc := 87) dX12_readSteps_87 rfl rfl ?_
      refine w_callV (As := []) (rest := []) (μ := m_X12_readSteps) (pc := 88) dX12_readSteps_88 cv_X12_179 rfl rfl k0 (by decide) rfl (Nat.le_of_ble_eq_true rfl) (d' := d - 1) (by omega) he_v (c_X12_pass wt hl (d := d - 1) (by omega) k0) (fun r_14 => ?_)
      refine w_bipush (v := 60) (μ := m_X12_readSteps) (pc := 91) dX12_readSteps_91 (by decide) ?_
      refine w_aload_n 0 0 (μ := m_X12_readSteps) (pc := 93) dX12_readSteps_93 rfl rfl ?_
      refine w_getI (μ := m_X12_readSteps) (pc := 94) dX12_readSteps_94 fl_X12_199 ir_12_24 k0 ?_
      refine w_imul (μ := m_X12_readSteps) (pc := 97) dX12_readSteps_97 ?_
      refine w_aload_n 0 0 (μ := m_X12_readSteps) (pc := 98) dX12_readSteps_98 rfl rfl ?_
      refine w_getI (μ := m_X12_readSteps) (pc := 99) dX12_readSteps_99 fl_X12_241 ir_12_25 k0 ?_
      refine w_iadd (μ := m_X12_readSteps) (pc := 102) dX12_readSteps_102 ?_
      refine w_bi (fun x_15 e_16 => ?_)
      refine w_istore_n [(2, .int x_15), (0, .ref a0), (1, .int x1v)] (μ := m_X12_readSteps) (pc := 103) dX12_readSteps_103 rfl (by decide) rfl ?_
      refine w_aload_n 1 0 (μ := m_X12_readSteps) (pc := 104) dX12_readSteps_104 rfl rfl ?_
      refine w_dup (μ := m_X12_readSteps) (pc := 105) dX12_readSteps_105 rfl ?_
      refine w_getI (μ := m_X12_readSteps) (pc := 106) dX12_readSteps_106 fl_X12_241 ir_12_25 k0 ?_
      refine w_iconst (v := 1) (μ := m_X12_readSteps) (pc := 109) dX12_readSteps_109 (by decide) ?_
      refine w_iadd (μ := m_X12_readSteps) (pc := 110) dX12_readSteps_110 ?_
      refine w_putI (μ := m_X12_readSteps) (pc := 111) dX12_readSteps_111 fl_X12_241 flw_12_25 ir_12_25 k0 ?_
      refine w_bd (fun δ_17 e_18 => ?_)
      refine w_aload_n 1 0 (μ := m_X12_readSteps) (pc := 114) dX12_readSteps_114 rfl rfl ?_
      refine w_getO (μ := m_X12_readSteps) (pc := 115) dX12_readSteps_115 fl_X12_66 ir_12_29 id_12_29 k0 (fun b_19 e_20 => ?_)
      refine w_iload_n 0 2 (μ := m_X12_readSteps) (pc := 118) dX12_readSteps_118 rfl rfl ?_
      refine w_iload_n 2 1 (μ := m_X12_readSteps) (pc := 119) dX12_readSteps_119 rfl rfl ?_
      refine w_ast (μ := m_X12_readSteps) (pc := 120) dX12_readSteps_120 (wt_12_29 wt k0 e_20) ?_
      refine w_bd (fun δ_21 e_22 => ?_)
      refine w_iload_n 2 1 (μ := m_X12_readSteps) (pc := 121) dX12_readSteps_121 rfl rfl ?_
      refine w_iconst (v := 5) (μ := m_X12_readSteps) (pc := 122) dX12_readSteps_122 (by decide) ?_
      refine w_icmp_ne 188 (μ := m_X12_readSteps) (pc := 123) dX12_readSteps_123 (by decide) (fun c_23 => ?_) (fun c_23 => ?_)
      · refine w_aload_n 1 0 (μ := m_X12_readSteps) (pc := 188) dX12_readSteps_188 rfl rfl ?_
        refine w_getO (μ := m_X12_readSteps) (pc := 189) dX12_readSteps_189 fl_X12_69 ir_12_30 id_12_30 k0 (fun b_24 e_25 => ?_)
        refine w_iload_n 0 2 (μ := m_X12_readSteps) (pc := 192) dX12_readSteps_192 rfl rfl ?_
        refine w_sipush (v := 500) (μ := m_X12_readSteps) (pc := 193) dX12_readSteps_193 (by decide) ?_
        refine w_aload_n 1 0 (μ := m_X12_readSteps) (pc := 196) dX12_readSteps_196 rfl rfl ?_
        refine w_getI (μ := m_X12_readSteps) (pc := 197) dX12_readSteps_197 fl_X12_199 ir_12_24 k0 ?_
        refine w_imul (μ := m_X12_readSteps) (pc := 200) dX12_readSteps_200 ?_
        refine w_aload_n 1 0 (μ := m_X12_readSteps) (pc := 201) dX12_readSteps_201 rfl rfl ?_
        refine w_getI (μ := m_X12_readSteps) (pc := 202) dX12_readSteps_202 fl_X12_202 ir_12_26 k0 ?_
        refine w_iadd (μ := m_X12_readSteps) (pc := 205) dX12_readSteps_205 ?_
        refine w_ast (μ := m_X12_readSteps) (pc := 206) dX12_readSteps_206 (wt_12_30 wt k0 e_25) ?_
        refine w_bd (fun δ_26 e_27 => ?_)
        refine w_aload_n 1 0 (μ := m_X12_readSteps) (pc := 207) dX12_readSteps_207 rfl rfl ?_
        refine w_callV (As := []) (rest := []) (μ := m_X12_readSteps) (pc := 208) dX12_readSteps_208 cv_X12_208 rfl rfl k0 (by decide) rfl (Nat.le_of_ble_eq_true rfl) (d' := d - 1) (by omega) he_v (c_X12_sum wt hl (d := d - 1) (by omega) k0) (fun r_28 => ?_)
        refine w_aload_n 1 0 (μ := m_X12_readSteps) (pc := 211) dX12_readSteps_211 rfl rfl ?_
        refine w_getO (μ := m_X12_readSteps) (pc := 212) dX12_readSteps_212 fl_X12_72 ir_12_31 id_12_31 k0 (fun b_29 e_30 => ?_)
        refine w_iload_n 0 2 (μ := m_X12_readSteps) (pc := 215) dX12_readSteps_215 rfl rfl ?_
        refine w_sipush (v := 500) (μ := m_X12_readSteps) (pc := 216) dX12_readSteps_216 (by decide) ?_
        refine w_aload_n 1 0 (μ := m_X12_readSteps) (pc := 219) dX12_readSteps_219 rfl rfl ?_
        refine w_getI (μ := m_X12_readSteps) (pc := 220) dX12_readSteps_220 fl_X12_199 ir_12_24 k0 ?_
        refine w_imul (μ := m_X12_readSteps) (pc := 223) dX12_readSteps_223 ?_
        refine w_aload_n 1 0 (μ := m_X12_readSteps) (pc := 224) dX12_readSteps_224 rfl rfl ?_
        refine w_getI (μ := m_X12_readSteps) (pc := 225) dX12_readSteps_225 fl_X12_202 ir_12_26 k0 ?_
        refine w_iadd (μ := m_X12_readSteps) (pc := 228) dX12_readSteps_228 ?_
        refine w_ast (μ := m_X12_readSteps) (pc := 229) dX12_readSteps_229 (wt_12_31 wt k0 e_30) ?_
        refine w_bd (fun δ_31 e_32 => ?_)
        refine w_aload_n 1 0 (μ := m_X12_readSteps) (pc := 230) dX12_readSteps_230 rfl rfl ?_
        refine w_bipush (v := 59) (μ := m_X12_readSteps) (pc := 231) dX12_readSteps_231 (by decide) ?_
        refine w_callV (As := [.int 59]) (rest := []) (μ := m_X12_readSteps) (pc := 233) dX12_readSteps_233 cv_X12_189 rfl rfl k0 (by decide) rfl (Nat.le_of_ble_eq_true rfl) (d' := d - 1) (by omega) he_v (c_X12_sign wt hl (d := d - 1) (by omega) k0) (fun r_33 => ?_)
        refine w_lv [1] rfl ?_
        exact t_J_X12_readSteps_236 wt hl hT (by omega) (by omega) k0 hk0 _
      · refine w_aload_n 1 0 (μ := m_X12_readSteps) (pc := 126) dX12_readSteps_126 rfl rfl ?_
        refine w_getO (μ := m_X12_readSteps) (pc := 127) dX12_readSteps_127 fl_X12_69 ir_12_30 id_12_30 k0 (fun b_34 e_35 => ?_)
        refine w_iload_n 0 2 (μ := m_X12_readSteps) (pc := 130) dX12_readSteps_130 rfl rfl ?_
        refine w_aload_n 1 0 (μ := m_X12_readSteps) (pc := 131) dX12_readSteps_131 rfl rfl ?_
        refine w_iconst (v := 1) (μ := m_X12_readSteps) (pc := 132) dX12_readSteps_132 (by decide) ?_
        refine w_bipush (v := 99) (μ := m_X12_readSteps) (pc := 133) dX12_readSteps_133 (by decide) ?_
        refine w_callV (As := [.int 1, .int 99]) (rest := [.int x_15, .ref b_34]) (μ := m_X12_readSteps) (pc := 135) dX12_readSteps_135 cv_X12_182 rfl rfl k0 (by decide) rfl (Nat.le_of_ble_eq_true rfl) (d' := d - 1) (by omega) he_i (c_X12_readNumber wt hl (d := d - 1) (by omega) k0) (fun r_36 => ?_)
        refine w_ast (μ := m_X12_readSteps) (pc := 138) dX12_readSteps_138 (wt_12_30 wt k0 e_35) ?_
        refine w_bd (fun δ_37 e_38 => ?_)
        refine w_aload_n 1 0 (μ := m_X12_readSteps) (pc := 139) dX12_readSteps_139 rfl rfl ?_
        refine w_bipush (v := 91) (μ := m_X12_readSteps) (pc := 140) dX12_readSteps_140 (by decide) ?_
        refine w_callV (As := [.int 91]) (rest := []) (μ := m_X12_readSteps) (pc := 142) dX12_readSteps_142 cv_X12_189 rfl rfl k0 (by decide) rfl (Nat.le_of_ble_eq_true rfl) (d' := d - 1) (by omega) he_v (c_X12_sign wt hl (d := d - 1) (by omega) k0) (fun r_39 => ?_)
        refine w_aload_n 1 0 (μ := m_X12_readSteps) (pc := 145) dX12_readSteps_145 rfl rfl ?_
        refine w_dup (μ := m_X12_readSteps) (pc := 146) dX12_readSteps_146 rfl ?_
        refine w_getI (μ := m_X12_readSteps) (pc := 147) dX12_readSteps_147 fl_X12_244 ir_12_27 k0 ?_
        refine w_iconst (v := 1) (μ := m_X12_readSteps) (pc := 150) dX12_readSteps_150 (by decide) ?_
        refine w_iadd (μ := m_X12_readSteps) (pc := 151) dX12_readSteps_151 ?_
        refine w_putI (μ := m_X12_readSteps) (pc := 152) dX12_readSteps_152 fl_X12_244 flw_12_27 ir_12_27 k0 ?_
        refine w_bd (fun δ_40 e_41 => ?_)
        refine w_aload_n 1 0 (μ := m_X12_readSteps) (pc := 155) dX12_readSteps_155 rfl rfl ?_
        refine w_callV (As := []) (rest := []) (μ := m_X12_readSteps) (pc := 156) dX12_readSteps_156 cv_X12_247 rfl rfl k0 (by decide) rfl (Nat.le_of_ble_eq_true rfl) (d' := dh) (by omega) he_v (hT _ _ k0) (fun r_42 => ?_)
        refine w_aload_n 1 0 (μ := m_X12_readSteps) (pc := 159) dX12_readSteps_159 rfl rfl ?_
        refine w_dup (μ := m_X12_readSteps) (pc := 160) dX12_readSteps_160 rfl ?_
        refine w_getI (μ := m_X12_readSteps) (pc := 161) dX12_readSteps_161 fl_X12_244 ir_12_27 k0 ?_
        refine w_iconst (v := 1) (μ := m_X12_readSteps) (pc := 164) dX12_readSteps_164 (by decide) ?_
        refine w_isub (μ := m_X12_readSteps) (pc := 165) dX12_readSteps_165 ?_
        refine w_putI (μ := m_X12_readSteps) (pc := 166) dX12_readSteps_166 fl_X12_244 flw_12_27 ir_12_27 k0 ?_
        refine w_bd (fun δ_43 e_44 => ?_)
        refine w_aload_n 1 0 (μ := m_X12_readSteps) (pc := 169) dX12_readSteps_169 rfl rfl ?_
        refine w_bipush (v := 93) (μ := m_X12_readSteps) (pc := 170) dX12_readSteps_170 (by decide) ?_
        refine w_callV (As := [.int 93]) (rest := []) (μ := m_X12_readSteps) (pc := 172) dX12_readSteps_172 cv_X12_189 rfl rfl k0 (by decide) rfl (Nat.le_of_ble_eq_true rfl) (d' := d - 1) (by omega) he_v (c_X12_sign wt hl (d := d - 1) (by omega) k0) (fun r_45 => ?_)
        refine w_aload_n 1 0 (μ := m_X12_readSteps) (pc := 175) dX12_readSteps_175 rfl rfl ?_
        refine w_getO (μ := m_X12_readSteps) (pc := 176) dX12_readSteps_176 fl_X12_72 ir_12_31 id_12_31 k0 (fun b_46 e_47 => ?_)
        refine w_iload_n 0 2 (μ := m_X12_readSteps) (pc := 179) dX12_readSteps_179 rfl rfl ?_
        refine w_aload_n 1 0 (μ := m_X12_readSteps) (pc := 180) dX12_readSteps_180 rfl rfl ?_
        refine w_getI (μ := m_X12_readSteps) (pc := 181) dX12_readSteps_181 fl_X12_241 ir_12_25 k0 ?_
        refine w_ast (μ := m_X12_readSteps) (pc := 184) dX12_readSteps_184 (wt_12_31 wt k0 e_47) ?_
        refine w_bd (fun δ_48 e_49 => ?_)
        refine w_goto 236 (μ := m_X12_readSteps) (pc := 185) dX12_readSteps_185 (by decide) ?_
        refine w_lv [1] rfl ?_
        exact t_J_X12_readSteps_236 wt hl hT (by omega) (by omega) k0 hk0 _
    · exact w_vret (μ := m_X12_readSteps) (pc := 86) dX12_readSteps_86 rfl rfl
def J_X12_readSteps_70 (N : Nat) (g : gp) (T : Nat → dp → Option (dp)) (a0 : Nat) (kt0 : dp → Option (dp)) (x1v : Int32) (δ : dp) : Option (dp) :=
  (D_X12_wrong N g a0 3 (q_I δ 12 4 a0) δ).bind fun r_11 => J_X12_readSteps_79 N g T a0 kt0 x1v r_11
set_option maxHeartbeats 4000000 in
set_option maxRecDepth 100000 in
theorem t_J_X12_readSteps_70 {l : Launch} {D : va_G} {cy : Nat → ClassId} {N d : Nat} {g : gp} (wt : WT g) (hl : l.stackTraces = false) {T : Nat → dp → Option (dp)} {dh : Nat} (hT : ∀ (a0 : Nat) (δ : dp), q_K g a0 = 12 → CalD l D cy m_X12_readSteps dh 0 0 ev g [.ref a0] δ (T a0 δ)) (hh : dh + 1 ≤ d) (hd : 69 ≤ d) {a0 : Nat} (k0 : q_K g a0 = 12) {kt0 : dp → Option (dp)} (hk0 : ∀ (δ : dp), AWD l D cy m_X12_readSteps d 0 0 ev g 0 [(0, .ref a0)] [] δ (kt0  δ)) : ∀ (x1v : Int32) (δ : dp), AWD l D cy m_X12_readSteps d 0 0 ev g 70 [(0, .ref a0), (1, .int x1v)] [] δ (J_X12_readSteps_70 N g T a0 kt0 x1v δ) := by
    intro x1v δ 
    unfold J_X12_readSteps_70
    refine w_aload_n 0 0 (μ := m_X12_readSteps) (pc := 70) dX12_readSteps_70 rfl rfl ?_
    refine w_iconst (v := 3) (μ := m_X12_readSteps) (pc := 71) dX12_readSteps_71 (by decide) ?_
    refine w_aload_n 0 0 (μ := m_X12_readSteps) (pc := 72) dX12_readSteps_72 rfl rfl ?_
    refine w_getI (μ := m_X12_readSteps) (pc := 73) dX12_readSteps_73 fl_X12_118 ir_12_4 k0 ?_
    refine w_callV (As := [.int 3, .int (q_I δ 12 4 a0)]) (rest := []) (μ := m_X12_readSteps) (pc := 76) dX12_readSteps_76 cv_X12_148 rfl rfl k0 (by decide) rfl (Nat.le_of_ble_eq_true rfl) (d' := d - 1) (by omega) he_v (c_X12_wrong wt hl (d := d - 1) (by omega) k0) (fun r_11 => ?_)
    exact t_J_X12_readSteps_79 wt hl hT (by omega) (by omega) k0 hk0 _ _
def L_X12_readSteps_0 (N : Nat) (g : gp) (T : Nat → dp → Option (dp)) (a0 : Nat) : Nat → dp → Option (dp)
  | 0, _ => none
  | n + 1, δ => (D_X12_fine N g a0 δ).bind fun r_1 => if r_1.1 = 0 then (J_X12_readSteps_239 N g T a0 r_1.2) else ((D_X12_isMore N g a0 r_1.2).bind fun r_3 => if r_3.1 = 0 then (J_X12_readSteps_239 N g T a0 r_3.2) else ((D_X12_here N g a0 r_3.2).bind fun r_5 => if r_5.1 = (93 : Int32) then (J_X12_readSteps_239 N g T a0 r_5.2) else ((D_X12_word N g a0 r_5.2).bind fun r_7 => (D_X12_stepOf N g r_7.1 r_7.2).bind fun r_8 => if r_8.1 = ((-1) : Int32) then ((D_X12_wrong N g a0 1 (q_I r_8.2 12 4 a0) r_8.2).bind fun r_52 => J_X12_readSteps_79 N g T a0 (L_X12_readSteps_0 N g T a0 n) r_8.1 r_52) else (if (q_I r_8.2 12 25 a0) = (60 : Int32) then (J_X12_readSteps_70 N g T a0 (L_X12_readSteps_0 N g T a0 n) r_8.1 r_8.2) else (if r_8.1 = (5 : Int32) then (if (q_I r_8.2 12 27 a0) = (3 : Int32) then (J_X12_readSteps_70 N g T a0 (L_X12_readSteps_0 N g T a0 n) r_8.1 r_8.2) else (J_X12_readSteps_79 N g T a0 (L_X12_readSteps_0 N g T a0 n) r_8.1 r_8.2)) else (J_X12_readSteps_79 N g T a0 (L_X12_readSteps_0 N g T a0 n) r_8.1 r_8.2))))))
set_option maxHeartbeats 4000000 in
set_option maxRecDepth 100000 in
theorem t_L_X12_readSteps_0 {l : Launch} {D : va_G} {cy : Nat → ClassId} {N d : Nat} {g : gp} (wt : WT g) (hl : l.stackTraces = false) {T : Nat → dp → Option (dp)} {dh : Nat} (hT : ∀ (a0 : Nat) (δ : dp), q_K g a0 = 12 → CalD l D cy m_X12_readSteps dh 0 0 ev g [.ref a0] δ (T a0 δ)) (hh : dh + 1 ≤ d) (hd : 69 ≤ d) {a0 : Nat} (k0 : q_K g a0 = 12) : ∀ (n : Nat) (δ : dp), AWD l D cy m_X12_readSteps d 0 0 ev g 0 [(0, .ref a0)] [] δ (L_X12_readSteps_0 N g T a0 n δ) := by
  intro n
  induction n with
  | zero => intro  δ ; exact w_none
  | succ n ih =>
    intro  δ 
    unfold L_X12_readSteps_0
    refine w_aload_n 0 0 (μ := m_X12_readSteps) (pc := 0) dX12_readSteps_0 rfl rfl ?_
    refine w_callV (As := []) (rest := []) (μ := m_X12_readSteps) (pc := 1) dX12_readSteps_1 cv_X12_141 rfl rfl k0 (by decide) rfl (Nat.le_of_ble_eq_true rfl) (d' := d - 1) (by omega) he_i (c_X12_fine wt hl (d := d - 1) (by omega) k0) (fun r_1 => ?_)
    refine w_if_eq 239 (μ := m_X12_readSteps) (pc := 4) dX12_readSteps_4 (by decide) (fun c_2 => ?_) (fun c_2 => ?_)
    · refine w_lv [] rfl ?_
      exact t_J_X12_readSteps_239 wt hl hT (by omega) (by omega) k0 _
    · refine w_aload_n 0 0 (μ := m_X12_readSteps) (pc := 7) dX12_readSteps_7 rfl rfl ?_
      refine w_callV (As := []) (rest := []) (μ := m_X12_readSteps) (pc := 8) dX12_readSteps_8 cv_X12_165 rfl rfl k0 (by decide) rfl (Nat.le_of_ble_eq_true rfl) (d' := d - 1) (by omega) he_i (c_X12_isMore wt hl (d := d - 1) (by omega) k0) (fun r_3 => ?_)
      refine w_if_eq 239 (μ := m_X12_readSteps) (pc := 11) dX12_readSteps_11 (by decide) (fun c_4 => ?_) (fun c_4 => ?_)
      · refine w_lv [] rfl ?_
        exact t_J_X12_readSteps_239 wt hl hT (by omega) (by omega) k0 _
      · refine w_aload_n 0 0 (μ := m_X12_readSteps) (pc := 14) dX12_readSteps_14 rfl rfl ?_
        refine w_callV (As := []) (rest := []) (μ := m_X12_readSteps) (pc := 15) dX12_readSteps_15 cv_X12_124 rfl rfl k0 (by decide) rfl (Nat.le_of_ble_eq_true rfl) (d' := d - 1) (by omega) he_i (c_X12_here wt hl (d := d - 1) (by omega) k0) (fun r_5 => ?_)
        refine w_bipush (v := 93) (μ := m_X12_readSteps) (pc := 18) dX12_readSteps_18 (by decide) ?_
        refine w_icmp_eq 239 (μ := m_X12_readSteps) (pc := 20) dX12_readSteps_20 (by decide) (fun c_6 => ?_) (fun c_6 => ?_)
        · refine w_lv [] rfl ?_
          exact t_J_X12_readSteps_239 wt hl hT (by omega) (by omega) k0 _
        · refine w_aload_n 0 0 (μ := m_X12_readSteps) (pc := 23) dX12_readSteps_23 rfl rfl ?_
          refine w_callV (As := []) (rest := []) (μ := m_X12_readSteps) (pc := 24) dX12_readSteps_24 cv_X12_168 rfl rfl k0 (by decide) rfl (Nat.le_of_ble_eq_true rfl) (d' := d - 1) (by omega) he_i (c_X12_word wt hl (d := d - 1) (by omega) k0) (fun r_7 => ?_)
          refine w_callS (As := [.int r_7.1]) (rest := []) (μ := m_X12_readSteps) (pc := 27) dX12_readSteps_27 cs_X12_238 rfl rfl (Nat.le_of_ble_eq_true rfl) (d' := d - 1) (by omega) he_i (c_X12_stepOf wt hl (d := d - 1) (by omega) ) (fun r_8 => ?_)
          refine w_istore_n [(1, .int r_8.1), (0, .ref a0)] (μ := m_X12_readSteps) (pc := 30) dX12_readSteps_30 rfl (by decide) rfl ?_
          refine w_iload_n 0 1 (μ := m_X12_readSteps) (pc := 31) dX12_readSteps_31 rfl rfl ?_
          refine w_iconst (v := (-1)) (μ := m_X12_readSteps) (pc := 32) dX12_readSteps_32 (by decide) ?_
          refine w_icmp_ne 48 (μ := m_X12_readSteps) (pc := 33) dX12_readSteps_33 (by decide) (fun c_9 => ?_) (fun c_9 => ?_)
          · refine w_aload_n 1 0 (μ := m_X12_readSteps) (pc := 48) dX12_readSteps_48 rfl rfl ?_
            refine w_getI (μ := m_X12_readSteps) (pc := 49) dX12_readSteps_49 fl_X12_241 ir_12_25 k0 ?_
            refine w_bipush (v := 60) (μ := m_X12_readSteps) (pc := 52) dX12_readSteps_52 (by decide) ?_
            refine w_icmp_eq 70 (μ := m_X12_readSteps) (pc := 54) dX12_readSteps_54 (by decide) (fun c_10 => ?_) (fun c_10 => ?_)
            · refine w_lv [1, 0] rfl ?_
              exact t_J_X12_readSteps_70 wt hl hT (by omega) (by omega) k0 ih _ _
            · refine w_iload_n 0 1 (μ := m_X12_readSteps) (pc := 57) dX12_readSteps_57 rfl rfl ?_
              refine w_iconst (v := 5) (μ := m_X12_readSteps) (pc := 58) dX12_readSteps_58 (by decide) ?_
              refine w_icmp_ne 79 (μ := m_X12_readSteps) (pc := 59) dX12_readSteps_59 (by decide) (fun c_50 => ?_) (fun c_50 => ?_)
              · refine w_lv [1, 0] rfl ?_
                exact t_J_X12_readSteps_79 wt hl hT (by omega) (by omega) k0 ih _ _
              · refine w_aload_n 1 0 (μ := m_X12_readSteps) (pc := 62) dX12_readSteps_62 rfl rfl ?_
                refine w_getI (μ := m_X12_readSteps) (pc := 63) dX12_readSteps_63 fl_X12_244 ir_12_27 k0 ?_
                refine w_iconst (v := 3) (μ := m_X12_readSteps) (pc := 66) dX12_readSteps_66 (by decide) ?_
                refine w_icmp_ne 79 (μ := m_X12_readSteps) (pc := 67) dX12_readSteps_67 (by decide) (fun c_51 => ?_) (fun c_51 => ?_)
                · refine w_lv [1, 0] rfl ?_
                  exact t_J_X12_readSteps_79 wt hl hT (by omega) (by omega) k0 ih _ _
                · refine w_lv [1, 0] rfl ?_
                  exact t_J_X12_readSteps_70 wt hl hT (by omega) (by omega) k0 ih _ _
          · refine w_aload_n 1 0 (μ := m_X12_readSteps) (pc := 36) dX12_readSteps_36 rfl rfl ?_
            refine w_iconst (v := 1) (μ := m_X12_readSteps) (pc := 37) dX12_readSteps_37 (by decide) ?_
            refine w_aload_n 1 0 (μ := m_X12_readSteps) (pc := 38) dX12_readSteps_38 rfl rfl ?_
            refine w_getI (μ := m_X12_readSteps) (pc := 39) dX12_readSteps_39 fl_X12_118 ir_12_4 k0 ?_
            refine w_callV (As := [.int 1, .int (q_I r_8.2 12 4 a0)]) (rest := []) (μ := m_X12_readSteps) (pc := 42) dX12_readSteps_42 cv_X12_148 rfl rfl k0 (by decide) rfl (Nat.le_of_ble_eq_true rfl) (d' := d - 1) (by omega) he_v (c_X12_wrong wt hl (d := d - 1) (by omega) k0) (fun r_52 => ?_)
            refine w_goto 79 (μ := m_X12_readSteps) (pc := 45) dX12_readSteps_45 (by decide) ?_
            refine w_lv [1, 0] rfl ?_
            exact t_J_X12_readSteps_79 wt hl hT (by omega) (by omega) k0 ih _ _
def B_X12_readSteps (N : Nat) (g : gp) (T : Nat → dp → Option (dp)) (a0 : Nat) (δ : dp) : Option (dp) :=
  L_X12_readSteps_0 N g T a0 N δ
set_option maxHeartbeats 4000000 in
set_option maxRecDepth 100000 in
theorem c_b_X12_readSteps {l : Launch} {D : va_G} {cy : Nat → ClassId} {N d : Nat} {g : gp} (wt : WT g) (hl : l.stackTraces = false) {T : Nat → dp → Option (dp)} {dh : Nat} (hT : ∀ (a0 : Nat) (δ : dp), q_K g a0 = 12 → CalD l D cy m_X12_readSteps dh 0 0 ev g [.ref a0] δ (T a0 δ)) (hh : dh + 1 ≤ d) (hd : 69 ≤ d) {a0 : Nat} {δ : dp} (k0 : q_K g a0 = 12) : CalD l D cy m_X12_readSteps d 0 0 ev g [.ref a0] δ (B_X12_readSteps N g T a0 δ) := by
  refine CalD.of (by decide +kernel) (Nat.le_of_ble_eq_true rfl) hl ?_
  unfold B_X12_readSteps
  exact t_L_X12_readSteps_0 wt hl hT (by omega) (by omega) k0 N _
def E_X12_readSteps (N : Nat) (g : gp) : Nat → Nat → dp → Option (dp)
  | 0, _, _ => none
  | k + 1, a0, δ => B_X12_readSteps N g (E_X12_readSteps N g k) a0 δ
theorem e_X12_readSteps {l : Launch} {D : va_G} {cy : Nat → ClassId} {N : Nat} {g : gp} (wt : WT g) (hl : l.stackTraces = false) : ∀ (k d : Nat), 69 + 1 * k ≤ d → ∀ (a0 : Nat) (δ : dp), q_K g a0 = 12 → CalD l D cy m_X12_readSteps d 0 0 ev g [.ref a0] δ (E_X12_readSteps N g k a0 δ) := by
  intro k
  induction k with
  | zero => intro d _ a0 δ k0 r hr; cases hr
  | succ k ih =>
    intro d hd a0 δ k0
    unfold E_X12_readSteps
    exact c_b_X12_readSteps wt hl (ih (69 + 1 * k) (Nat.le_refl _)) (by omega) (by omega) k0
def D_X12_readSteps (N : Nat) (g : gp) (a0 : Nat) (δ : dp) : Option (dp) := E_X12_readSteps N g 20 a0 δ
theorem c_X12_readSteps {l : Launch} {D : va_G} {cy : Nat → ClassId} {N d : Nat} {g : gp} (wt : WT g) (hl : l.stackTraces = false) (hd : 89 ≤ d) {a0 : Nat} {δ : dp} (k0 : q_K g a0 = 12) : CalD l D cy m_X12_readSteps d 0 0 ev g [.ref a0] δ (D_X12_readSteps N g a0 δ) := e_X12_readSteps wt hl 20 d (by omega) _ _ k0
def J_X12_thief_146 (N : Nat) (g : gp) (a0 : Nat) (x1 : Int32) (x2v : Int32) (δ : dp) : Option (Int32 × dp) :=
  some (x2v, δ)
set_option maxHeartbeats 4000000 in
set_option maxRecDepth 100000 in
theorem t_J_X12_thief_146 {l : Launch} {D : va_G} {cy : Nat → ClassId} {N d : Nat} {g : gp} (wt : WT g) (hl : l.stackTraces = false) (hd : 90 ≤ d) {a0 : Nat} {x1 : Int32} (k0 : q_K g a0 = 12) : ∀ (x2v : Int32) (δ : dp), AWD l D cy m_X12_thief d 0 0 ei g 146 [(2, .int x2v)] [] δ (J_X12_thief_146 N g a0 x1 x2v δ) := by
    intro x2v δ 
    unfold J_X12_thief_146
    refine w_iload_n 0 2 (μ := m_X12_thief) (pc := 146) dX12_thief_146 rfl rfl ?_
    exact w_iret (μ := m_X12_thief) (pc := 147) dX12_thief_147 rfl rfl
def J_X12_thief_106 (N : Nat) (g : gp) (a0 : Nat) (x1 : Int32) (δ : dp) : Option (Int32 × dp) :=
  (D_X12_result N g a0 (q_I δ 12 24 a0) δ).bind fun r_19 => if r_19.1 = (q_I r_19.2 12 24 a0) then ((q_O g 12 28 a0).bind fun b_21 => if (q_I r_19.2 12 24 a0) < 0 ∨ q_N g b_21 ≤ (q_I r_19.2 12 24 a0).toNatClampNeg then none else bd (s_R r_19.2 b_21 (q_I r_19.2 12 24 a0).toNatClampNeg (q_I r_19.2 12 25 a0)) fun δ_23 => bd (s_I δ_23 12 24 a0 ((q_I δ_23 12 24 a0) + 1)) fun δ_25 => J_X12_thief_146 N g a0 x1 r_19.1 δ_25) else (J_X12_thief_146 N g a0 x1 r_19.1 r_19.2)
set_option maxHeartbeats 4000000 in
set_option maxRecDepth 100000 in
theorem t_J_X12_thief_106 {l : Launch} {D : va_G} {cy : Nat → ClassId} {N d : Nat} {g : gp} (wt : WT g) (hl : l.stackTraces = false) (hd : 90 ≤ d) {a0 : Nat} {x1 : Int32} (k0 : q_K g a0 = 12) : ∀ (δ : dp), AWD l D cy m_X12_thief d 0 0 ei g 106 [(0, .ref a0)] [] δ (J_X12_thief_106 N g a0 x1 δ) := by
    intro  δ 
    unfold J_X12_thief_106
    refine w_aload_n 0 0 (μ := m_X12_thief) (pc := 106) dX12_thief_106 rfl rfl ?_
    refine w_aload_n 0 0 (μ := m_X12_thief) (pc := 107) dX12_thief_107 rfl rfl ?_
    refine w_getI (μ := m_X12_thief) (pc := 108) dX12_thief_108 fl_X12_199 ir_12_24 k0 ?_
    refine w_callV (As := [.int (q_I δ 12 24 a0)]) (rest := []) (μ := m_X12_thief) (pc := 111) dX12_thief_111 cv_X12_192 rfl rfl k0 (by decide) rfl (Nat.le_of_ble_eq_true rfl) (d' := d - 1) (by omega) he_i (c_X12_result wt hl (d := d - 1) (by omega) k0) (fun r_19 => ?_)
    refine w_istore_n [(2, .int r_19.1), (0, .ref a0)] (μ := m_X12_thief) (pc := 114) dX12_thief_114 rfl (by decide) rfl ?_
    refine w_iload_n 0 2 (μ := m_X12_thief) (pc := 115) dX12_thief_115 rfl rfl ?_
    refine w_aload_n 1 0 (μ := m_X12_thief) (pc := 116) dX12_thief_116 rfl rfl ?_
    refine w_getI (μ := m_X12_thief) (pc := 117) dX12_thief_117 fl_X12_199 ir_12_24 k0 ?_
    refine w_icmp_ne 146 (μ := m_X12_thief) (pc := 120) dX12_thief_120 (by decide) (fun c_20 => ?_) (fun c_20 => ?_)
    · refine w_lv [0] rfl ?_
      exact t_J_X12_thief_146 wt hl (by omega) k0 _ _
    · refine w_aload_n 1 0 (μ := m_X12_thief) (pc := 123) dX12_thief_123 rfl rfl ?_
      refine w_getO (μ := m_X12_thief) (pc := 124) dX12_thief_124 fl_X12_63 ir_12_28 id_12_28 k0 (fun b_21 e_22 => ?_)
      refine w_aload_n 1 0 (μ := m_X12_thief) (pc := 127) dX12_thief_127 rfl rfl ?_
      refine w_getI (μ := m_X12_thief) (pc := 128) dX12_thief_128 fl_X12_199 ir_12_24 k0 ?_
      refine w_aload_n 1 0 (μ := m_X12_thief) (pc := 131) dX12_thief_131 rfl rfl ?_
      refine w_getI (μ := m_X12_thief) (pc := 132) dX12_thief_132 fl_X12_241 ir_12_25 k0 ?_
      refine w_ast (μ := m_X12_thief) (pc := 135) dX12_thief_135 (wt_12_28 wt k0 e_22) ?_
      refine w_bd (fun δ_23 e_24 => ?_)
      refine w_aload_n 1 0 (μ := m_X12_thief) (pc := 136) dX12_thief_136 rfl rfl ?_
      refine w_dup (μ := m_X12_thief) (pc := 137) dX12_thief_137 rfl ?_
      refine w_getI (μ := m_X12_thief) (pc := 138) dX12_thief_138 fl_X12_199 ir_12_24 k0 ?_
      refine w_iconst (v := 1) (μ := m_X12_thief) (pc := 141) dX12_thief_141 (by decide) ?_
      refine w_iadd (μ := m_X12_thief) (pc := 142) dX12_thief_142 ?_
      refine w_putI (μ := m_X12_thief) (pc := 143) dX12_thief_143 fl_X12_199 flw_12_24 ir_12_24 k0 ?_
      refine w_bd (fun δ_25 e_26 => ?_)
      refine w_lv [0] rfl ?_
      exact t_J_X12_thief_146 wt hl (by omega) k0 _ _
def J_X12_thief_79 (N : Nat) (g : gp) (a0 : Nat) (x1 : Int32) (δ : dp) : Option (Int32 × dp) :=
  (D_X12_readSteps N g a0 δ).bind fun r_16 => (D_X12_fine N g a0 r_16).bind fun r_17 => if r_17.1 = 0 then (J_X12_thief_106 N g a0 x1 r_17.2) else ((D_X12_isMore N g a0 r_17.2).bind fun r_27 => if r_27.1 = 0 then (J_X12_thief_106 N g a0 x1 r_27.2) else ((D_X12_wrong N g a0 1 (q_I r_27.2 12 4 a0) r_27.2).bind fun r_29 => J_X12_thief_106 N g a0 x1 r_29))
set_option maxHeartbeats 4000000 in
set_option maxRecDepth 100000 in
theorem t_J_X12_thief_79 {l : Launch} {D : va_G} {cy : Nat → ClassId} {N d : Nat} {g : gp} (wt : WT g) (hl : l.stackTraces = false) (hd : 90 ≤ d) {a0 : Nat} {x1 : Int32} (k0 : q_K g a0 = 12) : ∀ (δ : dp), AWD l D cy m_X12_thief d 0 0 ei g 79 [(0, .ref a0)] [] δ (J_X12_thief_79 N g a0 x1 δ) := by
    intro  δ 
    unfold J_X12_thief_79
    refine w_aload_n 0 0 (μ := m_X12_thief) (pc := 79) dX12_thief_79 rfl rfl ?_
    refine w_callV (As := []) (rest := []) (μ := m_X12_thief) (pc := 80) dX12_thief_80 cv_X12_247 rfl rfl k0 (by decide) rfl (Nat.le_of_ble_eq_true rfl) (d' := d - 1) (by omega) he_v (c_X12_readSteps wt hl (d := d - 1) (by omega) k0) (fun r_16 => ?_)
    refine w_aload_n 0 0 (μ := m_X12_thief) (pc := 83) dX12_thief_83 rfl rfl ?_
    refine w_callV (As := []) (rest := []) (μ := m_X12_thief) (pc := 84) dX12_thief_84 cv_X12_141 rfl rfl k0 (by decide) rfl (Nat.le_of_ble_eq_true rfl) (d' := d - 1) (by omega) he_i (c_X12_fine wt hl (d := d - 1) (by omega) k0) (fun r_17 => ?_)
    refine w_if_eq 106 (μ := m_X12_thief) (pc := 87) dX12_thief_87 (by decide) (fun c_18 => ?_) (fun c_18 => ?_)
    · exact t_J_X12_thief_106 wt hl (by omega) k0 _
    · refine w_aload_n 0 0 (μ := m_X12_thief) (pc := 90) dX12_thief_90 rfl rfl ?_
      refine w_callV (As := []) (rest := []) (μ := m_X12_thief) (pc := 91) dX12_thief_91 cv_X12_165 rfl rfl k0 (by decide) rfl (Nat.le_of_ble_eq_true rfl) (d' := d - 1) (by omega) he_i (c_X12_isMore wt hl (d := d - 1) (by omega) k0) (fun r_27 => ?_)
      refine w_if_eq 106 (μ := m_X12_thief) (pc := 94) dX12_thief_94 (by decide) (fun c_28 => ?_) (fun c_28 => ?_)
      · exact t_J_X12_thief_106 wt hl (by omega) k0 _
      · refine w_aload_n 0 0 (μ := m_X12_thief) (pc := 97) dX12_thief_97 rfl rfl ?_
        refine w_iconst (v := 1) (μ := m_X12_thief) (pc := 98) dX12_thief_98 (by decide) ?_
        refine w_aload_n 0 0 (μ := m_X12_thief) (pc := 99) dX12_thief_99 rfl rfl ?_
        refine w_getI (μ := m_X12_thief) (pc := 100) dX12_thief_100 fl_X12_118 ir_12_4 k0 ?_
        refine w_callV (As := [.int 1, .int (q_I r_27.2 12 4 a0)]) (rest := []) (μ := m_X12_thief) (pc := 103) dX12_thief_103 cv_X12_148 rfl rfl k0 (by decide) rfl (Nat.le_of_ble_eq_true rfl) (d' := d - 1) (by omega) he_v (c_X12_wrong wt hl (d := d - 1) (by omega) k0) (fun r_29 => ?_)
        exact t_J_X12_thief_106 wt hl (by omega) k0 _
def J_X12_thief_23 (N : Nat) (g : gp) (a0 : Nat) (x1 : Int32) (xs0 : Int32) (as1 : Nat) (δ : dp) : Option (Int32 × dp) :=
  (D_X12_may N g as1 xs0 1 2 δ).bind fun r_4 => if r_4.1 = 0 then (some (0, r_4.2)) else ((D_X12_begins N g a0 x1 r_4.2).bind fun r_6 => if (q_I r_6 12 24 a0) = (4 : Int32) then (some ((-1), r_6)) else (bd (s_I r_6 12 25 a0 0) fun δ_8 => bd (s_I δ_8 12 26 a0 0) fun δ_10 => bd (s_I δ_10 12 27 a0 0) fun δ_12 => (D_X12_isMore N g a0 δ_12).bind fun r_14 => if r_14.1 = 0 then ((D_X12_wrong N g a0 1 (q_I r_14.2 12 3 a0) r_14.2).bind fun r_30 => J_X12_thief_79 N g a0 x1 r_30) else (J_X12_thief_79 N g a0 x1 r_14.2)))
set_option maxHeartbeats 4000000 in
set_option maxRecDepth 100000 in
theorem t_J_X12_thief_23 {l : Launch} {D : va_G} {cy : Nat → ClassId} {N d : Nat} {g : gp} (wt : WT g) (hl : l.stackTraces = false) (hd : 90 ≤ d) {a0 : Nat} {x1 : Int32} (k0 : q_K g a0 = 12) : ∀ (xs0 : Int32) (as1 : Nat) (δ : dp), q_K g as1 = 12 → AWD l D cy m_X12_thief d 0 0 ei g 23 [(0, .ref a0), (1, .int x1)] [.int xs0, .ref as1] δ (J_X12_thief_23 N g a0 x1 xs0 as1 δ) := by
    intro xs0 as1 δ has1
    unfold J_X12_thief_23
    refine w_iconst (v := 1) (μ := m_X12_thief) (pc := 23) dX12_thief_23 (by decide) ?_
    refine w_iconst (v := 2) (μ := m_X12_thief) (pc := 24) dX12_thief_24 (by decide) ?_
    refine w_callV (As := [.int xs0, .int 1, .int 2]) (rest := []) (μ := m_X12_thief) (pc := 25) dX12_thief_25 cv_X12_157 rfl rfl has1 (by decide) rfl (Nat.le_of_ble_eq_true rfl) (d' := d - 1) (by omega) he_i (c_X12_may wt hl (d := d - 1) (by omega) has1) (fun r_4 => ?_)
    refine w_if_ne 33 (μ := m_X12_thief) (pc := 28) dX12_thief_28 (by decide) (fun c_5 => ?_) (fun c_5 => ?_)
    · refine w_aload_n 0 0 (μ := m_X12_thief) (pc := 33) dX12_thief_33 rfl rfl ?_
      refine w_iload_n 1 1 (μ := m_X12_thief) (pc := 34) dX12_thief_34 rfl rfl ?_
      refine w_callV (As := [.int x1]) (rest := []) (μ := m_X12_thief) (pc := 35) dX12_thief_35 cv_X12_161 rfl rfl k0 (by decide) rfl (Nat.le_of_ble_eq_true rfl) (d' := d - 1) (by omega) he_v (c_X12_begins wt hl (d := d - 1) (by omega) k0) (fun r_6 => ?_)
      refine w_aload_n 0 0 (μ := m_X12_thief) (pc := 38) dX12_thief_38 rfl rfl ?_
      refine w_getI (μ := m_X12_thief) (pc := 39) dX12_thief_39 fl_X12_199 ir_12_24 k0 ?_
      refine w_iconst (v := 4) (μ := m_X12_thief) (pc := 42) dX12_thief_42 (by decide) ?_
      refine w_icmp_ne 48 (μ := m_X12_thief) (pc := 43) dX12_thief_43 (by decide) (fun c_7 => ?_) (fun c_7 => ?_)
      · refine w_aload_n 0 0 (μ := m_X12_thief) (pc := 48) dX12_thief_48 rfl rfl ?_
        refine w_iconst (v := 0) (μ := m_X12_thief) (pc := 49) dX12_thief_49 (by decide) ?_
        refine w_putI (μ := m_X12_thief) (pc := 50) dX12_thief_50 fl_X12_241 flw_12_25 ir_12_25 k0 ?_
        refine w_bd (fun δ_8 e_9 => ?_)
        refine w_aload_n 0 0 (μ := m_X12_thief) (pc := 53) dX12_thief_53 rfl rfl ?_
        refine w_iconst (v := 0) (μ := m_X12_thief) (pc := 54) dX12_thief_54 (by decide) ?_
        refine w_putI (μ := m_X12_thief) (pc := 55) dX12_thief_55 fl_X12_202 flw_12_26 ir_12_26 k0 ?_
        refine w_bd (fun δ_10 e_11 => ?_)
        refine w_aload_n 0 0 (μ := m_X12_thief) (pc := 58) dX12_thief_58 rfl rfl ?_
        refine w_iconst (v := 0) (μ := m_X12_thief) (pc := 59) dX12_thief_59 (by decide) ?_
        refine w_putI (μ := m_X12_thief) (pc := 60) dX12_thief_60 fl_X12_244 flw_12_27 ir_12_27 k0 ?_
        refine w_bd (fun δ_12 e_13 => ?_)
        refine w_aload_n 0 0 (μ := m_X12_thief) (pc := 63) dX12_thief_63 rfl rfl ?_
        refine w_callV (As := []) (rest := []) (μ := m_X12_thief) (pc := 64) dX12_thief_64 cv_X12_165 rfl rfl k0 (by decide) rfl (Nat.le_of_ble_eq_true rfl) (d' := d - 1) (by omega) he_i (c_X12_isMore wt hl (d := d - 1) (by omega) k0) (fun r_14 => ?_)
        refine w_if_ne 79 (μ := m_X12_thief) (pc := 67) dX12_thief_67 (by decide) (fun c_15 => ?_) (fun c_15 => ?_)
        · refine w_lv [0] rfl ?_
          exact t_J_X12_thief_79 wt hl (by omega) k0 _
        · refine w_aload_n 0 0 (μ := m_X12_thief) (pc := 70) dX12_thief_70 rfl rfl ?_
          refine w_iconst (v := 1) (μ := m_X12_thief) (pc := 71) dX12_thief_71 (by decide) ?_
          refine w_aload_n 0 0 (μ := m_X12_thief) (pc := 72) dX12_thief_72 rfl rfl ?_
          refine w_getI (μ := m_X12_thief) (pc := 73) dX12_thief_73 fl_X12_121 ir_12_3 k0 ?_
          refine w_callV (As := [.int 1, .int (q_I r_14.2 12 3 a0)]) (rest := []) (μ := m_X12_thief) (pc := 76) dX12_thief_76 cv_X12_148 rfl rfl k0 (by decide) rfl (Nat.le_of_ble_eq_true rfl) (d' := d - 1) (by omega) he_v (c_X12_wrong wt hl (d := d - 1) (by omega) k0) (fun r_30 => ?_)
          refine w_lv [0] rfl ?_
          exact t_J_X12_thief_79 wt hl (by omega) k0 _
      · refine w_iconst (v := (-1)) (μ := m_X12_thief) (pc := 46) dX12_thief_46 (by decide) ?_
        exact w_iret (μ := m_X12_thief) (pc := 47) dX12_thief_47 rfl rfl
    · refine w_iconst (v := 0) (μ := m_X12_thief) (pc := 31) dX12_thief_31 (by decide) ?_
      exact w_iret (μ := m_X12_thief) (pc := 32) dX12_thief_32 rfl rfl
def J_X12_thief_22 (N : Nat) (g : gp) (a0 : Nat) (x1 : Int32) (as0 : Nat) (δ : dp) : Option (Int32 × dp) :=
  J_X12_thief_23 N g a0 x1 0 as0 δ
set_option maxHeartbeats 4000000 in
set_option maxRecDepth 100000 in
theorem t_J_X12_thief_22 {l : Launch} {D : va_G} {cy : Nat → ClassId} {N d : Nat} {g : gp} (wt : WT g) (hl : l.stackTraces = false) (hd : 90 ≤ d) {a0 : Nat} {x1 : Int32} (k0 : q_K g a0 = 12) : ∀ (as0 : Nat) (δ : dp), q_K g as0 = 12 → AWD l D cy m_X12_thief d 0 0 ei g 22 [(0, .ref a0), (1, .int x1)] [.ref as0] δ (J_X12_thief_22 N g a0 x1 as0 δ) := by
    intro as0 δ has0
    unfold J_X12_thief_22
    refine w_iconst (v := 0) (μ := m_X12_thief) (pc := 22) dX12_thief_22 (by decide) ?_
    exact t_J_X12_thief_23 wt hl (by omega) k0 _ _ _ has0
def D_X12_thief (N : Nat) (g : gp) (a0 : Nat) (x1 : Int32) (δ : dp) : Option (Int32 × dp) :=
  bd (s_I δ 12 0 a0 0) fun δ_1 => if x1 < 0 then (J_X12_thief_22 N g a0 x1 a0 δ_1) else (if (q_I δ_1 12 2 a0) < x1 then (J_X12_thief_22 N g a0 x1 a0 δ_1) else (J_X12_thief_23 N g a0 x1 1 a0 δ_1))
set_option maxHeartbeats 4000000 in
set_option maxRecDepth 100000 in
theorem c_X12_thief {l : Launch} {D : va_G} {cy : Nat → ClassId} {N d : Nat} {g : gp} (wt : WT g) (hl : l.stackTraces = false) (hd : 90 ≤ d) {a0 : Nat} {x1 : Int32} {δ : dp} (k0 : q_K g a0 = 12) : CalD l D cy m_X12_thief d 0 0 ei g [.ref a0, .int x1] δ (D_X12_thief N g a0 x1 δ) := by
  refine CalD.of (by decide +kernel) (Nat.le_of_ble_eq_true rfl) hl ?_
  unfold D_X12_thief
  refine w_aload_n 0 0 (μ := m_X12_thief) (pc := 0) dX12_thief_0 rfl rfl ?_
  refine w_iconst (v := 0) (μ := m_X12_thief) (pc := 1) dX12_thief_1 (by decide) ?_
  refine w_putI (μ := m_X12_thief) (pc := 2) dX12_thief_2 fl_X12_1 flw_12_0 ir_12_0 k0 ?_
  refine w_bd (fun δ_1 e_2 => ?_)
  refine w_aload_n 0 0 (μ := m_X12_thief) (pc := 5) dX12_thief_5 rfl rfl ?_
  refine w_iload_n 1 1 (μ := m_X12_thief) (pc := 6) dX12_thief_6 rfl rfl ?_
  refine w_if_lt 22 (μ := m_X12_thief) (pc := 7) dX12_thief_7 (by decide) (fun c_3 => ?_) (fun c_3 => ?_)
  · exact t_J_X12_thief_22 wt hl (by omega) k0 _ _ k0
  · refine w_iload_n 1 1 (μ := m_X12_thief) (pc := 10) dX12_thief_10 rfl rfl ?_
    refine w_aload_n 0 0 (μ := m_X12_thief) (pc := 11) dX12_thief_11 rfl rfl ?_
    refine w_getI (μ := m_X12_thief) (pc := 12) dX12_thief_12 fl_X12_109 ir_12_2 k0 ?_
    refine w_icmp_gt 22 (μ := m_X12_thief) (pc := 15) dX12_thief_15 (by decide) (fun c_31 => ?_) (fun c_31 => ?_)
    · exact t_J_X12_thief_22 wt hl (by omega) k0 _ _ k0
    · refine w_iconst (v := 1) (μ := m_X12_thief) (pc := 18) dX12_thief_18 (by decide) ?_
      refine w_goto 23 (μ := m_X12_thief) (pc := 19) dX12_thief_19 (by decide) ?_
      exact t_J_X12_thief_23 wt hl (by omega) k0 _ _ _ k0
def J_X12_told_67 (N : Nat) (g : gp) (a0 : Nat) (x1 : Int32) (xs0 : Int32) (δ : dp) : Option (Int32 × dp) :=
  some (xs0, δ)
set_option maxHeartbeats 4000000 in
set_option maxRecDepth 100000 in
theorem t_J_X12_told_67 {l : Launch} {D : va_G} {cy : Nat → ClassId} {N d : Nat} {g : gp} (wt : WT g) (hl : l.stackTraces = false) (hd : 2 ≤ d) {a0 : Nat} {x1 : Int32} (k0 : q_K g a0 = 12) : ∀ (xs0 : Int32) (δ : dp), AWD l D cy m_X12_told d 0 0 ei g 67 [] [.int xs0] δ (J_X12_told_67 N g a0 x1 xs0 δ) := by
    intro xs0 δ 
    unfold J_X12_told_67
    exact w_iret (μ := m_X12_told) (pc := 67) dX12_told_67 rfl rfl
def J_X12_told_39 (N : Nat) (g : gp) (a0 : Nat) (x1 : Int32) (xs0 : Int32) (δ : dp) : Option (Int32 × dp) :=
  some (xs0, δ)
set_option maxHeartbeats 4000000 in
set_option maxRecDepth 100000 in
theorem t_J_X12_told_39 {l : Launch} {D : va_G} {cy : Nat → ClassId} {N d : Nat} {g : gp} (wt : WT g) (hl : l.stackTraces = false) (hd : 2 ≤ d) {a0 : Nat} {x1 : Int32} (k0 : q_K g a0 = 12) : ∀ (xs0 : Int32) (δ : dp), AWD l D cy m_X12_told d 0 0 ei g 39 [] [.int xs0] δ (J_X12_told_39 N g a0 x1 xs0 δ) := by
    intro xs0 δ 
    unfold J_X12_told_39
    exact w_iret (μ := m_X12_told) (pc := 39) dX12_told_39 rfl rfl
def D_X12_told (N : Nat) (g : gp) (a0 : Nat) (x1 : Int32) (δ : dp) : Option (Int32 × dp) :=
  bd (s_I δ 12 0 a0 0) fun δ_1 => (D_X12_within N g x1 0 3 δ_1).bind fun r_3 => (D_X12_may N g a0 r_3.1 1 2 r_3.2).bind fun r_4 => if r_4.1 = 0 then (some (0, r_4.2)) else (if x1 = (1 : Int32) then (if (q_I r_4.2 12 12 a0) = 0 then (J_X12_told_39 N g a0 x1 0 r_4.2) else (J_X12_told_39 N g a0 x1 1 r_4.2)) else (if x1 = 0 then (J_X12_told_67 N g a0 x1 (q_I r_4.2 12 10 a0) r_4.2) else (if x1 = (2 : Int32) then (J_X12_told_67 N g a0 x1 (q_I r_4.2 12 11 a0) r_4.2) else (J_X12_told_67 N g a0 x1 (q_I r_4.2 12 24 a0) r_4.2))))
set_option maxHeartbeats 4000000 in
set_option maxRecDepth 100000 in
theorem c_X12_told {l : Launch} {D : va_G} {cy : Nat → ClassId} {N d : Nat} {g : gp} (wt : WT g) (hl : l.stackTraces = false) (hd : 2 ≤ d) {a0 : Nat} {x1 : Int32} {δ : dp} (k0 : q_K g a0 = 12) : CalD l D cy m_X12_told d 0 0 ei g [.ref a0, .int x1] δ (D_X12_told N g a0 x1 δ) := by
  refine CalD.of (by decide +kernel) (Nat.le_of_ble_eq_true rfl) hl ?_
  unfold D_X12_told
  refine w_aload_n 0 0 (μ := m_X12_told) (pc := 0) dX12_told_0 rfl rfl ?_
  refine w_iconst (v := 0) (μ := m_X12_told) (pc := 1) dX12_told_1 (by decide) ?_
  refine w_putI (μ := m_X12_told) (pc := 2) dX12_told_2 fl_X12_1 flw_12_0 ir_12_0 k0 ?_
  refine w_bd (fun δ_1 e_2 => ?_)
  refine w_aload_n 0 0 (μ := m_X12_told) (pc := 5) dX12_told_5 rfl rfl ?_
  refine w_iload_n 1 1 (μ := m_X12_told) (pc := 6) dX12_told_6 rfl rfl ?_
  refine w_iconst (v := 0) (μ := m_X12_told) (pc := 7) dX12_told_7 (by decide) ?_
  refine w_iconst (v := 3) (μ := m_X12_told) (pc := 8) dX12_told_8 (by decide) ?_
  refine w_callS (As := [.int x1, .int 0, .int 3]) (rest := [.ref a0]) (μ := m_X12_told) (pc := 9) dX12_told_9 cs_X12_250 rfl rfl (Nat.le_of_ble_eq_true rfl) (d' := d - 1) (by omega) he_i (c_X12_within wt hl (d := d - 1) (by omega) ) (fun r_3 => ?_)
  refine w_iconst (v := 1) (μ := m_X12_told) (pc := 12) dX12_told_12 (by decide) ?_
  refine w_iconst (v := 2) (μ := m_X12_told) (pc := 13) dX12_told_13 (by decide) ?_
  refine w_callV (As := [.int r_3.1, .int 1, .int 2]) (rest := []) (μ := m_X12_told) (pc := 14) dX12_told_14 cv_X12_157 rfl rfl k0 (by decide) rfl (Nat.le_of_ble_eq_true rfl) (d' := d - 1) (by omega) he_i (c_X12_may wt hl (d := d - 1) (by omega) k0) (fun r_4 => ?_)
  refine w_if_ne 22 (μ := m_X12_told) (pc := 17) dX12_told_17 (by decide) (fun c_5 => ?_) (fun c_5 => ?_)
  · refine w_iload_n 1 1 (μ := m_X12_told) (pc := 22) dX12_told_22 rfl rfl ?_
    refine w_iconst (v := 1) (μ := m_X12_told) (pc := 23) dX12_told_23 (by decide) ?_
    refine w_icmp_ne 40 (μ := m_X12_told) (pc := 24) dX12_told_24 (by decide) (fun c_6 => ?_) (fun c_6 => ?_)
    · refine w_iload_n 1 1 (μ := m_X12_told) (pc := 40) dX12_told_40 rfl rfl ?_
      refine w_if_ne 51 (μ := m_X12_told) (pc := 41) dX12_told_41 (by decide) (fun c_7 => ?_) (fun c_7 => ?_)
      · refine w_iload_n 1 1 (μ := m_X12_told) (pc := 51) dX12_told_51 rfl rfl ?_
        refine w_iconst (v := 2) (μ := m_X12_told) (pc := 52) dX12_told_52 (by decide) ?_
        refine w_icmp_ne 63 (μ := m_X12_told) (pc := 53) dX12_told_53 (by decide) (fun c_8 => ?_) (fun c_8 => ?_)
        · refine w_aload_n 0 0 (μ := m_X12_told) (pc := 63) dX12_told_63 rfl rfl ?_
          refine w_getI (μ := m_X12_told) (pc := 64) dX12_told_64 fl_X12_199 ir_12_24 k0 ?_
          refine w_lv [] rfl ?_
          exact t_J_X12_told_67 wt hl (by omega) k0 _ _
        · refine w_aload_n 0 0 (μ := m_X12_told) (pc := 56) dX12_told_56 rfl rfl ?_
          refine w_getI (μ := m_X12_told) (pc := 57) dX12_told_57 fl_X12_26 ir_12_11 k0 ?_
          refine w_goto 67 (μ := m_X12_told) (pc := 60) dX12_told_60 (by decide) ?_
          refine w_lv [] rfl ?_
          exact t_J_X12_told_67 wt hl (by omega) k0 _ _
      · refine w_aload_n 0 0 (μ := m_X12_told) (pc := 44) dX12_told_44 rfl rfl ?_
        refine w_getI (μ := m_X12_told) (pc := 45) dX12_told_45 fl_X12_23 ir_12_10 k0 ?_
        refine w_goto 67 (μ := m_X12_told) (pc := 48) dX12_told_48 (by decide) ?_
        refine w_lv [] rfl ?_
        exact t_J_X12_told_67 wt hl (by omega) k0 _ _
    · refine w_aload_n 0 0 (μ := m_X12_told) (pc := 27) dX12_told_27 rfl rfl ?_
      refine w_getI (μ := m_X12_told) (pc := 28) dX12_told_28 fl_X12_29 ir_12_12 k0 ?_
      refine w_if_eq 38 (μ := m_X12_told) (pc := 31) dX12_told_31 (by decide) (fun c_9 => ?_) (fun c_9 => ?_)
      · refine w_iconst (v := 0) (μ := m_X12_told) (pc := 38) dX12_told_38 (by decide) ?_
        refine w_lv [] rfl ?_
        exact t_J_X12_told_39 wt hl (by omega) k0 _ _
      · refine w_iconst (v := 1) (μ := m_X12_told) (pc := 34) dX12_told_34 (by decide) ?_
        refine w_goto 39 (μ := m_X12_told) (pc := 35) dX12_told_35 (by decide) ?_
        refine w_lv [] rfl ?_
        exact t_J_X12_told_39 wt hl (by omega) k0 _ _
  · refine w_iconst (v := 0) (μ := m_X12_told) (pc := 20) dX12_told_20 (by decide) ?_
    exact w_iret (μ := m_X12_told) (pc := 21) dX12_told_21 rfl rfl
def J_X12_place_53 (N : Nat) (g : gp) (a0 : Nat) (x1 : Int32) (x2 : Int32) (kt10 : Int32 → Int32 → dp → Option (Int32 × dp)) (x3v : Int32) (x4v : Int32) (δ : dp) : Option (Int32 × dp) :=
  kt10 x3v x4v δ
set_option maxHeartbeats 4000000 in
set_option maxRecDepth 100000 in
theorem t_J_X12_place_53 {l : Launch} {D : va_G} {cy : Nat → ClassId} {N d : Nat} {g : gp} (wt : WT g) (hl : l.stackTraces = false) (hd : 1 ≤ d) {a0 : Nat} {x1 : Int32} {x2 : Int32} (k0 : q_K g a0 = 12) {kt10 : Int32 → Int32 → dp → Option (Int32 × dp)} (hk10 : ∀ (x3v : Int32) (x4v : Int32) (δ : dp), AWD l D cy m_X12_place d 0 0 ei g 10 [(0, .ref a0), (1, .int x1), (2, .int x2), (3, .int x3v), (4, .int x4v)] [] δ (kt10 x3v x4v δ)) : ∀ (x3v : Int32) (x4v : Int32) (δ : dp), AWD l D cy m_X12_place d 0 0 ei g 53 [(0, .ref a0), (1, .int x1), (2, .int x2), (3, .int x3v), (4, .int x4v)] [] δ (J_X12_place_53 N g a0 x1 x2 kt10 x3v x4v δ) := by
    intro x3v x4v δ 
    unfold J_X12_place_53
    refine w_goto 10 (μ := m_X12_place) (pc := 53) dX12_place_53 (by decide) ?_
    exact hk10 _ _ _
def L_X12_place_10 (N : Nat) (g : gp) (a0 : Nat) (x1 : Int32) (x2 : Int32) : Nat → Int32 → Int32 → dp → Option (Int32 × dp)
  | 0, _, _, _ => none
  | n + 1, x3v, x4v, δ => if x4v ≤ x3v then (some (x3v, δ)) else (bi ((x3v + x4v) / 2) fun x_6 => (q_O g 12 13 a0).bind fun b_8 => if ((2000 * x1) + x_6) < 0 ∨ q_N g b_8 ≤ ((2000 * x1) + x_6).toNatClampNeg then none else if x2 ≤ (q_R δ b_8 ((2000 * x1) + x_6).toNatClampNeg) then (J_X12_place_53 N g a0 x1 x2 (L_X12_place_10 N g a0 x1 x2 n) x3v x_6 δ) else (bi (x_6 + 1) fun x_11 => J_X12_place_53 N g a0 x1 x2 (L_X12_place_10 N g a0 x1 x2 n) x_11 x4v δ))
set_option maxHeartbeats 4000000 in
set_option maxRecDepth 100000 in
theorem t_L_X12_place_10 {l : Launch} {D : va_G} {cy : Nat → ClassId} {N d : Nat} {g : gp} (wt : WT g) (hl : l.stackTraces = false) (hd : 1 ≤ d) {a0 : Nat} {x1 : Int32} {x2 : Int32} (k0 : q_K g a0 = 12) : ∀ (n : Nat) (x3v : Int32) (x4v : Int32) (δ : dp), AWD l D cy m_X12_place d 0 0 ei g 10 [(0, .ref a0), (1, .int x1), (2, .int x2), (3, .int x3v), (4, .int x4v)] [] δ (L_X12_place_10 N g a0 x1 x2 n x3v x4v δ) := by
  intro n
  induction n with
  | zero => intro x3v x4v δ ; exact w_none
  | succ n ih =>
    intro x3v x4v δ 
    unfold L_X12_place_10
    refine w_iload_n 3 3 (μ := m_X12_place) (pc := 10) dX12_place_10 rfl rfl ?_
    refine w_iload 4 (μ := m_X12_place) (pc := 11) dX12_place_11 rfl ?_
    refine w_icmp_ge 56 (μ := m_X12_place) (pc := 13) dX12_place_13 (by decide) (fun c_5 => ?_) (fun c_5 => ?_)
    · refine w_iload_n 3 3 (μ := m_X12_place) (pc := 56) dX12_place_56 rfl rfl ?_
      exact w_iret (μ := m_X12_place) (pc := 57) dX12_place_57 rfl rfl
    · refine w_iload_n 3 3 (μ := m_X12_place) (pc := 16) dX12_place_16 rfl rfl ?_
      refine w_iload 4 (μ := m_X12_place) (pc := 17) dX12_place_17 rfl ?_
      refine w_iadd (μ := m_X12_place) (pc := 19) dX12_place_19 ?_
      refine w_iconst (v := 2) (μ := m_X12_place) (pc := 20) dX12_place_20 (by decide) ?_
      refine w_idiv (μ := m_X12_place) (pc := 21) dX12_place_21 (by decide) ?_
      refine w_bi (fun x_6 e_7 => ?_)
      refine w_istore [(5, .int x_6), (0, .ref a0), (1, .int x1), (2, .int x2), (3, .int x3v), (4, .int x4v)] (μ := m_X12_place) (pc := 22) dX12_place_22 (by decide) rfl ?_
      refine w_aload_n 1 0 (μ := m_X12_place) (pc := 24) dX12_place_24 rfl rfl ?_
      refine w_getO (μ := m_X12_place) (pc := 25) dX12_place_25 fl_X12_33 ir_12_13 id_12_13 k0 (fun b_8 e_9 => ?_)
      refine w_sipush (v := 2000) (μ := m_X12_place) (pc := 28) dX12_place_28 (by decide) ?_
      refine w_iload_n 2 1 (μ := m_X12_place) (pc := 31) dX12_place_31 rfl rfl ?_
      refine w_imul (μ := m_X12_place) (pc := 32) dX12_place_32 ?_
      refine w_iload 0 (μ := m_X12_place) (pc := 33) dX12_place_33 rfl ?_
      refine w_iadd (μ := m_X12_place) (pc := 35) dX12_place_35 ?_
      refine w_ald (μ := m_X12_place) (pc := 36) dX12_place_36 (wt_12_13 wt k0 e_9) ?_
      refine w_iload_n 3 2 (μ := m_X12_place) (pc := 37) dX12_place_37 rfl rfl ?_
      refine w_icmp_ge 49 (μ := m_X12_place) (pc := 38) dX12_place_38 (by decide) (fun c_10 => ?_) (fun c_10 => ?_)
      · refine w_iload 0 (μ := m_X12_place) (pc := 49) dX12_place_49 rfl ?_
        refine w_istore [(4, .int x_6), (5, .int x_6), (0, .ref a0), (1, .int x1), (2, .int x2), (3, .int x3v)] (μ := m_X12_place) (pc := 51) dX12_place_51 (by decide) rfl ?_
        refine w_lv [2, 3, 4, 5, 0] rfl ?_
        exact t_J_X12_place_53 wt hl (by omega) k0 ih _ _ _
      · refine w_iload 0 (μ := m_X12_place) (pc := 41) dX12_place_41 rfl ?_
        refine w_iconst (v := 1) (μ := m_X12_place) (pc := 43) dX12_place_43 (by decide) ?_
        refine w_iadd (μ := m_X12_place) (pc := 44) dX12_place_44 ?_
        refine w_bi (fun x_11 e_12 => ?_)
        refine w_istore_n [(3, .int x_11), (5, .int x_6), (0, .ref a0), (1, .int x1), (2, .int x2), (4, .int x4v)] (μ := m_X12_place) (pc := 45) dX12_place_45 rfl (by decide) rfl ?_
        refine w_goto 53 (μ := m_X12_place) (pc := 46) dX12_place_46 (by decide) ?_
        refine w_lv [2, 3, 4, 0, 5] rfl ?_
        exact t_J_X12_place_53 wt hl (by omega) k0 ih _ _ _
def D_X12_place (N : Nat) (g : gp) (a0 : Nat) (x1 : Int32) (x2 : Int32) (δ : dp) : Option (Int32 × dp) :=
  (q_O g 12 14 a0).bind fun b_1 => if x1 < 0 ∨ q_N g b_1 ≤ x1.toNatClampNeg then none else bi (q_R δ b_1 x1.toNatClampNeg) fun x_3 => L_X12_place_10 N g a0 x1 x2 N 0 x_3 δ
set_option maxHeartbeats 4000000 in
set_option maxRecDepth 100000 in
theorem c_X12_place {l : Launch} {D : va_G} {cy : Nat → ClassId} {N d : Nat} {g : gp} (wt : WT g) (hl : l.stackTraces = false) (hd : 1 ≤ d) {a0 : Nat} {x1 : Int32} {x2 : Int32} {δ : dp} (k0 : q_K g a0 = 12) : CalD l D cy m_X12_place d 0 0 ei g [.ref a0, .int x1, .int x2] δ (D_X12_place N g a0 x1 x2 δ) := by
  refine CalD.of (by decide +kernel) (Nat.le_of_ble_eq_true rfl) hl ?_
  unfold D_X12_place
  refine w_iconst (v := 0) (μ := m_X12_place) (pc := 0) dX12_place_0 (by decide) ?_
  refine w_istore_n [(3, .int 0), (0, .ref a0), (1, .int x1), (2, .int x2)] (μ := m_X12_place) (pc := 1) dX12_place_1 rfl (by decide) rfl ?_
  refine w_aload_n 1 0 (μ := m_X12_place) (pc := 2) dX12_place_2 rfl rfl ?_
  refine w_getO (μ := m_X12_place) (pc := 3) dX12_place_3 fl_X12_36 ir_12_14 id_12_14 k0 (fun b_1 e_2 => ?_)
  refine w_iload_n 2 1 (μ := m_X12_place) (pc := 6) dX12_place_6 rfl rfl ?_
  refine w_ald (μ := m_X12_place) (pc := 7) dX12_place_7 (wt_12_14 wt k0 e_2) ?_
  refine w_bi (fun x_3 e_4 => ?_)
  refine w_istore [(4, .int x_3), (3, .int 0), (0, .ref a0), (1, .int x1), (2, .int x2)] (μ := m_X12_place) (pc := 8) dX12_place_8 (by decide) rfl ?_
  refine w_lv [2, 3, 4, 1, 0] rfl ?_
  exact t_L_X12_place_10 wt hl (by omega) k0 N _ _ _
def J_X12_isThere_38 (N : Nat) (g : gp) (a0 : Nat) (x1 : Int32) (x2 : Int32) (xs0 : Int32) (δ : dp) : Option (Int32 × dp) :=
  if xs0 = 0 ∨ xs0 = 1 then some (xs0, δ) else none
set_option maxHeartbeats 4000000 in
set_option maxRecDepth 100000 in
theorem t_J_X12_isThere_38 {l : Launch} {D : va_G} {cy : Nat → ClassId} {N d : Nat} {g : gp} (wt : WT g) (hl : l.stackTraces = false) (hd : 2 ≤ d) {a0 : Nat} {x1 : Int32} {x2 : Int32} (k0 : q_K g a0 = 12) : ∀ (xs0 : Int32) (δ : dp), AWD l D cy m_X12_isThere d 0 0 ei g 38 [] [.int xs0] δ (J_X12_isThere_38 N g a0 x1 x2 xs0 δ) := by
    intro xs0 δ 
    unfold J_X12_isThere_38
    exact w_zret (μ := m_X12_isThere) (pc := 38) dX12_isThere_38 rfl rfl
def J_X12_isThere_37 (N : Nat) (g : gp) (a0 : Nat) (x1 : Int32) (x2 : Int32) (δ : dp) : Option (Int32 × dp) :=
  J_X12_isThere_38 N g a0 x1 x2 0 δ
set_option maxHeartbeats 4000000 in
set_option maxRecDepth 100000 in
theorem t_J_X12_isThere_37 {l : Launch} {D : va_G} {cy : Nat → ClassId} {N d : Nat} {g : gp} (wt : WT g) (hl : l.stackTraces = false) (hd : 2 ≤ d) {a0 : Nat} {x1 : Int32} {x2 : Int32} (k0 : q_K g a0 = 12) : ∀ (δ : dp), AWD l D cy m_X12_isThere d 0 0 ei g 37 [] [] δ (J_X12_isThere_37 N g a0 x1 x2 δ) := by
    intro  δ 
    unfold J_X12_isThere_37
    refine w_iconst (v := 0) (μ := m_X12_isThere) (pc := 37) dX12_isThere_37 (by decide) ?_
    exact t_J_X12_isThere_38 wt hl (by omega) k0 _ _
def D_X12_isThere (N : Nat) (g : gp) (a0 : Nat) (x1 : Int32) (x2 : Int32) (δ : dp) : Option (Int32 × dp) :=
  (D_X12_place N g a0 x1 x2 δ).bind fun r_1 => (q_O g 12 14 a0).bind fun b_2 => if x1 < 0 ∨ q_N g b_2 ≤ x1.toNatClampNeg then none else if (q_R r_1.2 b_2 x1.toNatClampNeg) ≤ r_1.1 then (J_X12_isThere_37 N g a0 x1 x2 r_1.2) else ((q_O g 12 13 a0).bind fun b_5 => if ((2000 * x1) + r_1.1) < 0 ∨ q_N g b_5 ≤ ((2000 * x1) + r_1.1).toNatClampNeg then none else if (q_R r_1.2 b_5 ((2000 * x1) + r_1.1).toNatClampNeg) = x2 then (J_X12_isThere_38 N g a0 x1 x2 1 r_1.2) else (J_X12_isThere_37 N g a0 x1 x2 r_1.2))
set_option maxHeartbeats 4000000 in
set_option maxRecDepth 100000 in
theorem c_X12_isThere {l : Launch} {D : va_G} {cy : Nat → ClassId} {N d : Nat} {g : gp} (wt : WT g) (hl : l.stackTraces = false) (hd : 2 ≤ d) {a0 : Nat} {x1 : Int32} {x2 : Int32} {δ : dp} (k0 : q_K g a0 = 12) : CalD l D cy m_X12_isThere d 0 0 ei g [.ref a0, .int x1, .int x2] δ (D_X12_isThere N g a0 x1 x2 δ) := by
  refine CalD.of (by decide +kernel) (Nat.le_of_ble_eq_true rfl) hl ?_
  unfold D_X12_isThere
  refine w_aload_n 0 0 (μ := m_X12_isThere) (pc := 0) dX12_isThere_0 rfl rfl ?_
  refine w_iload_n 1 1 (μ := m_X12_isThere) (pc := 1) dX12_isThere_1 rfl rfl ?_
  refine w_iload_n 2 2 (μ := m_X12_isThere) (pc := 2) dX12_isThere_2 rfl rfl ?_
  refine w_callV (As := [.int x1, .int x2]) (rest := []) (μ := m_X12_isThere) (pc := 3) dX12_isThere_3 cv_X12_254 rfl rfl k0 (by decide) rfl (Nat.le_of_ble_eq_true rfl) (d' := d - 1) (by omega) he_i (c_X12_place wt hl (d := d - 1) (by omega) k0) (fun r_1 => ?_)
  refine w_istore_n [(3, .int r_1.1), (0, .ref a0), (1, .int x1), (2, .int x2)] (μ := m_X12_isThere) (pc := 6) dX12_isThere_6 rfl (by decide) rfl ?_
  refine w_iload_n 0 3 (μ := m_X12_isThere) (pc := 7) dX12_isThere_7 rfl rfl ?_
  refine w_aload_n 1 0 (μ := m_X12_isThere) (pc := 8) dX12_isThere_8 rfl rfl ?_
  refine w_getO (μ := m_X12_isThere) (pc := 9) dX12_isThere_9 fl_X12_36 ir_12_14 id_12_14 k0 (fun b_2 e_3 => ?_)
  refine w_iload_n 2 1 (μ := m_X12_isThere) (pc := 12) dX12_isThere_12 rfl rfl ?_
  refine w_ald (μ := m_X12_isThere) (pc := 13) dX12_isThere_13 (wt_12_14 wt k0 e_3) ?_
  refine w_icmp_ge 37 (μ := m_X12_isThere) (pc := 14) dX12_isThere_14 (by decide) (fun c_4 => ?_) (fun c_4 => ?_)
  · refine w_lv [] rfl ?_
    exact t_J_X12_isThere_37 wt hl (by omega) k0 _
  · refine w_aload_n 1 0 (μ := m_X12_isThere) (pc := 17) dX12_isThere_17 rfl rfl ?_
    refine w_getO (μ := m_X12_isThere) (pc := 18) dX12_isThere_18 fl_X12_33 ir_12_13 id_12_13 k0 (fun b_5 e_6 => ?_)
    refine w_sipush (v := 2000) (μ := m_X12_isThere) (pc := 21) dX12_isThere_21 (by decide) ?_
    refine w_iload_n 2 1 (μ := m_X12_isThere) (pc := 24) dX12_isThere_24 rfl rfl ?_
    refine w_imul (μ := m_X12_isThere) (pc := 25) dX12_isThere_25 ?_
    refine w_iload_n 0 3 (μ := m_X12_isThere) (pc := 26) dX12_isThere_26 rfl rfl ?_
    refine w_iadd (μ := m_X12_isThere) (pc := 27) dX12_isThere_27 ?_
    refine w_ald (μ := m_X12_isThere) (pc := 28) dX12_isThere_28 (wt_12_13 wt k0 e_6) ?_
    refine w_iload_n 3 2 (μ := m_X12_isThere) (pc := 29) dX12_isThere_29 rfl rfl ?_
    refine w_icmp_ne 37 (μ := m_X12_isThere) (pc := 30) dX12_isThere_30 (by decide) (fun c_7 => ?_) (fun c_7 => ?_)
    · refine w_lv [] rfl ?_
      exact t_J_X12_isThere_37 wt hl (by omega) k0 _
    · refine w_iconst (v := 1) (μ := m_X12_isThere) (pc := 33) dX12_isThere_33 (by decide) ?_
      refine w_goto 38 (μ := m_X12_isThere) (pc := 34) dX12_isThere_34 (by decide) ?_
      refine w_lv [] rfl ?_
      exact t_J_X12_isThere_38 wt hl (by omega) k0 _ _
def L_X12_comes_27 (N : Nat) (g : gp) (a0 : Nat) (x1 : Int32) (x2 : Int32) : Nat → Int32 → Int32 → dp → Option (dp)
  | 0, _, _, _ => none
  | n + 1, x3v, x4v, δ => if x4v ≤ x3v then ((q_O g 12 13 a0).bind fun b_9 => if x3v < 0 ∨ q_N g b_9 ≤ x3v.toNatClampNeg then none else bd (s_R δ b_9 x3v.toNatClampNeg x2) fun δ_11 => (q_O g 12 14 a0).bind fun b_13 => if x1 < 0 ∨ q_N g b_13 ≤ x1.toNatClampNeg then none else if x1 < 0 ∨ q_N g b_13 ≤ x1.toNatClampNeg then none else bd (s_R δ_11 b_13 x1.toNatClampNeg ((q_R δ_11 b_13 x1.toNatClampNeg) + 1)) fun δ_15 => some δ_15) else ((q_O g 12 13 a0).bind fun b_17 => (q_O g 12 13 a0).bind fun b_19 => if (x4v - 1) < 0 ∨ q_N g b_19 ≤ (x4v - 1).toNatClampNeg then none else if x4v < 0 ∨ q_N g b_17 ≤ x4v.toNatClampNeg then none else bd (s_R δ b_17 x4v.toNatClampNeg (q_R δ b_19 (x4v - 1).toNatClampNeg)) fun δ_21 => bi (x4v + (-1)) fun x_23 => L_X12_comes_27 N g a0 x1 x2 n x3v x_23 δ_21)
set_option maxHeartbeats 4000000 in
set_option maxRecDepth 100000 in
theorem t_L_X12_comes_27 {l : Launch} {D : va_G} {cy : Nat → ClassId} {N d : Nat} {g : gp} (wt : WT g) (hl : l.stackTraces = false) (hd : 2 ≤ d) {a0 : Nat} {x1 : Int32} {x2 : Int32} (k0 : q_K g a0 = 12) : ∀ (n : Nat) (x3v : Int32) (x4v : Int32) (δ : dp), AWD l D cy m_X12_comes d 0 0 ev g 27 [(0, .ref a0), (1, .int x1), (2, .int x2), (3, .int x3v), (4, .int x4v)] [] δ (L_X12_comes_27 N g a0 x1 x2 n x3v x4v δ) := by
  intro n
  induction n with
  | zero => intro x3v x4v δ ; exact w_none
  | succ n ih =>
    intro x3v x4v δ 
    unfold L_X12_comes_27
    refine w_iload 4 (μ := m_X12_comes) (pc := 27) dX12_comes_27 rfl ?_
    refine w_iload_n 3 3 (μ := m_X12_comes) (pc := 29) dX12_comes_29 rfl rfl ?_
    refine w_icmp_le 55 (μ := m_X12_comes) (pc := 30) dX12_comes_30 (by decide) (fun c_8 => ?_) (fun c_8 => ?_)
    · refine w_aload_n 0 0 (μ := m_X12_comes) (pc := 55) dX12_comes_55 rfl rfl ?_
      refine w_getO (μ := m_X12_comes) (pc := 56) dX12_comes_56 fl_X12_33 ir_12_13 id_12_13 k0 (fun b_9 e_10 => ?_)
      refine w_iload_n 3 3 (μ := m_X12_comes) (pc := 59) dX12_comes_59 rfl rfl ?_
      refine w_iload_n 2 2 (μ := m_X12_comes) (pc := 60) dX12_comes_60 rfl rfl ?_
      refine w_ast (μ := m_X12_comes) (pc := 61) dX12_comes_61 (wt_12_13 wt k0 e_10) ?_
      refine w_bd (fun δ_11 e_12 => ?_)
      refine w_aload_n 0 0 (μ := m_X12_comes) (pc := 62) dX12_comes_62 rfl rfl ?_
      refine w_getO (μ := m_X12_comes) (pc := 63) dX12_comes_63 fl_X12_36 ir_12_14 id_12_14 k0 (fun b_13 e_14 => ?_)
      refine w_iload_n 1 1 (μ := m_X12_comes) (pc := 66) dX12_comes_66 rfl rfl ?_
      refine w_dup2 (μ := m_X12_comes) (pc := 67) dX12_comes_67 rfl rfl ?_
      refine w_ald (μ := m_X12_comes) (pc := 68) dX12_comes_68 (wt_12_14 wt k0 e_14) ?_
      refine w_iconst (v := 1) (μ := m_X12_comes) (pc := 69) dX12_comes_69 (by decide) ?_
      refine w_iadd (μ := m_X12_comes) (pc := 70) dX12_comes_70 ?_
      refine w_ast (μ := m_X12_comes) (pc := 71) dX12_comes_71 (wt_12_14 wt k0 e_14) ?_
      refine w_bd (fun δ_15 e_16 => ?_)
      exact w_vret (μ := m_X12_comes) (pc := 72) dX12_comes_72 rfl rfl
    · refine w_aload_n 0 0 (μ := m_X12_comes) (pc := 33) dX12_comes_33 rfl rfl ?_
      refine w_getO (μ := m_X12_comes) (pc := 34) dX12_comes_34 fl_X12_33 ir_12_13 id_12_13 k0 (fun b_17 e_18 => ?_)
      refine w_iload 4 (μ := m_X12_comes) (pc := 37) dX12_comes_37 rfl ?_
      refine w_aload_n 0 0 (μ := m_X12_comes) (pc := 39) dX12_comes_39 rfl rfl ?_
      refine w_getO (μ := m_X12_comes) (pc := 40) dX12_comes_40 fl_X12_33 ir_12_13 id_12_13 k0 (fun b_19 e_20 => ?_)
      refine w_iload 4 (μ := m_X12_comes) (pc := 43) dX12_comes_43 rfl ?_
      refine w_iconst (v := 1) (μ := m_X12_comes) (pc := 45) dX12_comes_45 (by decide) ?_
      refine w_isub (μ := m_X12_comes) (pc := 46) dX12_comes_46 ?_
      refine w_ald (μ := m_X12_comes) (pc := 47) dX12_comes_47 (wt_12_13 wt k0 e_20) ?_
      refine w_ast (μ := m_X12_comes) (pc := 48) dX12_comes_48 (wt_12_13 wt k0 e_18) ?_
      refine w_bd (fun δ_21 e_22 => ?_)
      refine w_inb (fun x_23 e_24 => ?_)
      refine w_iinc 4 [(4, .int x_23), (0, .ref a0), (1, .int x1), (2, .int x2), (3, .int x3v)] (μ := m_X12_comes) (pc := 49) dX12_comes_49 rfl (by rw [e_24]; rfl) (by decide) rfl ?_
      refine w_goto 27 (μ := m_X12_comes) (pc := 52) dX12_comes_52 (by decide) ?_
      refine w_lv [1, 2, 3, 4, 0] rfl ?_
      exact ih _ _ _
def D_X12_comes (N : Nat) (g : gp) (a0 : Nat) (x1 : Int32) (x2 : Int32) (δ : dp) : Option (dp) :=
  (D_X12_place N g a0 x1 x2 δ).bind fun r_1 => bi ((2000 * x1) + r_1.1) fun x_2 => (q_O g 12 14 a0).bind fun b_4 => if x1 < 0 ∨ q_N g b_4 ≤ x1.toNatClampNeg then none else bi ((2000 * x1) + (q_R r_1.2 b_4 x1.toNatClampNeg)) fun x_6 => L_X12_comes_27 N g a0 x1 x2 N x_2 x_6 r_1.2
set_option maxHeartbeats 4000000 in
set_option maxRecDepth 100000 in
theorem c_X12_comes {l : Launch} {D : va_G} {cy : Nat → ClassId} {N d : Nat} {g : gp} (wt : WT g) (hl : l.stackTraces = false) (hd : 2 ≤ d) {a0 : Nat} {x1 : Int32} {x2 : Int32} {δ : dp} (k0 : q_K g a0 = 12) : CalD l D cy m_X12_comes d 0 0 ev g [.ref a0, .int x1, .int x2] δ (D_X12_comes N g a0 x1 x2 δ) := by
  refine CalD.of (by decide +kernel) (Nat.le_of_ble_eq_true rfl) hl ?_
  unfold D_X12_comes
  refine w_sipush (v := 2000) (μ := m_X12_comes) (pc := 0) dX12_comes_0 (by decide) ?_
  refine w_iload_n 1 1 (μ := m_X12_comes) (pc := 3) dX12_comes_3 rfl rfl ?_
  refine w_imul (μ := m_X12_comes) (pc := 4) dX12_comes_4 ?_
  refine w_aload_n 0 0 (μ := m_X12_comes) (pc := 5) dX12_comes_5 rfl rfl ?_
  refine w_iload_n 1 1 (μ := m_X12_comes) (pc := 6) dX12_comes_6 rfl rfl ?_
  refine w_iload_n 2 2 (μ := m_X12_comes) (pc := 7) dX12_comes_7 rfl rfl ?_
  refine w_callV (As := [.int x1, .int x2]) (rest := [.int (2000 * x1)]) (μ := m_X12_comes) (pc := 8) dX12_comes_8 cv_X12_254 rfl rfl k0 (by decide) rfl (Nat.le_of_ble_eq_true rfl) (d' := d - 1) (by omega) he_i (c_X12_place wt hl (d := d - 1) (by omega) k0) (fun r_1 => ?_)
  refine w_iadd (μ := m_X12_comes) (pc := 11) dX12_comes_11 ?_
  refine w_bi (fun x_2 e_3 => ?_)
  refine w_istore_n [(3, .int x_2), (0, .ref a0), (1, .int x1), (2, .int x2)] (μ := m_X12_comes) (pc := 12) dX12_comes_12 rfl (by decide) rfl ?_
  refine w_sipush (v := 2000) (μ := m_X12_comes) (pc := 13) dX12_comes_13 (by decide) ?_
  refine w_iload_n 2 1 (μ := m_X12_comes) (pc := 16) dX12_comes_16 rfl rfl ?_
  refine w_imul (μ := m_X12_comes) (pc := 17) dX12_comes_17 ?_
  refine w_aload_n 1 0 (μ := m_X12_comes) (pc := 18) dX12_comes_18 rfl rfl ?_
  refine w_getO (μ := m_X12_comes) (pc := 19) dX12_comes_19 fl_X12_36 ir_12_14 id_12_14 k0 (fun b_4 e_5 => ?_)
  refine w_iload_n 2 1 (μ := m_X12_comes) (pc := 22) dX12_comes_22 rfl rfl ?_
  refine w_ald (μ := m_X12_comes) (pc := 23) dX12_comes_23 (wt_12_14 wt k0 e_5) ?_
  refine w_iadd (μ := m_X12_comes) (pc := 24) dX12_comes_24 ?_
  refine w_bi (fun x_6 e_7 => ?_)
  refine w_istore [(4, .int x_6), (3, .int x_2), (0, .ref a0), (1, .int x1), (2, .int x2)] (μ := m_X12_comes) (pc := 25) dX12_comes_25 (by decide) rfl ?_
  refine w_lv [2, 3, 4, 1, 0] rfl ?_
  exact t_L_X12_comes_27 wt hl (by omega) k0 N _ _ _
def L_X12_leaves_23 (N : Nat) (g : gp) (a0 : Nat) (x1 : Int32) (x2 : Int32) : Nat → Int32 → dp → Option (dp)
  | 0, _, _ => none
  | n + 1, x3v, δ => (q_O g 12 14 a0).bind fun b_8 => if x1 < 0 ∨ q_N g b_8 ≤ x1.toNatClampNeg then none else if ((2000 * x1) + (q_R δ b_8 x1.toNatClampNeg)) ≤ x3v then (some δ) else ((q_O g 12 13 a0).bind fun b_11 => (q_O g 12 13 a0).bind fun b_13 => if (x3v + 1) < 0 ∨ q_N g b_13 ≤ (x3v + 1).toNatClampNeg then none else if x3v < 0 ∨ q_N g b_11 ≤ x3v.toNatClampNeg then none else bd (s_R δ b_11 x3v.toNatClampNeg (q_R δ b_13 (x3v + 1).toNatClampNeg)) fun δ_15 => bi (x3v + 1) fun x_17 => L_X12_leaves_23 N g a0 x1 x2 n x_17 δ_15)
set_option maxHeartbeats 4000000 in
set_option maxRecDepth 100000 in
theorem t_L_X12_leaves_23 {l : Launch} {D : va_G} {cy : Nat → ClassId} {N d : Nat} {g : gp} (wt : WT g) (hl : l.stackTraces = false) (hd : 2 ≤ d) {a0 : Nat} {x1 : Int32} {x2 : Int32} (k0 : q_K g a0 = 12) : ∀ (n : Nat) (x3v : Int32) (δ : dp), AWD l D cy m_X12_leaves d 0 0 ev g 23 [(0, .ref a0), (1, .int x1), (3, .int x3v)] [] δ (L_X12_leaves_23 N g a0 x1 x2 n x3v δ) := by
  intro n
  induction n with
  | zero => intro x3v δ ; exact w_none
  | succ n ih =>
    intro x3v δ 
    unfold L_X12_leaves_23
    refine w_iload_n 2 3 (μ := m_X12_leaves) (pc := 23) dX12_leaves_23 rfl rfl ?_
    refine w_sipush (v := 2000) (μ := m_X12_leaves) (pc := 24) dX12_leaves_24 (by decide) ?_
    refine w_iload_n 1 1 (μ := m_X12_leaves) (pc := 27) dX12_leaves_27 rfl rfl ?_
    refine w_imul (μ := m_X12_leaves) (pc := 28) dX12_leaves_28 ?_
    refine w_aload_n 0 0 (μ := m_X12_leaves) (pc := 29) dX12_leaves_29 rfl rfl ?_
    refine w_getO (μ := m_X12_leaves) (pc := 30) dX12_leaves_30 fl_X12_36 ir_12_14 id_12_14 k0 (fun b_8 e_9 => ?_)
    refine w_iload_n 1 1 (μ := m_X12_leaves) (pc := 33) dX12_leaves_33 rfl rfl ?_
    refine w_ald (μ := m_X12_leaves) (pc := 34) dX12_leaves_34 (wt_12_14 wt k0 e_9) ?_
    refine w_iadd (μ := m_X12_leaves) (pc := 35) dX12_leaves_35 ?_
    refine w_icmp_ge 59 (μ := m_X12_leaves) (pc := 36) dX12_leaves_36 (by decide) (fun c_10 => ?_) (fun c_10 => ?_)
    · exact w_vret (μ := m_X12_leaves) (pc := 59) dX12_leaves_59 rfl rfl
    · refine w_aload_n 0 0 (μ := m_X12_leaves) (pc := 39) dX12_leaves_39 rfl rfl ?_
      refine w_getO (μ := m_X12_leaves) (pc := 40) dX12_leaves_40 fl_X12_33 ir_12_13 id_12_13 k0 (fun b_11 e_12 => ?_)
      refine w_iload_n 2 3 (μ := m_X12_leaves) (pc := 43) dX12_leaves_43 rfl rfl ?_
      refine w_aload_n 0 0 (μ := m_X12_leaves) (pc := 44) dX12_leaves_44 rfl rfl ?_
      refine w_getO (μ := m_X12_leaves) (pc := 45) dX12_leaves_45 fl_X12_33 ir_12_13 id_12_13 k0 (fun b_13 e_14 => ?_)
      refine w_iload_n 2 3 (μ := m_X12_leaves) (pc := 48) dX12_leaves_48 rfl rfl ?_
      refine w_iconst (v := 1) (μ := m_X12_leaves) (pc := 49) dX12_leaves_49 (by decide) ?_
      refine w_iadd (μ := m_X12_leaves) (pc := 50) dX12_leaves_50 ?_
      refine w_ald (μ := m_X12_leaves) (pc := 51) dX12_leaves_51 (wt_12_13 wt k0 e_14) ?_
      refine w_ast (μ := m_X12_leaves) (pc := 52) dX12_leaves_52 (wt_12_13 wt k0 e_12) ?_
      refine w_bd (fun δ_15 e_16 => ?_)
      refine w_inb (fun x_17 e_18 => ?_)
      refine w_iinc 2 [(3, .int x_17), (0, .ref a0), (1, .int x1)] (μ := m_X12_leaves) (pc := 53) dX12_leaves_53 rfl (by rw [e_18]; rfl) (by decide) rfl ?_
      refine w_goto 23 (μ := m_X12_leaves) (pc := 56) dX12_leaves_56 (by decide) ?_
      refine w_lv [1, 2, 0] rfl ?_
      exact ih _ _
def D_X12_leaves (N : Nat) (g : gp) (a0 : Nat) (x1 : Int32) (x2 : Int32) (δ : dp) : Option (dp) :=
  (q_O g 12 14 a0).bind fun b_1 => if x1 < 0 ∨ q_N g b_1 ≤ x1.toNatClampNeg then none else if x1 < 0 ∨ q_N g b_1 ≤ x1.toNatClampNeg then none else bd (s_R δ b_1 x1.toNatClampNeg ((q_R δ b_1 x1.toNatClampNeg) - 1)) fun δ_3 => (D_X12_place N g a0 x1 x2 δ_3).bind fun r_5 => bi ((2000 * x1) + r_5.1) fun x_6 => L_X12_leaves_23 N g a0 x1 x2 N x_6 r_5.2
set_option maxHeartbeats 4000000 in
set_option maxRecDepth 100000 in
theorem c_X12_leaves {l : Launch} {D : va_G} {cy : Nat → ClassId} {N d : Nat} {g : gp} (wt : WT g) (hl : l.stackTraces = false) (hd : 2 ≤ d) {a0 : Nat} {x1 : Int32} {x2 : Int32} {δ : dp} (k0 : q_K g a0 = 12) : CalD l D cy m_X12_leaves d 0 0 ev g [.ref a0, .int x1, .int x2] δ (D_X12_leaves N g a0 x1 x2 δ) := by
  refine CalD.of (by decide +kernel) (Nat.le_of_ble_eq_true rfl) hl ?_
  unfold D_X12_leaves
  refine w_aload_n 0 0 (μ := m_X12_leaves) (pc := 0) dX12_leaves_0 rfl rfl ?_
  refine w_getO (μ := m_X12_leaves) (pc := 1) dX12_leaves_1 fl_X12_36 ir_12_14 id_12_14 k0 (fun b_1 e_2 => ?_)
  refine w_iload_n 1 1 (μ := m_X12_leaves) (pc := 4) dX12_leaves_4 rfl rfl ?_
  refine w_dup2 (μ := m_X12_leaves) (pc := 5) dX12_leaves_5 rfl rfl ?_
  refine w_ald (μ := m_X12_leaves) (pc := 6) dX12_leaves_6 (wt_12_14 wt k0 e_2) ?_
  refine w_iconst (v := 1) (μ := m_X12_leaves) (pc := 7) dX12_leaves_7 (by decide) ?_
  refine w_isub (μ := m_X12_leaves) (pc := 8) dX12_leaves_8 ?_
  refine w_ast (μ := m_X12_leaves) (pc := 9) dX12_leaves_9 (wt_12_14 wt k0 e_2) ?_
  refine w_bd (fun δ_3 e_4 => ?_)
  refine w_sipush (v := 2000) (μ := m_X12_leaves) (pc := 10) dX12_leaves_10 (by decide) ?_
  refine w_iload_n 1 1 (μ := m_X12_leaves) (pc := 13) dX12_leaves_13 rfl rfl ?_
  refine w_imul (μ := m_X12_leaves) (pc := 14) dX12_leaves_14 ?_
  refine w_aload_n 0 0 (μ := m_X12_leaves) (pc := 15) dX12_leaves_15 rfl rfl ?_
  refine w_iload_n 1 1 (μ := m_X12_leaves) (pc := 16) dX12_leaves_16 rfl rfl ?_
  refine w_iload_n 2 2 (μ := m_X12_leaves) (pc := 17) dX12_leaves_17 rfl rfl ?_
  refine w_callV (As := [.int x1, .int x2]) (rest := [.int (2000 * x1)]) (μ := m_X12_leaves) (pc := 18) dX12_leaves_18 cv_X12_254 rfl rfl k0 (by decide) rfl (Nat.le_of_ble_eq_true rfl) (d' := d - 1) (by omega) he_i (c_X12_place wt hl (d := d - 1) (by omega) k0) (fun r_5 => ?_)
  refine w_iadd (μ := m_X12_leaves) (pc := 21) dX12_leaves_21 ?_
  refine w_bi (fun x_6 e_7 => ?_)
  refine w_istore_n [(3, .int x_6), (0, .ref a0), (1, .int x1), (2, .int x2)] (μ := m_X12_leaves) (pc := 22) dX12_leaves_22 rfl (by decide) rfl ?_
  refine w_lv [1, 2, 0] rfl ?_
  exact t_L_X12_leaves_23 wt hl (by omega) k0 N _ _
def D_X12_notesDown (N : Nat) (g : gp) (a0 : Nat) (x1 : Int32) (x2 : Int32) (x3 : Int32) (δ : dp) : Option (dp) :=
  (q_O g 12 15 a0).bind fun b_1 => (q_O g 12 17 a0).bind fun b_3 => if x1 < 0 ∨ q_N g b_3 ≤ x1.toNatClampNeg then none else if ((1000 * x1) + (q_R δ b_3 x1.toNatClampNeg)) < 0 ∨ q_N g b_1 ≤ ((1000 * x1) + (q_R δ b_3 x1.toNatClampNeg)).toNatClampNeg then none else bd (s_R δ b_1 ((1000 * x1) + (q_R δ b_3 x1.toNatClampNeg)).toNatClampNeg x2) fun δ_5 => (q_O g 12 16 a0).bind fun b_7 => (q_O g 12 17 a0).bind fun b_9 => if x1 < 0 ∨ q_N g b_9 ≤ x1.toNatClampNeg then none else if ((1000 * x1) + (q_R δ_5 b_9 x1.toNatClampNeg)) < 0 ∨ q_N g b_7 ≤ ((1000 * x1) + (q_R δ_5 b_9 x1.toNatClampNeg)).toNatClampNeg then none else bd (s_R δ_5 b_7 ((1000 * x1) + (q_R δ_5 b_9 x1.toNatClampNeg)).toNatClampNeg x3) fun δ_11 => (q_O g 12 17 a0).bind fun b_13 => if x1 < 0 ∨ q_N g b_13 ≤ x1.toNatClampNeg then none else if x1 < 0 ∨ q_N g b_13 ≤ x1.toNatClampNeg then none else bd (s_R δ_11 b_13 x1.toNatClampNeg ((q_R δ_11 b_13 x1.toNatClampNeg) + 1)) fun δ_15 => some δ_15
set_option maxHeartbeats 4000000 in
set_option maxRecDepth 100000 in
theorem c_X12_notesDown {l : Launch} {D : va_G} {cy : Nat → ClassId} {N d : Nat} {g : gp} (wt : WT g) (hl : l.stackTraces = false) (hd : 1 ≤ d) {a0 : Nat} {x1 : Int32} {x2 : Int32} {x3 : Int32} {δ : dp} (k0 : q_K g a0 = 12) : CalD l D cy m_X12_notesDown d 0 0 ev g [.ref a0, .int x1, .int x2, .int x3] δ (D_X12_notesDown N g a0 x1 x2 x3 δ) := by
  refine CalD.of (by decide +kernel) (Nat.le_of_ble_eq_true rfl) hl ?_
  unfold D_X12_notesDown
  refine w_aload_n 0 0 (μ := m_X12_notesDown) (pc := 0) dX12_notesDown_0 rfl rfl ?_
  refine w_getO (μ := m_X12_notesDown) (pc := 1) dX12_notesDown_1 fl_X12_39 ir_12_15 id_12_15 k0 (fun b_1 e_2 => ?_)
  refine w_sipush (v := 1000) (μ := m_X12_notesDown) (pc := 4) dX12_notesDown_4 (by decide) ?_
  refine w_iload_n 1 1 (μ := m_X12_notesDown) (pc := 7) dX12_notesDown_7 rfl rfl ?_
  refine w_imul (μ := m_X12_notesDown) (pc := 8) dX12_notesDown_8 ?_
  refine w_aload_n 0 0 (μ := m_X12_notesDown) (pc := 9) dX12_notesDown_9 rfl rfl ?_
  refine w_getO (μ := m_X12_notesDown) (pc := 10) dX12_notesDown_10 fl_X12_45 ir_12_17 id_12_17 k0 (fun b_3 e_4 => ?_)
  refine w_iload_n 1 1 (μ := m_X12_notesDown) (pc := 13) dX12_notesDown_13 rfl rfl ?_
  refine w_ald (μ := m_X12_notesDown) (pc := 14) dX12_notesDown_14 (wt_12_17 wt k0 e_4) ?_
  refine w_iadd (μ := m_X12_notesDown) (pc := 15) dX12_notesDown_15 ?_
  refine w_iload_n 2 2 (μ := m_X12_notesDown) (pc := 16) dX12_notesDown_16 rfl rfl ?_
  refine w_ast (μ := m_X12_notesDown) (pc := 17) dX12_notesDown_17 (wt_12_15 wt k0 e_2) ?_
  refine w_bd (fun δ_5 e_6 => ?_)
  refine w_aload_n 0 0 (μ := m_X12_notesDown) (pc := 18) dX12_notesDown_18 rfl rfl ?_
  refine w_getO (μ := m_X12_notesDown) (pc := 19) dX12_notesDown_19 fl_X12_42 ir_12_16 id_12_16 k0 (fun b_7 e_8 => ?_)
  refine w_sipush (v := 1000) (μ := m_X12_notesDown) (pc := 22) dX12_notesDown_22 (by decide) ?_
  refine w_iload_n 1 1 (μ := m_X12_notesDown) (pc := 25) dX12_notesDown_25 rfl rfl ?_
  refine w_imul (μ := m_X12_notesDown) (pc := 26) dX12_notesDown_26 ?_
  refine w_aload_n 0 0 (μ := m_X12_notesDown) (pc := 27) dX12_notesDown_27 rfl rfl ?_
  refine w_getO (μ := m_X12_notesDown) (pc := 28) dX12_notesDown_28 fl_X12_45 ir_12_17 id_12_17 k0 (fun b_9 e_10 => ?_)
  refine w_iload_n 1 1 (μ := m_X12_notesDown) (pc := 31) dX12_notesDown_31 rfl rfl ?_
  refine w_ald (μ := m_X12_notesDown) (pc := 32) dX12_notesDown_32 (wt_12_17 wt k0 e_10) ?_
  refine w_iadd (μ := m_X12_notesDown) (pc := 33) dX12_notesDown_33 ?_
  refine w_iload_n 3 3 (μ := m_X12_notesDown) (pc := 34) dX12_notesDown_34 rfl rfl ?_
  refine w_ast (μ := m_X12_notesDown) (pc := 35) dX12_notesDown_35 (wt_12_16 wt k0 e_8) ?_
  refine w_bd (fun δ_11 e_12 => ?_)
  refine w_aload_n 0 0 (μ := m_X12_notesDown) (pc := 36) dX12_notesDown_36 rfl rfl ?_
  refine w_getO (μ := m_X12_notesDown) (pc := 37) dX12_notesDown_37 fl_X12_45 ir_12_17 id_12_17 k0 (fun b_13 e_14 => ?_)
  refine w_iload_n 1 1 (μ := m_X12_notesDown) (pc := 40) dX12_notesDown_40 rfl rfl ?_
  refine w_dup2 (μ := m_X12_notesDown) (pc := 41) dX12_notesDown_41 rfl rfl ?_
  refine w_ald (μ := m_X12_notesDown) (pc := 42) dX12_notesDown_42 (wt_12_17 wt k0 e_14) ?_
  refine w_iconst (v := 1) (μ := m_X12_notesDown) (pc := 43) dX12_notesDown_43 (by decide) ?_
  refine w_iadd (μ := m_X12_notesDown) (pc := 44) dX12_notesDown_44 ?_
  refine w_ast (μ := m_X12_notesDown) (pc := 45) dX12_notesDown_45 (wt_12_17 wt k0 e_14) ?_
  refine w_bd (fun δ_15 e_16 => ?_)
  exact w_vret (μ := m_X12_notesDown) (pc := 46) dX12_notesDown_46 rfl rfl
def D_X12_isHouse (N : Nat) (g : gp) (a0 : Nat) (x1 : Int32) (x2 : Int32) (δ : dp) : Option (Int32 × dp) :=
  (D_X12_within N g x1 0 3 δ).bind fun r_1 => (D_X12_may N g a0 r_1.1 x2 0 r_1.2).bind fun r_2 => if r_2.1 = 0 ∨ r_2.1 = 1 then some (r_2.1, r_2.2) else none
set_option maxHeartbeats 4000000 in
set_option maxRecDepth 100000 in
theorem c_X12_isHouse {l : Launch} {D : va_G} {cy : Nat → ClassId} {N d : Nat} {g : gp} (wt : WT g) (hl : l.stackTraces = false) (hd : 2 ≤ d) {a0 : Nat} {x1 : Int32} {x2 : Int32} {δ : dp} (k0 : q_K g a0 = 12) : CalD l D cy m_X12_isHouse d 0 0 ei g [.ref a0, .int x1, .int x2] δ (D_X12_isHouse N g a0 x1 x2 δ) := by
  refine CalD.of (by decide +kernel) (Nat.le_of_ble_eq_true rfl) hl ?_
  unfold D_X12_isHouse
  refine w_aload_n 0 0 (μ := m_X12_isHouse) (pc := 0) dX12_isHouse_0 rfl rfl ?_
  refine w_iload_n 1 1 (μ := m_X12_isHouse) (pc := 1) dX12_isHouse_1 rfl rfl ?_
  refine w_iconst (v := 0) (μ := m_X12_isHouse) (pc := 2) dX12_isHouse_2 (by decide) ?_
  refine w_iconst (v := 3) (μ := m_X12_isHouse) (pc := 3) dX12_isHouse_3 (by decide) ?_
  refine w_callS (As := [.int x1, .int 0, .int 3]) (rest := [.ref a0]) (μ := m_X12_isHouse) (pc := 4) dX12_isHouse_4 cs_X12_250 rfl rfl (Nat.le_of_ble_eq_true rfl) (d' := d - 1) (by omega) he_i (c_X12_within wt hl (d := d - 1) (by omega) ) (fun r_1 => ?_)
  refine w_iload_n 2 2 (μ := m_X12_isHouse) (pc := 7) dX12_isHouse_7 rfl rfl ?_
  refine w_iconst (v := 0) (μ := m_X12_isHouse) (pc := 8) dX12_isHouse_8 (by decide) ?_
  refine w_callV (As := [.int r_1.1, .int x2, .int 0]) (rest := []) (μ := m_X12_isHouse) (pc := 9) dX12_isHouse_9 cv_X12_157 rfl rfl k0 (by decide) rfl (Nat.le_of_ble_eq_true rfl) (d' := d - 1) (by omega) he_i (c_X12_may wt hl (d := d - 1) (by omega) k0) (fun r_2 => ?_)
  exact w_zret (μ := m_X12_isHouse) (pc := 12) dX12_isHouse_12 rfl rfl
def D_X12_all (N : Nat) (g : gp) (a0 : Nat) (δ : dp) : Option (Int32 × dp) :=
  some (1 <<< ((q_I δ 12 10 a0) &&& 31), δ)
set_option maxHeartbeats 4000000 in
set_option maxRecDepth 100000 in
theorem c_X12_all {l : Launch} {D : va_G} {cy : Nat → ClassId} {N d : Nat} {g : gp} (wt : WT g) (hl : l.stackTraces = false) (hd : 1 ≤ d) {a0 : Nat} {δ : dp} (k0 : q_K g a0 = 12) : CalD l D cy m_X12_all d 0 0 ei g [.ref a0] δ (D_X12_all N g a0 δ) := by
  refine CalD.of (by decide +kernel) (Nat.le_of_ble_eq_true rfl) hl ?_
  unfold D_X12_all
  refine w_iconst (v := 1) (μ := m_X12_all) (pc := 0) dX12_all_0 (by decide) ?_
  refine w_aload_n 0 0 (μ := m_X12_all) (pc := 1) dX12_all_1 rfl rfl ?_
  refine w_getI (μ := m_X12_all) (pc := 2) dX12_all_2 fl_X12_23 ir_12_10 k0 ?_
  refine w_ishl (μ := m_X12_all) (pc := 5) dX12_all_5 ?_
  exact w_iret (μ := m_X12_all) (pc := 6) dX12_all_6 rfl rfl
def D_X12_isNumber (N : Nat) (g : gp) (a0 : Nat) (x1 : Int32) (δ : dp) : Option (Int32 × dp) :=
  (D_X12_all N g a0 δ).bind fun r_1 => (D_X12_within N g x1 0 (r_1.1 - 1) r_1.2).bind fun r_2 => if r_2.1 = 0 ∨ r_2.1 = 1 then some (r_2.1, r_2.2) else none
set_option maxHeartbeats 4000000 in
set_option maxRecDepth 100000 in
theorem c_X12_isNumber {l : Launch} {D : va_G} {cy : Nat → ClassId} {N d : Nat} {g : gp} (wt : WT g) (hl : l.stackTraces = false) (hd : 2 ≤ d) {a0 : Nat} {x1 : Int32} {δ : dp} (k0 : q_K g a0 = 12) : CalD l D cy m_X12_isNumber d 0 0 ei g [.ref a0, .int x1] δ (D_X12_isNumber N g a0 x1 δ) := by
  refine CalD.of (by decide +kernel) (Nat.le_of_ble_eq_true rfl) hl ?_
  unfold D_X12_isNumber
  refine w_iload_n 1 1 (μ := m_X12_isNumber) (pc := 0) dX12_isNumber_0 rfl rfl ?_
  refine w_iconst (v := 0) (μ := m_X12_isNumber) (pc := 1) dX12_isNumber_1 (by decide) ?_
  refine w_aload_n 0 0 (μ := m_X12_isNumber) (pc := 2) dX12_isNumber_2 rfl rfl ?_
  refine w_callV (As := []) (rest := [.int 0, .int x1]) (μ := m_X12_isNumber) (pc := 3) dX12_isNumber_3 cv_X12_257 rfl rfl k0 (by decide) rfl (Nat.le_of_ble_eq_true rfl) (d' := d - 1) (by omega) he_i (c_X12_all wt hl (d := d - 1) (by omega) k0) (fun r_1 => ?_)
  refine w_iconst (v := 1) (μ := m_X12_isNumber) (pc := 6) dX12_isNumber_6 (by decide) ?_
  refine w_isub (μ := m_X12_isNumber) (pc := 7) dX12_isNumber_7 ?_
  refine w_callS (As := [.int x1, .int 0, .int (r_1.1 - 1)]) (rest := []) (μ := m_X12_isNumber) (pc := 8) dX12_isNumber_8 cs_X12_250 rfl rfl (Nat.le_of_ble_eq_true rfl) (d' := d - 1) (by omega) he_i (c_X12_within wt hl (d := d - 1) (by omega) ) (fun r_2 => ?_)
  exact w_zret (μ := m_X12_isNumber) (pc := 11) dX12_isNumber_11 rfl rfl
def J_X12_put_28 (N : Nat) (g : gp) (a0 : Nat) (x1 : Int32) (x2 : Int32) (δ : dp) : Option (Int32 × dp) :=
  some (0, δ)
set_option maxHeartbeats 4000000 in
set_option maxRecDepth 100000 in
theorem t_J_X12_put_28 {l : Launch} {D : va_G} {cy : Nat → ClassId} {N d : Nat} {g : gp} (wt : WT g) (hl : l.stackTraces = false) (hd : 3 ≤ d) {a0 : Nat} {x1 : Int32} {x2 : Int32} (k0 : q_K g a0 = 12) : ∀ (δ : dp), AWD l D cy m_X12_put d 0 0 ei g 28 [] [] δ (J_X12_put_28 N g a0 x1 x2 δ) := by
    intro  δ 
    unfold J_X12_put_28
    refine w_iconst (v := 0) (μ := m_X12_put) (pc := 28) dX12_put_28 (by decide) ?_
    exact w_iret (μ := m_X12_put) (pc := 29) dX12_put_29 rfl rfl
def D_X12_put (N : Nat) (g : gp) (a0 : Nat) (x1 : Int32) (x2 : Int32) (δ : dp) : Option (Int32 × dp) :=
  bd (s_I δ 12 0 a0 0) fun δ_1 => (D_X12_isHouse N g a0 x1 1 δ_1).bind fun r_3 => if r_3.1 = 0 then (J_X12_put_28 N g a0 x1 x2 r_3.2) else ((D_X12_isNumber N g a0 x2 r_3.2).bind fun r_5 => (D_X12_may N g a0 r_5.1 2 2 r_5.2).bind fun r_6 => if r_6.1 = 0 then (J_X12_put_28 N g a0 x1 x2 r_6.2) else ((D_X12_isThere N g a0 x1 x2 r_6.2).bind fun r_8 => if r_8.1 = 0 then ((q_O g 12 14 a0).bind fun b_10 => if x1 < 0 ∨ q_N g b_10 ≤ x1.toNatClampNeg then none else if (q_R r_8.2 b_10 x1.toNatClampNeg) = (2000 : Int32) then (some ((-1), r_8.2)) else ((q_O g 12 17 a0).bind fun b_13 => if x1 < 0 ∨ q_N g b_13 ≤ x1.toNatClampNeg then none else if (q_R r_8.2 b_13 x1.toNatClampNeg) = (1000 : Int32) then (some ((-2), r_8.2)) else ((D_X12_comes N g a0 x1 x2 r_8.2).bind fun r_16 => (D_X12_notesDown N g a0 x1 x2 1 r_16).bind fun r_17 => some (1, r_17)))) else (some (0, r_8.2))))
set_option maxHeartbeats 4000000 in
set_option maxRecDepth 100000 in
theorem c_X12_put {l : Launch} {D : va_G} {cy : Nat → ClassId} {N d : Nat} {g : gp} (wt : WT g) (hl : l.stackTraces = false) (hd : 3 ≤ d) {a0 : Nat} {x1 : Int32} {x2 : Int32} {δ : dp} (k0 : q_K g a0 = 12) : CalD l D cy m_X12_put d 0 0 ei g [.ref a0, .int x1, .int x2] δ (D_X12_put N g a0 x1 x2 δ) := by
  refine CalD.of (by decide +kernel) (Nat.le_of_ble_eq_true rfl) hl ?_
  unfold D_X12_put
  refine w_aload_n 0 0 (μ := m_X12_put) (pc := 0) dX12_put_0 rfl rfl ?_
  refine w_iconst (v := 0) (μ := m_X12_put) (pc := 1) dX12_put_1 (by decide) ?_
  refine w_putI (μ := m_X12_put) (pc := 2) dX12_put_2 fl_X12_1 flw_12_0 ir_12_0 k0 ?_
  refine w_bd (fun δ_1 e_2 => ?_)
  refine w_aload_n 0 0 (μ := m_X12_put) (pc := 5) dX12_put_5 rfl rfl ?_
  refine w_iload_n 1 1 (μ := m_X12_put) (pc := 6) dX12_put_6 rfl rfl ?_
  refine w_iconst (v := 1) (μ := m_X12_put) (pc := 7) dX12_put_7 (by decide) ?_
  refine w_callV (As := [.int x1, .int 1]) (rest := []) (μ := m_X12_put) (pc := 8) dX12_put_8 cv_X12_260 rfl rfl k0 (by decide) rfl (Nat.le_of_ble_eq_true rfl) (d' := d - 1) (by omega) he_i (c_X12_isHouse wt hl (d := d - 1) (by omega) k0) (fun r_3 => ?_)
  refine w_if_eq 28 (μ := m_X12_put) (pc := 11) dX12_put_11 (by decide) (fun c_4 => ?_) (fun c_4 => ?_)
  · refine w_lv [] rfl ?_
    exact t_J_X12_put_28 wt hl (by omega) k0 _
  · refine w_aload_n 0 0 (μ := m_X12_put) (pc := 14) dX12_put_14 rfl rfl ?_
    refine w_aload_n 0 0 (μ := m_X12_put) (pc := 15) dX12_put_15 rfl rfl ?_
    refine w_iload_n 2 2 (μ := m_X12_put) (pc := 16) dX12_put_16 rfl rfl ?_
    refine w_callV (As := [.int x2]) (rest := [.ref a0]) (μ := m_X12_put) (pc := 17) dX12_put_17 cv_X12_264 rfl rfl k0 (by decide) rfl (Nat.le_of_ble_eq_true rfl) (d' := d - 1) (by omega) he_i (c_X12_isNumber wt hl (d := d - 1) (by omega) k0) (fun r_5 => ?_)
    refine w_iconst (v := 2) (μ := m_X12_put) (pc := 20) dX12_put_20 (by decide) ?_
    refine w_iconst (v := 2) (μ := m_X12_put) (pc := 21) dX12_put_21 (by decide) ?_
    refine w_callV (As := [.int r_5.1, .int 2, .int 2]) (rest := []) (μ := m_X12_put) (pc := 22) dX12_put_22 cv_X12_157 rfl rfl k0 (by decide) rfl (Nat.le_of_ble_eq_true rfl) (d' := d - 1) (by omega) he_i (c_X12_may wt hl (d := d - 1) (by omega) k0) (fun r_6 => ?_)
    refine w_if_ne 30 (μ := m_X12_put) (pc := 25) dX12_put_25 (by decide) (fun c_7 => ?_) (fun c_7 => ?_)
    · refine w_aload_n 0 0 (μ := m_X12_put) (pc := 30) dX12_put_30 rfl rfl ?_
      refine w_iload_n 1 1 (μ := m_X12_put) (pc := 31) dX12_put_31 rfl rfl ?_
      refine w_iload_n 2 2 (μ := m_X12_put) (pc := 32) dX12_put_32 rfl rfl ?_
      refine w_callV (As := [.int x1, .int x2]) (rest := []) (μ := m_X12_put) (pc := 33) dX12_put_33 cv_X12_267 rfl rfl k0 (by decide) rfl (Nat.le_of_ble_eq_true rfl) (d' := d - 1) (by omega) he_i (c_X12_isThere wt hl (d := d - 1) (by omega) k0) (fun r_8 => ?_)
      refine w_if_eq 41 (μ := m_X12_put) (pc := 36) dX12_put_36 (by decide) (fun c_9 => ?_) (fun c_9 => ?_)
      · refine w_aload_n 0 0 (μ := m_X12_put) (pc := 41) dX12_put_41 rfl rfl ?_
        refine w_getO (μ := m_X12_put) (pc := 42) dX12_put_42 fl_X12_36 ir_12_14 id_12_14 k0 (fun b_10 e_11 => ?_)
        refine w_iload_n 1 1 (μ := m_X12_put) (pc := 45) dX12_put_45 rfl rfl ?_
        refine w_ald (μ := m_X12_put) (pc := 46) dX12_put_46 (wt_12_14 wt k0 e_11) ?_
        refine w_sipush (v := 2000) (μ := m_X12_put) (pc := 47) dX12_put_47 (by decide) ?_
        refine w_icmp_ne 55 (μ := m_X12_put) (pc := 50) dX12_put_50 (by decide) (fun c_12 => ?_) (fun c_12 => ?_)
        · refine w_aload_n 0 0 (μ := m_X12_put) (pc := 55) dX12_put_55 rfl rfl ?_
          refine w_getO (μ := m_X12_put) (pc := 56) dX12_put_56 fl_X12_45 ir_12_17 id_12_17 k0 (fun b_13 e_14 => ?_)
          refine w_iload_n 1 1 (μ := m_X12_put) (pc := 59) dX12_put_59 rfl rfl ?_
          refine w_ald (μ := m_X12_put) (pc := 60) dX12_put_60 (wt_12_17 wt k0 e_14) ?_
          refine w_sipush (v := 1000) (μ := m_X12_put) (pc := 61) dX12_put_61 (by decide) ?_
          refine w_icmp_ne 70 (μ := m_X12_put) (pc := 64) dX12_put_64 (by decide) (fun c_15 => ?_) (fun c_15 => ?_)
          · refine w_aload_n 0 0 (μ := m_X12_put) (pc := 70) dX12_put_70 rfl rfl ?_
            refine w_iload_n 1 1 (μ := m_X12_put) (pc := 71) dX12_put_71 rfl rfl ?_
            refine w_iload_n 2 2 (μ := m_X12_put) (pc := 72) dX12_put_72 rfl rfl ?_
            refine w_callV (As := [.int x1, .int x2]) (rest := []) (μ := m_X12_put) (pc := 73) dX12_put_73 cv_X12_270 rfl rfl k0 (by decide) rfl (Nat.le_of_ble_eq_true rfl) (d' := d - 1) (by omega) he_v (c_X12_comes wt hl (d := d - 1) (by omega) k0) (fun r_16 => ?_)
            refine w_aload_n 0 0 (μ := m_X12_put) (pc := 76) dX12_put_76 rfl rfl ?_
            refine w_iload_n 1 1 (μ := m_X12_put) (pc := 77) dX12_put_77 rfl rfl ?_
            refine w_iload_n 2 2 (μ := m_X12_put) (pc := 78) dX12_put_78 rfl rfl ?_
            refine w_iconst (v := 1) (μ := m_X12_put) (pc := 79) dX12_put_79 (by decide) ?_
            refine w_callV (As := [.int x1, .int x2, .int 1]) (rest := []) (μ := m_X12_put) (pc := 80) dX12_put_80 cv_X12_273 rfl rfl k0 (by decide) rfl (Nat.le_of_ble_eq_true rfl) (d' := d - 1) (by omega) he_v (c_X12_notesDown wt hl (d := d - 1) (by omega) k0) (fun r_17 => ?_)
            refine w_iconst (v := 1) (μ := m_X12_put) (pc := 83) dX12_put_83 (by decide) ?_
            exact w_iret (μ := m_X12_put) (pc := 84) dX12_put_84 rfl rfl
          · refine w_bipush (v := (-2)) (μ := m_X12_put) (pc := 67) dX12_put_67 (by decide) ?_
            exact w_iret (μ := m_X12_put) (pc := 69) dX12_put_69 rfl rfl
        · refine w_iconst (v := (-1)) (μ := m_X12_put) (pc := 53) dX12_put_53 (by decide) ?_
          exact w_iret (μ := m_X12_put) (pc := 54) dX12_put_54 rfl rfl
      · refine w_iconst (v := 0) (μ := m_X12_put) (pc := 39) dX12_put_39 (by decide) ?_
        exact w_iret (μ := m_X12_put) (pc := 40) dX12_put_40 rfl rfl
    · refine w_lv [] rfl ?_
      exact t_J_X12_put_28 wt hl (by omega) k0 _
