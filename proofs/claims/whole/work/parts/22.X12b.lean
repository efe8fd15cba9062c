theorem dX12_drop_0 : decode cX12_drop 0 = .ok (.aload_n 0, 1) := by decide +kernel
theorem dX12_drop_1 : decode cX12_drop 1 = .ok (.iconst 0, 1) := by decide +kernel
theorem dX12_drop_2 : decode cX12_drop 2 = .ok (.putfield 1, 3) := by decide +kernel
theorem dX12_drop_5 : decode cX12_drop 5 = .ok (.aload_n 0, 1) := by decide +kernel
theorem dX12_drop_6 : decode cX12_drop 6 = .ok (.iload_n 1, 1) := by decide +kernel
theorem dX12_drop_7 : decode cX12_drop 7 = .ok (.iconst 1, 1) := by decide +kernel
theorem dX12_drop_8 : decode cX12_drop 8 = .ok (.invokevirtual 260, 3) := by decide +kernel
theorem dX12_drop_11 : decode cX12_drop 11 = .ok (.ifCond .eq 17, 3) := by decide +kernel
theorem dX12_drop_14 : decode cX12_drop 14 = .ok (.aload_n 0, 1) := by decide +kernel
theorem dX12_drop_15 : decode cX12_drop 15 = .ok (.aload_n 0, 1) := by decide +kernel
theorem dX12_drop_16 : decode cX12_drop 16 = .ok (.iload_n 2, 1) := by decide +kernel
theorem dX12_drop_17 : decode cX12_drop 17 = .ok (.invokevirtual 264, 3) := by decide +kernel
theorem dX12_drop_20 : decode cX12_drop 20 = .ok (.iconst 2, 1) := by decide +kernel
theorem dX12_drop_21 : decode cX12_drop 21 = .ok (.iconst 2, 1) := by decide +kernel
theorem dX12_drop_22 : decode cX12_drop 22 = .ok (.invokevirtual 157, 3) := by decide +kernel
theorem dX12_drop_25 : decode cX12_drop 25 = .ok (.ifCond .ne 5, 3) := by decide +kernel
theorem dX12_drop_28 : decode cX12_drop 28 = .ok (.iconst 0, 1) := by decide +kernel
theorem dX12_drop_29 : decode cX12_drop 29 = .ok (.ireturn, 1) := by decide +kernel
theorem dX12_drop_30 : decode cX12_drop 30 = .ok (.aload_n 0, 1) := by decide +kernel
theorem dX12_drop_31 : decode cX12_drop 31 = .ok (.iload_n 1, 1) := by decide +kernel
theorem dX12_drop_32 : decode cX12_drop 32 = .ok (.iload_n 2, 1) := by decide +kernel
theorem dX12_drop_33 : decode cX12_drop 33 = .ok (.invokevirtual 267, 3) := by decide +kernel
theorem dX12_drop_36 : decode cX12_drop 36 = .ok (.ifCond .ne 5, 3) := by decide +kernel
theorem dX12_drop_39 : decode cX12_drop 39 = .ok (.iconst 0, 1) := by decide +kernel
theorem dX12_drop_40 : decode cX12_drop 40 = .ok (.ireturn, 1) := by decide +kernel
theorem dX12_drop_41 : decode cX12_drop 41 = .ok (.aload_n 0, 1) := by decide +kernel
theorem dX12_drop_42 : decode cX12_drop 42 = .ok (.getfield 45, 3) := by decide +kernel
theorem dX12_drop_45 : decode cX12_drop 45 = .ok (.iload_n 1, 1) := by decide +kernel
theorem dX12_drop_46 : decode cX12_drop 46 = .ok (.iaload, 1) := by decide +kernel
theorem dX12_drop_47 : decode cX12_drop 47 = .ok (.sipush 1000, 3) := by decide +kernel
theorem dX12_drop_50 : decode cX12_drop 50 = .ok (.if_icmp .ne 6, 3) := by decide +kernel
theorem dX12_drop_53 : decode cX12_drop 53 = .ok (.bipush (-2), 2) := by decide +kernel
theorem dX12_drop_55 : decode cX12_drop 55 = .ok (.ireturn, 1) := by decide +kernel
theorem dX12_drop_56 : decode cX12_drop 56 = .ok (.aload_n 0, 1) := by decide +kernel
theorem dX12_drop_57 : decode cX12_drop 57 = .ok (.iload_n 1, 1) := by decide +kernel
theorem dX12_drop_58 : decode cX12_drop 58 = .ok (.iload_n 2, 1) := by decide +kernel
theorem dX12_drop_59 : decode cX12_drop 59 = .ok (.invokevirtual 277, 3) := by decide +kernel
theorem dX12_drop_62 : decode cX12_drop 62 = .ok (.aload_n 0, 1) := by decide +kernel
theorem dX12_drop_63 : decode cX12_drop 63 = .ok (.iload_n 1, 1) := by decide +kernel
theorem dX12_drop_64 : decode cX12_drop 64 = .ok (.iload_n 2, 1) := by decide +kernel
theorem dX12_drop_65 : decode cX12_drop 65 = .ok (.iconst 0, 1) := by decide +kernel
theorem dX12_drop_66 : decode cX12_drop 66 = .ok (.invokevirtual 273, 3) := by decide +kernel
theorem dX12_drop_69 : decode cX12_drop 69 = .ok (.iconst 1, 1) := by decide +kernel
theorem dX12_drop_70 : decode cX12_drop 70 = .ok (.ireturn, 1) := by decide +kernel
theorem dX12_has_0 : decode cX12_has 0 = .ok (.aload_n 0, 1) := by decide +kernel
theorem dX12_has_1 : decode cX12_has 1 = .ok (.iconst 0, 1) := by decide +kernel
theorem dX12_has_2 : decode cX12_has 2 = .ok (.putfield 1, 3) := by decide +kernel
theorem dX12_has_5 : decode cX12_has 5 = .ok (.aload_n 0, 1) := by decide +kernel
theorem dX12_has_6 : decode cX12_has 6 = .ok (.iload_n 1, 1) := by decide +kernel
theorem dX12_has_7 : decode cX12_has 7 = .ok (.iconst 1, 1) := by decide +kernel
theorem dX12_has_8 : decode cX12_has 8 = .ok (.invokevirtual 260, 3) := by decide +kernel
theorem dX12_has_11 : decode cX12_has 11 = .ok (.ifCond .eq 17, 3) := by decide +kernel
theorem dX12_has_14 : decode cX12_has 14 = .ok (.aload_n 0, 1) := by decide +kernel
theorem dX12_has_15 : decode cX12_has 15 = .ok (.aload_n 0, 1) := by decide +kernel
theorem dX12_has_16 : decode cX12_has 16 = .ok (.iload_n 2, 1) := by decide +kernel
theorem dX12_has_17 : decode cX12_has 17 = .ok (.invokevirtual 264, 3) := by decide +kernel
theorem dX12_has_20 : decode cX12_has 20 = .ok (.iconst 2, 1) := by decide +kernel
theorem dX12_has_21 : decode cX12_has 21 = .ok (.iconst 2, 1) := by decide +kernel
theorem dX12_has_22 : decode cX12_has 22 = .ok (.invokevirtual 157, 3) := by decide +kernel
theorem dX12_has_25 : decode cX12_has 25 = .ok (.ifCond .ne 5, 3) := by decide +kernel
theorem dX12_has_28 : decode cX12_has 28 = .ok (.iconst 0, 1) := by decide +kernel
theorem dX12_has_29 : decode cX12_has 29 = .ok (.ireturn, 1) := by decide +kernel
theorem dX12_has_30 : decode cX12_has 30 = .ok (.aload_n 0, 1) := by decide +kernel
theorem dX12_has_31 : decode cX12_has 31 = .ok (.iload_n 1, 1) := by decide +kernel
theorem dX12_has_32 : decode cX12_has 32 = .ok (.iload_n 2, 1) := by decide +kernel
theorem dX12_has_33 : decode cX12_has 33 = .ok (.invokevirtual 267, 3) := by decide +kernel
theorem dX12_has_36 : decode cX12_has 36 = .ok (.ireturn, 1) := by decide +kernel
theorem dX12_numberAt_0 : decode cX12_numberAt 0 = .ok (.iload_n 2, 1) := by decide +kernel
theorem dX12_numberAt_1 : decode cX12_numberAt 1 = .ok (.iconst 0, 1) := by decide +kernel
theorem dX12_numberAt_2 : decode cX12_numberAt 2 = .ok (.aload_n 0, 1) := by decide +kernel
theorem dX12_numberAt_3 : decode cX12_numberAt 3 = .ok (.getfield 36, 3) := by decide +kernel
theorem dX12_numberAt_6 : decode cX12_numberAt 6 = .ok (.iload_n 1, 1) := by decide +kernel
theorem dX12_numberAt_7 : decode cX12_numberAt 7 = .ok (.iaload, 1) := by decide +kernel
theorem dX12_numberAt_8 : decode cX12_numberAt 8 = .ok (.iconst 1, 1) := by decide +kernel
theorem dX12_numberAt_9 : decode cX12_numberAt 9 = .ok (.isub, 1) := by decide +kernel
theorem dX12_numberAt_10 : decode cX12_numberAt 10 = .ok (.invokestatic 250, 3) := by decide +kernel
theorem dX12_numberAt_13 : decode cX12_numberAt 13 = .ok (.ifCond .eq 18, 3) := by decide +kernel
theorem dX12_numberAt_16 : decode cX12_numberAt 16 = .ok (.aload_n 0, 1) := by decide +kernel
theorem dX12_numberAt_17 : decode cX12_numberAt 17 = .ok (.getfield 33, 3) := by decide +kernel
theorem dX12_numberAt_20 : decode cX12_numberAt 20 = .ok (.sipush 2000, 3) := by decide +kernel
theorem dX12_numberAt_23 : decode cX12_numberAt 23 = .ok (.iload_n 1, 1) := by decide +kernel
theorem dX12_numberAt_24 : decode cX12_numberAt 24 = .ok (.imul, 1) := by decide +kernel
theorem dX12_numberAt_25 : decode cX12_numberAt 25 = .ok (.iload_n 2, 1) := by decide +kernel
theorem dX12_numberAt_26 : decode cX12_numberAt 26 = .ok (.iadd, 1) := by decide +kernel
theorem dX12_numberAt_27 : decode cX12_numberAt 27 = .ok (.iaload, 1) := by decide +kernel
theorem dX12_numberAt_28 : decode cX12_numberAt 28 = .ok (.goto 4, 3) := by decide +kernel
theorem dX12_numberAt_31 : decode cX12_numberAt 31 = .ok (.iconst (-1), 1) := by decide +kernel
theorem dX12_numberAt_32 : decode cX12_numberAt 32 = .ok (.ireturn, 1) := by decide +kernel
theorem dX12_of__0 : decode cX12_of_ 0 = .ok (.aload_n 0, 1) := by decide +kernel
theorem dX12_of__1 : decode cX12_of_ 1 = .ok (.iconst 0, 1) := by decide +kernel
theorem dX12_of__2 : decode cX12_of_ 2 = .ok (.putfield 1, 3) := by decide +kernel
theorem dX12_of__5 : decode cX12_of_ 5 = .ok (.aload_n 0, 1) := by decide +kernel
theorem dX12_of__6 : decode cX12_of_ 6 = .ok (.iload_n 1, 1) := by decide +kernel
theorem dX12_of__7 : decode cX12_of_ 7 = .ok (.iconst 1, 1) := by decide +kernel
theorem dX12_of__8 : decode cX12_of_ 8 = .ok (.invokevirtual 260, 3) := by decide +kernel
theorem dX12_of__11 : decode cX12_of_ 11 = .ok (.ifCond .eq 18, 3) := by decide +kernel
theorem dX12_of__14 : decode cX12_of_ 14 = .ok (.aload_n 0, 1) := by decide +kernel
theorem dX12_of__15 : decode cX12_of_ 15 = .ok (.iload_n 2, 1) := by decide +kernel
theorem dX12_of__16 : decode cX12_of_ 16 = .ok (.iconst 0, 1) := by decide +kernel
theorem dX12_of__17 : decode cX12_of_ 17 = .ok (.iconst 3, 1) := by decide +kernel
theorem dX12_of__18 : decode cX12_of_ 18 = .ok (.invokestatic 250, 3) := by decide +kernel
theorem dX12_of__21 : decode cX12_of_ 21 = .ok (.iconst 2, 1) := by decide +kernel
theorem dX12_of__22 : decode cX12_of_ 22 = .ok (.iconst 2, 1) := by decide +kernel
theorem dX12_of__23 : decode cX12_of_ 23 = .ok (.invokevirtual 157, 3) := by decide +kernel
theorem dX12_of__26 : decode cX12_of_ 26 = .ok (.ifCond .ne 5, 3) := by decide +kernel
theorem dX12_of__29 : decode cX12_of_ 29 = .ok (.iconst 0, 1) := by decide +kernel
theorem dX12_of__30 : decode cX12_of_ 30 = .ok (.ireturn, 1) := by decide +kernel
theorem dX12_of__31 : decode cX12_of_ 31 = .ok (.iload_n 2, 1) := by decide +kernel
theorem dX12_of__32 : decode cX12_of_ 32 = .ok (.ifCond .ne 12, 3) := by decide +kernel
theorem dX12_of__35 : decode cX12_of_ 35 = .ok (.aload_n 0, 1) := by decide +kernel
theorem dX12_of__36 : decode cX12_of_ 36 = .ok (.getfield 36, 3) := by decide +kernel
theorem dX12_of__39 : decode cX12_of_ 39 = .ok (.iload_n 1, 1) := by decide +kernel
theorem dX12_of__40 : decode cX12_of_ 40 = .ok (.iaload, 1) := by decide +kernel
theorem dX12_of__41 : decode cX12_of_ 41 = .ok (.goto 44, 3) := by decide +kernel
theorem dX12_of__44 : decode cX12_of_ 44 = .ok (.iload_n 2, 1) := by decide +kernel
theorem dX12_of__45 : decode cX12_of_ 45 = .ok (.iconst 1, 1) := by decide +kernel
theorem dX12_of__46 : decode cX12_of_ 46 = .ok (.if_icmp .ne 12, 3) := by decide +kernel
theorem dX12_of__49 : decode cX12_of_ 49 = .ok (.aload_n 0, 1) := by decide +kernel
theorem dX12_of__50 : decode cX12_of_ 50 = .ok (.iload_n 1, 1) := by decide +kernel
theorem dX12_of__51 : decode cX12_of_ 51 = .ok (.iconst 0, 1) := by decide +kernel
theorem dX12_of__52 : decode cX12_of_ 52 = .ok (.invokevirtual 280, 3) := by decide +kernel
theorem dX12_of__55 : decode cX12_of_ 55 = .ok (.goto 30, 3) := by decide +kernel
theorem dX12_of__58 : decode cX12_of_ 58 = .ok (.iload_n 2, 1) := by decide +kernel
theorem dX12_of__59 : decode cX12_of_ 59 = .ok (.iconst 2, 1) := by decide +kernel
theorem dX12_of__60 : decode cX12_of_ 60 = .ok (.if_icmp .ne 19, 3) := by decide +kernel
theorem dX12_of__63 : decode cX12_of_ 63 = .ok (.aload_n 0, 1) := by decide +kernel
theorem dX12_of__64 : decode cX12_of_ 64 = .ok (.iload_n 1, 1) := by decide +kernel
theorem dX12_of__65 : decode cX12_of_ 65 = .ok (.aload_n 0, 1) := by decide +kernel
theorem dX12_of__66 : decode cX12_of_ 66 = .ok (.getfield 36, 3) := by decide +kernel
theorem dX12_of__69 : decode cX12_of_ 69 = .ok (.iload_n 1, 1) := by decide +kernel
theorem dX12_of__70 : decode cX12_of_ 70 = .ok (.iaload, 1) := by decide +kernel
theorem dX12_of__71 : decode cX12_of_ 71 = .ok (.iconst 1, 1) := by decide +kernel
theorem dX12_of__72 : decode cX12_of_ 72 = .ok (.isub, 1) := by decide +kernel
theorem dX12_of__73 : decode cX12_of_ 73 = .ok (.invokevirtual 280, 3) := by decide +kernel
theorem dX12_of__76 : decode cX12_of_ 76 = .ok (.goto 9, 3) := by decide +kernel
theorem dX12_of__79 : decode cX12_of_ 79 = .ok (.aload_n 0, 1) := by decide +kernel
theorem dX12_of__80 : decode cX12_of_ 80 = .ok (.getfield 45, 3) := by decide +kernel
theorem dX12_of__83 : decode cX12_of_ 83 = .ok (.iload_n 1, 1) := by decide +kernel
theorem dX12_of__84 : decode cX12_of_ 84 = .ok (.iaload, 1) := by decide +kernel
theorem dX12_of__85 : decode cX12_of_ 85 = .ok (.ireturn, 1) := by decide +kernel
theorem dX12_answer_0 : decode cX12_answer 0 = .ok (.iload_n 2, 1) := by decide +kernel
theorem dX12_answer_1 : decode cX12_answer 1 = .ok (.iconst 3, 1) := by decide +kernel
theorem dX12_answer_2 : decode cX12_answer 2 = .ok (.if_icmp .ne 17, 3) := by decide +kernel
theorem dX12_answer_5 : decode cX12_answer 5 = .ok (.aload_n 0, 1) := by decide +kernel
theorem dX12_answer_6 : decode cX12_answer 6 = .ok (.iload_n 1, 1) := by decide +kernel
theorem dX12_answer_7 : decode cX12_answer 7 = .ok (.aload_n 0, 1) := by decide +kernel
theorem dX12_answer_8 : decode cX12_answer 8 = .ok (.iload_n 1, 1) := by decide +kernel
theorem dX12_answer_9 : decode cX12_answer 9 = .ok (.iload_n 3, 1) := by decide +kernel
theorem dX12_answer_10 : decode cX12_answer 10 = .ok (.iconst 1, 1) := by decide +kernel
theorem dX12_answer_11 : decode cX12_answer 11 = .ok (.iadd, 1) := by decide +kernel
theorem dX12_answer_12 : decode cX12_answer 12 = .ok (.invokevirtual 254, 3) := by decide +kernel
theorem dX12_answer_15 : decode cX12_answer 15 = .ok (.invokevirtual 280, 3) := by decide +kernel
theorem dX12_answer_18 : decode cX12_answer 18 = .ok (.ireturn, 1) := by decide +kernel
theorem dX12_answer_19 : decode cX12_answer 19 = .ok (.iload_n 2, 1) := by decide +kernel
theorem dX12_answer_20 : decode cX12_answer 20 = .ok (.iconst 4, 1) := by decide +kernel
theorem dX12_answer_21 : decode cX12_answer 21 = .ok (.if_icmp .ne 17, 3) := by decide +kernel
theorem dX12_answer_24 : decode cX12_answer 24 = .ok (.aload_n 0, 1) := by decide +kernel
theorem dX12_answer_25 : decode cX12_answer 25 = .ok (.iload_n 1, 1) := by decide +kernel
theorem dX12_answer_26 : decode cX12_answer 26 = .ok (.aload_n 0, 1) := by decide +kernel
theorem dX12_answer_27 : decode cX12_answer 27 = .ok (.iload_n 1, 1) := by decide +kernel
theorem dX12_answer_28 : decode cX12_answer 28 = .ok (.iload_n 3, 1) := by decide +kernel
theorem dX12_answer_29 : decode cX12_answer 29 = .ok (.invokevirtual 254, 3) := by decide +kernel
theorem dX12_answer_32 : decode cX12_answer 32 = .ok (.iconst 1, 1) := by decide +kernel
theorem dX12_answer_33 : decode cX12_answer 33 = .ok (.isub, 1) := by decide +kernel
theorem dX12_answer_34 : decode cX12_answer 34 = .ok (.invokevirtual 280, 3) := by decide +kernel
theorem dX12_answer_37 : decode cX12_answer 37 = .ok (.ireturn, 1) := by decide +kernel
theorem dX12_answer_38 : decode cX12_answer 38 = .ok (.aload_n 0, 1) := by decide +kernel
theorem dX12_answer_39 : decode cX12_answer 39 = .ok (.iload_n 1, 1) := by decide +kernel
theorem dX12_answer_40 : decode cX12_answer 40 = .ok (.iload_n 3, 1) := by decide +kernel
theorem dX12_answer_41 : decode cX12_answer 41 = .ok (.invokevirtual 267, 3) := by decide +kernel
theorem dX12_answer_44 : decode cX12_answer 44 = .ok (.ifCond .eq 7, 3) := by decide +kernel
theorem dX12_answer_47 : decode cX12_answer 47 = .ok (.iconst 1, 1) := by decide +kernel
theorem dX12_answer_48 : decode cX12_answer 48 = .ok (.goto 4, 3) := by decide +kernel
theorem dX12_answer_51 : decode cX12_answer 51 = .ok (.iconst 0, 1) := by decide +kernel
theorem dX12_answer_52 : decode cX12_answer 52 = .ok (.ireturn, 1) := by decide +kernel
theorem dX12_mayAsk_0 : decode cX12_mayAsk 0 = .ok (.iload_n 1, 1) := by decide +kernel
theorem dX12_mayAsk_1 : decode cX12_mayAsk 1 = .ok (.iconst 3, 1) := by decide +kernel
theorem dX12_mayAsk_2 : decode cX12_mayAsk 2 = .ok (.if_icmp .ne 17, 3) := by decide +kernel
theorem dX12_mayAsk_5 : decode cX12_mayAsk 5 = .ok (.iload_n 2, 1) := by decide +kernel
theorem dX12_mayAsk_6 : decode cX12_mayAsk 6 = .ok (.iconst (-1), 1) := by decide +kernel
theorem dX12_mayAsk_7 : decode cX12_mayAsk 7 = .ok (.aload_n 0, 1) := by decide +kernel
theorem dX12_mayAsk_8 : decode cX12_mayAsk 8 = .ok (.invokevirtual 257, 3) := by decide +kernel
theorem dX12_mayAsk_11 : decode cX12_mayAsk 11 = .ok (.iconst 1, 1) := by decide +kernel
theorem dX12_mayAsk_12 : decode cX12_mayAsk 12 = .ok (.isub, 1) := by decide +kernel
theorem dX12_mayAsk_13 : decode cX12_mayAsk 13 = .ok (.invokestatic 250, 3) := by decide +kernel
theorem dX12_mayAsk_16 : decode cX12_mayAsk 16 = .ok (.goto 25, 3) := by decide +kernel
theorem dX12_mayAsk_19 : decode cX12_mayAsk 19 = .ok (.iload_n 1, 1) := by decide +kernel
theorem dX12_mayAsk_20 : decode cX12_mayAsk 20 = .ok (.iconst 4, 1) := by decide +kernel
theorem dX12_mayAsk_21 : decode cX12_mayAsk 21 = .ok (.if_icmp .ne 15, 3) := by decide +kernel
theorem dX12_mayAsk_24 : decode cX12_mayAsk 24 = .ok (.iload_n 2, 1) := by decide +kernel
theorem dX12_mayAsk_25 : decode cX12_mayAsk 25 = .ok (.iconst 0, 1) := by decide +kernel
theorem dX12_mayAsk_26 : decode cX12_mayAsk 26 = .ok (.aload_n 0, 1) := by decide +kernel
theorem dX12_mayAsk_27 : decode cX12_mayAsk 27 = .ok (.invokevirtual 257, 3) := by decide +kernel
theorem dX12_mayAsk_30 : decode cX12_mayAsk 30 = .ok (.invokestatic 250, 3) := by decide +kernel
theorem dX12_mayAsk_33 : decode cX12_mayAsk 33 = .ok (.goto 8, 3) := by decide +kernel
theorem dX12_mayAsk_36 : decode cX12_mayAsk 36 = .ok (.aload_n 0, 1) := by decide +kernel
theorem dX12_mayAsk_37 : decode cX12_mayAsk 37 = .ok (.iload_n 2, 1) := by decide +kernel
theorem dX12_mayAsk_38 : decode cX12_mayAsk 38 = .ok (.invokevirtual 264, 3) := by decide +kernel
theorem dX12_mayAsk_41 : decode cX12_mayAsk 41 = .ok (.ireturn, 1) := by decide +kernel
theorem dX12_next_0 : decode cX12_next 0 = .ok (.aload_n 0, 1) := by decide +kernel
theorem dX12_next_1 : decode cX12_next 1 = .ok (.iconst 0, 1) := by decide +kernel
theorem dX12_next_2 : decode cX12_next 2 = .ok (.putfield 1, 3) := by decide +kernel
theorem dX12_next_5 : decode cX12_next 5 = .ok (.aload_n 0, 1) := by decide +kernel
theorem dX12_next_6 : decode cX12_next 6 = .ok (.iload_n 1, 1) := by decide +kernel
theorem dX12_next_7 : decode cX12_next 7 = .ok (.iconst 1, 1) := by decide +kernel
theorem dX12_next_8 : decode cX12_next 8 = .ok (.invokevirtual 260, 3) := by decide +kernel
theorem dX12_next_11 : decode cX12_next 11 = .ok (.ifCond .eq 18, 3) := by decide +kernel
theorem dX12_next_14 : decode cX12_next 14 = .ok (.aload_n 0, 1) := by decide +kernel
theorem dX12_next_15 : decode cX12_next 15 = .ok (.aload_n 0, 1) := by decide +kernel
theorem dX12_next_16 : decode cX12_next 16 = .ok (.iconst 3, 1) := by decide +kernel
theorem dX12_next_17 : decode cX12_next 17 = .ok (.iload_n 2, 1) := by decide +kernel
theorem dX12_next_18 : decode cX12_next 18 = .ok (.invokevirtual 283, 3) := by decide +kernel
theorem dX12_next_21 : decode cX12_next 21 = .ok (.iconst 2, 1) := by decide +kernel
theorem dX12_next_22 : decode cX12_next 22 = .ok (.iconst 2, 1) := by decide +kernel
theorem dX12_next_23 : decode cX12_next 23 = .ok (.invokevirtual 157, 3) := by decide +kernel
theorem dX12_next_26 : decode cX12_next 26 = .ok (.ifCond .ne 5, 3) := by decide +kernel
theorem dX12_next_29 : decode cX12_next 29 = .ok (.iconst 0, 1) := by decide +kernel
theorem dX12_next_30 : decode cX12_next 30 = .ok (.ireturn, 1) := by decide +kernel
theorem dX12_next_31 : decode cX12_next 31 = .ok (.aload_n 0, 1) := by decide +kernel
theorem dX12_next_32 : decode cX12_next 32 = .ok (.iload_n 1, 1) := by decide +kernel
theorem dX12_next_33 : decode cX12_next 33 = .ok (.iconst 3, 1) := by decide +kernel
theorem dX12_next_34 : decode cX12_next 34 = .ok (.iload_n 2, 1) := by decide +kernel
theorem dX12_next_35 : decode cX12_next 35 = .ok (.invokevirtual 286, 3) := by decide +kernel
theorem dX12_next_38 : decode cX12_next 38 = .ok (.ireturn, 1) := by decide +kernel
theorem dX12_before_0 : decode cX12_before 0 = .ok (.aload_n 0, 1) := by decide +kernel
theorem dX12_before_1 : decode cX12_before 1 = .ok (.iconst 0, 1) := by decide +kernel
theorem dX12_before_2 : decode cX12_before 2 = .ok (.putfield 1, 3) := by decide +kernel
theorem dX12_before_5 : decode cX12_before 5 = .ok (.aload_n 0, 1) := by decide +kernel
theorem dX12_before_6 : decode cX12_before 6 = .ok (.iload_n 1, 1) := by decide +kernel
theorem dX12_before_7 : decode cX12_before 7 = .ok (.iconst 1, 1) := by decide +kernel
theorem dX12_before_8 : decode cX12_before 8 = .ok (.invokevirtual 260, 3) := by decide +kernel
theorem dX12_before_11 : decode cX12_before 11 = .ok (.ifCond .eq 18, 3) := by decide +kernel
theorem dX12_before_14 : decode cX12_before 14 = .ok (.aload_n 0, 1) := by decide +kernel
theorem dX12_before_15 : decode cX12_before 15 = .ok (.aload_n 0, 1) := by decide +kernel
theorem dX12_before_16 : decode cX12_before 16 = .ok (.iconst 4, 1) := by decide +kernel
theorem dX12_before_17 : decode cX12_before 17 = .ok (.iload_n 2, 1) := by decide +kernel
theorem dX12_before_18 : decode cX12_before 18 = .ok (.invokevirtual 283, 3) := by decide +kernel
theorem dX12_before_21 : decode cX12_before 21 = .ok (.iconst 2, 1) := by decide +kernel
theorem dX12_before_22 : decode cX12_before 22 = .ok (.iconst 2, 1) := by decide +kernel
theorem dX12_before_23 : decode cX12_before 23 = .ok (.invokevirtual 157, 3) := by decide +kernel
theorem dX12_before_26 : decode cX12_before 26 = .ok (.ifCond .ne 5, 3) := by decide +kernel
theorem dX12_before_29 : decode cX12_before 29 = .ok (.iconst 0, 1) := by decide +kernel
theorem dX12_before_30 : decode cX12_before 30 = .ok (.ireturn, 1) := by decide +kernel
theorem dX12_before_31 : decode cX12_before 31 = .ok (.aload_n 0, 1) := by decide +kernel
theorem dX12_before_32 : decode cX12_before 32 = .ok (.iload_n 1, 1) := by decide +kernel
theorem dX12_before_33 : decode cX12_before 33 = .ok (.iconst 4, 1) := by decide +kernel
theorem dX12_before_34 : decode cX12_before 34 = .ok (.iload_n 2, 1) := by decide +kernel
theorem dX12_before_35 : decode cX12_before 35 = .ok (.invokevirtual 286, 3) := by decide +kernel
theorem dX12_before_38 : decode cX12_before 38 = .ok (.ireturn, 1) := by decide +kernel
theorem dX12_kth_0 : decode cX12_kth 0 = .ok (.aload_n 0, 1) := by decide +kernel
theorem dX12_kth_1 : decode cX12_kth 1 = .ok (.iconst 0, 1) := by decide +kernel
theorem dX12_kth_2 : decode cX12_kth 2 = .ok (.putfield 1, 3) := by decide +kernel
theorem dX12_kth_5 : decode cX12_kth 5 = .ok (.aload_n 0, 1) := by decide +kernel
theorem dX12_kth_6 : decode cX12_kth 6 = .ok (.iload_n 1, 1) := by decide +kernel
theorem dX12_kth_7 : decode cX12_kth 7 = .ok (.iconst 1, 1) := by decide +kernel
theorem dX12_kth_8 : decode cX12_kth 8 = .ok (.invokevirtual 260, 3) := by decide +kernel
theorem dX12_kth_11 : decode cX12_kth 11 = .ok (.ifCond .ne 5, 3) := by decide +kernel
theorem dX12_kth_14 : decode cX12_kth 14 = .ok (.iconst 0, 1) := by decide +kernel
theorem dX12_kth_15 : decode cX12_kth 15 = .ok (.ireturn, 1) := by decide +kernel
theorem dX12_kth_16 : decode cX12_kth 16 = .ok (.aload_n 0, 1) := by decide +kernel
theorem dX12_kth_17 : decode cX12_kth 17 = .ok (.iload_n 1, 1) := by decide +kernel
theorem dX12_kth_18 : decode cX12_kth 18 = .ok (.iload_n 2, 1) := by decide +kernel
theorem dX12_kth_19 : decode cX12_kth 19 = .ok (.invokevirtual 280, 3) := by decide +kernel
theorem dX12_kth_22 : decode cX12_kth 22 = .ok (.ireturn, 1) := by decide +kernel
theorem dX12_between_0 : decode cX12_between 0 = .ok (.aload_n 0, 1) := by decide +kernel
theorem dX12_between_1 : decode cX12_between 1 = .ok (.iconst 0, 1) := by decide +kernel
theorem dX12_between_2 : decode cX12_between 2 = .ok (.putfield 1, 3) := by decide +kernel
theorem dX12_between_5 : decode cX12_between 5 = .ok (.aload_n 0, 1) := by decide +kernel
theorem dX12_between_6 : decode cX12_between 6 = .ok (.iload_n 1, 1) := by decide +kernel
theorem dX12_between_7 : decode cX12_between 7 = .ok (.iconst 1, 1) := by decide +kernel
theorem dX12_between_8 : decode cX12_between 8 = .ok (.invokevirtual 260, 3) := by decide +kernel
theorem dX12_between_11 : decode cX12_between 11 = .ok (.ifCond .eq 33, 3) := by decide +kernel
theorem dX12_between_14 : decode cX12_between 14 = .ok (.aload_n 0, 1) := by decide +kernel
theorem dX12_between_15 : decode cX12_between 15 = .ok (.aload_n 0, 1) := by decide +kernel
theorem dX12_between_16 : decode cX12_between 16 = .ok (.iload_n 2, 1) := by decide +kernel
theorem dX12_between_17 : decode cX12_between 17 = .ok (.invokevirtual 264, 3) := by decide +kernel
theorem dX12_between_20 : decode cX12_between 20 = .ok (.ifCond .eq 15, 3) := by decide +kernel
theorem dX12_between_23 : decode cX12_between 23 = .ok (.aload_n 0, 1) := by decide +kernel
theorem dX12_between_24 : decode cX12_between 24 = .ok (.iload_n 3, 1) := by decide +kernel
theorem dX12_between_25 : decode cX12_between 25 = .ok (.invokevirtual 264, 3) := by decide +kernel
theorem dX12_between_28 : decode cX12_between 28 = .ok (.ifCond .eq 7, 3) := by decide +kernel
theorem dX12_between_31 : decode cX12_between 31 = .ok (.iconst 1, 1) := by decide +kernel
theorem dX12_between_32 : decode cX12_between 32 = .ok (.goto 4, 3) := by decide +kernel
theorem dX12_between_35 : decode cX12_between 35 = .ok (.iconst 0, 1) := by decide +kernel
theorem dX12_between_36 : decode cX12_between 36 = .ok (.iconst 2, 1) := by decide +kernel
theorem dX12_between_37 : decode cX12_between 37 = .ok (.iconst 2, 1) := by decide +kernel
theorem dX12_between_38 : decode cX12_between 38 = .ok (.invokevirtual 157, 3) := by decide +kernel
theorem dX12_between_41 : decode cX12_between 41 = .ok (.ifCond .ne 5, 3) := by decide +kernel
theorem dX12_between_44 : decode cX12_between 44 = .ok (.iconst 0, 1) := by decide +kernel
theorem dX12_between_45 : decode cX12_between 45 = .ok (.ireturn, 1) := by decide +kernel
theorem dX12_between_46 : decode cX12_between 46 = .ok (.iload_n 2, 1) := by decide +kernel
theorem dX12_between_47 : decode cX12_between 47 = .ok (.iload_n 3, 1) := by decide +kernel
theorem dX12_between_48 : decode cX12_between 48 = .ok (.if_icmp .le 7, 3) := by decide +kernel
theorem dX12_between_51 : decode cX12_between 51 = .ok (.iconst 0, 1) := by decide +kernel
theorem dX12_between_52 : decode cX12_between 52 = .ok (.goto 18, 3) := by decide +kernel
theorem dX12_between_55 : decode cX12_between 55 = .ok (.aload_n 0, 1) := by decide +kernel
theorem dX12_between_56 : decode cX12_between 56 = .ok (.iload_n 1, 1) := by decide +kernel
theorem dX12_between_57 : decode cX12_between 57 = .ok (.iload_n 3, 1) := by decide +kernel
theorem dX12_between_58 : decode cX12_between 58 = .ok (.iconst 1, 1) := by decide +kernel
theorem dX12_between_59 : decode cX12_between 59 = .ok (.iadd, 1) := by decide +kernel
theorem dX12_between_60 : decode cX12_between 60 = .ok (.invokevirtual 254, 3) := by decide +kernel
theorem dX12_between_63 : decode cX12_between 63 = .ok (.aload_n 0, 1) := by decide +kernel
theorem dX12_between_64 : decode cX12_between 64 = .ok (.iload_n 1, 1) := by decide +kernel
theorem dX12_between_65 : decode cX12_between 65 = .ok (.iload_n 2, 1) := by decide +kernel
theorem dX12_between_66 : decode cX12_between 66 = .ok (.invokevirtual 254, 3) := by decide +kernel
theorem dX12_between_69 : decode cX12_between 69 = .ok (.isub, 1) := by decide +kernel
theorem dX12_between_70 : decode cX12_between 70 = .ok (.ireturn, 1) := by decide +kernel
theorem dX12_lowerBits_0 : decode cX12_lowerBits 0 = .ok (.iload_n 1, 1) := by decide +kernel
theorem dX12_lowerBits_1 : decode cX12_lowerBits 1 = .ok (.iconst 2, 1) := by decide +kernel
theorem dX12_lowerBits_2 : decode cX12_lowerBits 2 = .ok (.irem, 1) := by decide +kernel
theorem dX12_lowerBits_3 : decode cX12_lowerBits 3 = .ok (.ifCond .ne 9, 3) := by decide +kernel
theorem dX12_lowerBits_6 : decode cX12_lowerBits 6 = .ok (.iload_n 1, 1) := by decide +kernel
theorem dX12_lowerBits_7 : decode cX12_lowerBits 7 = .ok (.iconst 2, 1) := by decide +kernel
theorem dX12_lowerBits_8 : decode cX12_lowerBits 8 = .ok (.idiv, 1) := by decide +kernel
theorem dX12_lowerBits_9 : decode cX12_lowerBits 9 = .ok (.goto 21, 3) := by decide +kernel
theorem dX12_lowerBits_12 : decode cX12_lowerBits 12 = .ok (.aload_n 0, 1) := by decide +kernel
theorem dX12_lowerBits_13 : decode cX12_lowerBits 13 = .ok (.getfield 29, 3) := by decide +kernel
theorem dX12_lowerBits_16 : decode cX12_lowerBits 16 = .ok (.ifCond .eq 9, 3) := by decide +kernel
theorem dX12_lowerBits_19 : decode cX12_lowerBits 19 = .ok (.iload_n 1, 1) := by decide +kernel
theorem dX12_lowerBits_20 : decode cX12_lowerBits 20 = .ok (.iconst 2, 1) := by decide +kernel
theorem dX12_lowerBits_21 : decode cX12_lowerBits 21 = .ok (.idiv, 1) := by decide +kernel
theorem dX12_lowerBits_22 : decode cX12_lowerBits 22 = .ok (.goto 8, 3) := by decide +kernel
theorem dX12_lowerBits_25 : decode cX12_lowerBits 25 = .ok (.iload_n 1, 1) := by decide +kernel
theorem dX12_lowerBits_26 : decode cX12_lowerBits 26 = .ok (.iconst 2, 1) := by decide +kernel
theorem dX12_lowerBits_27 : decode cX12_lowerBits 27 = .ok (.idiv, 1) := by decide +kernel
theorem dX12_lowerBits_28 : decode cX12_lowerBits 28 = .ok (.iconst 1, 1) := by decide +kernel
theorem dX12_lowerBits_29 : decode cX12_lowerBits 29 = .ok (.iadd, 1) := by decide +kernel
theorem dX12_lowerBits_30 : decode cX12_lowerBits 30 = .ok (.ireturn, 1) := by decide +kernel
theorem dX12_lists_0 : decode cX12_lists 0 = .ok (.aload_n 0, 1) := by decide +kernel
theorem dX12_lists_1 : decode cX12_lists 1 = .ok (.getfield 290, 3) := by decide +kernel
theorem dX12_lists_4 : decode cX12_lists 4 = .ok (.istore 4, 2) := by decide +kernel
theorem dX12_lists_6 : decode cX12_lists 6 = .ok (.iload_n 1, 1) := by decide +kernel
theorem dX12_lists_7 : decode cX12_lists 7 = .ok (.iconst 1, 1) := by decide +kernel
theorem dX12_lists_8 : decode cX12_lists 8 = .ok (.iadd, 1) := by decide +kernel
theorem dX12_lists_9 : decode cX12_lists 9 = .ok (.istore 5, 2) := by decide +kernel
theorem dX12_lists_11 : decode cX12_lists 11 = .ok (.iload 5, 2) := by decide +kernel
theorem dX12_lists_13 : decode cX12_lists 13 = .ok (.iload_n 2, 1) := by decide +kernel
theorem dX12_lists_14 : decode cX12_lists 14 = .ok (.iconst 1, 1) := by decide +kernel
theorem dX12_lists_15 : decode cX12_lists 15 = .ok (.isub, 1) := by decide +kernel
theorem dX12_lists_16 : decode cX12_lists 16 = .ok (.if_icmp .ge 69, 3) := by decide +kernel
theorem dX12_lists_19 : decode cX12_lists 19 = .ok (.aload_n 0, 1) := by decide +kernel
theorem dX12_lists_20 : decode cX12_lists 20 = .ok (.getfield 84, 3) := by decide +kernel
theorem dX12_lists_23 : decode cX12_lists 23 = .ok (.iload 5, 2) := by decide +kernel
theorem dX12_lists_25 : decode cX12_lists 25 = .ok (.iaload, 1) := by decide +kernel
theorem dX12_lists_26 : decode cX12_lists 26 = .ok (.iload_n 3, 1) := by decide +kernel
theorem dX12_lists_27 : decode cX12_lists 27 = .ok (.ishr, 1) := by decide +kernel
theorem dX12_lists_28 : decode cX12_lists 28 = .ok (.istore 6, 2) := by decide +kernel
theorem dX12_lists_30 : decode cX12_lists 30 = .ok (.aload_n 0, 1) := by decide +kernel
theorem dX12_lists_31 : decode cX12_lists 31 = .ok (.getfield 290, 3) := by decide +kernel
theorem dX12_lists_34 : decode cX12_lists 34 = .ok (.iload 4, 2) := by decide +kernel
theorem dX12_lists_36 : decode cX12_lists 36 = .ok (.if_icmp .le 22, 3) := by decide +kernel
theorem dX12_lists_39 : decode cX12_lists 39 = .ok (.aload_n 0, 1) := by decide +kernel
theorem dX12_lists_40 : decode cX12_lists 40 = .ok (.getfield 84, 3) := by decide +kernel
theorem dX12_lists_43 : decode cX12_lists 43 = .ok (.aload_n 0, 1) := by decide +kernel
theorem dX12_lists_44 : decode cX12_lists 44 = .ok (.getfield 290, 3) := by decide +kernel
theorem dX12_lists_47 : decode cX12_lists 47 = .ok (.iconst 1, 1) := by decide +kernel
theorem dX12_lists_48 : decode cX12_lists 48 = .ok (.isub, 1) := by decide +kernel
theorem dX12_lists_49 : decode cX12_lists 49 = .ok (.iaload, 1) := by decide +kernel
theorem dX12_lists_50 : decode cX12_lists 50 = .ok (.iload 6, 2) := by decide +kernel
theorem dX12_lists_52 : decode cX12_lists 52 = .ok (.if_icmp .ne 6, 3) := by decide +kernel
theorem dX12_lists_55 : decode cX12_lists 55 = .ok (.goto 24, 3) := by decide +kernel
theorem dX12_lists_58 : decode cX12_lists 58 = .ok (.aload_n 0, 1) := by decide +kernel
theorem dX12_lists_59 : decode cX12_lists 59 = .ok (.getfield 84, 3) := by decide +kernel
theorem dX12_lists_62 : decode cX12_lists 62 = .ok (.aload_n 0, 1) := by decide +kernel
theorem dX12_lists_63 : decode cX12_lists 63 = .ok (.getfield 290, 3) := by decide +kernel
theorem dX12_lists_66 : decode cX12_lists 66 = .ok (.iload 6, 2) := by decide +kernel
theorem dX12_lists_68 : decode cX12_lists 68 = .ok (.iastore, 1) := by decide +kernel
theorem dX12_lists_69 : decode cX12_lists 69 = .ok (.aload_n 0, 1) := by decide +kernel
theorem dX12_lists_70 : decode cX12_lists 70 = .ok (.dup, 1) := by decide +kernel
theorem dX12_lists_71 : decode cX12_lists 71 = .ok (.getfield 290, 3) := by decide +kernel
theorem dX12_lists_74 : decode cX12_lists 74 = .ok (.iconst 1, 1) := by decide +kernel
theorem dX12_lists_75 : decode cX12_lists 75 = .ok (.iadd, 1) := by decide +kernel
theorem dX12_lists_76 : decode cX12_lists 76 = .ok (.putfield 290, 3) := by decide +kernel
theorem dX12_lists_79 : decode cX12_lists 79 = .ok (.iinc 5 1, 3) := by decide +kernel
theorem dX12_lists_82 : decode cX12_lists 82 = .ok (.goto (-71), 3) := by decide +kernel
theorem dX12_lists_85 : decode cX12_lists 85 = .ok (.iload 4, 2) := by decide +kernel
theorem dX12_lists_87 : decode cX12_lists 87 = .ok (.ireturn, 1) := by decide +kernel
theorem dX12_rooms_0 : decode cX12_rooms 0 = .ok (.aload_n 0, 1) := by decide +kernel
theorem dX12_rooms_1 : decode cX12_rooms 1 = .ok (.getfield 290, 3) := by decide +kernel
theorem dX12_rooms_4 : decode cX12_rooms 4 = .ok (.istore 5, 2) := by decide +kernel
theorem dX12_rooms_6 : decode cX12_rooms 6 = .ok (.iload_n 1, 1) := by decide +kernel
theorem dX12_rooms_7 : decode cX12_rooms 7 = .ok (.iconst 1, 1) := by decide +kernel
theorem dX12_rooms_8 : decode cX12_rooms 8 = .ok (.iadd, 1) := by decide +kernel
theorem dX12_rooms_9 : decode cX12_rooms 9 = .ok (.istore 6, 2) := by decide +kernel
theorem dX12_rooms_11 : decode cX12_rooms 11 = .ok (.iload 6, 2) := by decide +kernel
theorem dX12_rooms_13 : decode cX12_rooms 13 = .ok (.iload_n 2, 1) := by decide +kernel
theorem dX12_rooms_14 : decode cX12_rooms 14 = .ok (.iconst 1, 1) := by decide +kernel
theorem dX12_rooms_15 : decode cX12_rooms 15 = .ok (.isub, 1) := by decide +kernel
theorem dX12_rooms_16 : decode cX12_rooms 16 = .ok (.if_icmp .ge 58, 3) := by decide +kernel
theorem dX12_rooms_19 : decode cX12_rooms 19 = .ok (.aload_n 0, 1) := by decide +kernel
theorem dX12_rooms_20 : decode cX12_rooms 20 = .ok (.getfield 84, 3) := by decide +kernel
theorem dX12_rooms_23 : decode cX12_rooms 23 = .ok (.iload 6, 2) := by decide +kernel
theorem dX12_rooms_25 : decode cX12_rooms 25 = .ok (.iaload, 1) := by decide +kernel
theorem dX12_rooms_26 : decode cX12_rooms 26 = .ok (.iload_n 3, 1) := by decide +kernel
theorem dX12_rooms_27 : decode cX12_rooms 27 = .ok (.ishr, 1) := by decide +kernel
theorem dX12_rooms_28 : decode cX12_rooms 28 = .ok (.iload 4, 2) := by decide +kernel
theorem dX12_rooms_30 : decode cX12_rooms 30 = .ok (.if_icmp .eq 6, 3) := by decide +kernel
theorem dX12_rooms_33 : decode cX12_rooms 33 = .ok (.goto 35, 3) := by decide +kernel
theorem dX12_rooms_36 : decode cX12_rooms 36 = .ok (.aload_n 0, 1) := by decide +kernel
theorem dX12_rooms_37 : decode cX12_rooms 37 = .ok (.getfield 84, 3) := by decide +kernel
theorem dX12_rooms_40 : decode cX12_rooms 40 = .ok (.aload_n 0, 1) := by decide +kernel
theorem dX12_rooms_41 : decode cX12_rooms 41 = .ok (.getfield 290, 3) := by decide +kernel
theorem dX12_rooms_44 : decode cX12_rooms 44 = .ok (.aload_n 0, 1) := by decide +kernel
theorem dX12_rooms_45 : decode cX12_rooms 45 = .ok (.getfield 84, 3) := by decide +kernel
theorem dX12_rooms_48 : decode cX12_rooms 48 = .ok (.iload 6, 2) := by decide +kernel
theorem dX12_rooms_50 : decode cX12_rooms 50 = .ok (.iaload, 1) := by decide +kernel
theorem dX12_rooms_51 : decode cX12_rooms 51 = .ok (.iconst 1, 1) := by decide +kernel
theorem dX12_rooms_52 : decode cX12_rooms 52 = .ok (.iload_n 3, 1) := by decide +kernel
theorem dX12_rooms_53 : decode cX12_rooms 53 = .ok (.ishl, 1) := by decide +kernel
theorem dX12_rooms_54 : decode cX12_rooms 54 = .ok (.iconst 1, 1) := by decide +kernel
theorem dX12_rooms_55 : decode cX12_rooms 55 = .ok (.isub, 1) := by decide +kernel
theorem dX12_rooms_56 : decode cX12_rooms 56 = .ok (.iand, 1) := by decide +kernel
theorem dX12_rooms_57 : decode cX12_rooms 57 = .ok (.iastore, 1) := by decide +kernel
theorem dX12_rooms_58 : decode cX12_rooms 58 = .ok (.aload_n 0, 1) := by decide +kernel
theorem dX12_rooms_59 : decode cX12_rooms 59 = .ok (.dup, 1) := by decide +kernel
theorem dX12_rooms_60 : decode cX12_rooms 60 = .ok (.getfield 290, 3) := by decide +kernel
theorem dX12_rooms_63 : decode cX12_rooms 63 = .ok (.iconst 1, 1) := by decide +kernel
theorem dX12_rooms_64 : decode cX12_rooms 64 = .ok (.iadd, 1) := by decide +kernel
theorem dX12_rooms_65 : decode cX12_rooms 65 = .ok (.putfield 290, 3) := by decide +kernel
theorem dX12_rooms_68 : decode cX12_rooms 68 = .ok (.iinc 6 1, 3) := by decide +kernel
theorem dX12_rooms_71 : decode cX12_rooms 71 = .ok (.goto (-60), 3) := by decide +kernel
theorem dX12_rooms_74 : decode cX12_rooms 74 = .ok (.iload 5, 2) := by decide +kernel
theorem dX12_rooms_76 : decode cX12_rooms 76 = .ok (.ireturn, 1) := by decide +kernel
theorem dX12_roomMany_0 : decode cX12_roomMany 0 = .ok (.aload_n 0, 1) := by decide +kernel
theorem dX12_roomMany_1 : decode cX12_roomMany 1 = .ok (.iload_n 2, 1) := by decide +kernel
theorem dX12_roomMany_2 : decode cX12_roomMany 2 = .ok (.invokevirtual 293, 3) := by decide +kernel
theorem dX12_roomMany_5 : decode cX12_roomMany 5 = .ok (.istore 5, 2) := by decide +kernel
theorem dX12_roomMany_7 : decode cX12_roomMany 7 = .ok (.iconst 0, 1) := by decide +kernel
theorem dX12_roomMany_8 : decode cX12_roomMany 8 = .ok (.istore 6, 2) := by decide +kernel
theorem dX12_roomMany_10 : decode cX12_roomMany 10 = .ok (.iload_n 3, 1) := by decide +kernel
theorem dX12_roomMany_11 : decode cX12_roomMany 11 = .ok (.iconst 1, 1) := by decide +kernel
theorem dX12_roomMany_12 : decode cX12_roomMany 12 = .ok (.iadd, 1) := by decide +kernel
theorem dX12_roomMany_13 : decode cX12_roomMany 13 = .ok (.istore 7, 2) := by decide +kernel
theorem dX12_roomMany_15 : decode cX12_roomMany 15 = .ok (.iload 7, 2) := by decide +kernel
theorem dX12_roomMany_17 : decode cX12_roomMany 17 = .ok (.iload 4, 2) := by decide +kernel
theorem dX12_roomMany_19 : decode cX12_roomMany 19 = .ok (.iconst 1, 1) := by decide +kernel
theorem dX12_roomMany_20 : decode cX12_roomMany 20 = .ok (.isub, 1) := by decide +kernel
theorem dX12_roomMany_21 : decode cX12_roomMany 21 = .ok (.if_icmp .ge 36, 3) := by decide +kernel
theorem dX12_roomMany_24 : decode cX12_roomMany 24 = .ok (.iload 6, 2) := by decide +kernel
theorem dX12_roomMany_26 : decode cX12_roomMany 26 = .ok (.aload_n 0, 1) := by decide +kernel
theorem dX12_roomMany_27 : decode cX12_roomMany 27 = .ok (.getfield 84, 3) := by decide +kernel
theorem dX12_roomMany_30 : decode cX12_roomMany 30 = .ok (.iload 7, 2) := by decide +kernel
theorem dX12_roomMany_32 : decode cX12_roomMany 32 = .ok (.iaload, 1) := by decide +kernel
theorem dX12_roomMany_33 : decode cX12_roomMany 33 = .ok (.iload 5, 2) := by decide +kernel
theorem dX12_roomMany_35 : decode cX12_roomMany 35 = .ok (.ishr, 1) := by decide +kernel
theorem dX12_roomMany_36 : decode cX12_roomMany 36 = .ok (.iload_n 1, 1) := by decide +kernel
theorem dX12_roomMany_37 : decode cX12_roomMany 37 = .ok (.iload 5, 2) := by decide +kernel
theorem dX12_roomMany_39 : decode cX12_roomMany 39 = .ok (.ishr, 1) := by decide +kernel
theorem dX12_roomMany_40 : decode cX12_roomMany 40 = .ok (.if_icmp .ne 7, 3) := by decide +kernel
theorem dX12_roomMany_43 : decode cX12_roomMany 43 = .ok (.iconst 1, 1) := by decide +kernel
theorem dX12_roomMany_44 : decode cX12_roomMany 44 = .ok (.goto 4, 3) := by decide +kernel
theorem dX12_roomMany_47 : decode cX12_roomMany 47 = .ok (.iconst 0, 1) := by decide +kernel
theorem dX12_roomMany_48 : decode cX12_roomMany 48 = .ok (.iadd, 1) := by decide +kernel
theorem dX12_roomMany_49 : decode cX12_roomMany 49 = .ok (.istore 6, 2) := by decide +kernel
theorem dX12_roomMany_51 : decode cX12_roomMany 51 = .ok (.iinc 7 1, 3) := by decide +kernel
theorem dX12_roomMany_54 : decode cX12_roomMany 54 = .ok (.goto (-39), 3) := by decide +kernel
theorem dX12_roomMany_57 : decode cX12_roomMany 57 = .ok (.iload 6, 2) := by decide +kernel
theorem dX12_roomMany_59 : decode cX12_roomMany 59 = .ok (.ireturn, 1) := by decide +kernel
theorem dX12_roomEnd_0 : decode cX12_roomEnd 0 = .ok (.aload_n 0, 1) := by decide +kernel
theorem dX12_roomEnd_1 : decode cX12_roomEnd 1 = .ok (.iload_n 2, 1) := by decide +kernel
theorem dX12_roomEnd_2 : decode cX12_roomEnd 2 = .ok (.invokevirtual 293, 3) := by decide +kernel
theorem dX12_roomEnd_5 : decode cX12_roomEnd 5 = .ok (.istore 6, 2) := by decide +kernel
theorem dX12_roomEnd_7 : decode cX12_roomEnd 7 = .ok (.iconst (-1), 1) := by decide +kernel
theorem dX12_roomEnd_8 : decode cX12_roomEnd 8 = .ok (.istore 7, 2) := by decide +kernel
theorem dX12_roomEnd_10 : decode cX12_roomEnd 10 = .ok (.iload_n 3, 1) := by decide +kernel
theorem dX12_roomEnd_11 : decode cX12_roomEnd 11 = .ok (.iconst 1, 1) := by decide +kernel
theorem dX12_roomEnd_12 : decode cX12_roomEnd 12 = .ok (.iadd, 1) := by decide +kernel
theorem dX12_roomEnd_13 : decode cX12_roomEnd 13 = .ok (.istore 8, 2) := by decide +kernel
theorem dX12_roomEnd_15 : decode cX12_roomEnd 15 = .ok (.iload 8, 2) := by decide +kernel
theorem dX12_roomEnd_17 : decode cX12_roomEnd 17 = .ok (.iload 4, 2) := by decide +kernel
theorem dX12_roomEnd_19 : decode cX12_roomEnd 19 = .ok (.iconst 1, 1) := by decide +kernel
theorem dX12_roomEnd_20 : decode cX12_roomEnd 20 = .ok (.isub, 1) := by decide +kernel
theorem dX12_roomEnd_21 : decode cX12_roomEnd 21 = .ok (.if_icmp .ge 56, 3) := by decide +kernel
theorem dX12_roomEnd_24 : decode cX12_roomEnd 24 = .ok (.aload_n 0, 1) := by decide +kernel
theorem dX12_roomEnd_25 : decode cX12_roomEnd 25 = .ok (.getfield 84, 3) := by decide +kernel
theorem dX12_roomEnd_28 : decode cX12_roomEnd 28 = .ok (.iload 8, 2) := by decide +kernel
theorem dX12_roomEnd_30 : decode cX12_roomEnd 30 = .ok (.iaload, 1) := by decide +kernel
theorem dX12_roomEnd_31 : decode cX12_roomEnd 31 = .ok (.iload 6, 2) := by decide +kernel
theorem dX12_roomEnd_33 : decode cX12_roomEnd 33 = .ok (.ishr, 1) := by decide +kernel
theorem dX12_roomEnd_34 : decode cX12_roomEnd 34 = .ok (.iload_n 1, 1) := by decide +kernel
theorem dX12_roomEnd_35 : decode cX12_roomEnd 35 = .ok (.iload 6, 2) := by decide +kernel
theorem dX12_roomEnd_37 : decode cX12_roomEnd 37 = .ok (.ishr, 1) := by decide +kernel
theorem dX12_roomEnd_38 : decode cX12_roomEnd 38 = .ok (.if_icmp .eq 6, 3) := by decide +kernel
theorem dX12_roomEnd_41 : decode cX12_roomEnd 41 = .ok (.goto 30, 3) := by decide +kernel
theorem dX12_roomEnd_44 : decode cX12_roomEnd 44 = .ok (.iload 7, 2) := by decide +kernel
theorem dX12_roomEnd_46 : decode cX12_roomEnd 46 = .ok (.iconst (-1), 1) := by decide +kernel
theorem dX12_roomEnd_47 : decode cX12_roomEnd 47 = .ok (.if_icmp .eq 8, 3) := by decide +kernel
theorem dX12_roomEnd_50 : decode cX12_roomEnd 50 = .ok (.iload 5, 2) := by decide +kernel
theorem dX12_roomEnd_52 : decode cX12_roomEnd 52 = .ok (.ifCond .ne 19, 3) := by decide +kernel
theorem dX12_roomEnd_55 : decode cX12_roomEnd 55 = .ok (.aload_n 0, 1) := by decide +kernel
theorem dX12_roomEnd_56 : decode cX12_roomEnd 56 = .ok (.getfield 84, 3) := by decide +kernel
theorem dX12_roomEnd_59 : decode cX12_roomEnd 59 = .ok (.iload 8, 2) := by decide +kernel
theorem dX12_roomEnd_61 : decode cX12_roomEnd 61 = .ok (.iaload, 1) := by decide +kernel
theorem dX12_roomEnd_62 : decode cX12_roomEnd 62 = .ok (.iconst 1, 1) := by decide +kernel
theorem dX12_roomEnd_63 : decode cX12_roomEnd 63 = .ok (.iload 6, 2) := by decide +kernel
theorem dX12_roomEnd_65 : decode cX12_roomEnd 65 = .ok (.ishl, 1) := by decide +kernel
theorem dX12_roomEnd_66 : decode cX12_roomEnd 66 = .ok (.iconst 1, 1) := by decide +kernel
theorem dX12_roomEnd_67 : decode cX12_roomEnd 67 = .ok (.isub, 1) := by decide +kernel
theorem dX12_roomEnd_68 : decode cX12_roomEnd 68 = .ok (.iand, 1) := by decide +kernel
theorem dX12_roomEnd_69 : decode cX12_roomEnd 69 = .ok (.istore 7, 2) := by decide +kernel
theorem dX12_roomEnd_71 : decode cX12_roomEnd 71 = .ok (.iinc 8 1, 3) := by decide +kernel
theorem dX12_roomEnd_74 : decode cX12_roomEnd 74 = .ok (.goto (-59), 3) := by decide +kernel
theorem dX12_roomEnd_77 : decode cX12_roomEnd 77 = .ok (.iload 7, 2) := by decide +kernel
theorem dX12_roomEnd_79 : decode cX12_roomEnd 79 = .ok (.ireturn, 1) := by decide +kernel
theorem dX12_isInside_0 : decode cX12_isInside 0 = .ok (.iload_n 2, 1) := by decide +kernel
theorem dX12_isInside_1 : decode cX12_isInside 1 = .ok (.iconst 1, 1) := by decide +kernel
theorem dX12_isInside_2 : decode cX12_isInside 2 = .ok (.iadd, 1) := by decide +kernel
theorem dX12_isInside_3 : decode cX12_isInside 3 = .ok (.istore 4, 2) := by decide +kernel
theorem dX12_isInside_5 : decode cX12_isInside 5 = .ok (.iload 4, 2) := by decide +kernel
theorem dX12_isInside_7 : decode cX12_isInside 7 = .ok (.iload_n 3, 1) := by decide +kernel
theorem dX12_isInside_8 : decode cX12_isInside 8 = .ok (.iconst 1, 1) := by decide +kernel
theorem dX12_isInside_9 : decode cX12_isInside 9 = .ok (.isub, 1) := by decide +kernel
theorem dX12_isInside_10 : decode cX12_isInside 10 = .ok (.if_icmp .ge 22, 3) := by decide +kernel
theorem dX12_isInside_13 : decode cX12_isInside 13 = .ok (.aload_n 0, 1) := by decide +kernel
theorem dX12_isInside_14 : decode cX12_isInside 14 = .ok (.getfield 84, 3) := by decide +kernel
theorem dX12_isInside_17 : decode cX12_isInside 17 = .ok (.iload 4, 2) := by decide +kernel
theorem dX12_isInside_19 : decode cX12_isInside 19 = .ok (.iaload, 1) := by decide +kernel
theorem dX12_isInside_20 : decode cX12_isInside 20 = .ok (.iload_n 1, 1) := by decide +kernel
theorem dX12_isInside_21 : decode cX12_isInside 21 = .ok (.if_icmp .ne 5, 3) := by decide +kernel
theorem dX12_isInside_24 : decode cX12_isInside 24 = .ok (.iconst 1, 1) := by decide +kernel
theorem dX12_isInside_25 : decode cX12_isInside 25 = .ok (.ireturn, 1) := by decide +kernel
theorem dX12_isInside_26 : decode cX12_isInside 26 = .ok (.iinc 4 1, 3) := by decide +kernel
theorem dX12_isInside_29 : decode cX12_isInside 29 = .ok (.goto (-24), 3) := by decide +kernel
theorem dX12_isInside_32 : decode cX12_isInside 32 = .ok (.iconst 0, 1) := by decide +kernel
theorem dX12_isInside_33 : decode cX12_isInside 33 = .ok (.ireturn, 1) := by decide +kernel
theorem dX12_lays_0 : decode cX12_lays 0 = .ok (.aload_n 0, 1) := by decide +kernel
theorem dX12_lays_1 : decode cX12_lays 1 = .ok (.iconst 0, 1) := by decide +kernel
theorem dX12_lays_2 : decode cX12_lays 2 = .ok (.putfield 290, 3) := by decide +kernel
theorem dX12_lays_5 : decode cX12_lays 5 = .ok (.iconst 0, 1) := by decide +kernel
theorem dX12_lays_6 : decode cX12_lays 6 = .ok (.istore_n 2, 1) := by decide +kernel
theorem dX12_lays_7 : decode cX12_lays 7 = .ok (.iload_n 2, 1) := by decide +kernel
theorem dX12_lays_8 : decode cX12_lays 8 = .ok (.aload_n 0, 1) := by decide +kernel
theorem dX12_lays_9 : decode cX12_lays 9 = .ok (.getfield 36, 3) := by decide +kernel
theorem dX12_lays_12 : decode cX12_lays 12 = .ok (.iload_n 1, 1) := by decide +kernel
theorem dX12_lays_13 : decode cX12_lays 13 = .ok (.iaload, 1) := by decide +kernel
theorem dX12_lays_14 : decode cX12_lays 14 = .ok (.if_icmp .ge 40, 3) := by decide +kernel
theorem dX12_lays_17 : decode cX12_lays 17 = .ok (.aload_n 0, 1) := by decide +kernel
theorem dX12_lays_18 : decode cX12_lays 18 = .ok (.getfield 84, 3) := by decide +kernel
theorem dX12_lays_21 : decode cX12_lays 21 = .ok (.aload_n 0, 1) := by decide +kernel
theorem dX12_lays_22 : decode cX12_lays 22 = .ok (.getfield 290, 3) := by decide +kernel
theorem dX12_lays_25 : decode cX12_lays 25 = .ok (.aload_n 0, 1) := by decide +kernel
theorem dX12_lays_26 : decode cX12_lays 26 = .ok (.getfield 33, 3) := by decide +kernel
theorem dX12_lays_29 : decode cX12_lays 29 = .ok (.sipush 2000, 3) := by decide +kernel
theorem dX12_lays_32 : decode cX12_lays 32 = .ok (.iload_n 1, 1) := by decide +kernel
theorem dX12_lays_33 : decode cX12_lays 33 = .ok (.imul, 1) := by decide +kernel
theorem dX12_lays_34 : decode cX12_lays 34 = .ok (.iload_n 2, 1) := by decide +kernel
theorem dX12_lays_35 : decode cX12_lays 35 = .ok (.iadd, 1) := by decide +kernel
theorem dX12_lays_36 : decode cX12_lays 36 = .ok (.iaload, 1) := by decide +kernel
theorem dX12_lays_37 : decode cX12_lays 37 = .ok (.iastore, 1) := by decide +kernel
theorem dX12_lays_38 : decode cX12_lays 38 = .ok (.aload_n 0, 1) := by decide +kernel
theorem dX12_lays_39 : decode cX12_lays 39 = .ok (.dup, 1) := by decide +kernel
theorem dX12_lays_40 : decode cX12_lays 40 = .ok (.getfield 290, 3) := by decide +kernel
theorem dX12_lays_43 : decode cX12_lays 43 = .ok (.iconst 1, 1) := by decide +kernel
theorem dX12_lays_44 : decode cX12_lays 44 = .ok (.iadd, 1) := by decide +kernel
theorem dX12_lays_45 : decode cX12_lays 45 = .ok (.putfield 290, 3) := by decide +kernel
theorem dX12_lays_48 : decode cX12_lays 48 = .ok (.iinc 2 1, 3) := by decide +kernel
theorem dX12_lays_51 : decode cX12_lays 51 = .ok (.goto (-44), 3) := by decide +kernel
theorem dX12_lays_54 : decode cX12_lays 54 = .ok (.return_, 1) := by decide +kernel
theorem dX12_hasIn_0 : decode cX12_hasIn 0 = .ok (.aload_n 0, 1) := by decide +kernel
theorem dX12_hasIn_1 : decode cX12_hasIn 1 = .ok (.iload_n 1, 1) := by decide +kernel
theorem dX12_hasIn_2 : decode cX12_hasIn 2 = .ok (.iload_n 3, 1) := by decide +kernel
theorem dX12_hasIn_3 : decode cX12_hasIn 3 = .ok (.invokevirtual 254, 3) := by decide +kernel
theorem dX12_hasIn_6 : decode cX12_hasIn 6 = .ok (.aload_n 0, 1) := by decide +kernel
theorem dX12_hasIn_7 : decode cX12_hasIn 7 = .ok (.iload_n 1, 1) := by decide +kernel
theorem dX12_hasIn_8 : decode cX12_hasIn 8 = .ok (.iload_n 2, 1) := by decide +kernel
theorem dX12_hasIn_9 : decode cX12_hasIn 9 = .ok (.invokevirtual 254, 3) := by decide +kernel
theorem dX12_hasIn_12 : decode cX12_hasIn 12 = .ok (.if_icmp .le 7, 3) := by decide +kernel
theorem dX12_hasIn_15 : decode cX12_hasIn 15 = .ok (.iconst 1, 1) := by decide +kernel
theorem dX12_hasIn_16 : decode cX12_hasIn 16 = .ok (.goto 4, 3) := by decide +kernel
theorem dX12_hasIn_19 : decode cX12_hasIn 19 = .ok (.iconst 0, 1) := by decide +kernel
theorem dX12_hasIn_20 : decode cX12_hasIn 20 = .ok (.ireturn, 1) := by decide +kernel
theorem dX12_bits_0 : decode cX12_bits 0 = .ok (.iload_n 2, 1) := by decide +kernel
theorem dX12_bits_1 : decode cX12_bits 1 = .ok (.iconst 3, 1) := by decide +kernel
theorem dX12_bits_2 : decode cX12_bits 2 = .ok (.if_icmp .ge 5, 3) := by decide +kernel
theorem dX12_bits_5 : decode cX12_bits 5 = .ok (.iconst 1, 1) := by decide +kernel
theorem dX12_bits_6 : decode cX12_bits 6 = .ok (.ireturn, 1) := by decide +kernel
theorem dX12_bits_7 : decode cX12_bits 7 = .ok (.aload_n 0, 1) := by decide +kernel
theorem dX12_bits_8 : decode cX12_bits 8 = .ok (.invokevirtual 257, 3) := by decide +kernel
theorem dX12_bits_11 : decode cX12_bits 11 = .ok (.iconst 1, 1) := by decide +kernel
theorem dX12_bits_12 : decode cX12_bits 12 = .ok (.isub, 1) := by decide +kernel
theorem dX12_bits_13 : decode cX12_bits 13 = .ok (.bipush 32, 2) := by decide +kernel
theorem dX12_bits_15 : decode cX12_bits 15 = .ok (.idiv, 1) := by decide +kernel
theorem dX12_bits_16 : decode cX12_bits 16 = .ok (.istore 4, 2) := by decide +kernel
theorem dX12_bits_18 : decode cX12_bits 18 = .ok (.iload_n 2, 1) := by decide +kernel
theorem dX12_bits_19 : decode cX12_bits 19 = .ok (.iconst 3, 1) := by decide +kernel
theorem dX12_bits_20 : decode cX12_bits 20 = .ok (.if_icmp .ne 78, 3) := by decide +kernel
theorem dX12_bits_23 : decode cX12_bits 23 = .ok (.iload_n 3, 1) := by decide +kernel
theorem dX12_bits_24 : decode cX12_bits 24 = .ok (.aload_n 0, 1) := by decide +kernel
theorem dX12_bits_25 : decode cX12_bits 25 = .ok (.invokevirtual 257, 3) := by decide +kernel
theorem dX12_bits_28 : decode cX12_bits 28 = .ok (.iconst 1, 1) := by decide +kernel
theorem dX12_bits_29 : decode cX12_bits 29 = .ok (.isub, 1) := by decide +kernel
theorem dX12_bits_30 : decode cX12_bits 30 = .ok (.if_icmp .ne 5, 3) := by decide +kernel
theorem dX12_bits_33 : decode cX12_bits 33 = .ok (.iconst 0, 1) := by decide +kernel
theorem dX12_bits_34 : decode cX12_bits 34 = .ok (.ireturn, 1) := by decide +kernel
theorem dX12_bits_35 : decode cX12_bits 35 = .ok (.iload_n 3, 1) := by decide +kernel
theorem dX12_bits_36 : decode cX12_bits 36 = .ok (.iconst 1, 1) := by decide +kernel
theorem dX12_bits_37 : decode cX12_bits 37 = .ok (.iadd, 1) := by decide +kernel
theorem dX12_bits_38 : decode cX12_bits 38 = .ok (.bipush 32, 2) := by decide +kernel
theorem dX12_bits_40 : decode cX12_bits 40 = .ok (.idiv, 1) := by decide +kernel
theorem dX12_bits_41 : decode cX12_bits 41 = .ok (.istore 5, 2) := by decide +kernel
theorem dX12_bits_43 : decode cX12_bits 43 = .ok (.iconst 1, 1) := by decide +kernel
theorem dX12_bits_44 : decode cX12_bits 44 = .ok (.istore 6, 2) := by decide +kernel
theorem dX12_bits_46 : decode cX12_bits 46 = .ok (.iload 5, 2) := by decide +kernel
theorem dX12_bits_48 : decode cX12_bits 48 = .ok (.iload 4, 2) := by decide +kernel
theorem dX12_bits_50 : decode cX12_bits 50 = .ok (.if_icmp .ge 45, 3) := by decide +kernel
theorem dX12_bits_53 : decode cX12_bits 53 = .ok (.aload_n 0, 1) := by decide +kernel
theorem dX12_bits_54 : decode cX12_bits 54 = .ok (.iload_n 1, 1) := by decide +kernel
theorem dX12_bits_55 : decode cX12_bits 55 = .ok (.iload 6, 2) := by decide +kernel
theorem dX12_bits_57 : decode cX12_bits 57 = .ok (.iconst 1, 1) := by decide +kernel
theorem dX12_bits_58 : decode cX12_bits 58 = .ok (.if_icmp .ne 9, 3) := by decide +kernel
theorem dX12_bits_61 : decode cX12_bits 61 = .ok (.iload_n 3, 1) := by decide +kernel
theorem dX12_bits_62 : decode cX12_bits 62 = .ok (.iconst 1, 1) := by decide +kernel
theorem dX12_bits_63 : decode cX12_bits 63 = .ok (.iadd, 1) := by decide +kernel
theorem dX12_bits_64 : decode cX12_bits 64 = .ok (.goto 8, 3) := by decide +kernel
theorem dX12_bits_67 : decode cX12_bits 67 = .ok (.bipush 32, 2) := by decide +kernel
theorem dX12_bits_69 : decode cX12_bits 69 = .ok (.iload 5, 2) := by decide +kernel
theorem dX12_bits_71 : decode cX12_bits 71 = .ok (.imul, 1) := by decide +kernel
theorem dX12_bits_72 : decode cX12_bits 72 = .ok (.bipush 32, 2) := by decide +kernel
theorem dX12_bits_74 : decode cX12_bits 74 = .ok (.iload 5, 2) := by decide +kernel
theorem dX12_bits_76 : decode cX12_bits 76 = .ok (.imul, 1) := by decide +kernel
theorem dX12_bits_77 : decode cX12_bits 77 = .ok (.bipush 32, 2) := by decide +kernel
theorem dX12_bits_79 : decode cX12_bits 79 = .ok (.iadd, 1) := by decide +kernel
theorem dX12_bits_80 : decode cX12_bits 80 = .ok (.invokevirtual 332, 3) := by decide +kernel
theorem dX12_bits_83 : decode cX12_bits 83 = .ok (.ifCond .ne 12, 3) := by decide +kernel
theorem dX12_bits_86 : decode cX12_bits 86 = .ok (.iinc 6 1, 3) := by decide +kernel
theorem dX12_bits_89 : decode cX12_bits 89 = .ok (.iinc 5 1, 3) := by decide +kernel
theorem dX12_bits_92 : decode cX12_bits 92 = .ok (.goto (-46), 3) := by decide +kernel
theorem dX12_bits_95 : decode cX12_bits 95 = .ok (.iload 6, 2) := by decide +kernel
theorem dX12_bits_97 : decode cX12_bits 97 = .ok (.ireturn, 1) := by decide +kernel
theorem dX12_bits_98 : decode cX12_bits 98 = .ok (.iload_n 3, 1) := by decide +kernel
theorem dX12_bits_99 : decode cX12_bits 99 = .ok (.ifCond .ne 5, 3) := by decide +kernel
theorem dX12_bits_102 : decode cX12_bits 102 = .ok (.iconst 0, 1) := by decide +kernel
theorem dX12_bits_103 : decode cX12_bits 103 = .ok (.ireturn, 1) := by decide +kernel
theorem dX12_bits_104 : decode cX12_bits 104 = .ok (.iload_n 3, 1) := by decide +kernel
theorem dX12_bits_105 : decode cX12_bits 105 = .ok (.iconst 1, 1) := by decide +kernel
theorem dX12_bits_106 : decode cX12_bits 106 = .ok (.isub, 1) := by decide +kernel
theorem dX12_bits_107 : decode cX12_bits 107 = .ok (.bipush 32, 2) := by decide +kernel
theorem dX12_bits_109 : decode cX12_bits 109 = .ok (.idiv, 1) := by decide +kernel
theorem dX12_bits_110 : decode cX12_bits 110 = .ok (.istore 5, 2) := by decide +kernel
theorem dX12_bits_112 : decode cX12_bits 112 = .ok (.iconst 1, 1) := by decide +kernel
theorem dX12_bits_113 : decode cX12_bits 113 = .ok (.istore 6, 2) := by decide +kernel
theorem dX12_bits_115 : decode cX12_bits 115 = .ok (.iload 5, 2) := by decide +kernel
theorem dX12_bits_117 : decode cX12_bits 117 = .ok (.ifCond .le 43, 3) := by decide +kernel
theorem dX12_bits_120 : decode cX12_bits 120 = .ok (.aload_n 0, 1) := by decide +kernel
theorem dX12_bits_121 : decode cX12_bits 121 = .ok (.iload_n 1, 1) := by decide +kernel
theorem dX12_bits_122 : decode cX12_bits 122 = .ok (.bipush 32, 2) := by decide +kernel
theorem dX12_bits_124 : decode cX12_bits 124 = .ok (.iload 5, 2) := by decide +kernel
theorem dX12_bits_126 : decode cX12_bits 126 = .ok (.imul, 1) := by decide +kernel
theorem dX12_bits_127 : decode cX12_bits 127 = .ok (.iload 6, 2) := by decide +kernel
theorem dX12_bits_129 : decode cX12_bits 129 = .ok (.iconst 1, 1) := by decide +kernel
theorem dX12_bits_130 : decode cX12_bits 130 = .ok (.if_icmp .ne 7, 3) := by decide +kernel
theorem dX12_bits_133 : decode cX12_bits 133 = .ok (.iload_n 3, 1) := by decide +kernel
theorem dX12_bits_134 : decode cX12_bits 134 = .ok (.goto 11, 3) := by decide +kernel
theorem dX12_bits_137 : decode cX12_bits 137 = .ok (.bipush 32, 2) := by decide +kernel
theorem dX12_bits_139 : decode cX12_bits 139 = .ok (.iload 5, 2) := by decide +kernel
theorem dX12_bits_141 : decode cX12_bits 141 = .ok (.imul, 1) := by decide +kernel
theorem dX12_bits_142 : decode cX12_bits 142 = .ok (.bipush 32, 2) := by decide +kernel
theorem dX12_bits_144 : decode cX12_bits 144 = .ok (.iadd, 1) := by decide +kernel
theorem dX12_bits_145 : decode cX12_bits 145 = .ok (.invokevirtual 332, 3) := by decide +kernel
theorem dX12_bits_148 : decode cX12_bits 148 = .ok (.ifCond .ne 12, 3) := by decide +kernel
theorem dX12_bits_151 : decode cX12_bits 151 = .ok (.iinc 6 1, 3) := by decide +kernel
theorem dX12_bits_154 : decode cX12_bits 154 = .ok (.iinc 5 (-1), 3) := by decide +kernel
theorem dX12_bits_157 : decode cX12_bits 157 = .ok (.goto (-42), 3) := by decide +kernel
theorem dX12_bits_160 : decode cX12_bits 160 = .ok (.iload 6, 2) := by decide +kernel
theorem dX12_bits_162 : decode cX12_bits 162 = .ok (.ireturn, 1) := by decide +kernel
theorem dX12_sorted_0 : decode cX12_sorted 0 = .ok (.iload_n 2, 1) := by decide +kernel
theorem dX12_sorted_1 : decode cX12_sorted 1 = .ok (.iconst 3, 1) := by decide +kernel
theorem dX12_sorted_2 : decode cX12_sorted 2 = .ok (.if_icmp .ne 9, 3) := by decide +kernel
theorem dX12_sorted_5 : decode cX12_sorted 5 = .ok (.iload_n 3, 1) := by decide +kernel
theorem dX12_sorted_6 : decode cX12_sorted 6 = .ok (.iconst 1, 1) := by decide +kernel
theorem dX12_sorted_7 : decode cX12_sorted 7 = .ok (.iadd, 1) := by decide +kernel
theorem dX12_sorted_8 : decode cX12_sorted 8 = .ok (.goto 4, 3) := by decide +kernel
theorem dX12_sorted_11 : decode cX12_sorted 11 = .ok (.iload_n 3, 1) := by decide +kernel
theorem dX12_sorted_12 : decode cX12_sorted 12 = .ok (.istore 4, 2) := by decide +kernel
theorem dX12_sorted_14 : decode cX12_sorted 14 = .ok (.iconst 0, 1) := by decide +kernel
theorem dX12_sorted_15 : decode cX12_sorted 15 = .ok (.istore 5, 2) := by decide +kernel
theorem dX12_sorted_17 : decode cX12_sorted 17 = .ok (.aload_n 0, 1) := by decide +kernel
theorem dX12_sorted_18 : decode cX12_sorted 18 = .ok (.getfield 36, 3) := by decide +kernel
theorem dX12_sorted_21 : decode cX12_sorted 21 = .ok (.iload_n 1, 1) := by decide +kernel
theorem dX12_sorted_22 : decode cX12_sorted 22 = .ok (.iaload, 1) := by decide +kernel
theorem dX12_sorted_23 : decode cX12_sorted 23 = .ok (.istore 6, 2) := by decide +kernel
theorem dX12_sorted_25 : decode cX12_sorted 25 = .ok (.iconst 0, 1) := by decide +kernel
theorem dX12_sorted_26 : decode cX12_sorted 26 = .ok (.istore 7, 2) := by decide +kernel
theorem dX12_sorted_28 : decode cX12_sorted 28 = .ok (.iload 5, 2) := by decide +kernel
theorem dX12_sorted_30 : decode cX12_sorted 30 = .ok (.iload 6, 2) := by decide +kernel
theorem dX12_sorted_32 : decode cX12_sorted 32 = .ok (.if_icmp .ge 49, 3) := by decide +kernel
theorem dX12_sorted_35 : decode cX12_sorted 35 = .ok (.iload 5, 2) := by decide +kernel
theorem dX12_sorted_37 : decode cX12_sorted 37 = .ok (.iload 6, 2) := by decide +kernel
theorem dX12_sorted_39 : decode cX12_sorted 39 = .ok (.iadd, 1) := by decide +kernel
theorem dX12_sorted_40 : decode cX12_sorted 40 = .ok (.iconst 2, 1) := by decide +kernel
theorem dX12_sorted_41 : decode cX12_sorted 41 = .ok (.idiv, 1) := by decide +kernel
theorem dX12_sorted_42 : decode cX12_sorted 42 = .ok (.istore 8, 2) := by decide +kernel
theorem dX12_sorted_44 : decode cX12_sorted 44 = .ok (.iinc 7 1, 3) := by decide +kernel
theorem dX12_sorted_47 : decode cX12_sorted 47 = .ok (.aload_n 0, 1) := by decide +kernel
theorem dX12_sorted_48 : decode cX12_sorted 48 = .ok (.getfield 33, 3) := by decide +kernel
theorem dX12_sorted_51 : decode cX12_sorted 51 = .ok (.sipush 2000, 3) := by decide +kernel
theorem dX12_sorted_54 : decode cX12_sorted 54 = .ok (.iload_n 1, 1) := by decide +kernel
theorem dX12_sorted_55 : decode cX12_sorted 55 = .ok (.imul, 1) := by decide +kernel
theorem dX12_sorted_56 : decode cX12_sorted 56 = .ok (.iload 8, 2) := by decide +kernel
theorem dX12_sorted_58 : decode cX12_sorted 58 = .ok (.iadd, 1) := by decide +kernel
theorem dX12_sorted_59 : decode cX12_sorted 59 = .ok (.iaload, 1) := by decide +kernel
theorem dX12_sorted_60 : decode cX12_sorted 60 = .ok (.iload 4, 2) := by decide +kernel
theorem dX12_sorted_62 : decode cX12_sorted 62 = .ok (.if_icmp .ge 12, 3) := by decide +kernel
theorem dX12_sorted_65 : decode cX12_sorted 65 = .ok (.iload 8, 2) := by decide +kernel
theorem dX12_sorted_67 : decode cX12_sorted 67 = .ok (.iconst 1, 1) := by decide +kernel
theorem dX12_sorted_68 : decode cX12_sorted 68 = .ok (.iadd, 1) := by decide +kernel
theorem dX12_sorted_69 : decode cX12_sorted 69 = .ok (.istore 5, 2) := by decide +kernel
theorem dX12_sorted_71 : decode cX12_sorted 71 = .ok (.goto 7, 3) := by decide +kernel
theorem dX12_sorted_74 : decode cX12_sorted 74 = .ok (.iload 8, 2) := by decide +kernel
theorem dX12_sorted_76 : decode cX12_sorted 76 = .ok (.istore 6, 2) := by decide +kernel
theorem dX12_sorted_78 : decode cX12_sorted 78 = .ok (.goto (-50), 3) := by decide +kernel
theorem dX12_sorted_81 : decode cX12_sorted 81 = .ok (.iload 7, 2) := by decide +kernel
theorem dX12_sorted_83 : decode cX12_sorted 83 = .ok (.iload_n 2, 1) := by decide +kernel
theorem dX12_sorted_84 : decode cX12_sorted 84 = .ok (.iconst 4, 1) := by decide +kernel
theorem dX12_sorted_85 : decode cX12_sorted 85 = .ok (.if_icmp .ne 16, 3) := by decide +kernel
theorem dX12_sorted_88 : decode cX12_sorted 88 = .ok (.iload 5, 2) := by decide +kernel
theorem dX12_sorted_90 : decode cX12_sorted 90 = .ok (.ifCond .le 7, 3) := by decide +kernel
theorem dX12_sorted_93 : decode cX12_sorted 93 = .ok (.iconst 1, 1) := by decide +kernel
theorem dX12_sorted_94 : decode cX12_sorted 94 = .ok (.goto 23, 3) := by decide +kernel
theorem dX12_sorted_97 : decode cX12_sorted 97 = .ok (.iconst 0, 1) := by decide +kernel
theorem dX12_sorted_98 : decode cX12_sorted 98 = .ok (.goto 19, 3) := by decide +kernel
theorem dX12_sorted_101 : decode cX12_sorted 101 = .ok (.iload 5, 2) := by decide +kernel
theorem dX12_sorted_103 : decode cX12_sorted 103 = .ok (.aload_n 0, 1) := by decide +kernel
theorem dX12_sorted_104 : decode cX12_sorted 104 = .ok (.getfield 36, 3) := by decide +kernel
theorem dX12_sorted_107 : decode cX12_sorted 107 = .ok (.iload_n 1, 1) := by decide +kernel
theorem dX12_sorted_108 : decode cX12_sorted 108 = .ok (.iaload, 1) := by decide +kernel
theorem dX12_sorted_109 : decode cX12_sorted 109 = .ok (.if_icmp .ge 7, 3) := by decide +kernel
theorem dX12_sorted_112 : decode cX12_sorted 112 = .ok (.iconst 1, 1) := by decide +kernel
theorem dX12_sorted_113 : decode cX12_sorted 113 = .ok (.goto 4, 3) := by decide +kernel
theorem dX12_sorted_116 : decode cX12_sorted 116 = .ok (.iconst 0, 1) := by decide +kernel
theorem dX12_sorted_117 : decode cX12_sorted 117 = .ok (.iadd, 1) := by decide +kernel
theorem dX12_sorted_118 : decode cX12_sorted 118 = .ok (.istore 7, 2) := by decide +kernel
theorem dX12_sorted_120 : decode cX12_sorted 120 = .ok (.iload 5, 2) := by decide +kernel
theorem dX12_sorted_122 : decode cX12_sorted 122 = .ok (.aload_n 0, 1) := by decide +kernel
theorem dX12_sorted_123 : decode cX12_sorted 123 = .ok (.getfield 36, 3) := by decide +kernel
theorem dX12_sorted_126 : decode cX12_sorted 126 = .ok (.iload_n 1, 1) := by decide +kernel
theorem dX12_sorted_127 : decode cX12_sorted 127 = .ok (.iaload, 1) := by decide +kernel
theorem dX12_sorted_128 : decode cX12_sorted 128 = .ok (.if_icmp .ge 24, 3) := by decide +kernel
theorem dX12_sorted_131 : decode cX12_sorted 131 = .ok (.aload_n 0, 1) := by decide +kernel
theorem dX12_sorted_132 : decode cX12_sorted 132 = .ok (.getfield 33, 3) := by decide +kernel
theorem dX12_sorted_135 : decode cX12_sorted 135 = .ok (.sipush 2000, 3) := by decide +kernel
theorem dX12_sorted_138 : decode cX12_sorted 138 = .ok (.iload_n 1, 1) := by decide +kernel
theorem dX12_sorted_139 : decode cX12_sorted 139 = .ok (.imul, 1) := by decide +kernel
theorem dX12_sorted_140 : decode cX12_sorted 140 = .ok (.iload 5, 2) := by decide +kernel
theorem dX12_sorted_142 : decode cX12_sorted 142 = .ok (.iadd, 1) := by decide +kernel
theorem dX12_sorted_143 : decode cX12_sorted 143 = .ok (.iaload, 1) := by decide +kernel
theorem dX12_sorted_144 : decode cX12_sorted 144 = .ok (.iload_n 3, 1) := by decide +kernel
theorem dX12_sorted_145 : decode cX12_sorted 145 = .ok (.if_icmp .ne 7, 3) := by decide +kernel
theorem dX12_sorted_148 : decode cX12_sorted 148 = .ok (.iconst 1, 1) := by decide +kernel
theorem dX12_sorted_149 : decode cX12_sorted 149 = .ok (.goto 4, 3) := by decide +kernel
theorem dX12_sorted_152 : decode cX12_sorted 152 = .ok (.iconst 0, 1) := by decide +kernel
theorem dX12_sorted_153 : decode cX12_sorted 153 = .ok (.istore 8, 2) := by decide +kernel
theorem dX12_sorted_155 : decode cX12_sorted 155 = .ok (.iload_n 2, 1) := by decide +kernel
theorem dX12_sorted_156 : decode cX12_sorted 156 = .ok (.ifCond .ne 24, 3) := by decide +kernel
theorem dX12_sorted_159 : decode cX12_sorted 159 = .ok (.iload 8, 2) := by decide +kernel
theorem dX12_sorted_161 : decode cX12_sorted 161 = .ok (.ifCond .ne 19, 3) := by decide +kernel
theorem dX12_sorted_164 : decode cX12_sorted 164 = .ok (.iload 7, 2) := by decide +kernel
theorem dX12_sorted_166 : decode cX12_sorted 166 = .ok (.aload_n 0, 1) := by decide +kernel
theorem dX12_sorted_167 : decode cX12_sorted 167 = .ok (.getfield 36, 3) := by decide +kernel
theorem dX12_sorted_170 : decode cX12_sorted 170 = .ok (.iload_n 1, 1) := by decide +kernel
theorem dX12_sorted_171 : decode cX12_sorted 171 = .ok (.iaload, 1) := by decide +kernel
theorem dX12_sorted_172 : decode cX12_sorted 172 = .ok (.iload 5, 2) := by decide +kernel
theorem dX12_sorted_174 : decode cX12_sorted 174 = .ok (.isub, 1) := by decide +kernel
theorem dX12_sorted_175 : decode cX12_sorted 175 = .ok (.iconst 1, 1) := by decide +kernel
theorem dX12_sorted_176 : decode cX12_sorted 176 = .ok (.iadd, 1) := by decide +kernel
theorem dX12_sorted_177 : decode cX12_sorted 177 = .ok (.iadd, 1) := by decide +kernel
theorem dX12_sorted_178 : decode cX12_sorted 178 = .ok (.istore 7, 2) := by decide +kernel
theorem dX12_sorted_180 : decode cX12_sorted 180 = .ok (.iload_n 2, 1) := by decide +kernel
theorem dX12_sorted_181 : decode cX12_sorted 181 = .ok (.iconst 1, 1) := by decide +kernel
theorem dX12_sorted_182 : decode cX12_sorted 182 = .ok (.if_icmp .ne 24, 3) := by decide +kernel
theorem dX12_sorted_185 : decode cX12_sorted 185 = .ok (.iload 8, 2) := by decide +kernel
theorem dX12_sorted_187 : decode cX12_sorted 187 = .ok (.ifCond .eq 19, 3) := by decide +kernel
theorem dX12_sorted_190 : decode cX12_sorted 190 = .ok (.iload 7, 2) := by decide +kernel
theorem dX12_sorted_192 : decode cX12_sorted 192 = .ok (.aload_n 0, 1) := by decide +kernel
theorem dX12_sorted_193 : decode cX12_sorted 193 = .ok (.getfield 36, 3) := by decide +kernel
theorem dX12_sorted_196 : decode cX12_sorted 196 = .ok (.iload_n 1, 1) := by decide +kernel
theorem dX12_sorted_197 : decode cX12_sorted 197 = .ok (.iaload, 1) := by decide +kernel
theorem dX12_sorted_198 : decode cX12_sorted 198 = .ok (.iload 5, 2) := by decide +kernel
theorem dX12_sorted_200 : decode cX12_sorted 200 = .ok (.isub, 1) := by decide +kernel
theorem dX12_sorted_201 : decode cX12_sorted 201 = .ok (.iconst 1, 1) := by decide +kernel
theorem dX12_sorted_202 : decode cX12_sorted 202 = .ok (.isub, 1) := by decide +kernel
theorem dX12_sorted_203 : decode cX12_sorted 203 = .ok (.iadd, 1) := by decide +kernel
theorem dX12_sorted_204 : decode cX12_sorted 204 = .ok (.istore 7, 2) := by decide +kernel
theorem dX12_sorted_206 : decode cX12_sorted 206 = .ok (.iload 7, 2) := by decide +kernel
theorem dX12_sorted_208 : decode cX12_sorted 208 = .ok (.ireturn, 1) := by decide +kernel
theorem dX12_isCall_0 : decode cX12_isCall 0 = .ok (.iload_n 0, 1) := by decide +kernel
theorem dX12_isCall_1 : decode cX12_isCall 1 = .ok (.iconst 0, 1) := by decide +kernel
theorem dX12_isCall_2 : decode cX12_isCall 2 = .ok (.iconst 4, 1) := by decide +kernel
theorem dX12_isCall_3 : decode cX12_isCall 3 = .ok (.invokestatic 250, 3) := by decide +kernel
theorem dX12_isCall_6 : decode cX12_isCall 6 = .ok (.ireturn, 1) := by decide +kernel
theorem dX12_cellsOf_0 : decode cX12_cellsOf 0 = .ok (.iload_n 2, 1) := by decide +kernel
theorem dX12_cellsOf_1 : decode cX12_cellsOf 1 = .ok (.iload_n 3, 1) := by decide +kernel
theorem dX12_cellsOf_2 : decode cX12_cellsOf 2 = .ok (.if_icmp .ne 5, 3) := by decide +kernel
theorem dX12_cellsOf_5 : decode cX12_cellsOf 5 = .ok (.iconst 0, 1) := by decide +kernel
theorem dX12_cellsOf_6 : decode cX12_cellsOf 6 = .ok (.ireturn, 1) := by decide +kernel
theorem dX12_cellsOf_7 : decode cX12_cellsOf 7 = .ok (.iload_n 1, 1) := by decide +kernel
theorem dX12_cellsOf_8 : decode cX12_cellsOf 8 = .ok (.aload_n 0, 1) := by decide +kernel
theorem dX12_cellsOf_9 : decode cX12_cellsOf 9 = .ok (.getfield 26, 3) := by decide +kernel
theorem dX12_cellsOf_12 : decode cX12_cellsOf 12 = .ok (.if_icmp .gt 5, 3) := by decide +kernel
theorem dX12_cellsOf_15 : decode cX12_cellsOf 15 = .ok (.iconst 1, 1) := by decide +kernel
theorem dX12_cellsOf_16 : decode cX12_cellsOf 16 = .ok (.ireturn, 1) := by decide +kernel
theorem dX12_cellsOf_17 : decode cX12_cellsOf 17 = .ok (.aload_n 0, 1) := by decide +kernel
theorem dX12_cellsOf_18 : decode cX12_cellsOf 18 = .ok (.iload_n 1, 1) := by decide +kernel
theorem dX12_cellsOf_19 : decode cX12_cellsOf 19 = .ok (.invokevirtual 293, 3) := by decide +kernel
theorem dX12_cellsOf_22 : decode cX12_cellsOf 22 = .ok (.istore 4, 2) := by decide +kernel
theorem dX12_cellsOf_24 : decode cX12_cellsOf 24 = .ok (.aload_n 0, 1) := by decide +kernel
theorem dX12_cellsOf_25 : decode cX12_cellsOf 25 = .ok (.iload_n 2, 1) := by decide +kernel
theorem dX12_cellsOf_26 : decode cX12_cellsOf 26 = .ok (.iload_n 3, 1) := by decide +kernel
theorem dX12_cellsOf_27 : decode cX12_cellsOf 27 = .ok (.iload 4, 2) := by decide +kernel
theorem dX12_cellsOf_29 : decode cX12_cellsOf 29 = .ok (.invokevirtual 296, 3) := by decide +kernel
theorem dX12_cellsOf_32 : decode cX12_cellsOf 32 = .ok (.istore 5, 2) := by decide +kernel
theorem dX12_cellsOf_34 : decode cX12_cellsOf 34 = .ok (.iconst 2, 1) := by decide +kernel
theorem dX12_cellsOf_35 : decode cX12_cellsOf 35 = .ok (.aload_n 0, 1) := by decide +kernel
theorem dX12_cellsOf_36 : decode cX12_cellsOf 36 = .ok (.iload_n 1, 1) := by decide +kernel
theorem dX12_cellsOf_37 : decode cX12_cellsOf 37 = .ok (.iload 4, 2) := by decide +kernel
theorem dX12_cellsOf_39 : decode cX12_cellsOf 39 = .ok (.isub, 1) := by decide +kernel
theorem dX12_cellsOf_40 : decode cX12_cellsOf 40 = .ok (.iload 5, 2) := by decide +kernel
theorem dX12_cellsOf_42 : decode cX12_cellsOf 42 = .ok (.aload_n 0, 1) := by decide +kernel
theorem dX12_cellsOf_43 : decode cX12_cellsOf 43 = .ok (.getfield 290, 3) := by decide +kernel
theorem dX12_cellsOf_46 : decode cX12_cellsOf 46 = .ok (.invokevirtual 350, 3) := by decide +kernel
theorem dX12_cellsOf_49 : decode cX12_cellsOf 49 = .ok (.iadd, 1) := by decide +kernel
theorem dX12_cellsOf_50 : decode cX12_cellsOf 50 = .ok (.istore 6, 2) := by decide +kernel
theorem dX12_cellsOf_52 : decode cX12_cellsOf 52 = .ok (.aload_n 0, 1) := by decide +kernel
theorem dX12_cellsOf_53 : decode cX12_cellsOf 53 = .ok (.iload 5, 2) := by decide +kernel
theorem dX12_cellsOf_55 : decode cX12_cellsOf 55 = .ok (.putfield 290, 3) := by decide +kernel
theorem dX12_cellsOf_58 : decode cX12_cellsOf 58 = .ok (.iload_n 2, 1) := by decide +kernel
theorem dX12_cellsOf_59 : decode cX12_cellsOf 59 = .ok (.iconst 1, 1) := by decide +kernel
theorem dX12_cellsOf_60 : decode cX12_cellsOf 60 = .ok (.iadd, 1) := by decide +kernel
theorem dX12_cellsOf_61 : decode cX12_cellsOf 61 = .ok (.istore 7, 2) := by decide +kernel
theorem dX12_cellsOf_63 : decode cX12_cellsOf 63 = .ok (.iload 7, 2) := by decide +kernel
theorem dX12_cellsOf_65 : decode cX12_cellsOf 65 = .ok (.iload_n 3, 1) := by decide +kernel
theorem dX12_cellsOf_66 : decode cX12_cellsOf 66 = .ok (.iconst 1, 1) := by decide +kernel
theorem dX12_cellsOf_67 : decode cX12_cellsOf 67 = .ok (.isub, 1) := by decide +kernel
theorem dX12_cellsOf_68 : decode cX12_cellsOf 68 = .ok (.if_icmp .ge 88, 3) := by decide +kernel
theorem dX12_cellsOf_71 : decode cX12_cellsOf 71 = .ok (.iload 7, 2) := by decide +kernel
theorem dX12_cellsOf_73 : decode cX12_cellsOf 73 = .ok (.iload_n 2, 1) := by decide +kernel
theorem dX12_cellsOf_74 : decode cX12_cellsOf 74 = .ok (.iconst 1, 1) := by decide +kernel
theorem dX12_cellsOf_75 : decode cX12_cellsOf 75 = .ok (.iadd, 1) := by decide +kernel
theorem dX12_cellsOf_76 : decode cX12_cellsOf 76 = .ok (.if_icmp .le 31, 3) := by decide +kernel
theorem dX12_cellsOf_79 : decode cX12_cellsOf 79 = .ok (.aload_n 0, 1) := by decide +kernel
theorem dX12_cellsOf_80 : decode cX12_cellsOf 80 = .ok (.getfield 84, 3) := by decide +kernel
theorem dX12_cellsOf_83 : decode cX12_cellsOf 83 = .ok (.iload 7, 2) := by decide +kernel
theorem dX12_cellsOf_85 : decode cX12_cellsOf 85 = .ok (.iaload, 1) := by decide +kernel
theorem dX12_cellsOf_86 : decode cX12_cellsOf 86 = .ok (.iload 4, 2) := by decide +kernel
theorem dX12_cellsOf_88 : decode cX12_cellsOf 88 = .ok (.ishr, 1) := by decide +kernel
theorem dX12_cellsOf_89 : decode cX12_cellsOf 89 = .ok (.aload_n 0, 1) := by decide +kernel
theorem dX12_cellsOf_90 : decode cX12_cellsOf 90 = .ok (.getfield 84, 3) := by decide +kernel
theorem dX12_cellsOf_93 : decode cX12_cellsOf 93 = .ok (.iload 7, 2) := by decide +kernel
theorem dX12_cellsOf_95 : decode cX12_cellsOf 95 = .ok (.iconst 1, 1) := by decide +kernel
theorem dX12_cellsOf_96 : decode cX12_cellsOf 96 = .ok (.isub, 1) := by decide +kernel
theorem dX12_cellsOf_97 : decode cX12_cellsOf 97 = .ok (.iaload, 1) := by decide +kernel
theorem dX12_cellsOf_98 : decode cX12_cellsOf 98 = .ok (.iload 4, 2) := by decide +kernel
theorem dX12_cellsOf_100 : decode cX12_cellsOf 100 = .ok (.ishr, 1) := by decide +kernel
theorem dX12_cellsOf_101 : decode cX12_cellsOf 101 = .ok (.if_icmp .ne 6, 3) := by decide +kernel
theorem dX12_cellsOf_104 : decode cX12_cellsOf 104 = .ok (.goto 46, 3) := by decide +kernel
theorem dX12_cellsOf_107 : decode cX12_cellsOf 107 = .ok (.aload_n 0, 1) := by decide +kernel
theorem dX12_cellsOf_108 : decode cX12_cellsOf 108 = .ok (.iload_n 2, 1) := by decide +kernel
theorem dX12_cellsOf_109 : decode cX12_cellsOf 109 = .ok (.iload_n 3, 1) := by decide +kernel
theorem dX12_cellsOf_110 : decode cX12_cellsOf 110 = .ok (.iload 4, 2) := by decide +kernel
theorem dX12_cellsOf_112 : decode cX12_cellsOf 112 = .ok (.aload_n 0, 1) := by decide +kernel
theorem dX12_cellsOf_113 : decode cX12_cellsOf 113 = .ok (.getfield 84, 3) := by decide +kernel
theorem dX12_cellsOf_116 : decode cX12_cellsOf 116 = .ok (.iload 7, 2) := by decide +kernel
theorem dX12_cellsOf_118 : decode cX12_cellsOf 118 = .ok (.iaload, 1) := by decide +kernel
theorem dX12_cellsOf_119 : decode cX12_cellsOf 119 = .ok (.iload 4, 2) := by decide +kernel
theorem dX12_cellsOf_121 : decode cX12_cellsOf 121 = .ok (.ishr, 1) := by decide +kernel
theorem dX12_cellsOf_122 : decode cX12_cellsOf 122 = .ok (.invokevirtual 303, 3) := by decide +kernel
theorem dX12_cellsOf_125 : decode cX12_cellsOf 125 = .ok (.istore 8, 2) := by decide +kernel
theorem dX12_cellsOf_127 : decode cX12_cellsOf 127 = .ok (.iload 6, 2) := by decide +kernel
theorem dX12_cellsOf_129 : decode cX12_cellsOf 129 = .ok (.aload_n 0, 1) := by decide +kernel
theorem dX12_cellsOf_130 : decode cX12_cellsOf 130 = .ok (.iload 4, 2) := by decide +kernel
theorem dX12_cellsOf_132 : decode cX12_cellsOf 132 = .ok (.iload 8, 2) := by decide +kernel
theorem dX12_cellsOf_134 : decode cX12_cellsOf 134 = .ok (.aload_n 0, 1) := by decide +kernel
theorem dX12_cellsOf_135 : decode cX12_cellsOf 135 = .ok (.getfield 290, 3) := by decide +kernel
theorem dX12_cellsOf_138 : decode cX12_cellsOf 138 = .ok (.invokevirtual 350, 3) := by decide +kernel
theorem dX12_cellsOf_141 : decode cX12_cellsOf 141 = .ok (.iadd, 1) := by decide +kernel
theorem dX12_cellsOf_142 : decode cX12_cellsOf 142 = .ok (.istore 6, 2) := by decide +kernel
theorem dX12_cellsOf_144 : decode cX12_cellsOf 144 = .ok (.aload_n 0, 1) := by decide +kernel
theorem dX12_cellsOf_145 : decode cX12_cellsOf 145 = .ok (.iload 8, 2) := by decide +kernel
theorem dX12_cellsOf_147 : decode cX12_cellsOf 147 = .ok (.putfield 290, 3) := by decide +kernel
theorem dX12_cellsOf_150 : decode cX12_cellsOf 150 = .ok (.iinc 7 1, 3) := by decide +kernel
theorem dX12_cellsOf_153 : decode cX12_cellsOf 153 = .ok (.goto (-90), 3) := by decide +kernel
theorem dX12_cellsOf_156 : decode cX12_cellsOf 156 = .ok (.iload 6, 2) := by decide +kernel
theorem dX12_cellsOf_158 : decode cX12_cellsOf 158 = .ok (.ireturn, 1) := by decide +kernel
theorem dX12_size_0 : decode cX12_size 0 = .ok (.aload_n 0, 1) := by decide +kernel
theorem dX12_size_1 : decode cX12_size 1 = .ok (.iconst 0, 1) := by decide +kernel
theorem dX12_size_2 : decode cX12_size 2 = .ok (.putfield 1, 3) := by decide +kernel
theorem dX12_size_5 : decode cX12_size 5 = .ok (.aload_n 0, 1) := by decide +kernel
theorem dX12_size_6 : decode cX12_size 6 = .ok (.iload_n 1, 1) := by decide +kernel
theorem dX12_size_7 : decode cX12_size 7 = .ok (.iconst 1, 1) := by decide +kernel
theorem dX12_size_8 : decode cX12_size 8 = .ok (.invokevirtual 260, 3) := by decide +kernel
theorem dX12_size_11 : decode cX12_size 11 = .ok (.ifCond .eq 18, 3) := by decide +kernel
theorem dX12_size_14 : decode cX12_size 14 = .ok (.aload_n 0, 1) := by decide +kernel
theorem dX12_size_15 : decode cX12_size 15 = .ok (.iload_n 2, 1) := by decide +kernel
theorem dX12_size_16 : decode cX12_size 16 = .ok (.iconst 0, 1) := by decide +kernel
theorem dX12_size_17 : decode cX12_size 17 = .ok (.iconst 2, 1) := by decide +kernel
theorem dX12_size_18 : decode cX12_size 18 = .ok (.invokestatic 250, 3) := by decide +kernel
theorem dX12_size_21 : decode cX12_size 21 = .ok (.iconst 2, 1) := by decide +kernel
theorem dX12_size_22 : decode cX12_size 22 = .ok (.iconst 2, 1) := by decide +kernel
theorem dX12_size_23 : decode cX12_size 23 = .ok (.invokevirtual 157, 3) := by decide +kernel
theorem dX12_size_26 : decode cX12_size 26 = .ok (.ifCond .ne 5, 3) := by decide +kernel
theorem dX12_size_29 : decode cX12_size 29 = .ok (.iconst 0, 1) := by decide +kernel
theorem dX12_size_30 : decode cX12_size 30 = .ok (.ireturn, 1) := by decide +kernel
theorem dX12_size_31 : decode cX12_size 31 = .ok (.aload_n 0, 1) := by decide +kernel
theorem dX12_size_32 : decode cX12_size 32 = .ok (.iload_n 1, 1) := by decide +kernel
theorem dX12_size_33 : decode cX12_size 33 = .ok (.invokevirtual 329, 3) := by decide +kernel
theorem dX12_size_36 : decode cX12_size 36 = .ok (.iload_n 2, 1) := by decide +kernel
theorem dX12_size_37 : decode cX12_size 37 = .ok (.ifCond .ne 19, 3) := by decide +kernel
theorem dX12_size_40 : decode cX12_size 40 = .ok (.aload_n 0, 1) := by decide +kernel
theorem dX12_size_41 : decode cX12_size 41 = .ok (.aload_n 0, 1) := by decide +kernel
theorem dX12_size_42 : decode cX12_size 42 = .ok (.getfield 23, 3) := by decide +kernel
theorem dX12_size_45 : decode cX12_size 45 = .ok (.iconst 0, 1) := by decide +kernel
theorem dX12_size_46 : decode cX12_size 46 = .ok (.aload_n 0, 1) := by decide +kernel
theorem dX12_size_47 : decode cX12_size 47 = .ok (.getfield 290, 3) := by decide +kernel
theorem dX12_size_50 : decode cX12_size 50 = .ok (.invokevirtual 350, 3) := by decide +kernel
theorem dX12_size_53 : decode cX12_size 53 = .ok (.goto 37, 3) := by decide +kernel
theorem dX12_size_56 : decode cX12_size 56 = .ok (.iload_n 2, 1) := by decide +kernel
theorem dX12_size_57 : decode cX12_size 57 = .ok (.iconst 2, 1) := by decide +kernel
theorem dX12_size_58 : decode cX12_size 58 = .ok (.if_icmp .ne 12, 3) := by decide +kernel
theorem dX12_size_61 : decode cX12_size 61 = .ok (.aload_n 0, 1) := by decide +kernel
theorem dX12_size_62 : decode cX12_size 62 = .ok (.getfield 36, 3) := by decide +kernel
theorem dX12_size_65 : decode cX12_size 65 = .ok (.iload_n 1, 1) := by decide +kernel
theorem dX12_size_66 : decode cX12_size 66 = .ok (.iaload, 1) := by decide +kernel
theorem dX12_size_67 : decode cX12_size 67 = .ok (.goto 23, 3) := by decide +kernel
theorem dX12_size_70 : decode cX12_size 70 = .ok (.aload_n 0, 1) := by decide +kernel
theorem dX12_size_71 : decode cX12_size 71 = .ok (.getfield 23, 3) := by decide +kernel
theorem dX12_size_74 : decode cX12_size 74 = .ok (.iconst 5, 1) := by decide +kernel
theorem dX12_size_75 : decode cX12_size 75 = .ok (.if_icmp .ge 7, 3) := by decide +kernel
theorem dX12_size_78 : decode cX12_size 78 = .ok (.iconst 1, 1) := by decide +kernel
theorem dX12_size_79 : decode cX12_size 79 = .ok (.goto 11, 3) := by decide +kernel
theorem dX12_size_82 : decode cX12_size 82 = .ok (.iconst 1, 1) := by decide +kernel
theorem dX12_size_83 : decode cX12_size 83 = .ok (.aload_n 0, 1) := by decide +kernel
theorem dX12_size_84 : decode cX12_size 84 = .ok (.getfield 23, 3) := by decide +kernel
theorem dX12_size_87 : decode cX12_size 87 = .ok (.iconst 5, 1) := by decide +kernel
theorem dX12_size_88 : decode cX12_size 88 = .ok (.isub, 1) := by decide +kernel
theorem dX12_size_89 : decode cX12_size 89 = .ok (.ishl, 1) := by decide +kernel
theorem dX12_size_90 : decode cX12_size 90 = .ok (.ireturn, 1) := by decide +kernel
theorem dX12_boundOf_0 : decode cX12_boundOf 0 = .ok (.iload_n 2, 1) := by decide +kernel
theorem dX12_boundOf_1 : decode cX12_boundOf 1 = .ok (.aload_n 0, 1) := by decide +kernel
theorem dX12_boundOf_2 : decode cX12_boundOf 2 = .ok (.getfield 26, 3) := by decide +kernel
theorem dX12_boundOf_5 : decode cX12_boundOf 5 = .ok (.if_icmp .gt 5, 3) := by decide +kernel
theorem dX12_boundOf_8 : decode cX12_boundOf 8 = .ok (.iconst 1, 1) := by decide +kernel
theorem dX12_boundOf_9 : decode cX12_boundOf 9 = .ok (.ireturn, 1) := by decide +kernel
theorem dX12_boundOf_10 : decode cX12_boundOf 10 = .ok (.aload_n 0, 1) := by decide +kernel
theorem dX12_boundOf_11 : decode cX12_boundOf 11 = .ok (.iload_n 2, 1) := by decide +kernel
theorem dX12_boundOf_12 : decode cX12_boundOf 12 = .ok (.invokevirtual 293, 3) := by decide +kernel
theorem dX12_boundOf_15 : decode cX12_boundOf 15 = .ok (.istore_n 3, 1) := by decide +kernel
theorem dX12_boundOf_16 : decode cX12_boundOf 16 = .ok (.aload_n 0, 1) := by decide +kernel
theorem dX12_boundOf_17 : decode cX12_boundOf 17 = .ok (.iload_n 1, 1) := by decide +kernel
theorem dX12_boundOf_18 : decode cX12_boundOf 18 = .ok (.iload_n 3, 1) := by decide +kernel
theorem dX12_boundOf_19 : decode cX12_boundOf 19 = .ok (.invokevirtual 353, 3) := by decide +kernel
theorem dX12_boundOf_22 : decode cX12_boundOf 22 = .ok (.istore 4, 2) := by decide +kernel
theorem dX12_boundOf_24 : decode cX12_boundOf 24 = .ok (.iload_n 1, 1) := by decide +kernel
theorem dX12_boundOf_25 : decode cX12_boundOf 25 = .ok (.iconst 2, 1) := by decide +kernel
theorem dX12_boundOf_26 : decode cX12_boundOf 26 = .ok (.if_icmp .ne 8, 3) := by decide +kernel
theorem dX12_boundOf_29 : decode cX12_boundOf 29 = .ok (.iconst 1, 1) := by decide +kernel
theorem dX12_boundOf_30 : decode cX12_boundOf 30 = .ok (.iload 4, 2) := by decide +kernel
theorem dX12_boundOf_32 : decode cX12_boundOf 32 = .ok (.iadd, 1) := by decide +kernel
theorem dX12_boundOf_33 : decode cX12_boundOf 33 = .ok (.ireturn, 1) := by decide +kernel
theorem dX12_boundOf_34 : decode cX12_boundOf 34 = .ok (.iconst 1, 1) := by decide +kernel
theorem dX12_boundOf_35 : decode cX12_boundOf 35 = .ok (.aload_n 0, 1) := by decide +kernel
theorem dX12_boundOf_36 : decode cX12_boundOf 36 = .ok (.iload_n 1, 1) := by decide +kernel
theorem dX12_boundOf_37 : decode cX12_boundOf 37 = .ok (.iload_n 2, 1) := by decide +kernel
theorem dX12_boundOf_38 : decode cX12_boundOf 38 = .ok (.iload_n 3, 1) := by decide +kernel
theorem dX12_boundOf_39 : decode cX12_boundOf 39 = .ok (.isub, 1) := by decide +kernel
theorem dX12_boundOf_40 : decode cX12_boundOf 40 = .ok (.invokevirtual 353, 3) := by decide +kernel
theorem dX12_boundOf_43 : decode cX12_boundOf 43 = .ok (.iadd, 1) := by decide +kernel
theorem dX12_boundOf_44 : decode cX12_boundOf 44 = .ok (.istore 5, 2) := by decide +kernel
theorem dX12_boundOf_46 : decode cX12_boundOf 46 = .ok (.iload_n 1, 1) := by decide +kernel
theorem dX12_boundOf_47 : decode cX12_boundOf 47 = .ok (.ifCond .ne 7, 3) := by decide +kernel
theorem dX12_boundOf_50 : decode cX12_boundOf 50 = .ok (.iconst 1, 1) := by decide +kernel
theorem dX12_boundOf_51 : decode cX12_boundOf 51 = .ok (.goto 13, 3) := by decide +kernel
theorem dX12_boundOf_54 : decode cX12_boundOf 54 = .ok (.iload_n 1, 1) := by decide +kernel
theorem dX12_boundOf_55 : decode cX12_boundOf 55 = .ok (.iconst 1, 1) := by decide +kernel
theorem dX12_boundOf_56 : decode cX12_boundOf 56 = .ok (.if_icmp .ne 7, 3) := by decide +kernel
theorem dX12_boundOf_59 : decode cX12_boundOf 59 = .ok (.iconst 3, 1) := by decide +kernel
theorem dX12_boundOf_60 : decode cX12_boundOf 60 = .ok (.goto 4, 3) := by decide +kernel
theorem dX12_boundOf_63 : decode cX12_boundOf 63 = .ok (.iconst 2, 1) := by decide +kernel
theorem dX12_boundOf_64 : decode cX12_boundOf 64 = .ok (.iload 4, 2) := by decide +kernel
theorem dX12_boundOf_66 : decode cX12_boundOf 66 = .ok (.iload 5, 2) := by decide +kernel
theorem dX12_boundOf_68 : decode cX12_boundOf 68 = .ok (.if_icmp .le 8, 3) := by decide +kernel
theorem dX12_boundOf_71 : decode cX12_boundOf 71 = .ok (.iload 4, 2) := by decide +kernel
theorem dX12_boundOf_73 : decode cX12_boundOf 73 = .ok (.goto 5, 3) := by decide +kernel
theorem dX12_boundOf_76 : decode cX12_boundOf 76 = .ok (.iload 5, 2) := by decide +kernel
theorem dX12_boundOf_78 : decode cX12_boundOf 78 = .ok (.iadd, 1) := by decide +kernel
theorem dX12_boundOf_79 : decode cX12_boundOf 79 = .ok (.ireturn, 1) := by decide +kernel
theorem dX12_bound_0 : decode cX12_bound 0 = .ok (.aload_n 0, 1) := by decide +kernel
theorem dX12_bound_1 : decode cX12_bound 1 = .ok (.iconst 0, 1) := by decide +kernel
theorem dX12_bound_2 : decode cX12_bound 2 = .ok (.putfield 1, 3) := by decide +kernel
theorem dX12_bound_5 : decode cX12_bound 5 = .ok (.aload_n 0, 1) := by decide +kernel
theorem dX12_bound_6 : decode cX12_bound 6 = .ok (.iload_n 1, 1) := by decide +kernel
theorem dX12_bound_7 : decode cX12_bound 7 = .ok (.invokestatic 344, 3) := by decide +kernel
theorem dX12_bound_10 : decode cX12_bound 10 = .ok (.iconst 1, 1) := by decide +kernel
theorem dX12_bound_11 : decode cX12_bound 11 = .ok (.iconst 2, 1) := by decide +kernel
theorem dX12_bound_12 : decode cX12_bound 12 = .ok (.invokevirtual 157, 3) := by decide +kernel
theorem dX12_bound_15 : decode cX12_bound 15 = .ok (.ifCond .ne 5, 3) := by decide +kernel
theorem dX12_bound_18 : decode cX12_bound 18 = .ok (.iconst 0, 1) := by decide +kernel
theorem dX12_bound_19 : decode cX12_bound 19 = .ok (.ireturn, 1) := by decide +kernel
theorem dX12_bound_20 : decode cX12_bound 20 = .ok (.aload_n 0, 1) := by decide +kernel
theorem dX12_bound_21 : decode cX12_bound 21 = .ok (.iload_n 1, 1) := by decide +kernel
theorem dX12_bound_22 : decode cX12_bound 22 = .ok (.aload_n 0, 1) := by decide +kernel
theorem dX12_bound_23 : decode cX12_bound 23 = .ok (.getfield 23, 3) := by decide +kernel
theorem dX12_bound_26 : decode cX12_bound 26 = .ok (.invokevirtual 353, 3) := by decide +kernel
theorem dX12_bound_29 : decode cX12_bound 29 = .ok (.ireturn, 1) := by decide +kernel
theorem dX12_mostSet_0 : decode cX12_mostSet 0 = .ok (.aload_n 0, 1) := by decide +kernel
theorem dX12_mostSet_1 : decode cX12_mostSet 1 = .ok (.getfield 23, 3) := by decide +kernel
theorem dX12_mostSet_4 : decode cX12_mostSet 4 = .ok (.iconst 4, 1) := by decide +kernel
theorem dX12_mostSet_5 : decode cX12_mostSet 5 = .ok (.if_icmp .gt 8, 3) := by decide +kernel
theorem dX12_mostSet_8 : decode cX12_mostSet 8 = .ok (.bipush 16, 2) := by decide +kernel
theorem dX12_mostSet_10 : decode cX12_mostSet 10 = .ok (.goto 4, 3) := by decide +kernel
theorem dX12_mostSet_13 : decode cX12_mostSet 13 = .ok (.iconst 3, 1) := by decide +kernel
theorem dX12_mostSet_14 : decode cX12_mostSet 14 = .ok (.ireturn, 1) := by decide +kernel
theorem dX12_isWorst_0 : decode cX12_isWorst 0 = .ok (.aload_n 0, 1) := by decide +kernel
theorem dX12_isWorst_1 : decode cX12_isWorst 1 = .ok (.getfield 23, 3) := by decide +kernel
theorem dX12_isWorst_4 : decode cX12_isWorst 4 = .ok (.bipush 6, 2) := by decide +kernel
theorem dX12_isWorst_6 : decode cX12_isWorst 6 = .ok (.if_icmp .gt 19, 3) := by decide +kernel
theorem dX12_isWorst_9 : decode cX12_isWorst 9 = .ok (.iload_n 1, 1) := by decide +kernel
theorem dX12_isWorst_10 : decode cX12_isWorst 10 = .ok (.iconst 0, 1) := by decide +kernel
theorem dX12_isWorst_11 : decode cX12_isWorst 11 = .ok (.aload_n 0, 1) := by decide +kernel
theorem dX12_isWorst_12 : decode cX12_isWorst 12 = .ok (.invokevirtual 372, 3) := by decide +kernel
theorem dX12_isWorst_15 : decode cX12_isWorst 15 = .ok (.invokestatic 250, 3) := by decide +kernel
theorem dX12_isWorst_18 : decode cX12_isWorst 18 = .ok (.ifCond .eq 7, 3) := by decide +kernel
theorem dX12_isWorst_21 : decode cX12_isWorst 21 = .ok (.iconst 1, 1) := by decide +kernel
theorem dX12_isWorst_22 : decode cX12_isWorst 22 = .ok (.goto 4, 3) := by decide +kernel
theorem dX12_isWorst_25 : decode cX12_isWorst 25 = .ok (.iconst 0, 1) := by decide +kernel
theorem dX12_isWorst_26 : decode cX12_isWorst 26 = .ok (.ireturn, 1) := by decide +kernel
theorem dX12_behind_0 : decode cX12_behind 0 = .ok (.iload_n 1, 1) := by decide +kernel
theorem dX12_behind_1 : decode cX12_behind 1 = .ok (.ifCond .ne 11, 3) := by decide +kernel
theorem dX12_behind_4 : decode cX12_behind 4 = .ok (.iload_n 3, 1) := by decide +kernel
theorem dX12_behind_5 : decode cX12_behind 5 = .ok (.iconst 1, 1) := by decide +kernel
theorem dX12_behind_6 : decode cX12_behind 6 = .ok (.iload_n 2, 1) := by decide +kernel
theorem dX12_behind_7 : decode cX12_behind 7 = .ok (.ishl, 1) := by decide +kernel
theorem dX12_behind_8 : decode cX12_behind 8 = .ok (.ior, 1) := by decide +kernel
theorem dX12_behind_9 : decode cX12_behind 9 = .ok (.goto 19, 3) := by decide +kernel
theorem dX12_behind_12 : decode cX12_behind 12 = .ok (.iload_n 1, 1) := by decide +kernel
theorem dX12_behind_13 : decode cX12_behind 13 = .ok (.iconst 1, 1) := by decide +kernel
theorem dX12_behind_14 : decode cX12_behind 14 = .ok (.if_icmp .ne 13, 3) := by decide +kernel
theorem dX12_behind_17 : decode cX12_behind 17 = .ok (.iload_n 3, 1) := by decide +kernel
theorem dX12_behind_18 : decode cX12_behind 18 = .ok (.iconst 1, 1) := by decide +kernel
theorem dX12_behind_19 : decode cX12_behind 19 = .ok (.iload_n 2, 1) := by decide +kernel
theorem dX12_behind_20 : decode cX12_behind 20 = .ok (.ishl, 1) := by decide +kernel
theorem dX12_behind_21 : decode cX12_behind 21 = .ok (.iconst (-1), 1) := by decide +kernel
theorem dX12_behind_22 : decode cX12_behind 22 = .ok (.ixor, 1) := by decide +kernel
theorem dX12_behind_23 : decode cX12_behind 23 = .ok (.iand, 1) := by decide +kernel
theorem dX12_behind_24 : decode cX12_behind 24 = .ok (.goto 4, 3) := by decide +kernel
theorem dX12_behind_27 : decode cX12_behind 27 = .ok (.iload_n 3, 1) := by decide +kernel
theorem dX12_behind_28 : decode cX12_behind 28 = .ok (.ireturn, 1) := by decide +kernel
theorem dX12_ones_0 : decode cX12_ones 0 = .ok (.iconst 0, 1) := by decide +kernel
theorem dX12_ones_1 : decode cX12_ones 1 = .ok (.istore_n 1, 1) := by decide +kernel
theorem dX12_ones_2 : decode cX12_ones 2 = .ok (.iload_n 0, 1) := by decide +kernel
theorem dX12_ones_3 : decode cX12_ones 3 = .ok (.istore_n 2, 1) := by decide +kernel
theorem dX12_ones_4 : decode cX12_ones 4 = .ok (.iload_n 2, 1) := by decide +kernel
theorem dX12_ones_5 : decode cX12_ones 5 = .ok (.ifCond .eq 15, 3) := by decide +kernel
theorem dX12_ones_8 : decode cX12_ones 8 = .ok (.iinc 1 1, 3) := by decide +kernel
theorem dX12_ones_11 : decode cX12_ones 11 = .ok (.iload_n 2, 1) := by decide +kernel
theorem dX12_ones_12 : decode cX12_ones 12 = .ok (.iload_n 2, 1) := by decide +kernel
theorem dX12_ones_13 : decode cX12_ones 13 = .ok (.iconst 1, 1) := by decide +kernel
theorem dX12_ones_14 : decode cX12_ones 14 = .ok (.isub, 1) := by decide +kernel
theorem dX12_ones_15 : decode cX12_ones 15 = .ok (.iand, 1) := by decide +kernel
theorem dX12_ones_16 : decode cX12_ones 16 = .ok (.istore_n 2, 1) := by decide +kernel
theorem dX12_ones_17 : decode cX12_ones 17 = .ok (.goto (-13), 3) := by decide +kernel
theorem dX12_ones_20 : decode cX12_ones 20 = .ok (.iload_n 1, 1) := by decide +kernel
theorem dX12_ones_21 : decode cX12_ones 21 = .ok (.ireturn, 1) := by decide +kernel
theorem dX12_isRow_0 : decode cX12_isRow 0 = .ok (.aload_n 0, 1) := by decide +kernel
theorem dX12_isRow_1 : decode cX12_isRow 1 = .ok (.getfield 23, 3) := by decide +kernel
theorem dX12_isRow_4 : decode cX12_isRow 4 = .ok (.bipush 6, 2) := by decide +kernel
theorem dX12_isRow_6 : decode cX12_isRow 6 = .ok (.if_icmp .gt 29, 3) := by decide +kernel
theorem dX12_isRow_9 : decode cX12_isRow 9 = .ok (.iload_n 1, 1) := by decide +kernel
theorem dX12_isRow_10 : decode cX12_isRow 10 = .ok (.iconst 1, 1) := by decide +kernel
theorem dX12_isRow_11 : decode cX12_isRow 11 = .ok (.aload_n 0, 1) := by decide +kernel
theorem dX12_isRow_12 : decode cX12_isRow 12 = .ok (.getfield 23, 3) := by decide +kernel
theorem dX12_isRow_15 : decode cX12_isRow 15 = .ok (.iconst 4, 1) := by decide +kernel
theorem dX12_isRow_16 : decode cX12_isRow 16 = .ok (.if_icmp .gt 8, 3) := by decide +kernel
theorem dX12_isRow_19 : decode cX12_isRow 19 = .ok (.bipush 6, 2) := by decide +kernel
theorem dX12_isRow_21 : decode cX12_isRow 21 = .ok (.goto 4, 3) := by decide +kernel
theorem dX12_isRow_24 : decode cX12_isRow 24 = .ok (.iconst 2, 1) := by decide +kernel
theorem dX12_isRow_25 : decode cX12_isRow 25 = .ok (.invokestatic 250, 3) := by decide +kernel
theorem dX12_isRow_28 : decode cX12_isRow 28 = .ok (.ifCond .eq 7, 3) := by decide +kernel
theorem dX12_isRow_31 : decode cX12_isRow 31 = .ok (.iconst 1, 1) := by decide +kernel
theorem dX12_isRow_32 : decode cX12_isRow 32 = .ok (.goto 4, 3) := by decide +kernel
theorem dX12_isRow_35 : decode cX12_isRow 35 = .ok (.iconst 0, 1) := by decide +kernel
theorem dX12_isRow_36 : decode cX12_isRow 36 = .ok (.ireturn, 1) := by decide +kernel
theorem dX12_keeps_0 : decode cX12_keeps 0 = .ok (.iconst 0, 1) := by decide +kernel
theorem dX12_keeps_1 : decode cX12_keeps 1 = .ok (.istore_n 2, 1) := by decide +kernel
theorem dX12_keeps_2 : decode cX12_keeps 2 = .ok (.iload_n 2, 1) := by decide +kernel
theorem dX12_keeps_3 : decode cX12_keeps 3 = .ok (.aload_n 0, 1) := by decide +kernel
theorem dX12_keeps_4 : decode cX12_keeps 4 = .ok (.getfield 36, 3) := by decide +kernel
theorem dX12_keeps_7 : decode cX12_keeps 7 = .ok (.iload_n 1, 1) := by decide +kernel
theorem dX12_keeps_8 : decode cX12_keeps 8 = .ok (.iaload, 1) := by decide +kernel
theorem dX12_keeps_9 : decode cX12_keeps 9 = .ok (.if_icmp .ge 27, 3) := by decide +kernel
theorem dX12_keeps_12 : decode cX12_keeps 12 = .ok (.aload_n 0, 1) := by decide +kernel
theorem dX12_keeps_13 : decode cX12_keeps 13 = .ok (.getfield 100, 3) := by decide +kernel
theorem dX12_keeps_16 : decode cX12_keeps 16 = .ok (.iload_n 2, 1) := by decide +kernel
theorem dX12_keeps_17 : decode cX12_keeps 17 = .ok (.aload_n 0, 1) := by decide +kernel
theorem dX12_keeps_18 : decode cX12_keeps 18 = .ok (.getfield 33, 3) := by decide +kernel
theorem dX12_keeps_21 : decode cX12_keeps 21 = .ok (.sipush 2000, 3) := by decide +kernel
theorem dX12_keeps_24 : decode cX12_keeps 24 = .ok (.iload_n 1, 1) := by decide +kernel
theorem dX12_keeps_25 : decode cX12_keeps 25 = .ok (.imul, 1) := by decide +kernel
theorem dX12_keeps_26 : decode cX12_keeps 26 = .ok (.iload_n 2, 1) := by decide +kernel
theorem dX12_keeps_27 : decode cX12_keeps 27 = .ok (.iadd, 1) := by decide +kernel
theorem dX12_keeps_28 : decode cX12_keeps 28 = .ok (.iaload, 1) := by decide +kernel
theorem dX12_keeps_29 : decode cX12_keeps 29 = .ok (.iastore, 1) := by decide +kernel
theorem dX12_keeps_30 : decode cX12_keeps 30 = .ok (.iinc 2 1, 3) := by decide +kernel
theorem dX12_keeps_33 : decode cX12_keeps 33 = .ok (.goto (-31), 3) := by decide +kernel
theorem dX12_keeps_36 : decode cX12_keeps 36 = .ok (.aload_n 0, 1) := by decide +kernel
theorem dX12_keeps_37 : decode cX12_keeps 37 = .ok (.aload_n 0, 1) := by decide +kernel
theorem dX12_keeps_38 : decode cX12_keeps 38 = .ok (.getfield 36, 3) := by decide +kernel
theorem dX12_keeps_41 : decode cX12_keeps 41 = .ok (.iload_n 1, 1) := by decide +kernel
theorem dX12_keeps_42 : decode cX12_keeps 42 = .ok (.iaload, 1) := by decide +kernel
theorem dX12_keeps_43 : decode cX12_keeps 43 = .ok (.putfield 406, 3) := by decide +kernel
theorem dX12_keeps_46 : decode cX12_keeps 46 = .ok (.return_, 1) := by decide +kernel
theorem dX12_comesBack_0 : decode cX12_comesBack 0 = .ok (.iconst 0, 1) := by decide +kernel
theorem dX12_comesBack_1 : decode cX12_comesBack 1 = .ok (.istore_n 2, 1) := by decide +kernel
theorem dX12_comesBack_2 : decode cX12_comesBack 2 = .ok (.iload_n 2, 1) := by decide +kernel
theorem dX12_comesBack_3 : decode cX12_comesBack 3 = .ok (.aload_n 0, 1) := by decide +kernel
theorem dX12_comesBack_4 : decode cX12_comesBack 4 = .ok (.getfield 406, 3) := by decide +kernel
theorem dX12_comesBack_7 : decode cX12_comesBack 7 = .ok (.if_icmp .ge 27, 3) := by decide +kernel
theorem dX12_comesBack_10 : decode cX12_comesBack 10 = .ok (.aload_n 0, 1) := by decide +kernel
theorem dX12_comesBack_11 : decode cX12_comesBack 11 = .ok (.getfield 33, 3) := by decide +kernel
theorem dX12_comesBack_14 : decode cX12_comesBack 14 = .ok (.sipush 2000, 3) := by decide +kernel
theorem dX12_comesBack_17 : decode cX12_comesBack 17 = .ok (.iload_n 1, 1) := by decide +kernel
theorem dX12_comesBack_18 : decode cX12_comesBack 18 = .ok (.imul, 1) := by decide +kernel
theorem dX12_comesBack_19 : decode cX12_comesBack 19 = .ok (.iload_n 2, 1) := by decide +kernel
theorem dX12_comesBack_20 : decode cX12_comesBack 20 = .ok (.iadd, 1) := by decide +kernel
theorem dX12_comesBack_21 : decode cX12_comesBack 21 = .ok (.aload_n 0, 1) := by decide +kernel
theorem dX12_comesBack_22 : decode cX12_comesBack 22 = .ok (.getfield 100, 3) := by decide +kernel
theorem dX12_comesBack_25 : decode cX12_comesBack 25 = .ok (.iload_n 2, 1) := by decide +kernel
theorem dX12_comesBack_26 : decode cX12_comesBack 26 = .ok (.iaload, 1) := by decide +kernel
theorem dX12_comesBack_27 : decode cX12_comesBack 27 = .ok (.iastore, 1) := by decide +kernel
theorem dX12_comesBack_28 : decode cX12_comesBack 28 = .ok (.iinc 2 1, 3) := by decide +kernel
theorem dX12_comesBack_31 : decode cX12_comesBack 31 = .ok (.goto (-29), 3) := by decide +kernel
theorem dX12_comesBack_34 : decode cX12_comesBack 34 = .ok (.aload_n 0, 1) := by decide +kernel
theorem dX12_comesBack_35 : decode cX12_comesBack 35 = .ok (.getfield 36, 3) := by decide +kernel
theorem dX12_comesBack_38 : decode cX12_comesBack 38 = .ok (.iload_n 1, 1) := by decide +kernel
theorem dX12_comesBack_39 : decode cX12_comesBack 39 = .ok (.aload_n 0, 1) := by decide +kernel
theorem dX12_comesBack_40 : decode cX12_comesBack 40 = .ok (.getfield 406, 3) := by decide +kernel
theorem dX12_comesBack_43 : decode cX12_comesBack 43 = .ok (.iastore, 1) := by decide +kernel
theorem dX12_comesBack_44 : decode cX12_comesBack 44 = .ok (.return_, 1) := by decide +kernel
theorem dX12_changes_0 : decode cX12_changes 0 = .ok (.aload_n 0, 1) := by decide +kernel
theorem dX12_changes_1 : decode cX12_changes 1 = .ok (.getfield 39, 3) := by decide +kernel
theorem dX12_changes_4 : decode cX12_changes 4 = .ok (.sipush 1000, 3) := by decide +kernel
theorem dX12_changes_7 : decode cX12_changes 7 = .ok (.iload_n 1, 1) := by decide +kernel
theorem dX12_changes_8 : decode cX12_changes 8 = .ok (.imul, 1) := by decide +kernel
theorem dX12_changes_9 : decode cX12_changes 9 = .ok (.iload_n 2, 1) := by decide +kernel
theorem dX12_changes_10 : decode cX12_changes 10 = .ok (.iadd, 1) := by decide +kernel
theorem dX12_changes_11 : decode cX12_changes 11 = .ok (.iaload, 1) := by decide +kernel
theorem dX12_changes_12 : decode cX12_changes 12 = .ok (.istore_n 3, 1) := by decide +kernel
theorem dX12_changes_13 : decode cX12_changes 13 = .ok (.aload_n 0, 1) := by decide +kernel
theorem dX12_changes_14 : decode cX12_changes 14 = .ok (.getfield 42, 3) := by decide +kernel
theorem dX12_changes_17 : decode cX12_changes 17 = .ok (.sipush 1000, 3) := by decide +kernel
theorem dX12_changes_20 : decode cX12_changes 20 = .ok (.iload_n 1, 1) := by decide +kernel
theorem dX12_changes_21 : decode cX12_changes 21 = .ok (.imul, 1) := by decide +kernel
theorem dX12_changes_22 : decode cX12_changes 22 = .ok (.iload_n 2, 1) := by decide +kernel
theorem dX12_changes_23 : decode cX12_changes 23 = .ok (.iadd, 1) := by decide +kernel
theorem dX12_changes_24 : decode cX12_changes 24 = .ok (.iaload, 1) := by decide +kernel
theorem dX12_changes_25 : decode cX12_changes 25 = .ok (.iconst 1, 1) := by decide +kernel
theorem dX12_changes_26 : decode cX12_changes 26 = .ok (.if_icmp .ne 12, 3) := by decide +kernel
theorem dX12_changes_29 : decode cX12_changes 29 = .ok (.aload_n 0, 1) := by decide +kernel
theorem dX12_changes_30 : decode cX12_changes 30 = .ok (.iload_n 1, 1) := by decide +kernel
theorem dX12_changes_31 : decode cX12_changes 31 = .ok (.iload_n 3, 1) := by decide +kernel
theorem dX12_changes_32 : decode cX12_changes 32 = .ok (.invokevirtual 270, 3) := by decide +kernel
theorem dX12_changes_35 : decode cX12_changes 35 = .ok (.goto 9, 3) := by decide +kernel
theorem dX12_changes_38 : decode cX12_changes 38 = .ok (.aload_n 0, 1) := by decide +kernel
theorem dX12_changes_39 : decode cX12_changes 39 = .ok (.iload_n 1, 1) := by decide +kernel
theorem dX12_changes_40 : decode cX12_changes 40 = .ok (.iload_n 3, 1) := by decide +kernel
theorem dX12_changes_41 : decode cX12_changes 41 = .ok (.invokevirtual 277, 3) := by decide +kernel
theorem dX12_changes_44 : decode cX12_changes 44 = .ok (.return_, 1) := by decide +kernel
theorem dX12_isTime_0 : decode cX12_isTime 0 = .ok (.iload_n 2, 1) := by decide +kernel
theorem dX12_isTime_1 : decode cX12_isTime 1 = .ok (.iconst 0, 1) := by decide +kernel
theorem dX12_isTime_2 : decode cX12_isTime 2 = .ok (.aload_n 0, 1) := by decide +kernel
theorem dX12_isTime_3 : decode cX12_isTime 3 = .ok (.getfield 45, 3) := by decide +kernel
theorem dX12_isTime_6 : decode cX12_isTime 6 = .ok (.iload_n 1, 1) := by decide +kernel
theorem dX12_isTime_7 : decode cX12_isTime 7 = .ok (.iaload, 1) := by decide +kernel
theorem dX12_isTime_8 : decode cX12_isTime 8 = .ok (.invokestatic 250, 3) := by decide +kernel
theorem dX12_isTime_11 : decode cX12_isTime 11 = .ok (.ireturn, 1) := by decide +kernel
theorem dX12_since_0 : decode cX12_since 0 = .ok (.aload_n 0, 1) := by decide +kernel
theorem dX12_since_1 : decode cX12_since 1 = .ok (.iconst 0, 1) := by decide +kernel
theorem dX12_since_2 : decode cX12_since 2 = .ok (.putfield 1, 3) := by decide +kernel
theorem dX12_since_5 : decode cX12_since 5 = .ok (.aload_n 0, 1) := by decide +kernel
theorem dX12_since_6 : decode cX12_since 6 = .ok (.iload_n 1, 1) := by decide +kernel
theorem dX12_since_7 : decode cX12_since 7 = .ok (.iconst 1, 1) := by decide +kernel
theorem dX12_since_8 : decode cX12_since 8 = .ok (.invokevirtual 260, 3) := by decide +kernel
theorem dX12_since_11 : decode cX12_since 11 = .ok (.ifCond .eq 34, 3) := by decide +kernel
theorem dX12_since_14 : decode cX12_since 14 = .ok (.aload_n 0, 1) := by decide +kernel
theorem dX12_since_15 : decode cX12_since 15 = .ok (.aload_n 0, 1) := by decide +kernel
theorem dX12_since_16 : decode cX12_since 16 = .ok (.iload_n 2, 1) := by decide +kernel
theorem dX12_since_17 : decode cX12_since 17 = .ok (.invokevirtual 264, 3) := by decide +kernel
theorem dX12_since_20 : decode cX12_since 20 = .ok (.ifCond .eq 16, 3) := by decide +kernel
theorem dX12_since_23 : decode cX12_since 23 = .ok (.iload_n 3, 1) := by decide +kernel
theorem dX12_since_24 : decode cX12_since 24 = .ok (.iconst 0, 1) := by decide +kernel
theorem dX12_since_25 : decode cX12_since 25 = .ok (.iconst 1, 1) := by decide +kernel
theorem dX12_since_26 : decode cX12_since 26 = .ok (.invokestatic 250, 3) := by decide +kernel
theorem dX12_since_29 : decode cX12_since 29 = .ok (.ifCond .eq 7, 3) := by decide +kernel
theorem dX12_since_32 : decode cX12_since 32 = .ok (.iconst 1, 1) := by decide +kernel
theorem dX12_since_33 : decode cX12_since 33 = .ok (.goto 4, 3) := by decide +kernel
theorem dX12_since_36 : decode cX12_since 36 = .ok (.iconst 0, 1) := by decide +kernel
theorem dX12_since_37 : decode cX12_since 37 = .ok (.iconst 2, 1) := by decide +kernel
theorem dX12_since_38 : decode cX12_since 38 = .ok (.iconst 2, 1) := by decide +kernel
theorem dX12_since_39 : decode cX12_since 39 = .ok (.invokevirtual 157, 3) := by decide +kernel
theorem dX12_since_42 : decode cX12_since 42 = .ok (.ifCond .ne 5, 3) := by decide +kernel
theorem dX12_since_45 : decode cX12_since 45 = .ok (.iconst 0, 1) := by decide +kernel
theorem dX12_since_46 : decode cX12_since 46 = .ok (.ireturn, 1) := by decide +kernel
theorem dX12_since_47 : decode cX12_since 47 = .ok (.aload_n 0, 1) := by decide +kernel
theorem dX12_since_48 : decode cX12_since 48 = .ok (.getfield 45, 3) := by decide +kernel
theorem dX12_since_51 : decode cX12_since 51 = .ok (.iload_n 1, 1) := by decide +kernel
theorem dX12_since_52 : decode cX12_since 52 = .ok (.iaload, 1) := by decide +kernel
theorem dX12_since_53 : decode cX12_since 53 = .ok (.iconst 1, 1) := by decide +kernel
theorem dX12_since_54 : decode cX12_since 54 = .ok (.isub, 1) := by decide +kernel
theorem dX12_since_55 : decode cX12_since 55 = .ok (.istore 4, 2) := by decide +kernel
theorem dX12_since_57 : decode cX12_since 57 = .ok (.iload 4, 2) := by decide +kernel
theorem dX12_since_59 : decode cX12_since 59 = .ok (.ifCond .lt 50, 3) := by decide +kernel
theorem dX12_since_62 : decode cX12_since 62 = .ok (.aload_n 0, 1) := by decide +kernel
theorem dX12_since_63 : decode cX12_since 63 = .ok (.getfield 39, 3) := by decide +kernel
theorem dX12_since_66 : decode cX12_since 66 = .ok (.sipush 1000, 3) := by decide +kernel
theorem dX12_since_69 : decode cX12_since 69 = .ok (.iload_n 1, 1) := by decide +kernel
theorem dX12_since_70 : decode cX12_since 70 = .ok (.imul, 1) := by decide +kernel
theorem dX12_since_71 : decode cX12_since 71 = .ok (.iload 4, 2) := by decide +kernel
theorem dX12_since_73 : decode cX12_since 73 = .ok (.iadd, 1) := by decide +kernel
theorem dX12_since_74 : decode cX12_since 74 = .ok (.iaload, 1) := by decide +kernel
theorem dX12_since_75 : decode cX12_since 75 = .ok (.iload_n 2, 1) := by decide +kernel
theorem dX12_since_76 : decode cX12_since 76 = .ok (.if_icmp .ne 27, 3) := by decide +kernel
theorem dX12_since_79 : decode cX12_since 79 = .ok (.aload_n 0, 1) := by decide +kernel
theorem dX12_since_80 : decode cX12_since 80 = .ok (.getfield 42, 3) := by decide +kernel
theorem dX12_since_83 : decode cX12_since 83 = .ok (.sipush 1000, 3) := by decide +kernel
theorem dX12_since_86 : decode cX12_since 86 = .ok (.iload_n 1, 1) := by decide +kernel
theorem dX12_since_87 : decode cX12_since 87 = .ok (.imul, 1) := by decide +kernel
theorem dX12_since_88 : decode cX12_since 88 = .ok (.iload 4, 2) := by decide +kernel
theorem dX12_since_90 : decode cX12_since 90 = .ok (.iadd, 1) := by decide +kernel
theorem dX12_since_91 : decode cX12_since 91 = .ok (.iaload, 1) := by decide +kernel
theorem dX12_since_92 : decode cX12_since 92 = .ok (.iconst 1, 1) := by decide +kernel
theorem dX12_since_93 : decode cX12_since 93 = .ok (.iload_n 3, 1) := by decide +kernel
theorem dX12_since_94 : decode cX12_since 94 = .ok (.isub, 1) := by decide +kernel
theorem dX12_since_95 : decode cX12_since 95 = .ok (.if_icmp .ne 8, 3) := by decide +kernel
theorem dX12_since_98 : decode cX12_since 98 = .ok (.iload 4, 2) := by decide +kernel
theorem dX12_since_100 : decode cX12_since 100 = .ok (.iconst 1, 1) := by decide +kernel
theorem dX12_since_101 : decode cX12_since 101 = .ok (.iadd, 1) := by decide +kernel
theorem dX12_since_102 : decode cX12_since 102 = .ok (.ireturn, 1) := by decide +kernel
theorem dX12_since_103 : decode cX12_since 103 = .ok (.iinc 4 (-1), 3) := by decide +kernel
theorem dX12_since_106 : decode cX12_since 106 = .ok (.goto (-49), 3) := by decide +kernel
theorem dX12_since_109 : decode cX12_since 109 = .ok (.iconst (-1), 1) := by decide +kernel
theorem dX12_since_110 : decode cX12_since 110 = .ok (.ireturn, 1) := by decide +kernel
theorem dX12_runs_0 : decode cX12_runs 0 = .ok (.aload_n 0, 1) := by decide +kernel
theorem dX12_runs_1 : decode cX12_runs 1 = .ok (.iconst 0, 1) := by decide +kernel
theorem dX12_runs_2 : decode cX12_runs 2 = .ok (.putfield 1, 3) := by decide +kernel
theorem dX12_runs_5 : decode cX12_runs 5 = .ok (.aload_n 0, 1) := by decide +kernel
theorem dX12_runs_6 : decode cX12_runs 6 = .ok (.iload_n 1, 1) := by decide +kernel
theorem dX12_runs_7 : decode cX12_runs 7 = .ok (.iconst 1, 1) := by decide +kernel
theorem dX12_runs_8 : decode cX12_runs 8 = .ok (.invokevirtual 260, 3) := by decide +kernel
theorem dX12_runs_11 : decode cX12_runs 11 = .ok (.ifCond .eq 12, 3) := by decide +kernel
theorem dX12_runs_14 : decode cX12_runs 14 = .ok (.aload_n 0, 1) := by decide +kernel
theorem dX12_runs_15 : decode cX12_runs 15 = .ok (.iload_n 2, 1) := by decide +kernel
theorem dX12_runs_16 : decode cX12_runs 16 = .ok (.iconst 1, 1) := by decide +kernel
theorem dX12_runs_17 : decode cX12_runs 17 = .ok (.invokevirtual 260, 3) := by decide +kernel
theorem dX12_runs_20 : decode cX12_runs 20 = .ok (.ifCond .ne 5, 3) := by decide +kernel
theorem dX12_runs_23 : decode cX12_runs 23 = .ok (.iconst 0, 1) := by decide +kernel
theorem dX12_runs_24 : decode cX12_runs 24 = .ok (.ireturn, 1) := by decide +kernel
theorem dX12_runs_25 : decode cX12_runs 25 = .ok (.iconst 0, 1) := by decide +kernel
theorem dX12_runs_26 : decode cX12_runs 26 = .ok (.istore_n 3, 1) := by decide +kernel
theorem dX12_runs_27 : decode cX12_runs 27 = .ok (.iconst (-1), 1) := by decide +kernel
theorem dX12_runs_28 : decode cX12_runs 28 = .ok (.istore 4, 2) := by decide +kernel
theorem dX12_runs_30 : decode cX12_runs 30 = .ok (.iconst 0, 1) := by decide +kernel
theorem dX12_runs_31 : decode cX12_runs 31 = .ok (.istore 5, 2) := by decide +kernel
theorem dX12_runs_33 : decode cX12_runs 33 = .ok (.iconst 0, 1) := by decide +kernel
theorem dX12_runs_34 : decode cX12_runs 34 = .ok (.istore 6, 2) := by decide +kernel
theorem dX12_runs_36 : decode cX12_runs 36 = .ok (.iload 5, 2) := by decide +kernel
theorem dX12_runs_38 : decode cX12_runs 38 = .ok (.aload_n 0, 1) := by decide +kernel
theorem dX12_runs_39 : decode cX12_runs 39 = .ok (.getfield 36, 3) := by decide +kernel
theorem dX12_runs_42 : decode cX12_runs 42 = .ok (.iload_n 1, 1) := by decide +kernel
theorem dX12_runs_43 : decode cX12_runs 43 = .ok (.iaload, 1) := by decide +kernel
theorem dX12_runs_44 : decode cX12_runs 44 = .ok (.if_icmp .lt 14, 3) := by decide +kernel
theorem dX12_runs_47 : decode cX12_runs 47 = .ok (.iload 6, 2) := by decide +kernel
theorem dX12_runs_49 : decode cX12_runs 49 = .ok (.aload_n 0, 1) := by decide +kernel
theorem dX12_runs_50 : decode cX12_runs 50 = .ok (.getfield 36, 3) := by decide +kernel
theorem dX12_runs_53 : decode cX12_runs 53 = .ok (.iload_n 2, 1) := by decide +kernel
theorem dX12_runs_54 : decode cX12_runs 54 = .ok (.iaload, 1) := by decide +kernel
theorem dX12_runs_55 : decode cX12_runs 55 = .ok (.if_icmp .ge 123, 3) := by decide +kernel
theorem dX12_runs_58 : decode cX12_runs 58 = .ok (.iload 5, 2) := by decide +kernel
theorem dX12_runs_60 : decode cX12_runs 60 = .ok (.aload_n 0, 1) := by decide +kernel
theorem dX12_runs_61 : decode cX12_runs 61 = .ok (.getfield 36, 3) := by decide +kernel
theorem dX12_runs_64 : decode cX12_runs 64 = .ok (.iload_n 1, 1) := by decide +kernel
theorem dX12_runs_65 : decode cX12_runs 65 = .ok (.iaload, 1) := by decide +kernel
theorem dX12_runs_66 : decode cX12_runs 66 = .ok (.if_icmp .ge 13, 3) := by decide +kernel
theorem dX12_runs_69 : decode cX12_runs 69 = .ok (.aload_n 0, 1) := by decide +kernel
theorem dX12_runs_70 : decode cX12_runs 70 = .ok (.iload_n 1, 1) := by decide +kernel
theorem dX12_runs_71 : decode cX12_runs 71 = .ok (.iload 5, 2) := by decide +kernel
theorem dX12_runs_73 : decode cX12_runs 73 = .ok (.invokevirtual 280, 3) := by decide +kernel
theorem dX12_runs_76 : decode cX12_runs 76 = .ok (.goto 7, 3) := by decide +kernel
theorem dX12_runs_79 : decode cX12_runs 79 = .ok (.aload_n 0, 1) := by decide +kernel
theorem dX12_runs_80 : decode cX12_runs 80 = .ok (.invokevirtual 257, 3) := by decide +kernel
theorem dX12_runs_83 : decode cX12_runs 83 = .ok (.istore 7, 2) := by decide +kernel
theorem dX12_runs_85 : decode cX12_runs 85 = .ok (.iload 6, 2) := by decide +kernel
theorem dX12_runs_87 : decode cX12_runs 87 = .ok (.aload_n 0, 1) := by decide +kernel
theorem dX12_runs_88 : decode cX12_runs 88 = .ok (.getfield 36, 3) := by decide +kernel
theorem dX12_runs_91 : decode cX12_runs 91 = .ok (.iload_n 2, 1) := by decide +kernel
theorem dX12_runs_92 : decode cX12_runs 92 = .ok (.iaload, 1) := by decide +kernel
theorem dX12_runs_93 : decode cX12_runs 93 = .ok (.if_icmp .ge 13, 3) := by decide +kernel
theorem dX12_runs_96 : decode cX12_runs 96 = .ok (.aload_n 0, 1) := by decide +kernel
theorem dX12_runs_97 : decode cX12_runs 97 = .ok (.iload_n 2, 1) := by decide +kernel
theorem dX12_runs_98 : decode cX12_runs 98 = .ok (.iload 6, 2) := by decide +kernel
theorem dX12_runs_100 : decode cX12_runs 100 = .ok (.invokevirtual 280, 3) := by decide +kernel
theorem dX12_runs_103 : decode cX12_runs 103 = .ok (.goto 7, 3) := by decide +kernel
theorem dX12_runs_106 : decode cX12_runs 106 = .ok (.aload_n 0, 1) := by decide +kernel
theorem dX12_runs_107 : decode cX12_runs 107 = .ok (.invokevirtual 257, 3) := by decide +kernel
theorem dX12_runs_110 : decode cX12_runs 110 = .ok (.istore 8, 2) := by decide +kernel
theorem dX12_runs_112 : decode cX12_runs 112 = .ok (.iload 7, 2) := by decide +kernel
theorem dX12_runs_114 : decode cX12_runs 114 = .ok (.iload 8, 2) := by decide +kernel
theorem dX12_runs_116 : decode cX12_runs 116 = .ok (.if_icmp .gt 6, 3) := by decide +kernel
theorem dX12_runs_119 : decode cX12_runs 119 = .ok (.iinc 5 1, 3) := by decide +kernel
theorem dX12_runs_122 : decode cX12_runs 122 = .ok (.iload 8, 2) := by decide +kernel
theorem dX12_runs_124 : decode cX12_runs 124 = .ok (.iload 7, 2) := by decide +kernel
theorem dX12_runs_126 : decode cX12_runs 126 = .ok (.if_icmp .gt 6, 3) := by decide +kernel
theorem dX12_runs_129 : decode cX12_runs 129 = .ok (.iinc 6 1, 3) := by decide +kernel
theorem dX12_runs_132 : decode cX12_runs 132 = .ok (.iload 7, 2) := by decide +kernel
theorem dX12_runs_134 : decode cX12_runs 134 = .ok (.iload 8, 2) := by decide +kernel
theorem dX12_runs_136 : decode cX12_runs 136 = .ok (.if_icmp .ne 6, 3) := by decide +kernel
theorem dX12_runs_139 : decode cX12_runs 139 = .ok (.goto (-103), 3) := by decide +kernel
theorem dX12_runs_142 : decode cX12_runs 142 = .ok (.iload 7, 2) := by decide +kernel
theorem dX12_runs_144 : decode cX12_runs 144 = .ok (.iload 8, 2) := by decide +kernel
theorem dX12_runs_146 : decode cX12_runs 146 = .ok (.if_icmp .ge 7, 3) := by decide +kernel
theorem dX12_runs_149 : decode cX12_runs 149 = .ok (.iconst 0, 1) := by decide +kernel
theorem dX12_runs_150 : decode cX12_runs 150 = .ok (.goto 4, 3) := by decide +kernel
theorem dX12_runs_153 : decode cX12_runs 153 = .ok (.iconst 1, 1) := by decide +kernel
theorem dX12_runs_154 : decode cX12_runs 154 = .ok (.istore 9, 2) := by decide +kernel
theorem dX12_runs_156 : decode cX12_runs 156 = .ok (.iload_n 3, 1) := by decide +kernel
theorem dX12_runs_157 : decode cX12_runs 157 = .ok (.iload 9, 2) := by decide +kernel
theorem dX12_runs_159 : decode cX12_runs 159 = .ok (.iload 4, 2) := by decide +kernel
theorem dX12_runs_161 : decode cX12_runs 161 = .ok (.if_icmp .ne 7, 3) := by decide +kernel
theorem dX12_runs_164 : decode cX12_runs 164 = .ok (.iconst 0, 1) := by decide +kernel
theorem dX12_runs_165 : decode cX12_runs 165 = .ok (.goto 4, 3) := by decide +kernel
theorem dX12_runs_168 : decode cX12_runs 168 = .ok (.iconst 1, 1) := by decide +kernel
theorem dX12_runs_169 : decode cX12_runs 169 = .ok (.iadd, 1) := by decide +kernel
theorem dX12_runs_170 : decode cX12_runs 170 = .ok (.istore_n 3, 1) := by decide +kernel
theorem dX12_runs_171 : decode cX12_runs 171 = .ok (.iload 9, 2) := by decide +kernel
theorem dX12_runs_173 : decode cX12_runs 173 = .ok (.istore 4, 2) := by decide +kernel
theorem dX12_runs_175 : decode cX12_runs 175 = .ok (.goto (-139), 3) := by decide +kernel
theorem dX12_runs_178 : decode cX12_runs 178 = .ok (.iload_n 3, 1) := by decide +kernel
theorem dX12_runs_179 : decode cX12_runs 179 = .ok (.ireturn, 1) := by decide +kernel
def J_X12_drop_28 (N : Nat) (g : gp) (a0 : Nat) (x1 : Int32) (x2 : Int32) (δ : dp) : Option (Int32 × dp) :=
  some (0, δ)
set_option maxHeartbeats 4000000 in
set_option maxRecDepth 100000 in
theorem t_J_X12_drop_28 {l : Launch} {D : va_G} {cy : Nat → ClassId} {N d : Nat} {g : gp} (wt : WT g) (hl : l.stackTraces = false) (hd : 3 ≤ d) {a0 : Nat} {x1 : Int32} {x2 : Int32} (k0 : q_K g a0 = 12) : ∀ (δ : dp), AWD l D cy m_X12_drop d 0 0 ei g 28 [] [] δ (J_X12_drop_28 N g a0 x1 x2 δ) := by
    intro  δ 
    unfold J_X12_drop_28
    refine w_iconst (v := 0) (μ := m_X12_drop) (pc := 28) dX12_drop_28 (by decide) ?_
    exact w_iret (μ := m_X12_drop) (pc := 29) dX12_drop_29 rfl rfl
def D_X12_drop (N : Nat) (g : gp) (a0 : Nat) (x1 : Int32) (x2 : Int32) (δ : dp) : Option (Int32 × dp) :=
  bd (s_I δ 12 0 a0 0) fun δ_1 => (D_X12_isHouse N g a0 x1 1 δ_1).bind fun r_3 => if r_3.1 = 0 then (J_X12_drop_28 N g a0 x1 x2 r_3.2) else ((D_X12_isNumber N g a0 x2 r_3.2).bind fun r_5 => (D_X12_may N g a0 r_5.1 2 2 r_5.2).bind fun r_6 => if r_6.1 = 0 then (J_X12_drop_28 N g a0 x1 x2 r_6.2) else ((D_X12_isThere N g a0 x1 x2 r_6.2).bind fun r_8 => if r_8.1 = 0 then (some (0, r_8.2)) else ((q_O g 12 17 a0).bind fun b_10 => if x1 < 0 ∨ q_N g b_10 ≤ x1.toNatClampNeg then none else if (q_R r_8.2 b_10 x1.toNatClampNeg) = (1000 : Int32) then (some ((-2), r_8.2)) else ((D_X12_leaves N g a0 x1 x2 r_8.2).bind fun r_13 => (D_X12_notesDown N g a0 x1 x2 0 r_13).bind fun r_14 => some (1, r_14)))))
set_option maxHeartbeats 4000000 in
set_option maxRecDepth 100000 in
theorem c_X12_drop {l : Launch} {D : va_G} {cy : Nat → ClassId} {N d : Nat} {g : gp} (wt : WT g) (hl : l.stackTraces = false) (hd : 3 ≤ d) {a0 : Nat} {x1 : Int32} {x2 : Int32} {δ : dp} (k0 : q_K g a0 = 12) : CalD l D cy m_X12_drop d 0 0 ei g [.ref a0, .int x1, .int x2] δ (D_X12_drop N g a0 x1 x2 δ) := by
  refine CalD.of (by decide +kernel) (Nat.le_of_ble_eq_true rfl) hl ?_
  unfold D_X12_drop
  refine w_aload_n 0 0 (μ := m_X12_drop) (pc := 0) dX12_drop_0 rfl rfl ?_
  refine w_iconst (v := 0) (μ := m_X12_drop) (pc := 1) dX12_drop_1 (by decide) ?_
  refine w_putI (μ := m_X12_drop) (pc := 2) dX12_drop_2 fl_X12_1 flw_12_0 ir_12_0 k0 ?_
  refine w_bd (fun δ_1 e_2 => ?_)
  refine w_aload_n 0 0 (μ := m_X12_drop) (pc := 5) dX12_drop_5 rfl rfl ?_
  refine w_iload_n 1 1 (μ := m_X12_drop) (pc := 6) dX12_drop_6 rfl rfl ?_
  refine w_iconst (v := 1) (μ := m_X12_drop) (pc := 7) dX12_drop_7 (by decide) ?_
  refine w_callV (As := [.int x1, .int 1]) (rest := []) (μ := m_X12_drop) (pc := 8) dX12_drop_8 cv_X12_260 rfl rfl k0 (by decide) rfl (Nat.le_of_ble_eq_true rfl) (d' := d - 1) (by omega) he_i (c_X12_isHouse wt hl (d := d - 1) (by omega) k0) (fun r_3 => ?_)
  refine w_if_eq 28 (μ := m_X12_drop) (pc := 11) dX12_drop_11 (by decide) (fun c_4 => ?_) (fun c_4 => ?_)
  · refine w_lv [] rfl ?_
    exact t_J_X12_drop_28 wt hl (by omega) k0 _
  · refine w_aload_n 0 0 (μ := m_X12_drop) (pc := 14) dX12_drop_14 rfl rfl ?_
    refine w_aload_n 0 0 (μ := m_X12_drop) (pc := 15) dX12_drop_15 rfl rfl ?_
    refine w_iload_n 2 2 (μ := m_X12_drop) (pc := 16) dX12_drop_16 rfl rfl ?_
    refine w_callV (As := [.int x2]) (rest := [.ref a0]) (μ := m_X12_drop) (pc := 17) dX12_drop_17 cv_X12_264 rfl rfl k0 (by decide) rfl (Nat.le_of_ble_eq_true rfl) (d' := d - 1) (by omega) he_i (c_X12_isNumber wt hl (d := d - 1) (by omega) k0) (fun r_5 => ?_)
    refine w_iconst (v := 2) (μ := m_X12_drop) (pc := 20) dX12_drop_20 (by decide) ?_
    refine w_iconst (v := 2) (μ := m_X12_drop) (pc := 21) dX12_drop_21 (by decide) ?_
    refine w_callV (As := [.int r_5.1, .int 2, .int 2]) (rest := []) (μ := m_X12_drop) (pc := 22) dX12_drop_22 cv_X12_157 rfl rfl k0 (by decide) rfl (Nat.le_of_ble_eq_true rfl) (d' := d - 1) (by omega) he_i (c_X12_may wt hl (d := d - 1) (by omega) k0) (fun r_6 => ?_)
    refine w_if_ne 30 (μ := m_X12_drop) (pc := 25) dX12_drop_25 (by decide) (fun c_7 => ?_) (fun c_7 => ?_)
    · refine w_aload_n 0 0 (μ := m_X12_drop) (pc := 30) dX12_drop_30 rfl rfl ?_
      refine w_iload_n 1 1 (μ := m_X12_drop) (pc := 31) dX12_drop_31 rfl rfl ?_
      refine w_iload_n 2 2 (μ := m_X12_drop) (pc := 32) dX12_drop_32 rfl rfl ?_
      refine w_callV (As := [.int x1, .int x2]) (rest := []) (μ := m_X12_drop) (pc := 33) dX12_drop_33 cv_X12_267 rfl rfl k0 (by decide) rfl (Nat.le_of_ble_eq_true rfl) (d' := d - 1) (by omega) he_i (c_X12_isThere wt hl (d := d - 1) (by omega) k0) (fun r_8 => ?_)
      refine w_if_ne 41 (μ := m_X12_drop) (pc := 36) dX12_drop_36 (by decide) (fun c_9 => ?_) (fun c_9 => ?_)
      · refine w_aload_n 0 0 (μ := m_X12_drop) (pc := 41) dX12_drop_41 rfl rfl ?_
        refine w_getO (μ := m_X12_drop) (pc := 42) dX12_drop_42 fl_X12_45 ir_12_17 id_12_17 k0 (fun b_10 e_11 => ?_)
        refine w_iload_n 1 1 (μ := m_X12_drop) (pc := 45) dX12_drop_45 rfl rfl ?_
        refine w_ald (μ := m_X12_drop) (pc := 46) dX12_drop_46 (wt_12_17 wt k0 e_11) ?_
        refine w_sipush (v := 1000) (μ := m_X12_drop) (pc := 47) dX12_drop_47 (by decide) ?_
        refine w_icmp_ne 56 (μ := m_X12_drop) (pc := 50) dX12_drop_50 (by decide) (fun c_12 => ?_) (fun c_12 => ?_)
        · refine w_aload_n 0 0 (μ := m_X12_drop) (pc := 56) dX12_drop_56 rfl rfl ?_
          refine w_iload_n 1 1 (μ := m_X12_drop) (pc := 57) dX12_drop_57 rfl rfl ?_
          refine w_iload_n 2 2 (μ := m_X12_drop) (pc := 58) dX12_drop_58 rfl rfl ?_
          refine w_callV (As := [.int x1, .int x2]) (rest := []) (μ := m_X12_drop) (pc := 59) dX12_drop_59 cv_X12_277 rfl rfl k0 (by decide) rfl (Nat.le_of_ble_eq_true rfl) (d' := d - 1) (by omega) he_v (c_X12_leaves wt hl (d := d - 1) (by omega) k0) (fun r_13 => ?_)
          refine w_aload_n 0 0 (μ := m_X12_drop) (pc := 62) dX12_drop_62 rfl rfl ?_
          refine w_iload_n 1 1 (μ := m_X12_drop) (pc := 63) dX12_drop_63 rfl rfl ?_
          refine w_iload_n 2 2 (μ := m_X12_drop) (pc := 64) dX12_drop_64 rfl rfl ?_
          refine w_iconst (v := 0) (μ := m_X12_drop) (pc := 65) dX12_drop_65 (by decide) ?_
          refine w_callV (As := [.int x1, .int x2, .int 0]) (rest := []) (μ := m_X12_drop) (pc := 66) dX12_drop_66 cv_X12_273 rfl rfl k0 (by decide) rfl (Nat.le_of_ble_eq_true rfl) (d' := d - 1) (by omega) he_v (c_X12_notesDown wt hl (d := d - 1) (by omega) k0) (fun r_14 => ?_)
          refine w_iconst (v := 1) (μ := m_X12_drop) (pc := 69) dX12_drop_69 (by decide) ?_
          exact w_iret (μ := m_X12_drop) (pc := 70) dX12_drop_70 rfl rfl
        · refine w_bipush (v := (-2)) (μ := m_X12_drop) (pc := 53) dX12_drop_53 (by decide) ?_
          exact w_iret (μ := m_X12_drop) (pc := 55) dX12_drop_55 rfl rfl
      · refine w_iconst (v := 0) (μ := m_X12_drop) (pc := 39) dX12_drop_39 (by decide) ?_
        exact w_iret (μ := m_X12_drop) (pc := 40) dX12_drop_40 rfl rfl
    · refine w_lv [] rfl ?_
      exact t_J_X12_drop_28 wt hl (by omega) k0 _
def J_X12_has_28 (N : Nat) (g : gp) (a0 : Nat) (x1 : Int32) (x2 : Int32) (δ : dp) : Option (Int32 × dp) :=
  if (0 : Int32) = 0 ∨ (0 : Int32) = 1 then some (0, δ) else none
set_option maxHeartbeats 4000000 in
set_option maxRecDepth 100000 in
theorem t_J_X12_has_28 {l : Launch} {D : va_G} {cy : Nat → ClassId} {N d : Nat} {g : gp} (wt : WT g) (hl : l.stackTraces = false) (hd : 3 ≤ d) {a0 : Nat} {x1 : Int32} {x2 : Int32} (k0 : q_K g a0 = 12) : ∀ (δ : dp), AWD l D cy m_X12_has d 0 0 ei g 28 [] [] δ (J_X12_has_28 N g a0 x1 x2 δ) := by
    intro  δ 
    unfold J_X12_has_28
    refine w_iconst (v := 0) (μ := m_X12_has) (pc := 28) dX12_has_28 (by decide) ?_
    exact w_zret (μ := m_X12_has) (pc := 29) dX12_has_29 rfl rfl
def D_X12_has (N : Nat) (g : gp) (a0 : Nat) (x1 : Int32) (x2 : Int32) (δ : dp) : Option (Int32 × dp) :=
  bd (s_I δ 12 0 a0 0) fun δ_1 => (D_X12_isHouse N g a0 x1 1 δ_1).bind fun r_3 => if r_3.1 = 0 then (J_X12_has_28 N g a0 x1 x2 r_3.2) else ((D_X12_isNumber N g a0 x2 r_3.2).bind fun r_5 => (D_X12_may N g a0 r_5.1 2 2 r_5.2).bind fun r_6 => if r_6.1 = 0 then (J_X12_has_28 N g a0 x1 x2 r_6.2) else ((D_X12_isThere N g a0 x1 x2 r_6.2).bind fun r_8 => if r_8.1 = 0 ∨ r_8.1 = 1 then some (r_8.1, r_8.2) else none))
set_option maxHeartbeats 4000000 in
set_option maxRecDepth 100000 in
theorem c_X12_has {l : Launch} {D : va_G} {cy : Nat → ClassId} {N d : Nat} {g : gp} (wt : WT g) (hl : l.stackTraces = false) (hd : 3 ≤ d) {a0 : Nat} {x1 : Int32} {x2 : Int32} {δ : dp} (k0 : q_K g a0 = 12) : CalD l D cy m_X12_has d 0 0 ei g [.ref a0, .int x1, .int x2] δ (D_X12_has N g a0 x1 x2 δ) := by
  refine CalD.of (by decide +kernel) (Nat.le_of_ble_eq_true rfl) hl ?_
  unfold D_X12_has
  refine w_aload_n 0 0 (μ := m_X12_has) (pc := 0) dX12_has_0 rfl rfl ?_
  refine w_iconst (v := 0) (μ := m_X12_has) (pc := 1) dX12_has_1 (by decide) ?_
  refine w_putI (μ := m_X12_has) (pc := 2) dX12_has_2 fl_X12_1 flw_12_0 ir_12_0 k0 ?_
  refine w_bd (fun δ_1 e_2 => ?_)
  refine w_aload_n 0 0 (μ := m_X12_has) (pc := 5) dX12_has_5 rfl rfl ?_
  refine w_iload_n 1 1 (μ := m_X12_has) (pc := 6) dX12_has_6 rfl rfl ?_
  refine w_iconst (v := 1) (μ := m_X12_has) (pc := 7) dX12_has_7 (by decide) ?_
  refine w_callV (As := [.int x1, .int 1]) (rest := []) (μ := m_X12_has) (pc := 8) dX12_has_8 cv_X12_260 rfl rfl k0 (by decide) rfl (Nat.le_of_ble_eq_true rfl) (d' := d - 1) (by omega) he_i (c_X12_isHouse wt hl (d := d - 1) (by omega) k0) (fun r_3 => ?_)
  refine w_if_eq 28 (μ := m_X12_has) (pc := 11) dX12_has_11 (by decide) (fun c_4 => ?_) (fun c_4 => ?_)
  · refine w_lv [] rfl ?_
    exact t_J_X12_has_28 wt hl (by omega) k0 _
  · refine w_aload_n 0 0 (μ := m_X12_has) (pc := 14) dX12_has_14 rfl rfl ?_
    refine w_aload_n 0 0 (μ := m_X12_has) (pc := 15) dX12_has_15 rfl rfl ?_
    refine w_iload_n 2 2 (μ := m_X12_has) (pc := 16) dX12_has_16 rfl rfl ?_
    refine w_callV (As := [.int x2]) (rest := [.ref a0]) (μ := m_X12_has) (pc := 17) dX12_has_17 cv_X12_264 rfl rfl k0 (by decide) rfl (Nat.le_of_ble_eq_true rfl) (d' := d - 1) (by omega) he_i (c_X12_isNumber wt hl (d := d - 1) (by omega) k0) (fun r_5 => ?_)
    refine w_iconst (v := 2) (μ := m_X12_has) (pc := 20) dX12_has_20 (by decide) ?_
    refine w_iconst (v := 2) (μ := m_X12_has) (pc := 21) dX12_has_21 (by decide) ?_
    refine w_callV (As := [.int r_5.1, .int 2, .int 2]) (rest := []) (μ := m_X12_has) (pc := 22) dX12_has_22 cv_X12_157 rfl rfl k0 (by decide) rfl (Nat.le_of_ble_eq_true rfl) (d' := d - 1) (by omega) he_i (c_X12_may wt hl (d := d - 1) (by omega) k0) (fun r_6 => ?_)
    refine w_if_ne 30 (μ := m_X12_has) (pc := 25) dX12_has_25 (by decide) (fun c_7 => ?_) (fun c_7 => ?_)
    · refine w_aload_n 0 0 (μ := m_X12_has) (pc := 30) dX12_has_30 rfl rfl ?_
      refine w_iload_n 1 1 (μ := m_X12_has) (pc := 31) dX12_has_31 rfl rfl ?_
      refine w_iload_n 2 2 (μ := m_X12_has) (pc := 32) dX12_has_32 rfl rfl ?_
      refine w_callV (As := [.int x1, .int x2]) (rest := []) (μ := m_X12_has) (pc := 33) dX12_has_33 cv_X12_267 rfl rfl k0 (by decide) rfl (Nat.le_of_ble_eq_true rfl) (d' := d - 1) (by omega) he_i (c_X12_isThere wt hl (d := d - 1) (by omega) k0) (fun r_8 => ?_)
      exact w_zret (μ := m_X12_has) (pc := 36) dX12_has_36 rfl rfl
    · refine w_lv [] rfl ?_
      exact t_J_X12_has_28 wt hl (by omega) k0 _
def J_X12_numberAt_32 (N : Nat) (g : gp) (a0 : Nat) (x1 : Int32) (x2 : Int32) (xs0 : Int32) (δ : dp) : Option (Int32 × dp) :=
  some (xs0, δ)
set_option maxHeartbeats 4000000 in
set_option maxRecDepth 100000 in
theorem t_J_X12_numberAt_32 {l : Launch} {D : va_G} {cy : Nat → ClassId} {N d : Nat} {g : gp} (wt : WT g) (hl : l.stackTraces = false) (hd : 2 ≤ d) {a0 : Nat} {x1 : Int32} {x2 : Int32} (k0 : q_K g a0 = 12) : ∀ (xs0 : Int32) (δ : dp), AWD l D cy m_X12_numberAt d 0 0 ei g 32 [] [.int xs0] δ (J_X12_numberAt_32 N g a0 x1 x2 xs0 δ) := by
    intro xs0 δ 
    unfold J_X12_numberAt_32
    exact w_iret (μ := m_X12_numberAt) (pc := 32) dX12_numberAt_32 rfl rfl
def D_X12_numberAt (N : Nat) (g : gp) (a0 : Nat) (x1 : Int32) (x2 : Int32) (δ : dp) : Option (Int32 × dp) :=
  (q_O g 12 14 a0).bind fun b_1 => if x1 < 0 ∨ q_N g b_1 ≤ x1.toNatClampNeg then none else (D_X12_within N g x2 0 ((q_R δ b_1 x1.toNatClampNeg) - 1) δ).bind fun r_3 => if r_3.1 = 0 then (J_X12_numberAt_32 N g a0 x1 x2 ((-1)) r_3.2) else ((q_O g 12 13 a0).bind fun b_5 => if ((2000 * x1) + x2) < 0 ∨ q_N g b_5 ≤ ((2000 * x1) + x2).toNatClampNeg then none else J_X12_numberAt_32 N g a0 x1 x2 (q_R r_3.2 b_5 ((2000 * x1) + x2).toNatClampNeg) r_3.2)
set_option maxHeartbeats 4000000 in
set_option maxRecDepth 100000 in
theorem c_X12_numberAt {l : Launch} {D : va_G} {cy : Nat → ClassId} {N d : Nat} {g : gp} (wt : WT g) (hl : l.stackTraces = false) (hd : 2 ≤ d) {a0 : Nat} {x1 : Int32} {x2 : Int32} {δ : dp} (k0 : q_K g a0 = 12) : CalD l D cy m_X12_numberAt d 0 0 ei g [.ref a0, .int x1, .int x2] δ (D_X12_numberAt N g a0 x1 x2 δ) := by
  refine CalD.of (by decide +kernel) (Nat.le_of_ble_eq_true rfl) hl ?_
  unfold D_X12_numberAt
  refine w_iload_n 2 2 (μ := m_X12_numberAt) (pc := 0) dX12_numberAt_0 rfl rfl ?_
  refine w_iconst (v := 0) (μ := m_X12_numberAt) (pc := 1) dX12_numberAt_1 (by decide) ?_
  refine w_aload_n 0 0 (μ := m_X12_numberAt) (pc := 2) dX12_numberAt_2 rfl rfl ?_
  refine w_getO (μ := m_X12_numberAt) (pc := 3) dX12_numberAt_3 fl_X12_36 ir_12_14 id_12_14 k0 (fun b_1 e_2 => ?_)
  refine w_iload_n 1 1 (μ := m_X12_numberAt) (pc := 6) dX12_numberAt_6 rfl rfl ?_
  refine w_ald (μ := m_X12_numberAt) (pc := 7) dX12_numberAt_7 (wt_12_14 wt k0 e_2) ?_
  refine w_iconst (v := 1) (μ := m_X12_numberAt) (pc := 8) dX12_numberAt_8 (by decide) ?_
  refine w_isub (μ := m_X12_numberAt) (pc := 9) dX12_numberAt_9 ?_
  refine w_callS (As := [.int x2, .int 0, .int ((q_R δ b_1 x1.toNatClampNeg) - 1)]) (rest := []) (μ := m_X12_numberAt) (pc := 10) dX12_numberAt_10 cs_X12_250 rfl rfl (Nat.le_of_ble_eq_true rfl) (d' := d - 1) (by omega) he_i (c_X12_within wt hl (d := d - 1) (by omega) ) (fun r_3 => ?_)
  refine w_if_eq 31 (μ := m_X12_numberAt) (pc := 13) dX12_numberAt_13 (by decide) (fun c_4 => ?_) (fun c_4 => ?_)
  · refine w_iconst (v := (-1)) (μ := m_X12_numberAt) (pc := 31) dX12_numberAt_31 (by decide) ?_
    refine w_lv [] rfl ?_
    exact t_J_X12_numberAt_32 wt hl (by omega) k0 _ _
  · refine w_aload_n 0 0 (μ := m_X12_numberAt) (pc := 16) dX12_numberAt_16 rfl rfl ?_
    refine w_getO (μ := m_X12_numberAt) (pc := 17) dX12_numberAt_17 fl_X12_33 ir_12_13 id_12_13 k0 (fun b_5 e_6 => ?_)
    refine w_sipush (v := 2000) (μ := m_X12_numberAt) (pc := 20) dX12_numberAt_20 (by decide) ?_
    refine w_iload_n 1 1 (μ := m_X12_numberAt) (pc := 23) dX12_numberAt_23 rfl rfl ?_
    refine w_imul (μ := m_X12_numberAt) (pc := 24) dX12_numberAt_24 ?_
    refine w_iload_n 2 2 (μ := m_X12_numberAt) (pc := 25) dX12_numberAt_25 rfl rfl ?_
    refine w_iadd (μ := m_X12_numberAt) (pc := 26) dX12_numberAt_26 ?_
    refine w_ald (μ := m_X12_numberAt) (pc := 27) dX12_numberAt_27 (wt_12_13 wt k0 e_6) ?_
    refine w_goto 32 (μ := m_X12_numberAt) (pc := 28) dX12_numberAt_28 (by decide) ?_
    refine w_lv [] rfl ?_
    exact t_J_X12_numberAt_32 wt hl (by omega) k0 _ _
def J_X12_of__29 (N : Nat) (g : gp) (a0 : Nat) (x1 : Int32) (x2 : Int32) (δ : dp) : Option (Int32 × dp) :=
  some (0, δ)
set_option maxHeartbeats 4000000 in
set_option maxRecDepth 100000 in
theorem t_J_X12_of__29 {l : Launch} {D : va_G} {cy : Nat → ClassId} {N d : Nat} {g : gp} (wt : WT g) (hl : l.stackTraces = false) (hd : 3 ≤ d) {a0 : Nat} {x1 : Int32} {x2 : Int32} (k0 : q_K g a0 = 12) : ∀ (δ : dp), AWD l D cy m_X12_of_ d 0 0 ei g 29 [] [] δ (J_X12_of__29 N g a0 x1 x2 δ) := by
    intro  δ 
    unfold J_X12_of__29
    refine w_iconst (v := 0) (μ := m_X12_of_) (pc := 29) dX12_of__29 (by decide) ?_
    exact w_iret (μ := m_X12_of_) (pc := 30) dX12_of__30 rfl rfl
def J_X12_of__85 (N : Nat) (g : gp) (a0 : Nat) (x1 : Int32) (x2 : Int32) (xs0 : Int32) (δ : dp) : Option (Int32 × dp) :=
  some (xs0, δ)
set_option maxHeartbeats 4000000 in
set_option maxRecDepth 100000 in
theorem t_J_X12_of__85 {l : Launch} {D : va_G} {cy : Nat → ClassId} {N d : Nat} {g : gp} (wt : WT g) (hl : l.stackTraces = false) (hd : 3 ≤ d) {a0 : Nat} {x1 : Int32} {x2 : Int32} (k0 : q_K g a0 = 12) : ∀ (xs0 : Int32) (δ : dp), AWD l D cy m_X12_of_ d 0 0 ei g 85 [] [.int xs0] δ (J_X12_of__85 N g a0 x1 x2 xs0 δ) := by
    intro xs0 δ 
    unfold J_X12_of__85
    exact w_iret (μ := m_X12_of_) (pc := 85) dX12_of__85 rfl rfl
def D_X12_of_ (N : Nat) (g : gp) (a0 : Nat) (x1 : Int32) (x2 : Int32) (δ : dp) : Option (Int32 × dp) :=
  bd (s_I δ 12 0 a0 0) fun δ_1 => (D_X12_isHouse N g a0 x1 1 δ_1).bind fun r_3 => if r_3.1 = 0 then (J_X12_of__29 N g a0 x1 x2 r_3.2) else ((D_X12_within N g x2 0 3 r_3.2).bind fun r_5 => (D_X12_may N g a0 r_5.1 2 2 r_5.2).bind fun r_6 => if r_6.1 = 0 then (J_X12_of__29 N g a0 x1 x2 r_6.2) else (if x2 = 0 then ((q_O g 12 14 a0).bind fun b_17 => if x1 < 0 ∨ q_N g b_17 ≤ x1.toNatClampNeg then none else J_X12_of__85 N g a0 x1 x2 (q_R r_6.2 b_17 x1.toNatClampNeg) r_6.2) else (if x2 = (1 : Int32) then ((D_X12_numberAt N g a0 x1 0 r_6.2).bind fun r_16 => J_X12_of__85 N g a0 x1 x2 r_16.1 r_16.2) else (if x2 = (2 : Int32) then ((q_O g 12 14 a0).bind fun b_13 => if x1 < 0 ∨ q_N g b_13 ≤ x1.toNatClampNeg then none else (D_X12_numberAt N g a0 x1 ((q_R r_6.2 b_13 x1.toNatClampNeg) - 1) r_6.2).bind fun r_15 => J_X12_of__85 N g a0 x1 x2 r_15.1 r_15.2) else ((q_O g 12 17 a0).bind fun b_11 => if x1 < 0 ∨ q_N g b_11 ≤ x1.toNatClampNeg then none else J_X12_of__85 N g a0 x1 x2 (q_R r_6.2 b_11 x1.toNatClampNeg) r_6.2)))))
set_option maxHeartbeats 4000000 in
set_option maxRecDepth 100000 in
theorem c_X12_of_ {l : Launch} {D : va_G} {cy : Nat → ClassId} {N d : Nat} {g : gp} (wt : WT g) (hl : l.stackTraces = false) (hd : 3 ≤ d) {a0 : Nat} {x1 : Int32} {x2 : Int32} {δ : dp} (k0 : q_K g a0 = 12) : CalD l D cy m_X12_of_ d 0 0 ei g [.ref a0, .int x1, .int x2] δ (D_X12_of_ N g a0 x1 x2 δ) := by
  refine CalD.of (by decide +kernel) (Nat.le_of_ble_eq_true rfl) hl ?_
  unfold D_X12_of_
  refine w_aload_n 0 0 (μ := m_X12_of_) (pc := 0) dX12_of__0 rfl rfl ?_
  refine w_iconst (v := 0) (μ := m_X12_of_) (pc := 1) dX12_of__1 (by decide) ?_
  refine w_putI (μ := m_X12_of_) (pc := 2) dX12_of__2 fl_X12_1 flw_12_0 ir_12_0 k0 ?_
  refine w_bd (fun δ_1 e_2 => ?_)
  refine w_aload_n 0 0 (μ := m_X12_of_) (pc := 5) dX12_of__5 rfl rfl ?_
  refine w_iload_n 1 1 (μ := m_X12_of_) (pc := 6) dX12_of__6 rfl rfl ?_
  refine w_iconst (v := 1) (μ := m_X12_of_) (pc := 7) dX12_of__7 (by decide) ?_
  refine w_callV (As := [.int x1, .int 1]) (rest := []) (μ := m_X12_of_) (pc := 8) dX12_of__8 cv_X12_260 rfl rfl k0 (by decide) rfl (Nat.le_of_ble_eq_true rfl) (d' := d - 1) (by omega) he_i (c_X12_isHouse wt hl (d := d - 1) (by omega) k0) (fun r_3 => ?_)
  refine w_if_eq 29 (μ := m_X12_of_) (pc := 11) dX12_of__11 (by decide) (fun c_4 => ?_) (fun c_4 => ?_)
  · refine w_lv [] rfl ?_
    exact t_J_X12_of__29 wt hl (by omega) k0 _
  · refine w_aload_n 0 0 (μ := m_X12_of_) (pc := 14) dX12_of__14 rfl rfl ?_
    refine w_iload_n 2 2 (μ := m_X12_of_) (pc := 15) dX12_of__15 rfl rfl ?_
    refine w_iconst (v := 0) (μ := m_X12_of_) (pc := 16) dX12_of__16 (by decide) ?_
    refine w_iconst (v := 3) (μ := m_X12_of_) (pc := 17) dX12_of__17 (by decide) ?_
    refine w_callS (As := [.int x2, .int 0, .int 3]) (rest := [.ref a0]) (μ := m_X12_of_) (pc := 18) dX12_of__18 cs_X12_250 rfl rfl (Nat.le_of_ble_eq_true rfl) (d' := d - 1) (by omega) he_i (c_X12_within wt hl (d := d - 1) (by omega) ) (fun r_5 => ?_)
    refine w_iconst (v := 2) (μ := m_X12_of_) (pc := 21) dX12_of__21 (by decide) ?_
    refine w_iconst (v := 2) (μ := m_X12_of_) (pc := 22) dX12_of__22 (by decide) ?_
    refine w_callV (As := [.int r_5.1, .int 2, .int 2]) (rest := []) (μ := m_X12_of_) (pc := 23) dX12_of__23 cv_X12_157 rfl rfl k0 (by decide) rfl (Nat.le_of_ble_eq_true rfl) (d' := d - 1) (by omega) he_i (c_X12_may wt hl (d := d - 1) (by omega) k0) (fun r_6 => ?_)
    refine w_if_ne 31 (μ := m_X12_of_) (pc := 26) dX12_of__26 (by decide) (fun c_7 => ?_) (fun c_7 => ?_)
    · refine w_iload_n 2 2 (μ := m_X12_of_) (pc := 31) dX12_of__31 rfl rfl ?_
      refine w_if_ne 44 (μ := m_X12_of_) (pc := 32) dX12_of__32 (by decide) (fun c_8 => ?_) (fun c_8 => ?_)
      · refine w_iload_n 2 2 (μ := m_X12_of_) (pc := 44) dX12_of__44 rfl rfl ?_
        refine w_iconst (v := 1) (μ := m_X12_of_) (pc := 45) dX12_of__45 (by decide) ?_
        refine w_icmp_ne 58 (μ := m_X12_of_) (pc := 46) dX12_of__46 (by decide) (fun c_9 => ?_) (fun c_9 => ?_)
        · refine w_iload_n 2 2 (μ := m_X12_of_) (pc := 58) dX12_of__58 rfl rfl ?_
          refine w_iconst (v := 2) (μ := m_X12_of_) (pc := 59) dX12_of__59 (by decide) ?_
          refine w_icmp_ne 79 (μ := m_X12_of_) (pc := 60) dX12_of__60 (by decide) (fun c_10 => ?_) (fun c_10 => ?_)
          · refine w_aload_n 0 0 (μ := m_X12_of_) (pc := 79) dX12_of__79 rfl rfl ?_
            refine w_getO (μ := m_X12_of_) (pc := 80) dX12_of__80 fl_X12_45 ir_12_17 id_12_17 k0 (fun b_11 e_12 => ?_)
            refine w_iload_n 1 1 (μ := m_X12_of_) (pc := 83) dX12_of__83 rfl rfl ?_
            refine w_ald (μ := m_X12_of_) (pc := 84) dX12_of__84 (wt_12_17 wt k0 e_12) ?_
            refine w_lv [] rfl ?_
            exact t_J_X12_of__85 wt hl (by omega) k0 _ _
          · refine w_aload_n 0 0 (μ := m_X12_of_) (pc := 63) dX12_of__63 rfl rfl ?_
            refine w_iload_n 1 1 (μ := m_X12_of_) (pc := 64) dX12_of__64 rfl rfl ?_
            refine w_aload_n 0 0 (μ := m_X12_of_) (pc := 65) dX12_of__65 rfl rfl ?_
            refine w_getO (μ := m_X12_of_) (pc := 66) dX12_of__66 fl_X12_36 ir_12_14 id_12_14 k0 (fun b_13 e_14 => ?_)
            refine w_iload_n 1 1 (μ := m_X12_of_) (pc := 69) dX12_of__69 rfl rfl ?_
            refine w_ald (μ := m_X12_of_) (pc := 70) dX12_of__70 (wt_12_14 wt k0 e_14) ?_
            refine w_iconst (v := 1) (μ := m_X12_of_) (pc := 71) dX12_of__71 (by decide) ?_
            refine w_isub (μ := m_X12_of_) (pc := 72) dX12_of__72 ?_
            refine w_callV (As := [.int x1, .int ((q_R r_6.2 b_13 x1.toNatClampNeg) - 1)]) (rest := []) (μ := m_X12_of_) (pc := 73) dX12_of__73 cv_X12_280 rfl rfl k0 (by decide) rfl (Nat.le_of_ble_eq_true rfl) (d' := d - 1) (by omega) he_i (c_X12_numberAt wt hl (d := d - 1) (by omega) k0) (fun r_15 => ?_)
            refine w_goto 85 (μ := m_X12_of_) (pc := 76) dX12_of__76 (by decide) ?_
            refine w_lv [] rfl ?_
            exact t_J_X12_of__85 wt hl (by omega) k0 _ _
        · refine w_aload_n 0 0 (μ := m_X12_of_) (pc := 49) dX12_of__49 rfl rfl ?_
          refine w_iload_n 1 1 (μ := m_X12_of_) (pc := 50) dX12_of__50 rfl rfl ?_
          refine w_iconst (v := 0) (μ := m_X12_of_) (pc := 51) dX12_of__51 (by decide) ?_
          refine w_callV (As := [.int x1, .int 0]) (rest := []) (μ := m_X12_of_) (pc := 52) dX12_of__52 cv_X12_280 rfl rfl k0 (by decide) rfl (Nat.le_of_ble_eq_true rfl) (d' := d - 1) (by omega) he_i (c_X12_numberAt wt hl (d := d - 1) (by omega) k0) (fun r_16 => ?_)
          refine w_goto 85 (μ := m_X12_of_) (pc := 55) dX12_of__55 (by decide) ?_
          refine w_lv [] rfl ?_
          exact t_J_X12_of__85 wt hl (by omega) k0 _ _
      · refine w_aload_n 0 0 (μ := m_X12_of_) (pc := 35) dX12_of__35 rfl rfl ?_
        refine w_getO (μ := m_X12_of_) (pc := 36) dX12_of__36 fl_X12_36 ir_12_14 id_12_14 k0 (fun b_17 e_18 => ?_)
        refine w_iload_n 1 1 (μ := m_X12_of_) (pc := 39) dX12_of__39 rfl rfl ?_
        refine w_ald (μ := m_X12_of_) (pc := 40) dX12_of__40 (wt_12_14 wt k0 e_18) ?_
        refine w_goto 85 (μ := m_X12_of_) (pc := 41) dX12_of__41 (by decide) ?_
        refine w_lv [] rfl ?_
        exact t_J_X12_of__85 wt hl (by omega) k0 _ _
    · refine w_lv [] rfl ?_
      exact t_J_X12_of__29 wt hl (by omega) k0 _
def J_X12_answer_52 (N : Nat) (g : gp) (a0 : Nat) (x1 : Int32) (x2 : Int32) (x3 : Int32) (xs0 : Int32) (δ : dp) : Option (Int32 × dp) :=
  some (xs0, δ)
set_option maxHeartbeats 4000000 in
set_option maxRecDepth 100000 in
theorem t_J_X12_answer_52 {l : Launch} {D : va_G} {cy : Nat → ClassId} {N d : Nat} {g : gp} (wt : WT g) (hl : l.stackTraces = false) (hd : 3 ≤ d) {a0 : Nat} {x1 : Int32} {x2 : Int32} {x3 : Int32} (k0 : q_K g a0 = 12) : ∀ (xs0 : Int32) (δ : dp), AWD l D cy m_X12_answer d 0 0 ei g 52 [] [.int xs0] δ (J_X12_answer_52 N g a0 x1 x2 x3 xs0 δ) := by
    intro xs0 δ 
    unfold J_X12_answer_52
    exact w_iret (μ := m_X12_answer) (pc := 52) dX12_answer_52 rfl rfl
def D_X12_answer (N : Nat) (g : gp) (a0 : Nat) (x1 : Int32) (x2 : Int32) (x3 : Int32) (δ : dp) : Option (Int32 × dp) :=
  if x2 = (3 : Int32) then ((D_X12_place N g a0 x1 (x3 + 1) δ).bind fun r_7 => (D_X12_numberAt N g a0 x1 r_7.1 r_7.2).bind fun r_8 => some (r_8.1, r_8.2)) else (if x2 = (4 : Int32) then ((D_X12_place N g a0 x1 x3 δ).bind fun r_5 => (D_X12_numberAt N g a0 x1 (r_5.1 - 1) r_5.2).bind fun r_6 => some (r_6.1, r_6.2)) else ((D_X12_isThere N g a0 x1 x3 δ).bind fun r_3 => if r_3.1 = 0 then (J_X12_answer_52 N g a0 x1 x2 x3 0 r_3.2) else (J_X12_answer_52 N g a0 x1 x2 x3 1 r_3.2)))
set_option maxHeartbeats 4000000 in
set_option maxRecDepth 100000 in
theorem c_X12_answer {l : Launch} {D : va_G} {cy : Nat → ClassId} {N d : Nat} {g : gp} (wt : WT g) (hl : l.stackTraces = false) (hd : 3 ≤ d) {a0 : Nat} {x1 : Int32} {x2 : Int32} {x3 : Int32} {δ : dp} (k0 : q_K g a0 = 12) : CalD l D cy m_X12_answer d 0 0 ei g [.ref a0, .int x1, .int x2, .int x3] δ (D_X12_answer N g a0 x1 x2 x3 δ) := by
  refine CalD.of (by decide +kernel) (Nat.le_of_ble_eq_true rfl) hl ?_
  unfold D_X12_answer
  refine w_iload_n 2 2 (μ := m_X12_answer) (pc := 0) dX12_answer_0 rfl rfl ?_
  refine w_iconst (v := 3) (μ := m_X12_answer) (pc := 1) dX12_answer_1 (by decide) ?_
  refine w_icmp_ne 19 (μ := m_X12_answer) (pc := 2) dX12_answer_2 (by decide) (fun c_1 => ?_) (fun c_1 => ?_)
  · refine w_iload_n 2 2 (μ := m_X12_answer) (pc := 19) dX12_answer_19 rfl rfl ?_
    refine w_iconst (v := 4) (μ := m_X12_answer) (pc := 20) dX12_answer_20 (by decide) ?_
    refine w_icmp_ne 38 (μ := m_X12_answer) (pc := 21) dX12_answer_21 (by decide) (fun c_2 => ?_) (fun c_2 => ?_)
    · refine w_aload_n 0 0 (μ := m_X12_answer) (pc := 38) dX12_answer_38 rfl rfl ?_
      refine w_iload_n 1 1 (μ := m_X12_answer) (pc := 39) dX12_answer_39 rfl rfl ?_
      refine w_iload_n 3 3 (μ := m_X12_answer) (pc := 40) dX12_answer_40 rfl rfl ?_
      refine w_callV (As := [.int x1, .int x3]) (rest := []) (μ := m_X12_answer) (pc := 41) dX12_answer_41 cv_X12_267 rfl rfl k0 (by decide) rfl (Nat.le_of_ble_eq_true rfl) (d' := d - 1) (by omega) he_i (c_X12_isThere wt hl (d := d - 1) (by omega) k0) (fun r_3 => ?_)
      refine w_if_eq 51 (μ := m_X12_answer) (pc := 44) dX12_answer_44 (by decide) (fun c_4 => ?_) (fun c_4 => ?_)
      · refine w_iconst (v := 0) (μ := m_X12_answer) (pc := 51) dX12_answer_51 (by decide) ?_
        refine w_lv [] rfl ?_
        exact t_J_X12_answer_52 wt hl (by omega) k0 _ _
      · refine w_iconst (v := 1) (μ := m_X12_answer) (pc := 47) dX12_answer_47 (by decide) ?_
        refine w_goto 52 (μ := m_X12_answer) (pc := 48) dX12_answer_48 (by decide) ?_
        refine w_lv [] rfl ?_
        exact t_J_X12_answer_52 wt hl (by omega) k0 _ _
    · refine w_aload_n 0 0 (μ := m_X12_answer) (pc := 24) dX12_answer_24 rfl rfl ?_
      refine w_iload_n 1 1 (μ := m_X12_answer) (pc := 25) dX12_answer_25 rfl rfl ?_
      refine w_aload_n 0 0 (μ := m_X12_answer) (pc := 26) dX12_answer_26 rfl rfl ?_
      refine w_iload_n 1 1 (μ := m_X12_answer) (pc := 27) dX12_answer_27 rfl rfl ?_
      refine w_iload_n 3 3 (μ := m_X12_answer) (pc := 28) dX12_answer_28 rfl rfl ?_
      refine w_callV (As := [.int x1, .int x3]) (rest := [.int x1, .ref a0]) (μ := m_X12_answer) (pc := 29) dX12_answer_29 cv_X12_254 rfl rfl k0 (by decide) rfl (Nat.le_of_ble_eq_true rfl) (d' := d - 1) (by omega) he_i (c_X12_place wt hl (d := d - 1) (by omega) k0) (fun r_5 => ?_)
      refine w_iconst (v := 1) (μ := m_X12_answer) (pc := 32) dX12_answer_32 (by decide) ?_
      refine w_isub (μ := m_X12_answer) (pc := 33) dX12_answer_33 ?_
      refine w_callV (As := [.int x1, .int (r_5.1 - 1)]) (rest := []) (μ := m_X12_answer) (pc := 34) dX12_answer_34 cv_X12_280 rfl rfl k0 (by decide) rfl (Nat.le_of_ble_eq_true rfl) (d' := d - 1) (by omega) he_i (c_X12_numberAt wt hl (d := d - 1) (by omega) k0) (fun r_6 => ?_)
      exact w_iret (μ := m_X12_answer) (pc := 37) dX12_answer_37 rfl rfl
  · refine w_aload_n 0 0 (μ := m_X12_answer) (pc := 5) dX12_answer_5 rfl rfl ?_
    refine w_iload_n 1 1 (μ := m_X12_answer) (pc := 6) dX12_answer_6 rfl rfl ?_
    refine w_aload_n 0 0 (μ := m_X12_answer) (pc := 7) dX12_answer_7 rfl rfl ?_
    refine w_iload_n 1 1 (μ := m_X12_answer) (pc := 8) dX12_answer_8 rfl rfl ?_
    refine w_iload_n 3 3 (μ := m_X12_answer) (pc := 9) dX12_answer_9 rfl rfl ?_
    refine w_iconst (v := 1) (μ := m_X12_answer) (pc := 10) dX12_answer_10 (by decide) ?_
    refine w_iadd (μ := m_X12_answer) (pc := 11) dX12_answer_11 ?_
    refine w_callV (As := [.int x1, .int (x3 + 1)]) (rest := [.int x1, .ref a0]) (μ := m_X12_answer) (pc := 12) dX12_answer_12 cv_X12_254 rfl rfl k0 (by decide) rfl (Nat.le_of_ble_eq_true rfl) (d' := d - 1) (by omega) he_i (c_X12_place wt hl (d := d - 1) (by omega) k0) (fun r_7 => ?_)
    refine w_callV (As := [.int x1, .int r_7.1]) (rest := []) (μ := m_X12_answer) (pc := 15) dX12_answer_15 cv_X12_280 rfl rfl k0 (by decide) rfl (Nat.le_of_ble_eq_true rfl) (d' := d - 1) (by omega) he_i (c_X12_numberAt wt hl (d := d - 1) (by omega) k0) (fun r_8 => ?_)
    exact w_iret (μ := m_X12_answer) (pc := 18) dX12_answer_18 rfl rfl
def J_X12_mayAsk_41 (N : Nat) (g : gp) (a0 : Nat) (x1 : Int32) (x2 : Int32) (xs0 : Int32) (δ : dp) : Option (Int32 × dp) :=
  if xs0 = 0 ∨ xs0 = 1 then some (xs0, δ) else none
set_option maxHeartbeats 4000000 in
set_option maxRecDepth 100000 in
theorem t_J_X12_mayAsk_41 {l : Launch} {D : va_G} {cy : Nat → ClassId} {N d : Nat} {g : gp} (wt : WT g) (hl : l.stackTraces = false) (hd : 3 ≤ d) {a0 : Nat} {x1 : Int32} {x2 : Int32} (k0 : q_K g a0 = 12) : ∀ (xs0 : Int32) (δ : dp), AWD l D cy m_X12_mayAsk d 0 0 ei g 41 [] [.int xs0] δ (J_X12_mayAsk_41 N g a0 x1 x2 xs0 δ) := by
    intro xs0 δ 
    unfold J_X12_mayAsk_41
    exact w_zret (μ := m_X12_mayAsk) (pc := 41) dX12_mayAsk_41 rfl rfl
def D_X12_mayAsk (N : Nat) (g : gp) (a0 : Nat) (x1 : Int32) (x2 : Int32) (δ : dp) : Option (Int32 × dp) :=
  if x1 = (3 : Int32) then ((D_X12_all N g a0 δ).bind fun r_6 => (D_X12_within N g x2 ((-1)) (r_6.1 - 1) r_6.2).bind fun r_7 => J_X12_mayAsk_41 N g a0 x1 x2 r_7.1 r_7.2) else (if x1 = (4 : Int32) then ((D_X12_all N g a0 δ).bind fun r_4 => (D_X12_within N g x2 0 r_4.1 r_4.2).bind fun r_5 => J_X12_mayAsk_41 N g a0 x1 x2 r_5.1 r_5.2) else ((D_X12_isNumber N g a0 x2 δ).bind fun r_3 => J_X12_mayAsk_41 N g a0 x1 x2 r_3.1 r_3.2))
set_option maxHeartbeats 4000000 in
set_option maxRecDepth 100000 in
theorem c_X12_mayAsk {l : Launch} {D : va_G} {cy : Nat → ClassId} {N d : Nat} {g : gp} (wt : WT g) (hl : l.stackTraces = false) (hd : 3 ≤ d) {a0 : Nat} {x1 : Int32} {x2 : Int32} {δ : dp} (k0 : q_K g a0 = 12) : CalD l D cy m_X12_mayAsk d 0 0 ei g [.ref a0, .int x1, .int x2] δ (D_X12_mayAsk N g a0 x1 x2 δ) := by
  refine CalD.of (by decide +kernel) (Nat.le_of_ble_eq_true rfl) hl ?_
  unfold D_X12_mayAsk
  refine w_iload_n 1 1 (μ := m_X12_mayAsk) (pc := 0) dX12_mayAsk_0 rfl rfl ?_
  refine w_iconst (v := 3) (μ := m_X12_mayAsk) (pc := 1) dX12_mayAsk_1 (by decide) ?_
  refine w_icmp_ne 19 (μ := m_X12_mayAsk) (pc := 2) dX12_mayAsk_2 (by decide) (fun c_1 => ?_) (fun c_1 => ?_)
  · refine w_iload_n 1 1 (μ := m_X12_mayAsk) (pc := 19) dX12_mayAsk_19 rfl rfl ?_
    refine w_iconst (v := 4) (μ := m_X12_mayAsk) (pc := 20) dX12_mayAsk_20 (by decide) ?_
    refine w_icmp_ne 36 (μ := m_X12_mayAsk) (pc := 21) dX12_mayAsk_21 (by decide) (fun c_2 => ?_) (fun c_2 => ?_)
    · refine w_aload_n 0 0 (μ := m_X12_mayAsk) (pc := 36) dX12_mayAsk_36 rfl rfl ?_
      refine w_iload_n 2 2 (μ := m_X12_mayAsk) (pc := 37) dX12_mayAsk_37 rfl rfl ?_
      refine w_callV (As := [.int x2]) (rest := []) (μ := m_X12_mayAsk) (pc := 38) dX12_mayAsk_38 cv_X12_264 rfl rfl k0 (by decide) rfl (Nat.le_of_ble_eq_true rfl) (d' := d - 1) (by omega) he_i (c_X12_isNumber wt hl (d := d - 1) (by omega) k0) (fun r_3 => ?_)
      refine w_lv [] rfl ?_
      exact t_J_X12_mayAsk_41 wt hl (by omega) k0 _ _
    · refine w_iload_n 2 2 (μ := m_X12_mayAsk) (pc := 24) dX12_mayAsk_24 rfl rfl ?_
      refine w_iconst (v := 0) (μ := m_X12_mayAsk) (pc := 25) dX12_mayAsk_25 (by decide) ?_
      refine w_aload_n 0 0 (μ := m_X12_mayAsk) (pc := 26) dX12_mayAsk_26 rfl rfl ?_
      refine w_callV (As := []) (rest := [.int 0, .int x2]) (μ := m_X12_mayAsk) (pc := 27) dX12_mayAsk_27 cv_X12_257 rfl rfl k0 (by decide) rfl (Nat.le_of_ble_eq_true rfl) (d' := d - 1) (by omega) he_i (c_X12_all wt hl (d := d - 1) (by omega) k0) (fun r_4 => ?_)
      refine w_callS (As := [.int x2, .int 0, .int r_4.1]) (rest := []) (μ := m_X12_mayAsk) (pc := 30) dX12_mayAsk_30 cs_X12_250 rfl rfl (Nat.le_of_ble_eq_true rfl) (d' := d - 1) (by omega) he_i (c_X12_within wt hl (d := d - 1) (by omega) ) (fun r_5 => ?_)
      refine w_goto 41 (μ := m_X12_mayAsk) (pc := 33) dX12_mayAsk_33 (by decide) ?_
      refine w_lv [] rfl ?_
      exact t_J_X12_mayAsk_41 wt hl (by omega) k0 _ _
  · refine w_iload_n 2 2 (μ := m_X12_mayAsk) (pc := 5) dX12_mayAsk_5 rfl rfl ?_
    refine w_iconst (v := (-1)) (μ := m_X12_mayAsk) (pc := 6) dX12_mayAsk_6 (by decide) ?_
    refine w_aload_n 0 0 (μ := m_X12_mayAsk) (pc := 7) dX12_mayAsk_7 rfl rfl ?_
    refine w_callV (As := []) (rest := [.int ((-1)), .int x2]) (μ := m_X12_mayAsk) (pc := 8) dX12_mayAsk_8 cv_X12_257 rfl rfl k0 (by decide) rfl (Nat.le_of_ble_eq_true rfl) (d' := d - 1) (by omega) he_i (c_X12_all wt hl (d := d - 1) (by omega) k0) (fun r_6 => ?_)
    refine w_iconst (v := 1) (μ := m_X12_mayAsk) (pc := 11) dX12_mayAsk_11 (by decide) ?_
    refine w_isub (μ := m_X12_mayAsk) (pc := 12) dX12_mayAsk_12 ?_
    refine w_callS (As := [.int x2, .int ((-1)), .int (r_6.1 - 1)]) (rest := []) (μ := m_X12_mayAsk) (pc := 13) dX12_mayAsk_13 cs_X12_250 rfl rfl (Nat.le_of_ble_eq_true rfl) (d' := d - 1) (by omega) he_i (c_X12_within wt hl (d := d - 1) (by omega) ) (fun r_7 => ?_)
    refine w_goto 41 (μ := m_X12_mayAsk) (pc := 16) dX12_mayAsk_16 (by decide) ?_
    refine w_lv [] rfl ?_
    exact t_J_X12_mayAsk_41 wt hl (by omega) k0 _ _
def J_X12_next_29 (N : Nat) (g : gp) (a0 : Nat) (x1 : Int32) (x2 : Int32) (δ : dp) : Option (Int32 × dp) :=
  some (0, δ)
set_option maxHeartbeats 4000000 in
set_option maxRecDepth 100000 in
theorem t_J_X12_next_29 {l : Launch} {D : va_G} {cy : Nat → ClassId} {N d : Nat} {g : gp} (wt : WT g) (hl : l.stackTraces = false) (hd : 4 ≤ d) {a0 : Nat} {x1 : Int32} {x2 : Int32} (k0 : q_K g a0 = 12) : ∀ (δ : dp), AWD l D cy m_X12_next d 0 0 ei g 29 [] [] δ (J_X12_next_29 N g a0 x1 x2 δ) := by
    intro  δ 
    unfold J_X12_next_29
    refine w_iconst (v := 0) (μ := m_X12_next) (pc := 29) dX12_next_29 (by decide) ?_
    exact w_iret (μ := m_X12_next) (pc := 30) dX12_next_30 rfl rfl
def D_X12_next (N : Nat) (g : gp) (a0 : Nat) (x1 : Int32) (x2 : Int32) (δ : dp) : Option (Int32 × dp) :=
  bd (s_I δ 12 0 a0 0) fun δ_1 => (D_X12_isHouse N g a0 x1 1 δ_1).bind fun r_3 => if r_3.1 = 0 then (J_X12_next_29 N g a0 x1 x2 r_3.2) else ((D_X12_mayAsk N g a0 3 x2 r_3.2).bind fun r_5 => (D_X12_may N g a0 r_5.1 2 2 r_5.2).bind fun r_6 => if r_6.1 = 0 then (J_X12_next_29 N g a0 x1 x2 r_6.2) else ((D_X12_answer N g a0 x1 3 x2 r_6.2).bind fun r_8 => some (r_8.1, r_8.2)))
set_option maxHeartbeats 4000000 in
set_option maxRecDepth 100000 in
theorem c_X12_next {l : Launch} {D : va_G} {cy : Nat → ClassId} {N d : Nat} {g : gp} (wt : WT g) (hl : l.stackTraces = false) (hd : 4 ≤ d) {a0 : Nat} {x1 : Int32} {x2 : Int32} {δ : dp} (k0 : q_K g a0 = 12) : CalD l D cy m_X12_next d 0 0 ei g [.ref a0, .int x1, .int x2] δ (D_X12_next N g a0 x1 x2 δ) := by
  refine CalD.of (by decide +kernel) (Nat.le_of_ble_eq_true rfl) hl ?_
  unfold D_X12_next
  refine w_aload_n 0 0 (μ := m_X12_next) (pc := 0) dX12_next_0 rfl rfl ?_
  refine w_iconst (v := 0) (μ := m_X12_next) (pc := 1) dX12_next_1 (by decide) ?_
  refine w_putI (μ := m_X12_next) (pc := 2) dX12_next_2 fl_X12_1 flw_12_0 ir_12_0 k0 ?_
  refine w_bd (fun δ_1 e_2 => ?_)
  refine w_aload_n 0 0 (μ := m_X12_next) (pc := 5) dX12_next_5 rfl rfl ?_
  refine w_iload_n 1 1 (μ := m_X12_next) (pc := 6) dX12_next_6 rfl rfl ?_
  refine w_iconst (v := 1) (μ := m_X12_next) (pc := 7) dX12_next_7 (by decide) ?_
  refine w_callV (As := [.int x1, .int 1]) (rest := []) (μ := m_X12_next) (pc := 8) dX12_next_8 cv_X12_260 rfl rfl k0 (by decide) rfl (Nat.le_of_ble_eq_true rfl) (d' := d - 1) (by omega) he_i (c_X12_isHouse wt hl (d := d - 1) (by omega) k0) (fun r_3 => ?_)
  refine w_if_eq 29 (μ := m_X12_next) (pc := 11) dX12_next_11 (by decide) (fun c_4 => ?_) (fun c_4 => ?_)
  · refine w_lv [] rfl ?_
    exact t_J_X12_next_29 wt hl (by omega) k0 _
  · refine w_aload_n 0 0 (μ := m_X12_next) (pc := 14) dX12_next_14 rfl rfl ?_
    refine w_aload_n 0 0 (μ := m_X12_next) (pc := 15) dX12_next_15 rfl rfl ?_
    refine w_iconst (v := 3) (μ := m_X12_next) (pc := 16) dX12_next_16 (by decide) ?_
    refine w_iload_n 2 2 (μ := m_X12_next) (pc := 17) dX12_next_17 rfl rfl ?_
    refine w_callV (As := [.int 3, .int x2]) (rest := [.ref a0]) (μ := m_X12_next) (pc := 18) dX12_next_18 cv_X12_283 rfl rfl k0 (by decide) rfl (Nat.le_of_ble_eq_true rfl) (d' := d - 1) (by omega) he_i (c_X12_mayAsk wt hl (d := d - 1) (by omega) k0) (fun r_5 => ?_)
    refine w_iconst (v := 2) (μ := m_X12_next) (pc := 21) dX12_next_21 (by decide) ?_
    refine w_iconst (v := 2) (μ := m_X12_next) (pc := 22) dX12_next_22 (by decide) ?_
    refine w_callV (As := [.int r_5.1, .int 2, .int 2]) (rest := []) (μ := m_X12_next) (pc := 23) dX12_next_23 cv_X12_157 rfl rfl k0 (by decide) rfl (Nat.le_of_ble_eq_true rfl) (d' := d - 1) (by omega) he_i (c_X12_may wt hl (d := d - 1) (by omega) k0) (fun r_6 => ?_)
    refine w_if_ne 31 (μ := m_X12_next) (pc := 26) dX12_next_26 (by decide) (fun c_7 => ?_) (fun c_7 => ?_)
    · refine w_aload_n 0 0 (μ := m_X12_next) (pc := 31) dX12_next_31 rfl rfl ?_
      refine w_iload_n 1 1 (μ := m_X12_next) (pc := 32) dX12_next_32 rfl rfl ?_
      refine w_iconst (v := 3) (μ := m_X12_next) (pc := 33) dX12_next_33 (by decide) ?_
      refine w_iload_n 2 2 (μ := m_X12_next) (pc := 34) dX12_next_34 rfl rfl ?_
      refine w_callV (As := [.int x1, .int 3, .int x2]) (rest := []) (μ := m_X12_next) (pc := 35) dX12_next_35 cv_X12_286 rfl rfl k0 (by decide) rfl (Nat.le_of_ble_eq_true rfl) (d' := d - 1) (by omega) he_i (c_X12_answer wt hl (d := d - 1) (by omega) k0) (fun r_8 => ?_)
      exact w_iret (μ := m_X12_next) (pc := 38) dX12_next_38 rfl rfl
    · refine w_lv [] rfl ?_
      exact t_J_X12_next_29 wt hl (by omega) k0 _
def J_X12_before_29 (N : Nat) (g : gp) (a0 : Nat) (x1 : Int32) (x2 : Int32) (δ : dp) : Option (Int32 × dp) :=
  some (0, δ)
set_option maxHeartbeats 4000000 in
set_option maxRecDepth 100000 in
theorem t_J_X12_before_29 {l : Launch} {D : va_G} {cy : Nat → ClassId} {N d : Nat} {g : gp} (wt : WT g) (hl : l.stackTraces = false) (hd : 4 ≤ d) {a0 : Nat} {x1 : Int32} {x2 : Int32} (k0 : q_K g a0 = 12) : ∀ (δ : dp), AWD l D cy m_X12_before d 0 0 ei g 29 [] [] δ (J_X12_before_29 N g a0 x1 x2 δ) := by
    intro  δ 
    unfold J_X12_before_29
    refine w_iconst (v := 0) (μ := m_X12_before) (pc := 29) dX12_before_29 (by decide) ?_
    exact w_iret (μ := m_X12_before) (pc := 30) dX12_before_30 rfl rfl
def D_X12_before (N : Nat) (g : gp) (a0 : Nat) (x1 : Int32) (x2 : Int32) (δ : dp) : Option (Int32 × dp) :=
  bd (s_I δ 12 0 a0 0) fun δ_1 => (D_X12_isHouse N g a0 x1 1 δ_1).bind fun r_3 => if r_3.1 = 0 then (J_X12_before_29 N g a0 x1 x2 r_3.2) else ((D_X12_mayAsk N g a0 4 x2 r_3.2).bind fun r_5 => (D_X12_may N g a0 r_5.1 2 2 r_5.2).bind fun r_6 => if r_6.1 = 0 then (J_X12_before_29 N g a0 x1 x2 r_6.2) else ((D_X12_answer N g a0 x1 4 x2 r_6.2).bind fun r_8 => some (r_8.1, r_8.2)))
set_option maxHeartbeats 4000000 in
set_option maxRecDepth 100000 in
theorem c_X12_before {l : Launch} {D : va_G} {cy : Nat → ClassId} {N d : Nat} {g : gp} (wt : WT g) (hl : l.stackTraces = false) (hd : 4 ≤ d) {a0 : Nat} {x1 : Int32} {x2 : Int32} {δ : dp} (k0 : q_K g a0 = 12) : CalD l D cy m_X12_before d 0 0 ei g [.ref a0, .int x1, .int x2] δ (D_X12_before N g a0 x1 x2 δ) := by
  refine CalD.of (by decide +kernel) (Nat.le_of_ble_eq_true rfl) hl ?_
  unfold D_X12_before
  refine w_aload_n 0 0 (μ := m_X12_before) (pc := 0) dX12_before_0 rfl rfl ?_
  refine w_iconst (v := 0) (μ := m_X12_before) (pc := 1) dX12_before_1 (by decide) ?_
  refine w_putI (μ := m_X12_before) (pc := 2) dX12_before_2 fl_X12_1 flw_12_0 ir_12_0 k0 ?_
  refine w_bd (fun δ_1 e_2 => ?_)
  refine w_aload_n 0 0 (μ := m_X12_before) (pc := 5) dX12_before_5 rfl rfl ?_
  refine w_iload_n 1 1 (μ := m_X12_before) (pc := 6) dX12_before_6 rfl rfl ?_
  refine w_iconst (v := 1) (μ := m_X12_before) (pc := 7) dX12_before_7 (by decide) ?_
  refine w_callV (As := [.int x1, .int 1]) (rest := []) (μ := m_X12_before) (pc := 8) dX12_before_8 cv_X12_260 rfl rfl k0 (by decide) rfl (Nat.le_of_ble_eq_true rfl) (d' := d - 1) (by omega) he_i (c_X12_isHouse wt hl (d := d - 1) (by omega) k0) (fun r_3 => ?_)
  refine w_if_eq 29 (μ := m_X12_before) (pc := 11) dX12_before_11 (by decide) (fun c_4 => ?_) (fun c_4 => ?_)
  · refine w_lv [] rfl ?_
    exact t_J_X12_before_29 wt hl (by omega) k0 _
  · refine w_aload_n 0 0 (μ := m_X12_before) (pc := 14) dX12_before_14 rfl rfl ?_
    refine w_aload_n 0 0 (μ := m_X12_before) (pc := 15) dX12_before_15 rfl rfl ?_
    refine w_iconst (v := 4) (μ := m_X12_before) (pc := 16) dX12_before_16 (by decide) ?_
    refine w_iload_n 2 2 (μ := m_X12_before) (pc := 17) dX12_before_17 rfl rfl ?_
    refine w_callV (As := [.int 4, .int x2]) (rest := [.ref a0]) (μ := m_X12_before) (pc := 18) dX12_before_18 cv_X12_283 rfl rfl k0 (by decide) rfl (Nat.le_of_ble_eq_true rfl) (d' := d - 1) (by omega) he_i (c_X12_mayAsk wt hl (d := d - 1) (by omega) k0) (fun r_5 => ?_)
    refine w_iconst (v := 2) (μ := m_X12_before) (pc := 21) dX12_before_21 (by decide) ?_
    refine w_iconst (v := 2) (μ := m_X12_before) (pc := 22) dX12_before_22 (by decide) ?_
    refine w_callV (As := [.int r_5.1, .int 2, .int 2]) (rest := []) (μ := m_X12_before) (pc := 23) dX12_before_23 cv_X12_157 rfl rfl k0 (by decide) rfl (Nat.le_of_ble_eq_true rfl) (d' := d - 1) (by omega) he_i (c_X12_may wt hl (d := d - 1) (by omega) k0) (fun r_6 => ?_)
    refine w_if_ne 31 (μ := m_X12_before) (pc := 26) dX12_before_26 (by decide) (fun c_7 => ?_) (fun c_7 => ?_)
    · refine w_aload_n 0 0 (μ := m_X12_before) (pc := 31) dX12_before_31 rfl rfl ?_
      refine w_iload_n 1 1 (μ := m_X12_before) (pc := 32) dX12_before_32 rfl rfl ?_
      refine w_iconst (v := 4) (μ := m_X12_before) (pc := 33) dX12_before_33 (by decide) ?_
      refine w_iload_n 2 2 (μ := m_X12_before) (pc := 34) dX12_before_34 rfl rfl ?_
      refine w_callV (As := [.int x1, .int 4, .int x2]) (rest := []) (μ := m_X12_before) (pc := 35) dX12_before_35 cv_X12_286 rfl rfl k0 (by decide) rfl (Nat.le_of_ble_eq_true rfl) (d' := d - 1) (by omega) he_i (c_X12_answer wt hl (d := d - 1) (by omega) k0) (fun r_8 => ?_)
      exact w_iret (μ := m_X12_before) (pc := 38) dX12_before_38 rfl rfl
    · refine w_lv [] rfl ?_
      exact t_J_X12_before_29 wt hl (by omega) k0 _
def D_X12_kth (N : Nat) (g : gp) (a0 : Nat) (x1 : Int32) (x2 : Int32) (δ : dp) : Option (Int32 × dp) :=
  bd (s_I δ 12 0 a0 0) fun δ_1 => (D_X12_isHouse N g a0 x1 1 δ_1).bind fun r_3 => if r_3.1 = 0 then (some (0, r_3.2)) else ((D_X12_numberAt N g a0 x1 x2 r_3.2).bind fun r_5 => some (r_5.1, r_5.2))
set_option maxHeartbeats 4000000 in
set_option maxRecDepth 100000 in
theorem c_X12_kth {l : Launch} {D : va_G} {cy : Nat → ClassId} {N d : Nat} {g : gp} (wt : WT g) (hl : l.stackTraces = false) (hd : 3 ≤ d) {a0 : Nat} {x1 : Int32} {x2 : Int32} {δ : dp} (k0 : q_K g a0 = 12) : CalD l D cy m_X12_kth d 0 0 ei g [.ref a0, .int x1, .int x2] δ (D_X12_kth N g a0 x1 x2 δ) := by
  refine CalD.of (by decide +kernel) (Nat.le_of_ble_eq_true rfl) hl ?_
  unfold D_X12_kth
  refine w_aload_n 0 0 (μ := m_X12_kth) (pc := 0) dX12_kth_0 rfl rfl ?_
  refine w_iconst (v := 0) (μ := m_X12_kth) (pc := 1) dX12_kth_1 (by decide) ?_
  refine w_putI (μ := m_X12_kth) (pc := 2) dX12_kth_2 fl_X12_1 flw_12_0 ir_12_0 k0 ?_
  refine w_bd (fun δ_1 e_2 => ?_)
  refine w_aload_n 0 0 (μ := m_X12_kth) (pc := 5) dX12_kth_5 rfl rfl ?_
  refine w_iload_n 1 1 (μ := m_X12_kth) (pc := 6) dX12_kth_6 rfl rfl ?_
  refine w_iconst (v := 1) (μ := m_X12_kth) (pc := 7) dX12_kth_7 (by decide) ?_
  refine w_callV (As := [.int x1, .int 1]) (rest := []) (μ := m_X12_kth) (pc := 8) dX12_kth_8 cv_X12_260 rfl rfl k0 (by decide) rfl (Nat.le_of_ble_eq_true rfl) (d' := d - 1) (by omega) he_i (c_X12_isHouse wt hl (d := d - 1) (by omega) k0) (fun r_3 => ?_)
  refine w_if_ne 16 (μ := m_X12_kth) (pc := 11) dX12_kth_11 (by decide) (fun c_4 => ?_) (fun c_4 => ?_)
  · refine w_aload_n 0 0 (μ := m_X12_kth) (pc := 16) dX12_kth_16 rfl rfl ?_
    refine w_iload_n 1 1 (μ := m_X12_kth) (pc := 17) dX12_kth_17 rfl rfl ?_
    refine w_iload_n 2 2 (μ := m_X12_kth) (pc := 18) dX12_kth_18 rfl rfl ?_
    refine w_callV (As := [.int x1, .int x2]) (rest := []) (μ := m_X12_kth) (pc := 19) dX12_kth_19 cv_X12_280 rfl rfl k0 (by decide) rfl (Nat.le_of_ble_eq_true rfl) (d' := d - 1) (by omega) he_i (c_X12_numberAt wt hl (d := d - 1) (by omega) k0) (fun r_5 => ?_)
    exact w_iret (μ := m_X12_kth) (pc := 22) dX12_kth_22 rfl rfl
  · refine w_iconst (v := 0) (μ := m_X12_kth) (pc := 14) dX12_kth_14 (by decide) ?_
    exact w_iret (μ := m_X12_kth) (pc := 15) dX12_kth_15 rfl rfl
def J_X12_between_44 (N : Nat) (g : gp) (a0 : Nat) (x1 : Int32) (x2 : Int32) (x3 : Int32) (δ : dp) : Option (Int32 × dp) :=
  some (0, δ)
set_option maxHeartbeats 4000000 in
set_option maxRecDepth 100000 in
theorem t_J_X12_between_44 {l : Launch} {D : va_G} {cy : Nat → ClassId} {N d : Nat} {g : gp} (wt : WT g) (hl : l.stackTraces = false) (hd : 3 ≤ d) {a0 : Nat} {x1 : Int32} {x2 : Int32} {x3 : Int32} (k0 : q_K g a0 = 12) : ∀ (δ : dp), AWD l D cy m_X12_between d 0 0 ei g 44 [] [] δ (J_X12_between_44 N g a0 x1 x2 x3 δ) := by
    intro  δ 
    unfold J_X12_between_44
    refine w_iconst (v := 0) (μ := m_X12_between) (pc := 44) dX12_between_44 (by decide) ?_
    exact w_iret (μ := m_X12_between) (pc := 45) dX12_between_45 rfl rfl
def J_X12_between_70 (N : Nat) (g : gp) (a0 : Nat) (x1 : Int32) (x2 : Int32) (x3 : Int32) (xs0 : Int32) (δ : dp) : Option (Int32 × dp) :=
  some (xs0, δ)
set_option maxHeartbeats 4000000 in
set_option maxRecDepth 100000 in
theorem t_J_X12_between_70 {l : Launch} {D : va_G} {cy : Nat → ClassId} {N d : Nat} {g : gp} (wt : WT g) (hl : l.stackTraces = false) (hd : 3 ≤ d) {a0 : Nat} {x1 : Int32} {x2 : Int32} {x3 : Int32} (k0 : q_K g a0 = 12) : ∀ (xs0 : Int32) (δ : dp), AWD l D cy m_X12_between d 0 0 ei g 70 [] [.int xs0] δ (J_X12_between_70 N g a0 x1 x2 x3 xs0 δ) := by
    intro xs0 δ 
    unfold J_X12_between_70
    exact w_iret (μ := m_X12_between) (pc := 70) dX12_between_70 rfl rfl
def J_X12_between_36 (N : Nat) (g : gp) (a0 : Nat) (x1 : Int32) (x2 : Int32) (x3 : Int32) (xs0 : Int32) (as1 : Nat) (δ : dp) : Option (Int32 × dp) :=
  (D_X12_may N g as1 xs0 2 2 δ).bind fun r_7 => if r_7.1 = 0 then (J_X12_between_44 N g a0 x1 x2 x3 r_7.2) else (if x2 ≤ x3 then ((D_X12_place N g a0 x1 (x3 + 1) r_7.2).bind fun r_10 => (D_X12_place N g a0 x1 x2 r_10.2).bind fun r_11 => J_X12_between_70 N g a0 x1 x2 x3 (r_10.1 - r_11.1) r_11.2) else (J_X12_between_70 N g a0 x1 x2 x3 0 r_7.2))
set_option maxHeartbeats 4000000 in
set_option maxRecDepth 100000 in
theorem t_J_X12_between_36 {l : Launch} {D : va_G} {cy : Nat → ClassId} {N d : Nat} {g : gp} (wt : WT g) (hl : l.stackTraces = false) (hd : 3 ≤ d) {a0 : Nat} {x1 : Int32} {x2 : Int32} {x3 : Int32} (k0 : q_K g a0 = 12) : ∀ (xs0 : Int32) (as1 : Nat) (δ : dp), q_K g as1 = 12 → AWD l D cy m_X12_between d 0 0 ei g 36 [(0, .ref a0), (1, .int x1), (2, .int x2), (3, .int x3)] [.int xs0, .ref as1] δ (J_X12_between_36 N g a0 x1 x2 x3 xs0 as1 δ) := by
    intro xs0 as1 δ has1
    unfold J_X12_between_36
    refine w_iconst (v := 2) (μ := m_X12_between) (pc := 36) dX12_between_36 (by decide) ?_
    refine w_iconst (v := 2) (μ := m_X12_between) (pc := 37) dX12_between_37 (by decide) ?_
    refine w_callV (As := [.int xs0, .int 2, .int 2]) (rest := []) (μ := m_X12_between) (pc := 38) dX12_between_38 cv_X12_157 rfl rfl has1 (by decide) rfl (Nat.le_of_ble_eq_true rfl) (d' := d - 1) (by omega) he_i (c_X12_may wt hl (d := d - 1) (by omega) has1) (fun r_7 => ?_)
    refine w_if_ne 46 (μ := m_X12_between) (pc := 41) dX12_between_41 (by decide) (fun c_8 => ?_) (fun c_8 => ?_)
    · refine w_iload_n 2 2 (μ := m_X12_between) (pc := 46) dX12_between_46 rfl rfl ?_
      refine w_iload_n 3 3 (μ := m_X12_between) (pc := 47) dX12_between_47 rfl rfl ?_
      refine w_icmp_le 55 (μ := m_X12_between) (pc := 48) dX12_between_48 (by decide) (fun c_9 => ?_) (fun c_9 => ?_)
      · refine w_aload_n 0 0 (μ := m_X12_between) (pc := 55) dX12_between_55 rfl rfl ?_
        refine w_iload_n 1 1 (μ := m_X12_between) (pc := 56) dX12_between_56 rfl rfl ?_
        refine w_iload_n 3 3 (μ := m_X12_between) (pc := 57) dX12_between_57 rfl rfl ?_
        refine w_iconst (v := 1) (μ := m_X12_between) (pc := 58) dX12_between_58 (by decide) ?_
        refine w_iadd (μ := m_X12_between) (pc := 59) dX12_between_59 ?_
        refine w_callV (As := [.int x1, .int (x3 + 1)]) (rest := []) (μ := m_X12_between) (pc := 60) dX12_between_60 cv_X12_254 rfl rfl k0 (by decide) rfl (Nat.le_of_ble_eq_true rfl) (d' := d - 1) (by omega) he_i (c_X12_place wt hl (d := d - 1) (by omega) k0) (fun r_10 => ?_)
        refine w_aload_n 0 0 (μ := m_X12_between) (pc := 63) dX12_between_63 rfl rfl ?_
        refine w_iload_n 1 1 (μ := m_X12_between) (pc := 64) dX12_between_64 rfl rfl ?_
        refine w_iload_n 2 2 (μ := m_X12_between) (pc := 65) dX12_between_65 rfl rfl ?_
        refine w_callV (As := [.int x1, .int x2]) (rest := [.int r_10.1]) (μ := m_X12_between) (pc := 66) dX12_between_66 cv_X12_254 rfl rfl k0 (by decide) rfl (Nat.le_of_ble_eq_true rfl) (d' := d - 1) (by omega) he_i (c_X12_place wt hl (d := d - 1) (by omega) k0) (fun r_11 => ?_)
        refine w_isub (μ := m_X12_between) (pc := 69) dX12_between_69 ?_
        refine w_lv [] rfl ?_
        exact t_J_X12_between_70 wt hl (by omega) k0 _ _
      · refine w_iconst (v := 0) (μ := m_X12_between) (pc := 51) dX12_between_51 (by decide) ?_
        refine w_goto 70 (μ := m_X12_between) (pc := 52) dX12_between_52 (by decide) ?_
        refine w_lv [] rfl ?_
        exact t_J_X12_between_70 wt hl (by omega) k0 _ _
    · refine w_lv [] rfl ?_
      exact t_J_X12_between_44 wt hl (by omega) k0 _
def J_X12_between_35 (N : Nat) (g : gp) (a0 : Nat) (x1 : Int32) (x2 : Int32) (x3 : Int32) (as0 : Nat) (δ : dp) : Option (Int32 × dp) :=
  J_X12_between_36 N g a0 x1 x2 x3 0 as0 δ
set_option maxHeartbeats 4000000 in
set_option maxRecDepth 100000 in
theorem t_J_X12_between_35 {l : Launch} {D : va_G} {cy : Nat → ClassId} {N d : Nat} {g : gp} (wt : WT g) (hl : l.stackTraces = false) (hd : 3 ≤ d) {a0 : Nat} {x1 : Int32} {x2 : Int32} {x3 : Int32} (k0 : q_K g a0 = 12) : ∀ (as0 : Nat) (δ : dp), q_K g as0 = 12 → AWD l D cy m_X12_between d 0 0 ei g 35 [(0, .ref a0), (1, .int x1), (2, .int x2), (3, .int x3)] [.ref as0] δ (J_X12_between_35 N g a0 x1 x2 x3 as0 δ) := by
    intro as0 δ has0
    unfold J_X12_between_35
    refine w_iconst (v := 0) (μ := m_X12_between) (pc := 35) dX12_between_35 (by decide) ?_
    exact t_J_X12_between_36 wt hl (by omega) k0 _ _ _ has0
def D_X12_between (N : Nat) (g : gp) (a0 : Nat) (x1 : Int32) (x2 : Int32) (x3 : Int32) (δ : dp) : Option (Int32 × dp) :=
  bd (s_I δ 12 0 a0 0) fun δ_1 => (D_X12_isHouse N g a0 x1 1 δ_1).bind fun r_3 => if r_3.1 = 0 then (J_X12_between_44 N g a0 x1 x2 x3 r_3.2) else ((D_X12_isNumber N g a0 x2 r_3.2).bind fun r_5 => if r_5.1 = 0 then (J_X12_between_35 N g a0 x1 x2 x3 a0 r_5.2) else ((D_X12_isNumber N g a0 x3 r_5.2).bind fun r_12 => if r_12.1 = 0 then (J_X12_between_35 N g a0 x1 x2 x3 a0 r_12.2) else (J_X12_between_36 N g a0 x1 x2 x3 1 a0 r_12.2)))
set_option maxHeartbeats 4000000 in
set_option maxRecDepth 100000 in
theorem c_X12_between {l : Launch} {D : va_G} {cy : Nat → ClassId} {N d : Nat} {g : gp} (wt : WT g) (hl : l.stackTraces = false) (hd : 3 ≤ d) {a0 : Nat} {x1 : Int32} {x2 : Int32} {x3 : Int32} {δ : dp} (k0 : q_K g a0 = 12) : CalD l D cy m_X12_between d 0 0 ei g [.ref a0, .int x1, .int x2, .int x3] δ (D_X12_between N g a0 x1 x2 x3 δ) := by
  refine CalD.of (by decide +kernel) (Nat.le_of_ble_eq_true rfl) hl ?_
  unfold D_X12_between
  refine w_aload_n 0 0 (μ := m_X12_between) (pc := 0) dX12_between_0 rfl rfl ?_
  refine w_iconst (v := 0) (μ := m_X12_between) (pc := 1) dX12_between_1 (by decide) ?_
  refine w_putI (μ := m_X12_between) (pc := 2) dX12_between_2 fl_X12_1 flw_12_0 ir_12_0 k0 ?_
  refine w_bd (fun δ_1 e_2 => ?_)
  refine w_aload_n 0 0 (μ := m_X12_between) (pc := 5) dX12_between_5 rfl rfl ?_
  refine w_iload_n 1 1 (μ := m_X12_between) (pc := 6) dX12_between_6 rfl rfl ?_
  refine w_iconst (v := 1) (μ := m_X12_between) (pc := 7) dX12_between_7 (by decide) ?_
  refine w_callV (As := [.int x1, .int 1]) (rest := []) (μ := m_X12_between) (pc := 8) dX12_between_8 cv_X12_260 rfl rfl k0 (by decide) rfl (Nat.le_of_ble_eq_true rfl) (d' := d - 1) (by omega) he_i (c_X12_isHouse wt hl (d := d - 1) (by omega) k0) (fun r_3 => ?_)
  refine w_if_eq 44 (μ := m_X12_between) (pc := 11) dX12_between_11 (by decide) (fun c_4 => ?_) (fun c_4 => ?_)
  · refine w_lv [] rfl ?_
    exact t_J_X12_between_44 wt hl (by omega) k0 _
  · refine w_aload_n 0 0 (μ := m_X12_between) (pc := 14) dX12_between_14 rfl rfl ?_
    refine w_aload_n 0 0 (μ := m_X12_between) (pc := 15) dX12_between_15 rfl rfl ?_
    refine w_iload_n 2 2 (μ := m_X12_between) (pc := 16) dX12_between_16 rfl rfl ?_
    refine w_callV (As := [.int x2]) (rest := [.ref a0]) (μ := m_X12_between) (pc := 17) dX12_between_17 cv_X12_264 rfl rfl k0 (by decide) rfl (Nat.le_of_ble_eq_true rfl) (d' := d - 1) (by omega) he_i (c_X12_isNumber wt hl (d := d - 1) (by omega) k0) (fun r_5 => ?_)
    refine w_if_eq 35 (μ := m_X12_between) (pc := 20) dX12_between_20 (by decide) (fun c_6 => ?_) (fun c_6 => ?_)
    · exact t_J_X12_between_35 wt hl (by omega) k0 _ _ k0
    · refine w_aload_n 0 0 (μ := m_X12_between) (pc := 23) dX12_between_23 rfl rfl ?_
      refine w_iload_n 3 3 (μ := m_X12_between) (pc := 24) dX12_between_24 rfl rfl ?_
      refine w_callV (As := [.int x3]) (rest := [.ref a0]) (μ := m_X12_between) (pc := 25) dX12_between_25 cv_X12_264 rfl rfl k0 (by decide) rfl (Nat.le_of_ble_eq_true rfl) (d' := d - 1) (by omega) he_i (c_X12_isNumber wt hl (d := d - 1) (by omega) k0) (fun r_12 => ?_)
      refine w_if_eq 35 (μ := m_X12_between) (pc := 28) dX12_between_28 (by decide) (fun c_13 => ?_) (fun c_13 => ?_)
      · exact t_J_X12_between_35 wt hl (by omega) k0 _ _ k0
      · refine w_iconst (v := 1) (μ := m_X12_between) (pc := 31) dX12_between_31 (by decide) ?_
        refine w_goto 36 (μ := m_X12_between) (pc := 32) dX12_between_32 (by decide) ?_
        exact t_J_X12_between_36 wt hl (by omega) k0 _ _ _ k0
def J_X12_lowerBits_30 (N : Nat) (g : gp) (a0 : Nat) (x1 : Int32) (xs0 : Int32) (δ : dp) : Option (Int32 × dp) :=
  some (xs0, δ)
set_option maxHeartbeats 4000000 in
set_option maxRecDepth 100000 in
theorem t_J_X12_lowerBits_30 {l : Launch} {D : va_G} {cy : Nat → ClassId} {N d : Nat} {g : gp} (wt : WT g) (hl : l.stackTraces = false) (hd : 1 ≤ d) {a0 : Nat} {x1 : Int32} (k0 : q_K g a0 = 12) : ∀ (xs0 : Int32) (δ : dp), AWD l D cy m_X12_lowerBits d 0 0 ei g 30 [] [.int xs0] δ (J_X12_lowerBits_30 N g a0 x1 xs0 δ) := by
    intro xs0 δ 
    unfold J_X12_lowerBits_30
    exact w_iret (μ := m_X12_lowerBits) (pc := 30) dX12_lowerBits_30 rfl rfl
def D_X12_lowerBits (N : Nat) (g : gp) (a0 : Nat) (x1 : Int32) (δ : dp) : Option (Int32 × dp) :=
  if (x1 - x1 / 2 * 2) = 0 then (J_X12_lowerBits_30 N g a0 x1 (x1 / 2) δ) else (if (q_I δ 12 12 a0) = 0 then (J_X12_lowerBits_30 N g a0 x1 ((x1 / 2) + 1) δ) else (J_X12_lowerBits_30 N g a0 x1 (x1 / 2) δ))
set_option maxHeartbeats 4000000 in
set_option maxRecDepth 100000 in
theorem c_X12_lowerBits {l : Launch} {D : va_G} {cy : Nat → ClassId} {N d : Nat} {g : gp} (wt : WT g) (hl : l.stackTraces = false) (hd : 1 ≤ d) {a0 : Nat} {x1 : Int32} {δ : dp} (k0 : q_K g a0 = 12) : CalD l D cy m_X12_lowerBits d 0 0 ei g [.ref a0, .int x1] δ (D_X12_lowerBits N g a0 x1 δ) := by
  refine CalD.of (by decide +kernel) (Nat.le_of_ble_eq_true rfl) hl ?_
  unfold D_X12_lowerBits
  refine w_iload_n 1 1 (μ := m_X12_lowerBits) (pc := 0) dX12_lowerBits_0 rfl rfl ?_
  refine w_iconst (v := 2) (μ := m_X12_lowerBits) (pc := 1) dX12_lowerBits_1 (by decide) ?_
  refine w_irem (μ := m_X12_lowerBits) (pc := 2) dX12_lowerBits_2 (by decide) ?_
  refine w_if_ne 12 (μ := m_X12_lowerBits) (pc := 3) dX12_lowerBits_3 (by decide) (fun c_1 => ?_) (fun c_1 => ?_)
  · refine w_aload_n 0 0 (μ := m_X12_lowerBits) (pc := 12) dX12_lowerBits_12 rfl rfl ?_
    refine w_getI (μ := m_X12_lowerBits) (pc := 13) dX12_lowerBits_13 fl_X12_29 ir_12_12 k0 ?_
    refine w_if_eq 25 (μ := m_X12_lowerBits) (pc := 16) dX12_lowerBits_16 (by decide) (fun c_2 => ?_) (fun c_2 => ?_)
    · refine w_iload_n 1 1 (μ := m_X12_lowerBits) (pc := 25) dX12_lowerBits_25 rfl rfl ?_
      refine w_iconst (v := 2) (μ := m_X12_lowerBits) (pc := 26) dX12_lowerBits_26 (by decide) ?_
      refine w_idiv (μ := m_X12_lowerBits) (pc := 27) dX12_lowerBits_27 (by decide) ?_
      refine w_iconst (v := 1) (μ := m_X12_lowerBits) (pc := 28) dX12_lowerBits_28 (by decide) ?_
      refine w_iadd (μ := m_X12_lowerBits) (pc := 29) dX12_lowerBits_29 ?_
      refine w_lv [] rfl ?_
      exact t_J_X12_lowerBits_30 wt hl (by omega) k0 _ _
    · refine w_iload_n 1 1 (μ := m_X12_lowerBits) (pc := 19) dX12_lowerBits_19 rfl rfl ?_
      refine w_iconst (v := 2) (μ := m_X12_lowerBits) (pc := 20) dX12_lowerBits_20 (by decide) ?_
      refine w_idiv (μ := m_X12_lowerBits) (pc := 21) dX12_lowerBits_21 (by decide) ?_
      refine w_goto 30 (μ := m_X12_lowerBits) (pc := 22) dX12_lowerBits_22 (by decide) ?_
      refine w_lv [] rfl ?_
      exact t_J_X12_lowerBits_30 wt hl (by omega) k0 _ _
  · refine w_iload_n 1 1 (μ := m_X12_lowerBits) (pc := 6) dX12_lowerBits_6 rfl rfl ?_
    refine w_iconst (v := 2) (μ := m_X12_lowerBits) (pc := 7) dX12_lowerBits_7 (by decide) ?_
    refine w_idiv (μ := m_X12_lowerBits) (pc := 8) dX12_lowerBits_8 (by decide) ?_
    refine w_goto 30 (μ := m_X12_lowerBits) (pc := 9) dX12_lowerBits_9 (by decide) ?_
    refine w_lv [] rfl ?_
    exact t_J_X12_lowerBits_30 wt hl (by omega) k0 _ _
def J_X12_lists_79 (N : Nat) (g : gp) (a0 : Nat) (x1 : Int32) (x2 : Int32) (x3 : Int32) (kt11 : Int32 → Int32 → dp → Option (Int32 × dp)) (x4v : Int32) (x5v : Int32) (δ : dp) : Option (Int32 × dp) :=
  bi (x5v + 1) fun x_17 => kt11 x4v x_17 δ
set_option maxHeartbeats 4000000 in
set_option maxRecDepth 100000 in
theorem t_J_X12_lists_79 {l : Launch} {D : va_G} {cy : Nat → ClassId} {N d : Nat} {g : gp} (wt : WT g) (hl : l.stackTraces = false) (hd : 1 ≤ d) {a0 : Nat} {x1 : Int32} {x2 : Int32} {x3 : Int32} (k0 : q_K g a0 = 12) {kt11 : Int32 → Int32 → dp → Option (Int32 × dp)} (hk11 : ∀ (x4v : Int32) (x5v : Int32) (δ : dp), AWD l D cy m_X12_lists d 0 0 ei g 11 [(0, .ref a0), (2, .int x2), (3, .int x3), (4, .int x4v), (5, .int x5v)] [] δ (kt11 x4v x5v δ)) : ∀ (x4v : Int32) (x5v : Int32) (δ : dp), AWD l D cy m_X12_lists d 0 0 ei g 79 [(0, .ref a0), (2, .int x2), (3, .int x3), (4, .int x4v), (5, .int x5v)] [] δ (J_X12_lists_79 N g a0 x1 x2 x3 kt11 x4v x5v δ) := by
    intro x4v x5v δ 
    unfold J_X12_lists_79
    refine w_inb (fun x_17 e_18 => ?_)
    refine w_iinc 4 [(5, .int x_17), (0, .ref a0), (2, .int x2), (3, .int x3), (4, .int x4v)] (μ := m_X12_lists) (pc := 79) dX12_lists_79 rfl (by rw [e_18]; rfl) (by decide) rfl ?_
    refine w_goto 11 (μ := m_X12_lists) (pc := 82) dX12_lists_82 (by decide) ?_
    refine w_lv [1, 2, 3, 4, 0] rfl ?_
    exact hk11 _ _ _
def J_X12_lists_58 (N : Nat) (g : gp) (a0 : Nat) (x1 : Int32) (x2 : Int32) (x3 : Int32) (kt11 : Int32 → Int32 → dp → Option (Int32 × dp)) (x4v : Int32) (x5v : Int32) (x6v : Int32) (δ : dp) : Option (Int32 × dp) :=
  (q_O g 12 35 a0).bind fun b_11 => if (q_I δ 12 36 a0) < 0 ∨ q_N g b_11 ≤ (q_I δ 12 36 a0).toNatClampNeg then none else bd (s_R δ b_11 (q_I δ 12 36 a0).toNatClampNeg x6v) fun δ_13 => bd (s_I δ_13 12 36 a0 ((q_I δ_13 12 36 a0) + 1)) fun δ_15 => J_X12_lists_79 N g a0 x1 x2 x3 kt11 x4v x5v δ_15
set_option maxHeartbeats 4000000 in
set_option maxRecDepth 100000 in
theorem t_J_X12_lists_58 {l : Launch} {D : va_G} {cy : Nat → ClassId} {N d : Nat} {g : gp} (wt : WT g) (hl : l.stackTraces = false) (hd : 1 ≤ d) {a0 : Nat} {x1 : Int32} {x2 : Int32} {x3 : Int32} (k0 : q_K g a0 = 12) {kt11 : Int32 → Int32 → dp → Option (Int32 × dp)} (hk11 : ∀ (x4v : Int32) (x5v : Int32) (δ : dp), AWD l D cy m_X12_lists d 0 0 ei g 11 [(0, .ref a0), (2, .int x2), (3, .int x3), (4, .int x4v), (5, .int x5v)] [] δ (kt11 x4v x5v δ)) : ∀ (x4v : Int32) (x5v : Int32) (x6v : Int32) (δ : dp), AWD l D cy m_X12_lists d 0 0 ei g 58 [(0, .ref a0), (2, .int x2), (3, .int x3), (4, .int x4v), (5, .int x5v), (6, .int x6v)] [] δ (J_X12_lists_58 N g a0 x1 x2 x3 kt11 x4v x5v x6v δ) := by
    intro x4v x5v x6v δ 
    unfold J_X12_lists_58
    refine w_aload_n 0 0 (μ := m_X12_lists) (pc := 58) dX12_lists_58 rfl rfl ?_
    refine w_getO (μ := m_X12_lists) (pc := 59) dX12_lists_59 fl_X12_84 ir_12_35 id_12_35 k0 (fun b_11 e_12 => ?_)
    refine w_aload_n 0 0 (μ := m_X12_lists) (pc := 62) dX12_lists_62 rfl rfl ?_
    refine w_getI (μ := m_X12_lists) (pc := 63) dX12_lists_63 fl_X12_290 ir_12_36 k0 ?_
    refine w_iload 5 (μ := m_X12_lists) (pc := 66) dX12_lists_66 rfl ?_
    refine w_ast (μ := m_X12_lists) (pc := 68) dX12_lists_68 (wt_12_35 wt k0 e_12) ?_
    refine w_bd (fun δ_13 e_14 => ?_)
    refine w_aload_n 0 0 (μ := m_X12_lists) (pc := 69) dX12_lists_69 rfl rfl ?_
    refine w_dup (μ := m_X12_lists) (pc := 70) dX12_lists_70 rfl ?_
    refine w_getI (μ := m_X12_lists) (pc := 71) dX12_lists_71 fl_X12_290 ir_12_36 k0 ?_
    refine w_iconst (v := 1) (μ := m_X12_lists) (pc := 74) dX12_lists_74 (by decide) ?_
    refine w_iadd (μ := m_X12_lists) (pc := 75) dX12_lists_75 ?_
    refine w_putI (μ := m_X12_lists) (pc := 76) dX12_lists_76 fl_X12_290 flw_12_36 ir_12_36 k0 ?_
    refine w_bd (fun δ_15 e_16 => ?_)
    refine w_lv [0, 1, 2, 3, 4] rfl ?_
    exact t_J_X12_lists_79 wt hl (by omega) k0 hk11 _ _ _
def L_X12_lists_11 (N : Nat) (g : gp) (a0 : Nat) (x1 : Int32) (x2 : Int32) (x3 : Int32) : Nat → Int32 → Int32 → dp → Option (Int32 × dp)
  | 0, _, _, _ => none
  | n + 1, x4v, x5v, δ => if (x2 - 1) ≤ x5v then (some (x4v, δ)) else ((q_O g 12 35 a0).bind fun b_6 => if x5v < 0 ∨ q_N g b_6 ≤ x5v.toNatClampNeg then none else bi ((q_R δ b_6 x5v.toNatClampNeg) >>> (x3 &&& 31)) fun x_8 => if (q_I δ 12 36 a0) ≤ x4v then (J_X12_lists_58 N g a0 x1 x2 x3 (L_X12_lists_11 N g a0 x1 x2 x3 n) x4v x5v x_8 δ) else ((q_O g 12 35 a0).bind fun b_19 => if ((q_I δ 12 36 a0) - 1) < 0 ∨ q_N g b_19 ≤ ((q_I δ 12 36 a0) - 1).toNatClampNeg then none else if (q_R δ b_19 ((q_I δ 12 36 a0) - 1).toNatClampNeg) = x_8 then (J_X12_lists_79 N g a0 x1 x2 x3 (L_X12_lists_11 N g a0 x1 x2 x3 n) x4v x5v δ) else (J_X12_lists_58 N g a0 x1 x2 x3 (L_X12_lists_11 N g a0 x1 x2 x3 n) x4v x5v x_8 δ)))
set_option maxHeartbeats 4000000 in
set_option maxRecDepth 100000 in
theorem t_L_X12_lists_11 {l : Launch} {D : va_G} {cy : Nat → ClassId} {N d : Nat} {g : gp} (wt : WT g) (hl : l.stackTraces = false) (hd : 1 ≤ d) {a0 : Nat} {x1 : Int32} {x2 : Int32} {x3 : Int32} (k0 : q_K g a0 = 12) : ∀ (n : Nat) (x4v : Int32) (x5v : Int32) (δ : dp), AWD l D cy m_X12_lists d 0 0 ei g 11 [(0, .ref a0), (2, .int x2), (3, .int x3), (4, .int x4v), (5, .int x5v)] [] δ (L_X12_lists_11 N g a0 x1 x2 x3 n x4v x5v δ) := by
  intro n
  induction n with
  | zero => intro x4v x5v δ ; exact w_none
  | succ n ih =>
    intro x4v x5v δ 
    unfold L_X12_lists_11
    refine w_iload 4 (μ := m_X12_lists) (pc := 11) dX12_lists_11 rfl ?_
    refine w_iload_n 1 2 (μ := m_X12_lists) (pc := 13) dX12_lists_13 rfl rfl ?_
    refine w_iconst (v := 1) (μ := m_X12_lists) (pc := 14) dX12_lists_14 (by decide) ?_
    refine w_isub (μ := m_X12_lists) (pc := 15) dX12_lists_15 ?_
    refine w_icmp_ge 85 (μ := m_X12_lists) (pc := 16) dX12_lists_16 (by decide) (fun c_5 => ?_) (fun c_5 => ?_)
    · refine w_iload 3 (μ := m_X12_lists) (pc := 85) dX12_lists_85 rfl ?_
      exact w_iret (μ := m_X12_lists) (pc := 87) dX12_lists_87 rfl rfl
    · refine w_aload_n 0 0 (μ := m_X12_lists) (pc := 19) dX12_lists_19 rfl rfl ?_
      refine w_getO (μ := m_X12_lists) (pc := 20) dX12_lists_20 fl_X12_84 ir_12_35 id_12_35 k0 (fun b_6 e_7 => ?_)
      refine w_iload 4 (μ := m_X12_lists) (pc := 23) dX12_lists_23 rfl ?_
      refine w_ald (μ := m_X12_lists) (pc := 25) dX12_lists_25 (wt_12_35 wt k0 e_7) ?_
      refine w_iload_n 2 3 (μ := m_X12_lists) (pc := 26) dX12_lists_26 rfl rfl ?_
      refine w_ishr (μ := m_X12_lists) (pc := 27) dX12_lists_27 ?_
      refine w_bi (fun x_8 e_9 => ?_)
      refine w_istore [(6, .int x_8), (0, .ref a0), (2, .int x2), (3, .int x3), (4, .int x4v), (5, .int x5v)] (μ := m_X12_lists) (pc := 28) dX12_lists_28 (by decide) rfl ?_
      refine w_aload_n 1 0 (μ := m_X12_lists) (pc := 30) dX12_lists_30 rfl rfl ?_
      refine w_getI (μ := m_X12_lists) (pc := 31) dX12_lists_31 fl_X12_290 ir_12_36 k0 ?_
      refine w_iload 4 (μ := m_X12_lists) (pc := 34) dX12_lists_34 rfl ?_
      refine w_icmp_le 58 (μ := m_X12_lists) (pc := 36) dX12_lists_36 (by decide) (fun c_10 => ?_) (fun c_10 => ?_)
      · refine w_lv [1, 2, 3, 4, 5, 0] rfl ?_
        exact t_J_X12_lists_58 wt hl (by omega) k0 ih _ _ _ _
      · refine w_aload_n 1 0 (μ := m_X12_lists) (pc := 39) dX12_lists_39 rfl rfl ?_
        refine w_getO (μ := m_X12_lists) (pc := 40) dX12_lists_40 fl_X12_84 ir_12_35 id_12_35 k0 (fun b_19 e_20 => ?_)
        refine w_aload_n 1 0 (μ := m_X12_lists) (pc := 43) dX12_lists_43 rfl rfl ?_
        refine w_getI (μ := m_X12_lists) (pc := 44) dX12_lists_44 fl_X12_290 ir_12_36 k0 ?_
        refine w_iconst (v := 1) (μ := m_X12_lists) (pc := 47) dX12_lists_47 (by decide) ?_
        refine w_isub (μ := m_X12_lists) (pc := 48) dX12_lists_48 ?_
        refine w_ald (μ := m_X12_lists) (pc := 49) dX12_lists_49 (wt_12_35 wt k0 e_20) ?_
        refine w_iload 0 (μ := m_X12_lists) (pc := 50) dX12_lists_50 rfl ?_
        refine w_icmp_ne 58 (μ := m_X12_lists) (pc := 52) dX12_lists_52 (by decide) (fun c_21 => ?_) (fun c_21 => ?_)
        · refine w_lv [1, 2, 3, 4, 5, 0] rfl ?_
          exact t_J_X12_lists_58 wt hl (by omega) k0 ih _ _ _ _
        · refine w_goto 79 (μ := m_X12_lists) (pc := 55) dX12_lists_55 (by decide) ?_
          refine w_lv [1, 2, 3, 4, 5] rfl ?_
          exact t_J_X12_lists_79 wt hl (by omega) k0 ih _ _ _
def D_X12_lists (N : Nat) (g : gp) (a0 : Nat) (x1 : Int32) (x2 : Int32) (x3 : Int32) (δ : dp) : Option (Int32 × dp) :=
  bi (q_I δ 12 36 a0) fun x_1 => bi (x1 + 1) fun x_3 => L_X12_lists_11 N g a0 x1 x2 x3 N x_1 x_3 δ
set_option maxHeartbeats 4000000 in
set_option maxRecDepth 100000 in
theorem c_X12_lists {l : Launch} {D : va_G} {cy : Nat → ClassId} {N d : Nat} {g : gp} (wt : WT g) (hl : l.stackTraces = false) (hd : 1 ≤ d) {a0 : Nat} {x1 : Int32} {x2 : Int32} {x3 : Int32} {δ : dp} (k0 : q_K g a0 = 12) : CalD l D cy m_X12_lists d 0 0 ei g [.ref a0, .int x1, .int x2, .int x3] δ (D_X12_lists N g a0 x1 x2 x3 δ) := by
  refine CalD.of (by decide +kernel) (Nat.le_of_ble_eq_true rfl) hl ?_
  unfold D_X12_lists
  refine w_aload_n 0 0 (μ := m_X12_lists) (pc := 0) dX12_lists_0 rfl rfl ?_
  refine w_getI (μ := m_X12_lists) (pc := 1) dX12_lists_1 fl_X12_290 ir_12_36 k0 ?_
  refine w_bi (fun x_1 e_2 => ?_)
  refine w_istore [(4, .int x_1), (0, .ref a0), (1, .int x1), (2, .int x2), (3, .int x3)] (μ := m_X12_lists) (pc := 4) dX12_lists_4 (by decide) rfl ?_
  refine w_iload_n 2 1 (μ := m_X12_lists) (pc := 6) dX12_lists_6 rfl rfl ?_
  refine w_iconst (v := 1) (μ := m_X12_lists) (pc := 7) dX12_lists_7 (by decide) ?_
  refine w_iadd (μ := m_X12_lists) (pc := 8) dX12_lists_8 ?_
  refine w_bi (fun x_3 e_4 => ?_)
  refine w_istore [(5, .int x_3), (4, .int x_1), (0, .ref a0), (1, .int x1), (2, .int x2), (3, .int x3)] (μ := m_X12_lists) (pc := 9) dX12_lists_9 (by decide) rfl ?_
  refine w_lv [2, 4, 5, 1, 0] rfl ?_
  exact t_L_X12_lists_11 wt hl (by omega) k0 N _ _ _
def J_X12_rooms_68 (N : Nat) (g : gp) (a0 : Nat) (x1 : Int32) (x2 : Int32) (x3 : Int32) (x4 : Int32) (kt11 : Int32 → Int32 → dp → Option (Int32 × dp)) (x5v : Int32) (x6v : Int32) (δ : dp) : Option (Int32 × dp) :=
  bi (x6v + 1) fun x_17 => kt11 x5v x_17 δ
set_option maxHeartbeats 4000000 in
set_option maxRecDepth 100000 in
theorem t_J_X12_rooms_68 {l : Launch} {D : va_G} {cy : Nat → ClassId} {N d : Nat} {g : gp} (wt : WT g) (hl : l.stackTraces = false) (hd : 1 ≤ d) {a0 : Nat} {x1 : Int32} {x2 : Int32} {x3 : Int32} {x4 : Int32} (k0 : q_K g a0 = 12) {kt11 : Int32 → Int32 → dp → Option (Int32 × dp)} (hk11 : ∀ (x5v : Int32) (x6v : Int32) (δ : dp), AWD l D cy m_X12_rooms d 0 0 ei g 11 [(0, .ref a0), (2, .int x2), (3, .int x3), (4, .int x4), (5, .int x5v), (6, .int x6v)] [] δ (kt11 x5v x6v δ)) : ∀ (x5v : Int32) (x6v : Int32) (δ : dp), AWD l D cy m_X12_rooms d 0 0 ei g 68 [(0, .ref a0), (2, .int x2), (3, .int x3), (4, .int x4), (5, .int x5v), (6, .int x6v)] [] δ (J_X12_rooms_68 N g a0 x1 x2 x3 x4 kt11 x5v x6v δ) := by
    intro x5v x6v δ 
    unfold J_X12_rooms_68
    refine w_inb (fun x_17 e_18 => ?_)
    refine w_iinc 5 [(6, .int x_17), (0, .ref a0), (2, .int x2), (3, .int x3), (4, .int x4), (5, .int x5v)] (μ := m_X12_rooms) (pc := 68) dX12_rooms_68 rfl (by rw [e_18]; rfl) (by decide) rfl ?_
    refine w_goto 11 (μ := m_X12_rooms) (pc := 71) dX12_rooms_71 (by decide) ?_
    refine w_lv [1, 2, 3, 4, 5, 0] rfl ?_
    exact hk11 _ _ _
def L_X12_rooms_11 (N : Nat) (g : gp) (a0 : Nat) (x1 : Int32) (x2 : Int32) (x3 : Int32) (x4 : Int32) : Nat → Int32 → Int32 → dp → Option (Int32 × dp)
  | 0, _, _, _ => none
  | n + 1, x5v, x6v, δ => if (x2 - 1) ≤ x6v then (some (x5v, δ)) else ((q_O g 12 35 a0).bind fun b_6 => if x6v < 0 ∨ q_N g b_6 ≤ x6v.toNatClampNeg then none else if ((q_R δ b_6 x6v.toNatClampNeg) >>> (x3 &&& 31)) = x4 then ((q_O g 12 35 a0).bind fun b_9 => (q_O g 12 35 a0).bind fun b_11 => if x6v < 0 ∨ q_N g b_11 ≤ x6v.toNatClampNeg then none else if (q_I δ 12 36 a0) < 0 ∨ q_N g b_9 ≤ (q_I δ 12 36 a0).toNatClampNeg then none else bd (s_R δ b_9 (q_I δ 12 36 a0).toNatClampNeg ((q_R δ b_11 x6v.toNatClampNeg) &&& ((1 <<< (x3 &&& 31)) - 1))) fun δ_13 => bd (s_I δ_13 12 36 a0 ((q_I δ_13 12 36 a0) + 1)) fun δ_15 => J_X12_rooms_68 N g a0 x1 x2 x3 x4 (L_X12_rooms_11 N g a0 x1 x2 x3 x4 n) x5v x6v δ_15) else (J_X12_rooms_68 N g a0 x1 x2 x3 x4 (L_X12_rooms_11 N g a0 x1 x2 x3 x4 n) x5v x6v δ))
set_option maxHeartbeats 4000000 in
set_option maxRecDepth 100000 in
theorem t_L_X12_rooms_11 {l : Launch} {D : va_G} {cy : Nat → ClassId} {N d : Nat} {g : gp} (wt : WT g) (hl : l.stackTraces = false) (hd : 1 ≤ d) {a0 : Nat} {x1 : Int32} {x2 : Int32} {x3 : Int32} {x4 : Int32} (k0 : q_K g a0 = 12) : ∀ (n : Nat) (x5v : Int32) (x6v : Int32) (δ : dp), AWD l D cy m_X12_rooms d 0 0 ei g 11 [(0, .ref a0), (2, .int x2), (3, .int x3), (4, .int x4), (5, .int x5v), (6, .int x6v)] [] δ (L_X12_rooms_11 N g a0 x1 x2 x3 x4 n x5v x6v δ) := by
  intro n
  induction n with
  | zero => intro x5v x6v δ ; exact w_none
  | succ n ih =>
    intro x5v x6v δ 
    unfold L_X12_rooms_11
    refine w_iload 5 (μ := m_X12_rooms) (pc := 11) dX12_rooms_11 rfl ?_
    refine w_iload_n 1 2 (μ := m_X12_rooms) (pc := 13) dX12_rooms_13 rfl rfl ?_
    refine w_iconst (v := 1) (μ := m_X12_rooms) (pc := 14) dX12_rooms_14 (by decide) ?_
    refine w_isub (μ := m_X12_rooms) (pc := 15) dX12_rooms_15 ?_
    refine w_icmp_ge 74 (μ := m_X12_rooms) (pc := 16) dX12_rooms_16 (by decide) (fun c_5 => ?_) (fun c_5 => ?_)
    · refine w_iload 4 (μ := m_X12_rooms) (pc := 74) dX12_rooms_74 rfl ?_
      exact w_iret (μ := m_X12_rooms) (pc := 76) dX12_rooms_76 rfl rfl
    · refine w_aload_n 0 0 (μ := m_X12_rooms) (pc := 19) dX12_rooms_19 rfl rfl ?_
      refine w_getO (μ := m_X12_rooms) (pc := 20) dX12_rooms_20 fl_X12_84 ir_12_35 id_12_35 k0 (fun b_6 e_7 => ?_)
      refine w_iload 5 (μ := m_X12_rooms) (pc := 23) dX12_rooms_23 rfl ?_
      refine w_ald (μ := m_X12_rooms) (pc := 25) dX12_rooms_25 (wt_12_35 wt k0 e_7) ?_
      refine w_iload_n 2 3 (μ := m_X12_rooms) (pc := 26) dX12_rooms_26 rfl rfl ?_
      refine w_ishr (μ := m_X12_rooms) (pc := 27) dX12_rooms_27 ?_
      refine w_iload 3 (μ := m_X12_rooms) (pc := 28) dX12_rooms_28 rfl ?_
      refine w_icmp_eq 36 (μ := m_X12_rooms) (pc := 30) dX12_rooms_30 (by decide) (fun c_8 => ?_) (fun c_8 => ?_)
      · refine w_aload_n 0 0 (μ := m_X12_rooms) (pc := 36) dX12_rooms_36 rfl rfl ?_
        refine w_getO (μ := m_X12_rooms) (pc := 37) dX12_rooms_37 fl_X12_84 ir_12_35 id_12_35 k0 (fun b_9 e_10 => ?_)
        refine w_aload_n 0 0 (μ := m_X12_rooms) (pc := 40) dX12_rooms_40 rfl rfl ?_
        refine w_getI (μ := m_X12_rooms) (pc := 41) dX12_rooms_41 fl_X12_290 ir_12_36 k0 ?_
        refine w_aload_n 0 0 (μ := m_X12_rooms) (pc := 44) dX12_rooms_44 rfl rfl ?_
        refine w_getO (μ := m_X12_rooms) (pc := 45) dX12_rooms_45 fl_X12_84 ir_12_35 id_12_35 k0 (fun b_11 e_12 => ?_)
        refine w_iload 5 (μ := m_X12_rooms) (pc := 48) dX12_rooms_48 rfl ?_
        refine w_ald (μ := m_X12_rooms) (pc := 50) dX12_rooms_50 (wt_12_35 wt k0 e_12) ?_
        refine w_iconst (v := 1) (μ := m_X12_rooms) (pc := 51) dX12_rooms_51 (by decide) ?_
        refine w_iload_n 2 3 (μ := m_X12_rooms) (pc := 52) dX12_rooms_52 rfl rfl ?_
        refine w_ishl (μ := m_X12_rooms) (pc := 53) dX12_rooms_53 ?_
        refine w_iconst (v := 1) (μ := m_X12_rooms) (pc := 54) dX12_rooms_54 (by decide) ?_
        refine w_isub (μ := m_X12_rooms) (pc := 55) dX12_rooms_55 ?_
        refine w_iand (μ := m_X12_rooms) (pc := 56) dX12_rooms_56 ?_
        refine w_ast (μ := m_X12_rooms) (pc := 57) dX12_rooms_57 (wt_12_35 wt k0 e_10) ?_
        refine w_bd (fun δ_13 e_14 => ?_)
        refine w_aload_n 0 0 (μ := m_X12_rooms) (pc := 58) dX12_rooms_58 rfl rfl ?_
        refine w_dup (μ := m_X12_rooms) (pc := 59) dX12_rooms_59 rfl ?_
        refine w_getI (μ := m_X12_rooms) (pc := 60) dX12_rooms_60 fl_X12_290 ir_12_36 k0 ?_
        refine w_iconst (v := 1) (μ := m_X12_rooms) (pc := 63) dX12_rooms_63 (by decide) ?_
        refine w_iadd (μ := m_X12_rooms) (pc := 64) dX12_rooms_64 ?_
        refine w_putI (μ := m_X12_rooms) (pc := 65) dX12_rooms_65 fl_X12_290 flw_12_36 ir_12_36 k0 ?_
        refine w_bd (fun δ_15 e_16 => ?_)
        exact t_J_X12_rooms_68 wt hl (by omega) k0 ih _ _ _
      · refine w_goto 68 (μ := m_X12_rooms) (pc := 33) dX12_rooms_33 (by decide) ?_
        exact t_J_X12_rooms_68 wt hl (by omega) k0 ih _ _ _
def D_X12_rooms (N : Nat) (g : gp) (a0 : Nat) (x1 : Int32) (x2 : Int32) (x3 : Int32) (x4 : Int32) (δ : dp) : Option (Int32 × dp) :=
  bi (q_I δ 12 36 a0) fun x_1 => bi (x1 + 1) fun x_3 => L_X12_rooms_11 N g a0 x1 x2 x3 x4 N x_1 x_3 δ
set_option maxHeartbeats 4000000 in
set_option maxRecDepth 100000 in
theorem c_X12_rooms {l : Launch} {D : va_G} {cy : Nat → ClassId} {N d : Nat} {g : gp} (wt : WT g) (hl : l.stackTraces = false) (hd : 1 ≤ d) {a0 : Nat} {x1 : Int32} {x2 : Int32} {x3 : Int32} {x4 : Int32} {δ : dp} (k0 : q_K g a0 = 12) : CalD l D cy m_X12_rooms d 0 0 ei g [.ref a0, .int x1, .int x2, .int x3, .int x4] δ (D_X12_rooms N g a0 x1 x2 x3 x4 δ) := by
  refine CalD.of (by decide +kernel) (Nat.le_of_ble_eq_true rfl) hl ?_
  unfold D_X12_rooms
  refine w_aload_n 0 0 (μ := m_X12_rooms) (pc := 0) dX12_rooms_0 rfl rfl ?_
  refine w_getI (μ := m_X12_rooms) (pc := 1) dX12_rooms_1 fl_X12_290 ir_12_36 k0 ?_
  refine w_bi (fun x_1 e_2 => ?_)
  refine w_istore [(5, .int x_1), (0, .ref a0), (1, .int x1), (2, .int x2), (3, .int x3), (4, .int x4)] (μ := m_X12_rooms) (pc := 4) dX12_rooms_4 (by decide) rfl ?_
  refine w_iload_n 2 1 (μ := m_X12_rooms) (pc := 6) dX12_rooms_6 rfl rfl ?_
  refine w_iconst (v := 1) (μ := m_X12_rooms) (pc := 7) dX12_rooms_7 (by decide) ?_
  refine w_iadd (μ := m_X12_rooms) (pc := 8) dX12_rooms_8 ?_
  refine w_bi (fun x_3 e_4 => ?_)
  refine w_istore [(6, .int x_3), (5, .int x_1), (0, .ref a0), (1, .int x1), (2, .int x2), (3, .int x3), (4, .int x4)] (μ := m_X12_rooms) (pc := 9) dX12_rooms_9 (by decide) rfl ?_
  refine w_lv [2, 4, 5, 6, 1, 0] rfl ?_
  exact t_L_X12_rooms_11 wt hl (by omega) k0 N _ _ _
def J_X12_roomMany_48 (N : Nat) (g : gp) (a0 : Nat) (x1 : Int32) (x2 : Int32) (x3 : Int32) (x4 : Int32) (kt15 : Int32 → Int32 → Int32 → dp → Option (Int32 × dp)) (xs0 : Int32) (xs1 : Int32) (x5v : Int32) (x7v : Int32) (δ : dp) : Option (Int32 × dp) :=
  bi (xs1 + xs0) fun x_8 => bi (x7v + 1) fun x_10 => kt15 x5v x_8 x_10 δ
set_option maxHeartbeats 4000000 in
set_option maxRecDepth 100000 in
theorem t_J_X12_roomMany_48 {l : Launch} {D : va_G} {cy : Nat → ClassId} {N d : Nat} {g : gp} (wt : WT g) (hl : l.stackTraces = false) (hd : 2 ≤ d) {a0 : Nat} {x1 : Int32} {x2 : Int32} {x3 : Int32} {x4 : Int32} (k0 : q_K g a0 = 12) {kt15 : Int32 → Int32 → Int32 → dp → Option (Int32 × dp)} (hk15 : ∀ (x5v : Int32) (x6v : Int32) (x7v : Int32) (δ : dp), AWD l D cy m_X12_roomMany d 0 0 ei g 15 [(0, .ref a0), (1, .int x1), (4, .int x4), (5, .int x5v), (6, .int x6v), (7, .int x7v)] [] δ (kt15 x5v x6v x7v δ)) : ∀ (xs0 : Int32) (xs1 : Int32) (x5v : Int32) (x7v : Int32) (δ : dp), AWD l D cy m_X12_roomMany d 0 0 ei g 48 [(0, .ref a0), (1, .int x1), (4, .int x4), (5, .int x5v), (7, .int x7v)] [.int xs0, .int xs1] δ (J_X12_roomMany_48 N g a0 x1 x2 x3 x4 kt15 xs0 xs1 x5v x7v δ) := by
    intro xs0 xs1 x5v x7v δ 
    unfold J_X12_roomMany_48
    refine w_iadd (μ := m_X12_roomMany) (pc := 48) dX12_roomMany_48 ?_
    refine w_bi (fun x_8 e_9 => ?_)
    refine w_istore [(6, .int x_8), (0, .ref a0), (1, .int x1), (4, .int x4), (5, .int x5v), (7, .int x7v)] (μ := m_X12_roomMany) (pc := 49) dX12_roomMany_49 (by decide) rfl ?_
    refine w_inb (fun x_10 e_11 => ?_)
    refine w_iinc 5 [(7, .int x_10), (6, .int x_8), (0, .ref a0), (1, .int x1), (4, .int x4), (5, .int x5v)] (μ := m_X12_roomMany) (pc := 51) dX12_roomMany_51 rfl (by rw [e_11]; rfl) (by decide) rfl ?_
    refine w_goto 15 (μ := m_X12_roomMany) (pc := 54) dX12_roomMany_54 (by decide) ?_
    refine w_lv [2, 3, 4, 5, 1, 0] rfl ?_
    exact hk15 _ _ _ _
def L_X12_roomMany_15 (N : Nat) (g : gp) (a0 : Nat) (x1 : Int32) (x2 : Int32) (x3 : Int32) (x4 : Int32) : Nat → Int32 → Int32 → Int32 → dp → Option (Int32 × dp)
  | 0, _, _, _, _ => none
  | n + 1, x5v, x6v, x7v, δ => if (x4 - 1) ≤ x7v then (some (x6v, δ)) else ((q_O g 12 35 a0).bind fun b_5 => if x7v < 0 ∨ q_N g b_5 ≤ x7v.toNatClampNeg then none else if ((q_R δ b_5 x7v.toNatClampNeg) >>> (x5v &&& 31)) = (x1 >>> (x5v &&& 31)) then (J_X12_roomMany_48 N g a0 x1 x2 x3 x4 (L_X12_roomMany_15 N g a0 x1 x2 x3 x4 n) 1 x6v x5v x7v δ) else (J_X12_roomMany_48 N g a0 x1 x2 x3 x4 (L_X12_roomMany_15 N g a0 x1 x2 x3 x4 n) 0 x6v x5v x7v δ))
set_option maxHeartbeats 4000000 in
set_option maxRecDepth 100000 in
theorem t_L_X12_roomMany_15 {l : Launch} {D : va_G} {cy : Nat → ClassId} {N d : Nat} {g : gp} (wt : WT g) (hl : l.stackTraces = false) (hd : 2 ≤ d) {a0 : Nat} {x1 : Int32} {x2 : Int32} {x3 : Int32} {x4 : Int32} (k0 : q_K g a0 = 12) : ∀ (n : Nat) (x5v : Int32) (x6v : Int32) (x7v : Int32) (δ : dp), AWD l D cy m_X12_roomMany d 0 0 ei g 15 [(0, .ref a0), (1, .int x1), (4, .int x4), (5, .int x5v), (6, .int x6v), (7, .int x7v)] [] δ (L_X12_roomMany_15 N g a0 x1 x2 x3 x4 n x5v x6v x7v δ) := by
  intro n
  induction n with
  | zero => intro x5v x6v x7v δ ; exact w_none
  | succ n ih =>
    intro x5v x6v x7v δ 
    unfold L_X12_roomMany_15
    refine w_iload 5 (μ := m_X12_roomMany) (pc := 15) dX12_roomMany_15 rfl ?_
    refine w_iload 2 (μ := m_X12_roomMany) (pc := 17) dX12_roomMany_17 rfl ?_
    refine w_iconst (v := 1) (μ := m_X12_roomMany) (pc := 19) dX12_roomMany_19 (by decide) ?_
    refine w_isub (μ := m_X12_roomMany) (pc := 20) dX12_roomMany_20 ?_
    refine w_icmp_ge 57 (μ := m_X12_roomMany) (pc := 21) dX12_roomMany_21 (by decide) (fun c_4 => ?_) (fun c_4 => ?_)
    · refine w_iload 4 (μ := m_X12_roomMany) (pc := 57) dX12_roomMany_57 rfl ?_
      exact w_iret (μ := m_X12_roomMany) (pc := 59) dX12_roomMany_59 rfl rfl
    · refine w_iload 4 (μ := m_X12_roomMany) (pc := 24) dX12_roomMany_24 rfl ?_
      refine w_aload_n 0 0 (μ := m_X12_roomMany) (pc := 26) dX12_roomMany_26 rfl rfl ?_
      refine w_getO (μ := m_X12_roomMany) (pc := 27) dX12_roomMany_27 fl_X12_84 ir_12_35 id_12_35 k0 (fun b_5 e_6 => ?_)
      refine w_iload 5 (μ := m_X12_roomMany) (pc := 30) dX12_roomMany_30 rfl ?_
      refine w_ald (μ := m_X12_roomMany) (pc := 32) dX12_roomMany_32 (wt_12_35 wt k0 e_6) ?_
      refine w_iload 3 (μ := m_X12_roomMany) (pc := 33) dX12_roomMany_33 rfl ?_
      refine w_ishr (μ := m_X12_roomMany) (pc := 35) dX12_roomMany_35 ?_
      refine w_iload_n 1 1 (μ := m_X12_roomMany) (pc := 36) dX12_roomMany_36 rfl rfl ?_
      refine w_iload 3 (μ := m_X12_roomMany) (pc := 37) dX12_roomMany_37 rfl ?_
      refine w_ishr (μ := m_X12_roomMany) (pc := 39) dX12_roomMany_39 ?_
      refine w_icmp_ne 47 (μ := m_X12_roomMany) (pc := 40) dX12_roomMany_40 (by decide) (fun c_7 => ?_) (fun c_7 => ?_)
      · refine w_iconst (v := 0) (μ := m_X12_roomMany) (pc := 47) dX12_roomMany_47 (by decide) ?_
        refine w_lv [0, 1, 2, 3, 5] rfl ?_
        exact t_J_X12_roomMany_48 wt hl (by omega) k0 ih _ _ _ _ _
      · refine w_iconst (v := 1) (μ := m_X12_roomMany) (pc := 43) dX12_roomMany_43 (by decide) ?_
        refine w_goto 48 (μ := m_X12_roomMany) (pc := 44) dX12_roomMany_44 (by decide) ?_
        refine w_lv [0, 1, 2, 3, 5] rfl ?_
        exact t_J_X12_roomMany_48 wt hl (by omega) k0 ih _ _ _ _ _
def D_X12_roomMany (N : Nat) (g : gp) (a0 : Nat) (x1 : Int32) (x2 : Int32) (x3 : Int32) (x4 : Int32) (δ : dp) : Option (Int32 × dp) :=
  (D_X12_lowerBits N g a0 x2 δ).bind fun r_1 => bi (x3 + 1) fun x_2 => L_X12_roomMany_15 N g a0 x1 x2 x3 x4 N r_1.1 0 x_2 r_1.2
set_option maxHeartbeats 4000000 in
set_option maxRecDepth 100000 in
theorem c_X12_roomMany {l : Launch} {D : va_G} {cy : Nat → ClassId} {N d : Nat} {g : gp} (wt : WT g) (hl : l.stackTraces = false) (hd : 2 ≤ d) {a0 : Nat} {x1 : Int32} {x2 : Int32} {x3 : Int32} {x4 : Int32} {δ : dp} (k0 : q_K g a0 = 12) : CalD l D cy m_X12_roomMany d 0 0 ei g [.ref a0, .int x1, .int x2, .int x3, .int x4] δ (D_X12_roomMany N g a0 x1 x2 x3 x4 δ) := by
  refine CalD.of (by decide +kernel) (Nat.le_of_ble_eq_true rfl) hl ?_
  unfold D_X12_roomMany
  refine w_aload_n 0 0 (μ := m_X12_roomMany) (pc := 0) dX12_roomMany_0 rfl rfl ?_
  refine w_iload_n 2 2 (μ := m_X12_roomMany) (pc := 1) dX12_roomMany_1 rfl rfl ?_
  refine w_callV (As := [.int x2]) (rest := []) (μ := m_X12_roomMany) (pc := 2) dX12_roomMany_2 cv_X12_293 rfl rfl k0 (by decide) rfl (Nat.le_of_ble_eq_true rfl) (d' := d - 1) (by omega) he_i (c_X12_lowerBits wt hl (d := d - 1) (by omega) k0) (fun r_1 => ?_)
  refine w_istore [(5, .int r_1.1), (0, .ref a0), (1, .int x1), (2, .int x2), (3, .int x3), (4, .int x4)] (μ := m_X12_roomMany) (pc := 5) dX12_roomMany_5 (by decide) rfl ?_
  refine w_iconst (v := 0) (μ := m_X12_roomMany) (pc := 7) dX12_roomMany_7 (by decide) ?_
  refine w_istore [(6, .int 0), (5, .int r_1.1), (0, .ref a0), (1, .int x1), (2, .int x2), (3, .int x3), (4, .int x4)] (μ := m_X12_roomMany) (pc := 8) dX12_roomMany_8 (by decide) rfl ?_
  refine w_iload_n 5 3 (μ := m_X12_roomMany) (pc := 10) dX12_roomMany_10 rfl rfl ?_
  refine w_iconst (v := 1) (μ := m_X12_roomMany) (pc := 11) dX12_roomMany_11 (by decide) ?_
  refine w_iadd (μ := m_X12_roomMany) (pc := 12) dX12_roomMany_12 ?_
  refine w_bi (fun x_2 e_3 => ?_)
  refine w_istore [(7, .int x_2), (6, .int 0), (5, .int r_1.1), (0, .ref a0), (1, .int x1), (2, .int x2), (3, .int x3), (4, .int x4)] (μ := m_X12_roomMany) (pc := 13) dX12_roomMany_13 (by decide) rfl ?_
  refine w_lv [3, 4, 7, 2, 1, 0] rfl ?_
  exact t_L_X12_roomMany_15 wt hl (by omega) k0 N _ _ _ _
def J_X12_roomEnd_71 (N : Nat) (g : gp) (a0 : Nat) (x1 : Int32) (x2 : Int32) (x3 : Int32) (x4 : Int32) (x5 : Int32) (kt15 : Int32 → Int32 → Int32 → dp → Option (Int32 × dp)) (x6v : Int32) (x7v : Int32) (x8v : Int32) (δ : dp) : Option (Int32 × dp) :=
  bi (x8v + 1) fun x_13 => kt15 x6v x7v x_13 δ
set_option maxHeartbeats 4000000 in
set_option maxRecDepth 100000 in
theorem t_J_X12_roomEnd_71 {l : Launch} {D : va_G} {cy : Nat → ClassId} {N d : Nat} {g : gp} (wt : WT g) (hl : l.stackTraces = false) (hd : 2 ≤ d) {a0 : Nat} {x1 : Int32} {x2 : Int32} {x3 : Int32} {x4 : Int32} {x5 : Int32} (k0 : q_K g a0 = 12) {kt15 : Int32 → Int32 → Int32 → dp → Option (Int32 × dp)} (hk15 : ∀ (x6v : Int32) (x7v : Int32) (x8v : Int32) (δ : dp), AWD l D cy m_X12_roomEnd d 0 0 ei g 15 [(0, .ref a0), (1, .int x1), (4, .int x4), (5, .int x5), (6, .int x6v), (7, .int x7v), (8, .int x8v)] [] δ (kt15 x6v x7v x8v δ)) : ∀ (x6v : Int32) (x7v : Int32) (x8v : Int32) (δ : dp), AWD l D cy m_X12_roomEnd d 0 0 ei g 71 [(0, .ref a0), (1, .int x1), (4, .int x4), (5, .int x5), (6, .int x6v), (7, .int x7v), (8, .int x8v)] [] δ (J_X12_roomEnd_71 N g a0 x1 x2 x3 x4 x5 kt15 x6v x7v x8v δ) := by
    intro x6v x7v x8v δ 
    unfold J_X12_roomEnd_71
    refine w_inb (fun x_13 e_14 => ?_)
    refine w_iinc 6 [(8, .int x_13), (0, .ref a0), (1, .int x1), (4, .int x4), (5, .int x5), (6, .int x6v), (7, .int x7v)] (μ := m_X12_roomEnd) (pc := 71) dX12_roomEnd_71 rfl (by rw [e_14]; rfl) (by decide) rfl ?_
    refine w_goto 15 (μ := m_X12_roomEnd) (pc := 74) dX12_roomEnd_74 (by decide) ?_
    refine w_lv [1, 2, 3, 4, 5, 6, 0] rfl ?_
    exact hk15 _ _ _ _
def J_X12_roomEnd_55 (N : Nat) (g : gp) (a0 : Nat) (x1 : Int32) (x2 : Int32) (x3 : Int32) (x4 : Int32) (x5 : Int32) (kt15 : Int32 → Int32 → Int32 → dp → Option (Int32 × dp)) (x6v : Int32) (x8v : Int32) (δ : dp) : Option (Int32 × dp) :=
  (q_O g 12 35 a0).bind fun b_9 => if x8v < 0 ∨ q_N g b_9 ≤ x8v.toNatClampNeg then none else bi ((q_R δ b_9 x8v.toNatClampNeg) &&& ((1 <<< (x6v &&& 31)) - 1)) fun x_11 => J_X12_roomEnd_71 N g a0 x1 x2 x3 x4 x5 kt15 x6v x_11 x8v δ
set_option maxHeartbeats 4000000 in
set_option maxRecDepth 100000 in
theorem t_J_X12_roomEnd_55 {l : Launch} {D : va_G} {cy : Nat → ClassId} {N d : Nat} {g : gp} (wt : WT g) (hl : l.stackTraces = false) (hd : 2 ≤ d) {a0 : Nat} {x1 : Int32} {x2 : Int32} {x3 : Int32} {x4 : Int32} {x5 : Int32} (k0 : q_K g a0 = 12) {kt15 : Int32 → Int32 → Int32 → dp → Option (Int32 × dp)} (hk15 : ∀ (x6v : Int32) (x7v : Int32) (x8v : Int32) (δ : dp), AWD l D cy m_X12_roomEnd d 0 0 ei g 15 [(0, .ref a0), (1, .int x1), (4, .int x4), (5, .int x5), (6, .int x6v), (7, .int x7v), (8, .int x8v)] [] δ (kt15 x6v x7v x8v δ)) : ∀ (x6v : Int32) (x8v : Int32) (δ : dp), AWD l D cy m_X12_roomEnd d 0 0 ei g 55 [(0, .ref a0), (1, .int x1), (4, .int x4), (5, .int x5), (6, .int x6v), (8, .int x8v)] [] δ (J_X12_roomEnd_55 N g a0 x1 x2 x3 x4 x5 kt15 x6v x8v δ) := by
    intro x6v x8v δ 
    unfold J_X12_roomEnd_55
    refine w_aload_n 0 0 (μ := m_X12_roomEnd) (pc := 55) dX12_roomEnd_55 rfl rfl ?_
    refine w_getO (μ := m_X12_roomEnd) (pc := 56) dX12_roomEnd_56 fl_X12_84 ir_12_35 id_12_35 k0 (fun b_9 e_10 => ?_)
    refine w_iload 5 (μ := m_X12_roomEnd) (pc := 59) dX12_roomEnd_59 rfl ?_
    refine w_ald (μ := m_X12_roomEnd) (pc := 61) dX12_roomEnd_61 (wt_12_35 wt k0 e_10) ?_
    refine w_iconst (v := 1) (μ := m_X12_roomEnd) (pc := 62) dX12_roomEnd_62 (by decide) ?_
    refine w_iload 4 (μ := m_X12_roomEnd) (pc := 63) dX12_roomEnd_63 rfl ?_
    refine w_ishl (μ := m_X12_roomEnd) (pc := 65) dX12_roomEnd_65 ?_
    refine w_iconst (v := 1) (μ := m_X12_roomEnd) (pc := 66) dX12_roomEnd_66 (by decide) ?_
    refine w_isub (μ := m_X12_roomEnd) (pc := 67) dX12_roomEnd_67 ?_
    refine w_iand (μ := m_X12_roomEnd) (pc := 68) dX12_roomEnd_68 ?_
    refine w_bi (fun x_11 e_12 => ?_)
    refine w_istore [(7, .int x_11), (0, .ref a0), (1, .int x1), (4, .int x4), (5, .int x5), (6, .int x6v), (8, .int x8v)] (μ := m_X12_roomEnd) (pc := 69) dX12_roomEnd_69 (by decide) rfl ?_
    refine w_lv [1, 2, 3, 4, 5, 0, 6] rfl ?_
    exact t_J_X12_roomEnd_71 wt hl (by omega) k0 hk15 _ _ _ _
def L_X12_roomEnd_15 (N : Nat) (g : gp) (a0 : Nat) (x1 : Int32) (x2 : Int32) (x3 : Int32) (x4 : Int32) (x5 : Int32) : Nat → Int32 → Int32 → Int32 → dp → Option (Int32 × dp)
  | 0, _, _, _, _ => none
  | n + 1, x6v, x7v, x8v, δ => if (x4 - 1) ≤ x8v then (some (x7v, δ)) else ((q_O g 12 35 a0).bind fun b_5 => if x8v < 0 ∨ q_N g b_5 ≤ x8v.toNatClampNeg then none else if ((q_R δ b_5 x8v.toNatClampNeg) >>> (x6v &&& 31)) = (x1 >>> (x6v &&& 31)) then (if x7v = ((-1) : Int32) then (J_X12_roomEnd_55 N g a0 x1 x2 x3 x4 x5 (L_X12_roomEnd_15 N g a0 x1 x2 x3 x4 x5 n) x6v x8v δ) else (if x5 = 0 then (J_X12_roomEnd_55 N g a0 x1 x2 x3 x4 x5 (L_X12_roomEnd_15 N g a0 x1 x2 x3 x4 x5 n) x6v x8v δ) else (J_X12_roomEnd_71 N g a0 x1 x2 x3 x4 x5 (L_X12_roomEnd_15 N g a0 x1 x2 x3 x4 x5 n) x6v x7v x8v δ))) else (J_X12_roomEnd_71 N g a0 x1 x2 x3 x4 x5 (L_X12_roomEnd_15 N g a0 x1 x2 x3 x4 x5 n) x6v x7v x8v δ))
set_option maxHeartbeats 4000000 in
set_option maxRecDepth 100000 in
theorem t_L_X12_roomEnd_15 {l : Launch} {D : va_G} {cy : Nat → ClassId} {N d : Nat} {g : gp} (wt : WT g) (hl : l.stackTraces = false) (hd : 2 ≤ d) {a0 : Nat} {x1 : Int32} {x2 : Int32} {x3 : Int32} {x4 : Int32} {x5 : Int32} (k0 : q_K g a0 = 12) : ∀ (n : Nat) (x6v : Int32) (x7v : Int32) (x8v : Int32) (δ : dp), AWD l D cy m_X12_roomEnd d 0 0 ei g 15 [(0, .ref a0), (1, .int x1), (4, .int x4), (5, .int x5), (6, .int x6v), (7, .int x7v), (8, .int x8v)] [] δ (L_X12_roomEnd_15 N g a0 x1 x2 x3 x4 x5 n x6v x7v x8v δ) := by
  intro n
  induction n with
  | zero => intro x6v x7v x8v δ ; exact w_none
  | succ n ih =>
    intro x6v x7v x8v δ 
    unfold L_X12_roomEnd_15
    refine w_iload 6 (μ := m_X12_roomEnd) (pc := 15) dX12_roomEnd_15 rfl ?_
    refine w_iload 2 (μ := m_X12_roomEnd) (pc := 17) dX12_roomEnd_17 rfl ?_
    refine w_iconst (v := 1) (μ := m_X12_roomEnd) (pc := 19) dX12_roomEnd_19 (by decide) ?_
    refine w_isub (μ := m_X12_roomEnd) (pc := 20) dX12_roomEnd_20 ?_
    refine w_icmp_ge 77 (μ := m_X12_roomEnd) (pc := 21) dX12_roomEnd_21 (by decide) (fun c_4 => ?_) (fun c_4 => ?_)
    · refine w_iload 5 (μ := m_X12_roomEnd) (pc := 77) dX12_roomEnd_77 rfl ?_
      exact w_iret (μ := m_X12_roomEnd) (pc := 79) dX12_roomEnd_79 rfl rfl
    · refine w_aload_n 0 0 (μ := m_X12_roomEnd) (pc := 24) dX12_roomEnd_24 rfl rfl ?_
      refine w_getO (μ := m_X12_roomEnd) (pc := 25) dX12_roomEnd_25 fl_X12_84 ir_12_35 id_12_35 k0 (fun b_5 e_6 => ?_)
      refine w_iload 6 (μ := m_X12_roomEnd) (pc := 28) dX12_roomEnd_28 rfl ?_
      refine w_ald (μ := m_X12_roomEnd) (pc := 30) dX12_roomEnd_30 (wt_12_35 wt k0 e_6) ?_
      refine w_iload 4 (μ := m_X12_roomEnd) (pc := 31) dX12_roomEnd_31 rfl ?_
      refine w_ishr (μ := m_X12_roomEnd) (pc := 33) dX12_roomEnd_33 ?_
      refine w_iload_n 1 1 (μ := m_X12_roomEnd) (pc := 34) dX12_roomEnd_34 rfl rfl ?_
      refine w_iload 4 (μ := m_X12_roomEnd) (pc := 35) dX12_roomEnd_35 rfl ?_
      refine w_ishr (μ := m_X12_roomEnd) (pc := 37) dX12_roomEnd_37 ?_
      refine w_icmp_eq 44 (μ := m_X12_roomEnd) (pc := 38) dX12_roomEnd_38 (by decide) (fun c_7 => ?_) (fun c_7 => ?_)
      · refine w_iload 5 (μ := m_X12_roomEnd) (pc := 44) dX12_roomEnd_44 rfl ?_
        refine w_iconst (v := (-1)) (μ := m_X12_roomEnd) (pc := 46) dX12_roomEnd_46 (by decide) ?_
        refine w_icmp_eq 55 (μ := m_X12_roomEnd) (pc := 47) dX12_roomEnd_47 (by decide) (fun c_8 => ?_) (fun c_8 => ?_)
        · refine w_lv [0, 1, 2, 3, 4, 6] rfl ?_
          exact t_J_X12_roomEnd_55 wt hl (by omega) k0 ih _ _ _
        · refine w_iload 3 (μ := m_X12_roomEnd) (pc := 50) dX12_roomEnd_50 rfl ?_
          refine w_if_ne 71 (μ := m_X12_roomEnd) (pc := 52) dX12_roomEnd_52 (by decide) (fun c_15 => ?_) (fun c_15 => ?_)
          · exact t_J_X12_roomEnd_71 wt hl (by omega) k0 ih _ _ _ _
          · refine w_lv [0, 1, 2, 3, 4, 6] rfl ?_
            exact t_J_X12_roomEnd_55 wt hl (by omega) k0 ih _ _ _
      · refine w_goto 71 (μ := m_X12_roomEnd) (pc := 41) dX12_roomEnd_41 (by decide) ?_
        exact t_J_X12_roomEnd_71 wt hl (by omega) k0 ih _ _ _ _
def D_X12_roomEnd (N : Nat) (g : gp) (a0 : Nat) (x1 : Int32) (x2 : Int32) (x3 : Int32) (x4 : Int32) (x5 : Int32) (δ : dp) : Option (Int32 × dp) :=
  (D_X12_lowerBits N g a0 x2 δ).bind fun r_1 => bi (x3 + 1) fun x_2 => L_X12_roomEnd_15 N g a0 x1 x2 x3 x4 x5 N r_1.1 ((-1)) x_2 r_1.2
set_option maxHeartbeats 4000000 in
set_option maxRecDepth 100000 in
theorem c_X12_roomEnd {l : Launch} {D : va_G} {cy : Nat → ClassId} {N d : Nat} {g : gp} (wt : WT g) (hl : l.stackTraces = false) (hd : 2 ≤ d) {a0 : Nat} {x1 : Int32} {x2 : Int32} {x3 : Int32} {x4 : Int32} {x5 : Int32} {δ : dp} (k0 : q_K g a0 = 12) : CalD l D cy m_X12_roomEnd d 0 0 ei g [.ref a0, .int x1, .int x2, .int x3, .int x4, .int x5] δ (D_X12_roomEnd N g a0 x1 x2 x3 x4 x5 δ) := by
  refine CalD.of (by decide +kernel) (Nat.le_of_ble_eq_true rfl) hl ?_
  unfold D_X12_roomEnd
  refine w_aload_n 0 0 (μ := m_X12_roomEnd) (pc := 0) dX12_roomEnd_0 rfl rfl ?_
  refine w_iload_n 2 2 (μ := m_X12_roomEnd) (pc := 1) dX12_roomEnd_1 rfl rfl ?_
  refine w_callV (As := [.int x2]) (rest := []) (μ := m_X12_roomEnd) (pc := 2) dX12_roomEnd_2 cv_X12_293 rfl rfl k0 (by decide) rfl (Nat.le_of_ble_eq_true rfl) (d' := d - 1) (by omega) he_i (c_X12_lowerBits wt hl (d := d - 1) (by omega) k0) (fun r_1 => ?_)
  refine w_istore [(6, .int r_1.1), (0, .ref a0), (1, .int x1), (2, .int x2), (3, .int x3), (4, .int x4), (5, .int x5)] (μ := m_X12_roomEnd) (pc := 5) dX12_roomEnd_5 (by decide) rfl ?_
  refine w_iconst (v := (-1)) (μ := m_X12_roomEnd) (pc := 7) dX12_roomEnd_7 (by decide) ?_
  refine w_istore [(7, .int ((-1))), (6, .int r_1.1), (0, .ref a0), (1, .int x1), (2, .int x2), (3, .int x3), (4, .int x4), (5, .int x5)] (μ := m_X12_roomEnd) (pc := 8) dX12_roomEnd_8 (by decide) rfl ?_
  refine w_iload_n 5 3 (μ := m_X12_roomEnd) (pc := 10) dX12_roomEnd_10 rfl rfl ?_
  refine w_iconst (v := 1) (μ := m_X12_roomEnd) (pc := 11) dX12_roomEnd_11 (by decide) ?_
  refine w_iadd (μ := m_X12_roomEnd) (pc := 12) dX12_roomEnd_12 ?_
  refine w_bi (fun x_2 e_3 => ?_)
  refine w_istore [(8, .int x_2), (7, .int ((-1))), (6, .int r_1.1), (0, .ref a0), (1, .int x1), (2, .int x2), (3, .int x3), (4, .int x4), (5, .int x5)] (μ := m_X12_roomEnd) (pc := 13) dX12_roomEnd_13 (by decide) rfl ?_
  refine w_lv [3, 4, 7, 8, 2, 1, 0] rfl ?_
  exact t_L_X12_roomEnd_15 wt hl (by omega) k0 N _ _ _ _
def L_X12_isInside_5 (N : Nat) (g : gp) (a0 : Nat) (x1 : Int32) (x2 : Int32) (x3 : Int32) : Nat → Int32 → dp → Option (Int32 × dp)
  | 0, _, _ => none
  | n + 1, x4v, δ => if (x3 - 1) ≤ x4v then (if (0 : Int32) = 0 ∨ (0 : Int32) = 1 then some (0, δ) else none) else ((q_O g 12 35 a0).bind fun b_4 => if x4v < 0 ∨ q_N g b_4 ≤ x4v.toNatClampNeg then none else if (q_R δ b_4 x4v.toNatClampNeg) = x1 then (if (1 : Int32) = 0 ∨ (1 : Int32) = 1 then some (1, δ) else none) else (bi (x4v + 1) fun x_7 => L_X12_isInside_5 N g a0 x1 x2 x3 n x_7 δ))
set_option maxHeartbeats 4000000 in
set_option maxRecDepth 100000 in
theorem t_L_X12_isInside_5 {l : Launch} {D : va_G} {cy : Nat → ClassId} {N d : Nat} {g : gp} (wt : WT g) (hl : l.stackTraces = false) (hd : 1 ≤ d) {a0 : Nat} {x1 : Int32} {x2 : Int32} {x3 : Int32} (k0 : q_K g a0 = 12) : ∀ (n : Nat) (x4v : Int32) (δ : dp), AWD l D cy m_X12_isInside d 0 0 ei g 5 [(0, .ref a0), (1, .int x1), (3, .int x3), (4, .int x4v)] [] δ (L_X12_isInside_5 N g a0 x1 x2 x3 n x4v δ) := by
  intro n
  induction n with
  | zero => intro x4v δ ; exact w_none
  | succ n ih =>
    intro x4v δ 
    unfold L_X12_isInside_5
    refine w_iload 3 (μ := m_X12_isInside) (pc := 5) dX12_isInside_5 rfl ?_
    refine w_iload_n 2 3 (μ := m_X12_isInside) (pc := 7) dX12_isInside_7 rfl rfl ?_
    refine w_iconst (v := 1) (μ := m_X12_isInside) (pc := 8) dX12_isInside_8 (by decide) ?_
    refine w_isub (μ := m_X12_isInside) (pc := 9) dX12_isInside_9 ?_
    refine w_icmp_ge 32 (μ := m_X12_isInside) (pc := 10) dX12_isInside_10 (by decide) (fun c_3 => ?_) (fun c_3 => ?_)
    · refine w_iconst (v := 0) (μ := m_X12_isInside) (pc := 32) dX12_isInside_32 (by decide) ?_
      exact w_zret (μ := m_X12_isInside) (pc := 33) dX12_isInside_33 rfl rfl
    · refine w_aload_n 0 0 (μ := m_X12_isInside) (pc := 13) dX12_isInside_13 rfl rfl ?_
      refine w_getO (μ := m_X12_isInside) (pc := 14) dX12_isInside_14 fl_X12_84 ir_12_35 id_12_35 k0 (fun b_4 e_5 => ?_)
      refine w_iload 3 (μ := m_X12_isInside) (pc := 17) dX12_isInside_17 rfl ?_
      refine w_ald (μ := m_X12_isInside) (pc := 19) dX12_isInside_19 (wt_12_35 wt k0 e_5) ?_
      refine w_iload_n 1 1 (μ := m_X12_isInside) (pc := 20) dX12_isInside_20 rfl rfl ?_
      refine w_icmp_ne 26 (μ := m_X12_isInside) (pc := 21) dX12_isInside_21 (by decide) (fun c_6 => ?_) (fun c_6 => ?_)
      · refine w_inb (fun x_7 e_8 => ?_)
        refine w_iinc 3 [(4, .int x_7), (0, .ref a0), (1, .int x1), (3, .int x3)] (μ := m_X12_isInside) (pc := 26) dX12_isInside_26 rfl (by rw [e_8]; rfl) (by decide) rfl ?_
        refine w_goto 5 (μ := m_X12_isInside) (pc := 29) dX12_isInside_29 (by decide) ?_
        refine w_lv [1, 2, 3, 0] rfl ?_
        exact ih _ _
      · refine w_iconst (v := 1) (μ := m_X12_isInside) (pc := 24) dX12_isInside_24 (by decide) ?_
        exact w_zret (μ := m_X12_isInside) (pc := 25) dX12_isInside_25 rfl rfl
def D_X12_isInside (N : Nat) (g : gp) (a0 : Nat) (x1 : Int32) (x2 : Int32) (x3 : Int32) (δ : dp) : Option (Int32 × dp) :=
  bi (x2 + 1) fun x_1 => L_X12_isInside_5 N g a0 x1 x2 x3 N x_1 δ
set_option maxHeartbeats 4000000 in
set_option maxRecDepth 100000 in
theorem c_X12_isInside {l : Launch} {D : va_G} {cy : Nat → ClassId} {N d : Nat} {g : gp} (wt : WT g) (hl : l.stackTraces = false) (hd : 1 ≤ d) {a0 : Nat} {x1 : Int32} {x2 : Int32} {x3 : Int32} {δ : dp} (k0 : q_K g a0 = 12) : CalD l D cy m_X12_isInside d 0 0 ei g [.ref a0, .int x1, .int x2, .int x3] δ (D_X12_isInside N g a0 x1 x2 x3 δ) := by
  refine CalD.of (by decide +kernel) (Nat.le_of_ble_eq_true rfl) hl ?_
  unfold D_X12_isInside
  refine w_iload_n 2 2 (μ := m_X12_isInside) (pc := 0) dX12_isInside_0 rfl rfl ?_
  refine w_iconst (v := 1) (μ := m_X12_isInside) (pc := 1) dX12_isInside_1 (by decide) ?_
  refine w_iadd (μ := m_X12_isInside) (pc := 2) dX12_isInside_2 ?_
  refine w_bi (fun x_1 e_2 => ?_)
  refine w_istore [(4, .int x_1), (0, .ref a0), (1, .int x1), (2, .int x2), (3, .int x3)] (μ := m_X12_isInside) (pc := 3) dX12_isInside_3 (by decide) rfl ?_
  refine w_lv [1, 2, 4, 0] rfl ?_
  exact t_L_X12_isInside_5 wt hl (by omega) k0 N _ _
def L_X12_lays_7 (N : Nat) (g : gp) (a0 : Nat) (x1 : Int32) : Nat → Int32 → dp → Option (dp)
  | 0, _, _ => none
  | n + 1, x2v, δ => (q_O g 12 14 a0).bind fun b_3 => if x1 < 0 ∨ q_N g b_3 ≤ x1.toNatClampNeg then none else if (q_R δ b_3 x1.toNatClampNeg) ≤ x2v then (some δ) else ((q_O g 12 35 a0).bind fun b_6 => (q_O g 12 13 a0).bind fun b_8 => if ((2000 * x1) + x2v) < 0 ∨ q_N g b_8 ≤ ((2000 * x1) + x2v).toNatClampNeg then none else if (q_I δ 12 36 a0) < 0 ∨ q_N g b_6 ≤ (q_I δ 12 36 a0).toNatClampNeg then none else bd (s_R δ b_6 (q_I δ 12 36 a0).toNatClampNeg (q_R δ b_8 ((2000 * x1) + x2v).toNatClampNeg)) fun δ_10 => bd (s_I δ_10 12 36 a0 ((q_I δ_10 12 36 a0) + 1)) fun δ_12 => bi (x2v + 1) fun x_14 => L_X12_lays_7 N g a0 x1 n x_14 δ_12)
set_option maxHeartbeats 4000000 in
set_option maxRecDepth 100000 in
theorem t_L_X12_lays_7 {l : Launch} {D : va_G} {cy : Nat → ClassId} {N d : Nat} {g : gp} (wt : WT g) (hl : l.stackTraces = false) (hd : 1 ≤ d) {a0 : Nat} {x1 : Int32} (k0 : q_K g a0 = 12) : ∀ (n : Nat) (x2v : Int32) (δ : dp), AWD l D cy m_X12_lays d 0 0 ev g 7 [(0, .ref a0), (1, .int x1), (2, .int x2v)] [] δ (L_X12_lays_7 N g a0 x1 n x2v δ) := by
  intro n
  induction n with
  | zero => intro x2v δ ; exact w_none
  | succ n ih =>
    intro x2v δ 
    unfold L_X12_lays_7
    refine w_iload_n 2 2 (μ := m_X12_lays) (pc := 7) dX12_lays_7 rfl rfl ?_
    refine w_aload_n 0 0 (μ := m_X12_lays) (pc := 8) dX12_lays_8 rfl rfl ?_
    refine w_getO (μ := m_X12_lays) (pc := 9) dX12_lays_9 fl_X12_36 ir_12_14 id_12_14 k0 (fun b_3 e_4 => ?_)
    refine w_iload_n 1 1 (μ := m_X12_lays) (pc := 12) dX12_lays_12 rfl rfl ?_
    refine w_ald (μ := m_X12_lays) (pc := 13) dX12_lays_13 (wt_12_14 wt k0 e_4) ?_
    refine w_icmp_ge 54 (μ := m_X12_lays) (pc := 14) dX12_lays_14 (by decide) (fun c_5 => ?_) (fun c_5 => ?_)
    · exact w_vret (μ := m_X12_lays) (pc := 54) dX12_lays_54 rfl rfl
    · refine w_aload_n 0 0 (μ := m_X12_lays) (pc := 17) dX12_lays_17 rfl rfl ?_
      refine w_getO (μ := m_X12_lays) (pc := 18) dX12_lays_18 fl_X12_84 ir_12_35 id_12_35 k0 (fun b_6 e_7 => ?_)
      refine w_aload_n 0 0 (μ := m_X12_lays) (pc := 21) dX12_lays_21 rfl rfl ?_
      refine w_getI (μ := m_X12_lays) (pc := 22) dX12_lays_22 fl_X12_290 ir_12_36 k0 ?_
      refine w_aload_n 0 0 (μ := m_X12_lays) (pc := 25) dX12_lays_25 rfl rfl ?_
      refine w_getO (μ := m_X12_lays) (pc := 26) dX12_lays_26 fl_X12_33 ir_12_13 id_12_13 k0 (fun b_8 e_9 => ?_)
      refine w_sipush (v := 2000) (μ := m_X12_lays) (pc := 29) dX12_lays_29 (by decide) ?_
      refine w_iload_n 1 1 (μ := m_X12_lays) (pc := 32) dX12_lays_32 rfl rfl ?_
      refine w_imul (μ := m_X12_lays) (pc := 33) dX12_lays_33 ?_
      refine w_iload_n 2 2 (μ := m_X12_lays) (pc := 34) dX12_lays_34 rfl rfl ?_
      refine w_iadd (μ := m_X12_lays) (pc := 35) dX12_lays_35 ?_
      refine w_ald (μ := m_X12_lays) (pc := 36) dX12_lays_36 (wt_12_13 wt k0 e_9) ?_
      refine w_ast (μ := m_X12_lays) (pc := 37) dX12_lays_37 (wt_12_35 wt k0 e_7) ?_
      refine w_bd (fun δ_10 e_11 => ?_)
      refine w_aload_n 0 0 (μ := m_X12_lays) (pc := 38) dX12_lays_38 rfl rfl ?_
      refine w_dup (μ := m_X12_lays) (pc := 39) dX12_lays_39 rfl ?_
      refine w_getI (μ := m_X12_lays) (pc := 40) dX12_lays_40 fl_X12_290 ir_12_36 k0 ?_
      refine w_iconst (v := 1) (μ := m_X12_lays) (pc := 43) dX12_lays_43 (by decide) ?_
      refine w_iadd (μ := m_X12_lays) (pc := 44) dX12_lays_44 ?_
      refine w_putI (μ := m_X12_lays) (pc := 45) dX12_lays_45 fl_X12_290 flw_12_36 ir_12_36 k0 ?_
      refine w_bd (fun δ_12 e_13 => ?_)
      refine w_inb (fun x_14 e_15 => ?_)
      refine w_iinc 2 [(2, .int x_14), (0, .ref a0), (1, .int x1)] (μ := m_X12_lays) (pc := 48) dX12_lays_48 rfl (by rw [e_15]; rfl) (by decide) rfl ?_
      refine w_goto 7 (μ := m_X12_lays) (pc := 51) dX12_lays_51 (by decide) ?_
      refine w_lv [1, 2, 0] rfl ?_
      exact ih _ _
def D_X12_lays (N : Nat) (g : gp) (a0 : Nat) (x1 : Int32) (δ : dp) : Option (dp) :=
  bd (s_I δ 12 36 a0 0) fun δ_1 => L_X12_lays_7 N g a0 x1 N 0 δ_1
set_option maxHeartbeats 4000000 in
set_option maxRecDepth 100000 in
theorem c_X12_lays {l : Launch} {D : va_G} {cy : Nat → ClassId} {N d : Nat} {g : gp} (wt : WT g) (hl : l.stackTraces = false) (hd : 1 ≤ d) {a0 : Nat} {x1 : Int32} {δ : dp} (k0 : q_K g a0 = 12) : CalD l D cy m_X12_lays d 0 0 ev g [.ref a0, .int x1] δ (D_X12_lays N g a0 x1 δ) := by
  refine CalD.of (by decide +kernel) (Nat.le_of_ble_eq_true rfl) hl ?_
  unfold D_X12_lays
  refine w_aload_n 0 0 (μ := m_X12_lays) (pc := 0) dX12_lays_0 rfl rfl ?_
  refine w_iconst (v := 0) (μ := m_X12_lays) (pc := 1) dX12_lays_1 (by decide) ?_
  refine w_putI (μ := m_X12_lays) (pc := 2) dX12_lays_2 fl_X12_290 flw_12_36 ir_12_36 k0 ?_
  refine w_bd (fun δ_1 e_2 => ?_)
  refine w_iconst (v := 0) (μ := m_X12_lays) (pc := 5) dX12_lays_5 (by decide) ?_
  refine w_istore_n [(2, .int 0), (0, .ref a0), (1, .int x1)] (μ := m_X12_lays) (pc := 6) dX12_lays_6 rfl (by decide) rfl ?_
  refine w_lv [1, 2, 0] rfl ?_
  exact t_L_X12_lays_7 wt hl (by omega) k0 N _ _
def J_X12_hasIn_20 (N : Nat) (g : gp) (a0 : Nat) (x1 : Int32) (x2 : Int32) (x3 : Int32) (xs0 : Int32) (δ : dp) : Option (Int32 × dp) :=
  if xs0 = 0 ∨ xs0 = 1 then some (xs0, δ) else none
set_option maxHeartbeats 4000000 in
set_option maxRecDepth 100000 in
theorem t_J_X12_hasIn_20 {l : Launch} {D : va_G} {cy : Nat → ClassId} {N d : Nat} {g : gp} (wt : WT g) (hl : l.stackTraces = false) (hd : 2 ≤ d) {a0 : Nat} {x1 : Int32} {x2 : Int32} {x3 : Int32} (k0 : q_K g a0 = 12) : ∀ (xs0 : Int32) (δ : dp), AWD l D cy m_X12_hasIn d 0 0 ei g 20 [] [.int xs0] δ (J_X12_hasIn_20 N g a0 x1 x2 x3 xs0 δ) := by
    intro xs0 δ 
    unfold J_X12_hasIn_20
    exact w_zret (μ := m_X12_hasIn) (pc := 20) dX12_hasIn_20 rfl rfl
def D_X12_hasIn (N : Nat) (g : gp) (a0 : Nat) (x1 : Int32) (x2 : Int32) (x3 : Int32) (δ : dp) : Option (Int32 × dp) :=
  (D_X12_place N g a0 x1 x3 δ).bind fun r_1 => (D_X12_place N g a0 x1 x2 r_1.2).bind fun r_2 => if r_1.1 ≤ r_2.1 then (J_X12_hasIn_20 N g a0 x1 x2 x3 0 r_2.2) else (J_X12_hasIn_20 N g a0 x1 x2 x3 1 r_2.2)
set_option maxHeartbeats 4000000 in
set_option maxRecDepth 100000 in
theorem c_X12_hasIn {l : Launch} {D : va_G} {cy : Nat → ClassId} {N d : Nat} {g : gp} (wt : WT g) (hl : l.stackTraces = false) (hd : 2 ≤ d) {a0 : Nat} {x1 : Int32} {x2 : Int32} {x3 : Int32} {δ : dp} (k0 : q_K g a0 = 12) : CalD l D cy m_X12_hasIn d 0 0 ei g [.ref a0, .int x1, .int x2, .int x3] δ (D_X12_hasIn N g a0 x1 x2 x3 δ) := by
  refine CalD.of (by decide +kernel) (Nat.le_of_ble_eq_true rfl) hl ?_
  unfold D_X12_hasIn
  refine w_aload_n 0 0 (μ := m_X12_hasIn) (pc := 0) dX12_hasIn_0 rfl rfl ?_
  refine w_iload_n 1 1 (μ := m_X12_hasIn) (pc := 1) dX12_hasIn_1 rfl rfl ?_
  refine w_iload_n 3 3 (μ := m_X12_hasIn) (pc := 2) dX12_hasIn_2 rfl rfl ?_
  refine w_callV (As := [.int x1, .int x3]) (rest := []) (μ := m_X12_hasIn) (pc := 3) dX12_hasIn_3 cv_X12_254 rfl rfl k0 (by decide) rfl (Nat.le_of_ble_eq_true rfl) (d' := d - 1) (by omega) he_i (c_X12_place wt hl (d := d - 1) (by omega) k0) (fun r_1 => ?_)
  refine w_aload_n 0 0 (μ := m_X12_hasIn) (pc := 6) dX12_hasIn_6 rfl rfl ?_
  refine w_iload_n 1 1 (μ := m_X12_hasIn) (pc := 7) dX12_hasIn_7 rfl rfl ?_
  refine w_iload_n 2 2 (μ := m_X12_hasIn) (pc := 8) dX12_hasIn_8 rfl rfl ?_
  refine w_callV (As := [.int x1, .int x2]) (rest := [.int r_1.1]) (μ := m_X12_hasIn) (pc := 9) dX12_hasIn_9 cv_X12_254 rfl rfl k0 (by decide) rfl (Nat.le_of_ble_eq_true rfl) (d' := d - 1) (by omega) he_i (c_X12_place wt hl (d := d - 1) (by omega) k0) (fun r_2 => ?_)
  refine w_icmp_le 19 (μ := m_X12_hasIn) (pc := 12) dX12_hasIn_12 (by decide) (fun c_3 => ?_) (fun c_3 => ?_)
  · refine w_iconst (v := 0) (μ := m_X12_hasIn) (pc := 19) dX12_hasIn_19 (by decide) ?_
    refine w_lv [] rfl ?_
    exact t_J_X12_hasIn_20 wt hl (by omega) k0 _ _
  · refine w_iconst (v := 1) (μ := m_X12_hasIn) (pc := 15) dX12_hasIn_15 (by decide) ?_
    refine w_goto 20 (μ := m_X12_hasIn) (pc := 16) dX12_hasIn_16 (by decide) ?_
    refine w_lv [] rfl ?_
    exact t_J_X12_hasIn_20 wt hl (by omega) k0 _ _
def J_X12_bits_160 (N : Nat) (g : gp) (a0 : Nat) (x1 : Int32) (x2 : Int32) (x3 : Int32) (x6v : Int32) (δ : dp) : Option (Int32 × dp) :=
  some (x6v, δ)
set_option maxHeartbeats 4000000 in
set_option maxRecDepth 100000 in
theorem t_J_X12_bits_160 {l : Launch} {D : va_G} {cy : Nat → ClassId} {N d : Nat} {g : gp} (wt : WT g) (hl : l.stackTraces = false) (hd : 3 ≤ d) {a0 : Nat} {x1 : Int32} {x2 : Int32} {x3 : Int32} (k0 : q_K g a0 = 12) : ∀ (x6v : Int32) (δ : dp), AWD l D cy m_X12_bits d 0 0 ei g 160 [(6, .int x6v)] [] δ (J_X12_bits_160 N g a0 x1 x2 x3 x6v δ) := by
    intro x6v δ 
    unfold J_X12_bits_160
    refine w_iload 0 (μ := m_X12_bits) (pc := 160) dX12_bits_160 rfl ?_
    exact w_iret (μ := m_X12_bits) (pc := 162) dX12_bits_162 rfl rfl
def J_X12_bits_145 (N : Nat) (g : gp) (a0 : Nat) (x1 : Int32) (x2 : Int32) (x3 : Int32) (kt115 : Int32 → Int32 → dp → Option (Int32 × dp)) (xs0 : Int32) (xs1 : Int32) (xs2 : Int32) (as3 : Nat) (x5v : Int32) (x6v : Int32) (δ : dp) : Option (Int32 × dp) :=
  (D_X12_hasIn N g as3 xs2 xs1 xs0 δ).bind fun r_11 => if r_11.1 = 0 then (bi (x6v + 1) fun x_13 => bi (x5v + (-1)) fun x_15 => kt115 x_15 x_13 r_11.2) else (J_X12_bits_160 N g a0 x1 x2 x3 x6v r_11.2)
set_option maxHeartbeats 4000000 in
set_option maxRecDepth 100000 in
theorem t_J_X12_bits_145 {l : Launch} {D : va_G} {cy : Nat → ClassId} {N d : Nat} {g : gp} (wt : WT g) (hl : l.stackTraces = false) (hd : 3 ≤ d) {a0 : Nat} {x1 : Int32} {x2 : Int32} {x3 : Int32} (k0 : q_K g a0 = 12) {kt115 : Int32 → Int32 → dp → Option (Int32 × dp)} (hk115 : ∀ (x5v : Int32) (x6v : Int32) (δ : dp), AWD l D cy m_X12_bits d 0 0 ei g 115 [(0, .ref a0), (1, .int x1), (3, .int x3), (5, .int x5v), (6, .int x6v)] [] δ (kt115 x5v x6v δ)) : ∀ (xs0 : Int32) (xs1 : Int32) (xs2 : Int32) (as3 : Nat) (x5v : Int32) (x6v : Int32) (δ : dp), q_K g as3 = 12 → AWD l D cy m_X12_bits d 0 0 ei g 145 [(0, .ref a0), (1, .int x1), (3, .int x3), (5, .int x5v), (6, .int x6v)] [.int xs0, .int xs1, .int xs2, .ref as3] δ (J_X12_bits_145 N g a0 x1 x2 x3 kt115 xs0 xs1 xs2 as3 x5v x6v δ) := by
    intro xs0 xs1 xs2 as3 x5v x6v δ has3
    unfold J_X12_bits_145
    refine w_callV (As := [.int xs2, .int xs1, .int xs0]) (rest := []) (μ := m_X12_bits) (pc := 145) dX12_bits_145 cv_X12_332 rfl rfl has3 (by decide) rfl (Nat.le_of_ble_eq_true rfl) (d' := d - 1) (by omega) he_i (c_X12_hasIn wt hl (d := d - 1) (by omega) has3) (fun r_11 => ?_)
    refine w_if_ne 160 (μ := m_X12_bits) (pc := 148) dX12_bits_148 (by decide) (fun c_12 => ?_) (fun c_12 => ?_)
    · refine w_lv [4] rfl ?_
      exact t_J_X12_bits_160 wt hl (by omega) k0 _ _
    · refine w_inb (fun x_13 e_14 => ?_)
      refine w_iinc 4 [(6, .int x_13), (0, .ref a0), (1, .int x1), (3, .int x3), (5, .int x5v)] (μ := m_X12_bits) (pc := 151) dX12_bits_151 rfl (by rw [e_14]; rfl) (by decide) rfl ?_
      refine w_inb (fun x_15 e_16 => ?_)
      refine w_iinc 4 [(5, .int x_15), (6, .int x_13), (0, .ref a0), (1, .int x1), (3, .int x3)] (μ := m_X12_bits) (pc := 154) dX12_bits_154 rfl (by rw [e_16]; rfl) (by decide) rfl ?_
      refine w_goto 115 (μ := m_X12_bits) (pc := 157) dX12_bits_157 (by decide) ?_
      refine w_lv [2, 3, 4, 0, 1] rfl ?_
      exact hk115 _ _ _
def L_X12_bits_115 (N : Nat) (g : gp) (a0 : Nat) (x1 : Int32) (x2 : Int32) (x3 : Int32) : Nat → Int32 → Int32 → dp → Option (Int32 × dp)
  | 0, _, _, _ => none
  | n + 1, x5v, x6v, δ => if x5v ≤ 0 then (J_X12_bits_160 N g a0 x1 x2 x3 x6v δ) else (if x6v = (1 : Int32) then (J_X12_bits_145 N g a0 x1 x2 x3 (L_X12_bits_115 N g a0 x1 x2 x3 n) x3 (32 * x5v) x1 a0 x5v x6v δ) else (J_X12_bits_145 N g a0 x1 x2 x3 (L_X12_bits_115 N g a0 x1 x2 x3 n) ((32 * x5v) + 32) (32 * x5v) x1 a0 x5v x6v δ))
set_option maxHeartbeats 4000000 in
set_option maxRecDepth 100000 in
theorem t_L_X12_bits_115 {l : Launch} {D : va_G} {cy : Nat → ClassId} {N d : Nat} {g : gp} (wt : WT g) (hl : l.stackTraces = false) (hd : 3 ≤ d) {a0 : Nat} {x1 : Int32} {x2 : Int32} {x3 : Int32} (k0 : q_K g a0 = 12) : ∀ (n : Nat) (x5v : Int32) (x6v : Int32) (δ : dp), AWD l D cy m_X12_bits d 0 0 ei g 115 [(0, .ref a0), (1, .int x1), (3, .int x3), (5, .int x5v), (6, .int x6v)] [] δ (L_X12_bits_115 N g a0 x1 x2 x3 n x5v x6v δ) := by
  intro n
  induction n with
  | zero => intro x5v x6v δ ; exact w_none
  | succ n ih =>
    intro x5v x6v δ 
    unfold L_X12_bits_115
    refine w_iload 3 (μ := m_X12_bits) (pc := 115) dX12_bits_115 rfl ?_
    refine w_if_le 160 (μ := m_X12_bits) (pc := 117) dX12_bits_117 (by decide) (fun c_9 => ?_) (fun c_9 => ?_)
    · refine w_lv [4] rfl ?_
      exact t_J_X12_bits_160 wt hl (by omega) k0 _ _
    · refine w_aload_n 0 0 (μ := m_X12_bits) (pc := 120) dX12_bits_120 rfl rfl ?_
      refine w_iload_n 1 1 (μ := m_X12_bits) (pc := 121) dX12_bits_121 rfl rfl ?_
      refine w_bipush (v := 32) (μ := m_X12_bits) (pc := 122) dX12_bits_122 (by decide) ?_
      refine w_iload 3 (μ := m_X12_bits) (pc := 124) dX12_bits_124 rfl ?_
      refine w_imul (μ := m_X12_bits) (pc := 126) dX12_bits_126 ?_
      refine w_iload 4 (μ := m_X12_bits) (pc := 127) dX12_bits_127 rfl ?_
      refine w_iconst (v := 1) (μ := m_X12_bits) (pc := 129) dX12_bits_129 (by decide) ?_
      refine w_icmp_ne 137 (μ := m_X12_bits) (pc := 130) dX12_bits_130 (by decide) (fun c_10 => ?_) (fun c_10 => ?_)
      · refine w_bipush (v := 32) (μ := m_X12_bits) (pc := 137) dX12_bits_137 (by decide) ?_
        refine w_iload 3 (μ := m_X12_bits) (pc := 139) dX12_bits_139 rfl ?_
        refine w_imul (μ := m_X12_bits) (pc := 141) dX12_bits_141 ?_
        refine w_bipush (v := 32) (μ := m_X12_bits) (pc := 142) dX12_bits_142 (by decide) ?_
        refine w_iadd (μ := m_X12_bits) (pc := 144) dX12_bits_144 ?_
        exact t_J_X12_bits_145 wt hl (by omega) k0 ih _ _ _ _ _ _ _ k0
      · refine w_iload_n 2 3 (μ := m_X12_bits) (pc := 133) dX12_bits_133 rfl rfl ?_
        refine w_goto 145 (μ := m_X12_bits) (pc := 134) dX12_bits_134 (by decide) ?_
        exact t_J_X12_bits_145 wt hl (by omega) k0 ih _ _ _ _ _ _ _ k0
def J_X12_bits_95 (N : Nat) (g : gp) (a0 : Nat) (x1 : Int32) (x2 : Int32) (x3 : Int32) (x6v : Int32) (δ : dp) : Option (Int32 × dp) :=
  some (x6v, δ)
set_option maxHeartbeats 4000000 in
set_option maxRecDepth 100000 in
theorem t_J_X12_bits_95 {l : Launch} {D : va_G} {cy : Nat → ClassId} {N d : Nat} {g : gp} (wt : WT g) (hl : l.stackTraces = false) (hd : 3 ≤ d) {a0 : Nat} {x1 : Int32} {x2 : Int32} {x3 : Int32} (k0 : q_K g a0 = 12) : ∀ (x6v : Int32) (δ : dp), AWD l D cy m_X12_bits d 0 0 ei g 95 [(6, .int x6v)] [] δ (J_X12_bits_95 N g a0 x1 x2 x3 x6v δ) := by
    intro x6v δ 
    unfold J_X12_bits_95
    refine w_iload 0 (μ := m_X12_bits) (pc := 95) dX12_bits_95 rfl ?_
    exact w_iret (μ := m_X12_bits) (pc := 97) dX12_bits_97 rfl rfl
def J_X12_bits_72 (N : Nat) (g : gp) (a0 : Nat) (x1 : Int32) (x2 : Int32) (x3 : Int32) (kt46 : Int32 → Int32 → Int32 → dp → Option (Int32 × dp)) (xs0 : Int32) (xs1 : Int32) (as2 : Nat) (x4v : Int32) (x5v : Int32) (x6v : Int32) (δ : dp) : Option (Int32 × dp) :=
  (D_X12_hasIn N g as2 xs1 xs0 ((32 * x5v) + 32) δ).bind fun r_23 => if r_23.1 = 0 then (bi (x6v + 1) fun x_25 => bi (x5v + 1) fun x_27 => kt46 x4v x_27 x_25 r_23.2) else (J_X12_bits_95 N g a0 x1 x2 x3 x6v r_23.2)
set_option maxHeartbeats 4000000 in
set_option maxRecDepth 100000 in
theorem t_J_X12_bits_72 {l : Launch} {D : va_G} {cy : Nat → ClassId} {N d : Nat} {g : gp} (wt : WT g) (hl : l.stackTraces = false) (hd : 3 ≤ d) {a0 : Nat} {x1 : Int32} {x2 : Int32} {x3 : Int32} (k0 : q_K g a0 = 12) {kt46 : Int32 → Int32 → Int32 → dp → Option (Int32 × dp)} (hk46 : ∀ (x4v : Int32) (x5v : Int32) (x6v : Int32) (δ : dp), AWD l D cy m_X12_bits d 0 0 ei g 46 [(0, .ref a0), (1, .int x1), (3, .int x3), (4, .int x4v), (5, .int x5v), (6, .int x6v)] [] δ (kt46 x4v x5v x6v δ)) : ∀ (xs0 : Int32) (xs1 : Int32) (as2 : Nat) (x4v : Int32) (x5v : Int32) (x6v : Int32) (δ : dp), q_K g as2 = 12 → AWD l D cy m_X12_bits d 0 0 ei g 72 [(0, .ref a0), (1, .int x1), (3, .int x3), (4, .int x4v), (5, .int x5v), (6, .int x6v)] [.int xs0, .int xs1, .ref as2] δ (J_X12_bits_72 N g a0 x1 x2 x3 kt46 xs0 xs1 as2 x4v x5v x6v δ) := by
    intro xs0 xs1 as2 x4v x5v x6v δ has2
    unfold J_X12_bits_72
    refine w_bipush (v := 32) (μ := m_X12_bits) (pc := 72) dX12_bits_72 (by decide) ?_
    refine w_iload 4 (μ := m_X12_bits) (pc := 74) dX12_bits_74 rfl ?_
    refine w_imul (μ := m_X12_bits) (pc := 76) dX12_bits_76 ?_
    refine w_bipush (v := 32) (μ := m_X12_bits) (pc := 77) dX12_bits_77 (by decide) ?_
    refine w_iadd (μ := m_X12_bits) (pc := 79) dX12_bits_79 ?_
    refine w_callV (As := [.int xs1, .int xs0, .int ((32 * x5v) + 32)]) (rest := []) (μ := m_X12_bits) (pc := 80) dX12_bits_80 cv_X12_332 rfl rfl has2 (by decide) rfl (Nat.le_of_ble_eq_true rfl) (d' := d - 1) (by omega) he_i (c_X12_hasIn wt hl (d := d - 1) (by omega) has2) (fun r_23 => ?_)
    refine w_if_ne 95 (μ := m_X12_bits) (pc := 83) dX12_bits_83 (by decide) (fun c_24 => ?_) (fun c_24 => ?_)
    · refine w_lv [5] rfl ?_
      exact t_J_X12_bits_95 wt hl (by omega) k0 _ _
    · refine w_inb (fun x_25 e_26 => ?_)
      refine w_iinc 5 [(6, .int x_25), (0, .ref a0), (1, .int x1), (3, .int x3), (4, .int x4v), (5, .int x5v)] (μ := m_X12_bits) (pc := 86) dX12_bits_86 rfl (by rw [e_26]; rfl) (by decide) rfl ?_
      refine w_inb (fun x_27 e_28 => ?_)
      refine w_iinc 5 [(5, .int x_27), (6, .int x_25), (0, .ref a0), (1, .int x1), (3, .int x3), (4, .int x4v)] (μ := m_X12_bits) (pc := 89) dX12_bits_89 rfl (by rw [e_28]; rfl) (by decide) rfl ?_
      refine w_goto 46 (μ := m_X12_bits) (pc := 92) dX12_bits_92 (by decide) ?_
      refine w_lv [2, 3, 4, 5, 0, 1] rfl ?_
      exact hk46 _ _ _ _
def L_X12_bits_46 (N : Nat) (g : gp) (a0 : Nat) (x1 : Int32) (x2 : Int32) (x3 : Int32) : Nat → Int32 → Int32 → Int32 → dp → Option (Int32 × dp)
  | 0, _, _, _, _ => none
  | n + 1, x4v, x5v, x6v, δ => if x4v ≤ x5v then (J_X12_bits_95 N g a0 x1 x2 x3 x6v δ) else (if x6v = (1 : Int32) then (J_X12_bits_72 N g a0 x1 x2 x3 (L_X12_bits_46 N g a0 x1 x2 x3 n) (x3 + 1) x1 a0 x4v x5v x6v δ) else (J_X12_bits_72 N g a0 x1 x2 x3 (L_X12_bits_46 N g a0 x1 x2 x3 n) (32 * x5v) x1 a0 x4v x5v x6v δ))
set_option maxHeartbeats 4000000 in
set_option maxRecDepth 100000 in
theorem t_L_X12_bits_46 {l : Launch} {D : va_G} {cy : Nat → ClassId} {N d : Nat} {g : gp} (wt : WT g) (hl : l.stackTraces = false) (hd : 3 ≤ d) {a0 : Nat} {x1 : Int32} {x2 : Int32} {x3 : Int32} (k0 : q_K g a0 = 12) : ∀ (n : Nat) (x4v : Int32) (x5v : Int32) (x6v : Int32) (δ : dp), AWD l D cy m_X12_bits d 0 0 ei g 46 [(0, .ref a0), (1, .int x1), (3, .int x3), (4, .int x4v), (5, .int x5v), (6, .int x6v)] [] δ (L_X12_bits_46 N g a0 x1 x2 x3 n x4v x5v x6v δ) := by
  intro n
  induction n with
  | zero => intro x4v x5v x6v δ ; exact w_none
  | succ n ih =>
    intro x4v x5v x6v δ 
    unfold L_X12_bits_46
    refine w_iload 4 (μ := m_X12_bits) (pc := 46) dX12_bits_46 rfl ?_
    refine w_iload 3 (μ := m_X12_bits) (pc := 48) dX12_bits_48 rfl ?_
    refine w_icmp_ge 95 (μ := m_X12_bits) (pc := 50) dX12_bits_50 (by decide) (fun c_21 => ?_) (fun c_21 => ?_)
    · refine w_lv [5] rfl ?_
      exact t_J_X12_bits_95 wt hl (by omega) k0 _ _
    · refine w_aload_n 0 0 (μ := m_X12_bits) (pc := 53) dX12_bits_53 rfl rfl ?_
      refine w_iload_n 1 1 (μ := m_X12_bits) (pc := 54) dX12_bits_54 rfl rfl ?_
      refine w_iload 5 (μ := m_X12_bits) (pc := 55) dX12_bits_55 rfl ?_
      refine w_iconst (v := 1) (μ := m_X12_bits) (pc := 57) dX12_bits_57 (by decide) ?_
      refine w_icmp_ne 67 (μ := m_X12_bits) (pc := 58) dX12_bits_58 (by decide) (fun c_22 => ?_) (fun c_22 => ?_)
      · refine w_bipush (v := 32) (μ := m_X12_bits) (pc := 67) dX12_bits_67 (by decide) ?_
        refine w_iload 4 (μ := m_X12_bits) (pc := 69) dX12_bits_69 rfl ?_
        refine w_imul (μ := m_X12_bits) (pc := 71) dX12_bits_71 ?_
        exact t_J_X12_bits_72 wt hl (by omega) k0 ih _ _ _ _ _ _ _ k0
      · refine w_iload_n 2 3 (μ := m_X12_bits) (pc := 61) dX12_bits_61 rfl rfl ?_
        refine w_iconst (v := 1) (μ := m_X12_bits) (pc := 62) dX12_bits_62 (by decide) ?_
        refine w_iadd (μ := m_X12_bits) (pc := 63) dX12_bits_63 ?_
        refine w_goto 72 (μ := m_X12_bits) (pc := 64) dX12_bits_64 (by decide) ?_
        exact t_J_X12_bits_72 wt hl (by omega) k0 ih _ _ _ _ _ _ _ k0
def D_X12_bits (N : Nat) (g : gp) (a0 : Nat) (x1 : Int32) (x2 : Int32) (x3 : Int32) (δ : dp) : Option (Int32 × dp) :=
  if (3 : Int32) ≤ x2 then ((D_X12_all N g a0 δ).bind fun r_2 => bi ((r_2.1 - 1) / 32) fun x_3 => if x2 = (3 : Int32) then ((D_X12_all N g a0 r_2.2).bind fun r_17 => if x3 = (r_17.1 - 1) then (some (0, r_17.2)) else (bi ((x3 + 1) / 32) fun x_19 => L_X12_bits_46 N g a0 x1 x2 x3 N x_3 x_19 1 r_17.2)) else (if x3 = 0 then (some (0, r_2.2)) else (bi ((x3 - 1) / 32) fun x_7 => L_X12_bits_115 N g a0 x1 x2 x3 N x_7 1 r_2.2))) else (some (1, δ))
set_option maxHeartbeats 4000000 in
set_option maxRecDepth 100000 in
theorem c_X12_bits {l : Launch} {D : va_G} {cy : Nat → ClassId} {N d : Nat} {g : gp} (wt : WT g) (hl : l.stackTraces = false) (hd : 3 ≤ d) {a0 : Nat} {x1 : Int32} {x2 : Int32} {x3 : Int32} {δ : dp} (k0 : q_K g a0 = 12) : CalD l D cy m_X12_bits d 0 0 ei g [.ref a0, .int x1, .int x2, .int x3] δ (D_X12_bits N g a0 x1 x2 x3 δ) := by
  refine CalD.of (by decide +kernel) (Nat.le_of_ble_eq_true rfl) hl ?_
  unfold D_X12_bits
  refine w_iload_n 2 2 (μ := m_X12_bits) (pc := 0) dX12_bits_0 rfl rfl ?_
  refine w_iconst (v := 3) (μ := m_X12_bits) (pc := 1) dX12_bits_1 (by decide) ?_
  refine w_icmp_ge 7 (μ := m_X12_bits) (pc := 2) dX12_bits_2 (by decide) (fun c_1 => ?_) (fun c_1 => ?_)
  · refine w_aload_n 0 0 (μ := m_X12_bits) (pc := 7) dX12_bits_7 rfl rfl ?_
    refine w_callV (As := []) (rest := []) (μ := m_X12_bits) (pc := 8) dX12_bits_8 cv_X12_257 rfl rfl k0 (by decide) rfl (Nat.le_of_ble_eq_true rfl) (d' := d - 1) (by omega) he_i (c_X12_all wt hl (d := d - 1) (by omega) k0) (fun r_2 => ?_)
    refine w_iconst (v := 1) (μ := m_X12_bits) (pc := 11) dX12_bits_11 (by decide) ?_
    refine w_isub (μ := m_X12_bits) (pc := 12) dX12_bits_12 ?_
    refine w_bipush (v := 32) (μ := m_X12_bits) (pc := 13) dX12_bits_13 (by decide) ?_
    refine w_idiv (μ := m_X12_bits) (pc := 15) dX12_bits_15 (by decide) ?_
    refine w_bi (fun x_3 e_4 => ?_)
    refine w_istore [(4, .int x_3), (0, .ref a0), (1, .int x1), (2, .int x2), (3, .int x3)] (μ := m_X12_bits) (pc := 16) dX12_bits_16 (by decide) rfl ?_
    refine w_iload_n 3 2 (μ := m_X12_bits) (pc := 18) dX12_bits_18 rfl rfl ?_
    refine w_iconst (v := 3) (μ := m_X12_bits) (pc := 19) dX12_bits_19 (by decide) ?_
    refine w_icmp_ne 98 (μ := m_X12_bits) (pc := 20) dX12_bits_20 (by decide) (fun c_5 => ?_) (fun c_5 => ?_)
    · refine w_iload_n 4 3 (μ := m_X12_bits) (pc := 98) dX12_bits_98 rfl rfl ?_
      refine w_if_ne 104 (μ := m_X12_bits) (pc := 99) dX12_bits_99 (by decide) (fun c_6 => ?_) (fun c_6 => ?_)
      · refine w_iload_n 4 3 (μ := m_X12_bits) (pc := 104) dX12_bits_104 rfl rfl ?_
        refine w_iconst (v := 1) (μ := m_X12_bits) (pc := 105) dX12_bits_105 (by decide) ?_
        refine w_isub (μ := m_X12_bits) (pc := 106) dX12_bits_106 ?_
        refine w_bipush (v := 32) (μ := m_X12_bits) (pc := 107) dX12_bits_107 (by decide) ?_
        refine w_idiv (μ := m_X12_bits) (pc := 109) dX12_bits_109 (by decide) ?_
        refine w_bi (fun x_7 e_8 => ?_)
        refine w_istore [(5, .int x_7), (4, .int x_3), (0, .ref a0), (1, .int x1), (2, .int x2), (3, .int x3)] (μ := m_X12_bits) (pc := 110) dX12_bits_110 (by decide) rfl ?_
        refine w_iconst (v := 1) (μ := m_X12_bits) (pc := 112) dX12_bits_112 (by decide) ?_
        refine w_istore [(6, .int 1), (5, .int x_7), (4, .int x_3), (0, .ref a0), (1, .int x1), (2, .int x2), (3, .int x3)] (μ := m_X12_bits) (pc := 113) dX12_bits_113 (by decide) rfl ?_
        refine w_lv [3, 4, 6, 1, 0] rfl ?_
        exact t_L_X12_bits_115 wt hl (by omega) k0 N _ _ _
      · refine w_iconst (v := 0) (μ := m_X12_bits) (pc := 102) dX12_bits_102 (by decide) ?_
        exact w_iret (μ := m_X12_bits) (pc := 103) dX12_bits_103 rfl rfl
    · refine w_iload_n 4 3 (μ := m_X12_bits) (pc := 23) dX12_bits_23 rfl rfl ?_
      refine w_aload_n 1 0 (μ := m_X12_bits) (pc := 24) dX12_bits_24 rfl rfl ?_
      refine w_callV (As := []) (rest := [.int x3]) (μ := m_X12_bits) (pc := 25) dX12_bits_25 cv_X12_257 rfl rfl k0 (by decide) rfl (Nat.le_of_ble_eq_true rfl) (d' := d - 1) (by omega) he_i (c_X12_all wt hl (d := d - 1) (by omega) k0) (fun r_17 => ?_)
      refine w_iconst (v := 1) (μ := m_X12_bits) (pc := 28) dX12_bits_28 (by decide) ?_
      refine w_isub (μ := m_X12_bits) (pc := 29) dX12_bits_29 ?_
      refine w_icmp_ne 35 (μ := m_X12_bits) (pc := 30) dX12_bits_30 (by decide) (fun c_18 => ?_) (fun c_18 => ?_)
      · refine w_iload_n 4 3 (μ := m_X12_bits) (pc := 35) dX12_bits_35 rfl rfl ?_
        refine w_iconst (v := 1) (μ := m_X12_bits) (pc := 36) dX12_bits_36 (by decide) ?_
        refine w_iadd (μ := m_X12_bits) (pc := 37) dX12_bits_37 ?_
        refine w_bipush (v := 32) (μ := m_X12_bits) (pc := 38) dX12_bits_38 (by decide) ?_
        refine w_idiv (μ := m_X12_bits) (pc := 40) dX12_bits_40 (by decide) ?_
        refine w_bi (fun x_19 e_20 => ?_)
        refine w_istore [(5, .int x_19), (4, .int x_3), (0, .ref a0), (1, .int x1), (2, .int x2), (3, .int x3)] (μ := m_X12_bits) (pc := 41) dX12_bits_41 (by decide) rfl ?_
        refine w_iconst (v := 1) (μ := m_X12_bits) (pc := 43) dX12_bits_43 (by decide) ?_
        refine w_istore [(6, .int 1), (5, .int x_19), (4, .int x_3), (0, .ref a0), (1, .int x1), (2, .int x2), (3, .int x3)] (μ := m_X12_bits) (pc := 44) dX12_bits_44 (by decide) rfl ?_
        refine w_lv [3, 4, 6, 2, 1, 0] rfl ?_
        exact t_L_X12_bits_46 wt hl (by omega) k0 N _ _ _ _
      · refine w_iconst (v := 0) (μ := m_X12_bits) (pc := 33) dX12_bits_33 (by decide) ?_
        exact w_iret (μ := m_X12_bits) (pc := 34) dX12_bits_34 rfl rfl
  · refine w_iconst (v := 1) (μ := m_X12_bits) (pc := 5) dX12_bits_5 (by decide) ?_
    exact w_iret (μ := m_X12_bits) (pc := 6) dX12_bits_6 rfl rfl
def J_X12_sorted_206 (N : Nat) (g : gp) (a0 : Nat) (x1 : Int32) (x2 : Int32) (x3 : Int32) (x7v : Int32) (δ : dp) : Option (Int32 × dp) :=
  some (x7v, δ)
set_option maxHeartbeats 4000000 in
set_option maxRecDepth 100000 in
theorem t_J_X12_sorted_206 {l : Launch} {D : va_G} {cy : Nat → ClassId} {N d : Nat} {g : gp} (wt : WT g) (hl : l.stackTraces = false) (hd : 1 ≤ d) {a0 : Nat} {x1 : Int32} {x2 : Int32} {x3 : Int32} (k0 : q_K g a0 = 12) : ∀ (x7v : Int32) (δ : dp), AWD l D cy m_X12_sorted d 0 0 ei g 206 [(7, .int x7v)] [] δ (J_X12_sorted_206 N g a0 x1 x2 x3 x7v δ) := by
    intro x7v δ 
    unfold J_X12_sorted_206
    refine w_iload 0 (μ := m_X12_sorted) (pc := 206) dX12_sorted_206 rfl ?_
    exact w_iret (μ := m_X12_sorted) (pc := 208) dX12_sorted_208 rfl rfl
def J_X12_sorted_180 (N : Nat) (g : gp) (a0 : Nat) (x1 : Int32) (x2 : Int32) (x3 : Int32) (x5v : Int32) (x7v : Int32) (x8v : Int32) (δ : dp) : Option (Int32 × dp) :=
  if x2 = (1 : Int32) then (if x8v = 0 then (J_X12_sorted_206 N g a0 x1 x2 x3 x7v δ) else ((q_O g 12 14 a0).bind fun b_19 => if x1 < 0 ∨ q_N g b_19 ≤ x1.toNatClampNeg then none else bi (x7v + (((q_R δ b_19 x1.toNatClampNeg) - x5v) - 1)) fun x_21 => J_X12_sorted_206 N g a0 x1 x2 x3 x_21 δ)) else (J_X12_sorted_206 N g a0 x1 x2 x3 x7v δ)
set_option maxHeartbeats 4000000 in
set_option maxRecDepth 100000 in
theorem t_J_X12_sorted_180 {l : Launch} {D : va_G} {cy : Nat → ClassId} {N d : Nat} {g : gp} (wt : WT g) (hl : l.stackTraces = false) (hd : 1 ≤ d) {a0 : Nat} {x1 : Int32} {x2 : Int32} {x3 : Int32} (k0 : q_K g a0 = 12) : ∀ (x5v : Int32) (x7v : Int32) (x8v : Int32) (δ : dp), AWD l D cy m_X12_sorted d 0 0 ei g 180 [(0, .ref a0), (1, .int x1), (2, .int x2), (5, .int x5v), (7, .int x7v), (8, .int x8v)] [] δ (J_X12_sorted_180 N g a0 x1 x2 x3 x5v x7v x8v δ) := by
    intro x5v x7v x8v δ 
    unfold J_X12_sorted_180
    refine w_iload_n 2 2 (μ := m_X12_sorted) (pc := 180) dX12_sorted_180 rfl rfl ?_
    refine w_iconst (v := 1) (μ := m_X12_sorted) (pc := 181) dX12_sorted_181 (by decide) ?_
    refine w_icmp_ne 206 (μ := m_X12_sorted) (pc := 182) dX12_sorted_182 (by decide) (fun c_17 => ?_) (fun c_17 => ?_)
    · refine w_lv [4] rfl ?_
      exact t_J_X12_sorted_206 wt hl (by omega) k0 _ _
    · refine w_iload 5 (μ := m_X12_sorted) (pc := 185) dX12_sorted_185 rfl ?_
      refine w_if_eq 206 (μ := m_X12_sorted) (pc := 187) dX12_sorted_187 (by decide) (fun c_18 => ?_) (fun c_18 => ?_)
      · refine w_lv [4] rfl ?_
        exact t_J_X12_sorted_206 wt hl (by omega) k0 _ _
      · refine w_iload 4 (μ := m_X12_sorted) (pc := 190) dX12_sorted_190 rfl ?_
        refine w_aload_n 0 0 (μ := m_X12_sorted) (pc := 192) dX12_sorted_192 rfl rfl ?_
        refine w_getO (μ := m_X12_sorted) (pc := 193) dX12_sorted_193 fl_X12_36 ir_12_14 id_12_14 k0 (fun b_19 e_20 => ?_)
        refine w_iload_n 1 1 (μ := m_X12_sorted) (pc := 196) dX12_sorted_196 rfl rfl ?_
        refine w_ald (μ := m_X12_sorted) (pc := 197) dX12_sorted_197 (wt_12_14 wt k0 e_20) ?_
        refine w_iload 3 (μ := m_X12_sorted) (pc := 198) dX12_sorted_198 rfl ?_
        refine w_isub (μ := m_X12_sorted) (pc := 200) dX12_sorted_200 ?_
        refine w_iconst (v := 1) (μ := m_X12_sorted) (pc := 201) dX12_sorted_201 (by decide) ?_
        refine w_isub (μ := m_X12_sorted) (pc := 202) dX12_sorted_202 ?_
        refine w_iadd (μ := m_X12_sorted) (pc := 203) dX12_sorted_203 ?_
        refine w_bi (fun x_21 e_22 => ?_)
        refine w_istore [(7, .int x_21), (0, .ref a0), (1, .int x1), (2, .int x2), (5, .int x5v), (8, .int x8v)] (μ := m_X12_sorted) (pc := 204) dX12_sorted_204 (by decide) rfl ?_
        refine w_lv [0] rfl ?_
        exact t_J_X12_sorted_206 wt hl (by omega) k0 _ _
def J_X12_sorted_153 (N : Nat) (g : gp) (a0 : Nat) (x1 : Int32) (x2 : Int32) (x3 : Int32) (xs0 : Int32) (x5v : Int32) (x7v : Int32) (δ : dp) : Option (Int32 × dp) :=
  if x2 = 0 then (if xs0 = 0 then ((q_O g 12 14 a0).bind fun b_24 => if x1 < 0 ∨ q_N g b_24 ≤ x1.toNatClampNeg then none else bi (x7v + (((q_R δ b_24 x1.toNatClampNeg) - x5v) + 1)) fun x_26 => J_X12_sorted_180 N g a0 x1 x2 x3 x5v x_26 xs0 δ) else (J_X12_sorted_180 N g a0 x1 x2 x3 x5v x7v xs0 δ)) else (J_X12_sorted_180 N g a0 x1 x2 x3 x5v x7v xs0 δ)
set_option maxHeartbeats 4000000 in
set_option maxRecDepth 100000 in
theorem t_J_X12_sorted_153 {l : Launch} {D : va_G} {cy : Nat → ClassId} {N d : Nat} {g : gp} (wt : WT g) (hl : l.stackTraces = false) (hd : 1 ≤ d) {a0 : Nat} {x1 : Int32} {x2 : Int32} {x3 : Int32} (k0 : q_K g a0 = 12) : ∀ (xs0 : Int32) (x5v : Int32) (x7v : Int32) (δ : dp), AWD l D cy m_X12_sorted d 0 0 ei g 153 [(0, .ref a0), (1, .int x1), (2, .int x2), (5, .int x5v), (7, .int x7v)] [.int xs0] δ (J_X12_sorted_153 N g a0 x1 x2 x3 xs0 x5v x7v δ) := by
    intro xs0 x5v x7v δ 
    unfold J_X12_sorted_153
    refine w_istore [(8, .int xs0), (0, .ref a0), (1, .int x1), (2, .int x2), (5, .int x5v), (7, .int x7v)] (μ := m_X12_sorted) (pc := 153) dX12_sorted_153 (by decide) rfl ?_
    refine w_iload_n 3 2 (μ := m_X12_sorted) (pc := 155) dX12_sorted_155 rfl rfl ?_
    refine w_if_ne 180 (μ := m_X12_sorted) (pc := 156) dX12_sorted_156 (by decide) (fun c_16 => ?_) (fun c_16 => ?_)
    · refine w_lv [1, 2, 3, 4, 5, 0] rfl ?_
      exact t_J_X12_sorted_180 wt hl (by omega) k0 _ _ _ _
    · refine w_iload 0 (μ := m_X12_sorted) (pc := 159) dX12_sorted_159 rfl ?_
      refine w_if_ne 180 (μ := m_X12_sorted) (pc := 161) dX12_sorted_161 (by decide) (fun c_23 => ?_) (fun c_23 => ?_)
      · refine w_lv [1, 2, 3, 4, 5, 0] rfl ?_
        exact t_J_X12_sorted_180 wt hl (by omega) k0 _ _ _ _
      · refine w_iload 5 (μ := m_X12_sorted) (pc := 164) dX12_sorted_164 rfl ?_
        refine w_aload_n 1 0 (μ := m_X12_sorted) (pc := 166) dX12_sorted_166 rfl rfl ?_
        refine w_getO (μ := m_X12_sorted) (pc := 167) dX12_sorted_167 fl_X12_36 ir_12_14 id_12_14 k0 (fun b_24 e_25 => ?_)
        refine w_iload_n 2 1 (μ := m_X12_sorted) (pc := 170) dX12_sorted_170 rfl rfl ?_
        refine w_ald (μ := m_X12_sorted) (pc := 171) dX12_sorted_171 (wt_12_14 wt k0 e_25) ?_
        refine w_iload 4 (μ := m_X12_sorted) (pc := 172) dX12_sorted_172 rfl ?_
        refine w_isub (μ := m_X12_sorted) (pc := 174) dX12_sorted_174 ?_
        refine w_iconst (v := 1) (μ := m_X12_sorted) (pc := 175) dX12_sorted_175 (by decide) ?_
        refine w_iadd (μ := m_X12_sorted) (pc := 176) dX12_sorted_176 ?_
        refine w_iadd (μ := m_X12_sorted) (pc := 177) dX12_sorted_177 ?_
        refine w_bi (fun x_26 e_27 => ?_)
        refine w_istore [(7, .int x_26), (8, .int xs0), (0, .ref a0), (1, .int x1), (2, .int x2), (5, .int x5v)] (μ := m_X12_sorted) (pc := 178) dX12_sorted_178 (by decide) rfl ?_
        refine w_lv [2, 3, 4, 5, 0, 1] rfl ?_
        exact t_J_X12_sorted_180 wt hl (by omega) k0 _ _ _ _
def J_X12_sorted_152 (N : Nat) (g : gp) (a0 : Nat) (x1 : Int32) (x2 : Int32) (x3 : Int32) (x5v : Int32) (x7v : Int32) (δ : dp) : Option (Int32 × dp) :=
  J_X12_sorted_153 N g a0 x1 x2 x3 0 x5v x7v δ
set_option maxHeartbeats 4000000 in
set_option maxRecDepth 100000 in
theorem t_J_X12_sorted_152 {l : Launch} {D : va_G} {cy : Nat → ClassId} {N d : Nat} {g : gp} (wt : WT g) (hl : l.stackTraces = false) (hd : 1 ≤ d) {a0 : Nat} {x1 : Int32} {x2 : Int32} {x3 : Int32} (k0 : q_K g a0 = 12) : ∀ (x5v : Int32) (x7v : Int32) (δ : dp), AWD l D cy m_X12_sorted d 0 0 ei g 152 [(0, .ref a0), (1, .int x1), (2, .int x2), (5, .int x5v), (7, .int x7v)] [] δ (J_X12_sorted_152 N g a0 x1 x2 x3 x5v x7v δ) := by
    intro x5v x7v δ 
    unfold J_X12_sorted_152
    refine w_iconst (v := 0) (μ := m_X12_sorted) (pc := 152) dX12_sorted_152 (by decide) ?_
    exact t_J_X12_sorted_153 wt hl (by omega) k0 _ _ _ _
def J_X12_sorted_117 (N : Nat) (g : gp) (a0 : Nat) (x1 : Int32) (x2 : Int32) (x3 : Int32) (xs0 : Int32) (xs1 : Int32) (x5v : Int32) (δ : dp) : Option (Int32 × dp) :=
  bi (xs1 + xs0) fun x_11 => (q_O g 12 14 a0).bind fun b_13 => if x1 < 0 ∨ q_N g b_13 ≤ x1.toNatClampNeg then none else if (q_R δ b_13 x1.toNatClampNeg) ≤ x5v then (J_X12_sorted_152 N g a0 x1 x2 x3 x5v x_11 δ) else ((q_O g 12 13 a0).bind fun b_28 => if ((2000 * x1) + x5v) < 0 ∨ q_N g b_28 ≤ ((2000 * x1) + x5v).toNatClampNeg then none else if (q_R δ b_28 ((2000 * x1) + x5v).toNatClampNeg) = x3 then (J_X12_sorted_153 N g a0 x1 x2 x3 1 x5v x_11 δ) else (J_X12_sorted_152 N g a0 x1 x2 x3 x5v x_11 δ))
set_option maxHeartbeats 4000000 in
set_option maxRecDepth 100000 in
theorem t_J_X12_sorted_117 {l : Launch} {D : va_G} {cy : Nat → ClassId} {N d : Nat} {g : gp} (wt : WT g) (hl : l.stackTraces = false) (hd : 1 ≤ d) {a0 : Nat} {x1 : Int32} {x2 : Int32} {x3 : Int32} (k0 : q_K g a0 = 12) : ∀ (xs0 : Int32) (xs1 : Int32) (x5v : Int32) (δ : dp), AWD l D cy m_X12_sorted d 0 0 ei g 117 [(0, .ref a0), (1, .int x1), (2, .int x2), (3, .int x3), (5, .int x5v)] [.int xs0, .int xs1] δ (J_X12_sorted_117 N g a0 x1 x2 x3 xs0 xs1 x5v δ) := by
    intro xs0 xs1 x5v δ 
    unfold J_X12_sorted_117
    refine w_iadd (μ := m_X12_sorted) (pc := 117) dX12_sorted_117 ?_
    refine w_bi (fun x_11 e_12 => ?_)
    refine w_istore [(7, .int x_11), (0, .ref a0), (1, .int x1), (2, .int x2), (3, .int x3), (5, .int x5v)] (μ := m_X12_sorted) (pc := 118) dX12_sorted_118 (by decide) rfl ?_
    refine w_iload 5 (μ := m_X12_sorted) (pc := 120) dX12_sorted_120 rfl ?_
    refine w_aload_n 1 0 (μ := m_X12_sorted) (pc := 122) dX12_sorted_122 rfl rfl ?_
    refine w_getO (μ := m_X12_sorted) (pc := 123) dX12_sorted_123 fl_X12_36 ir_12_14 id_12_14 k0 (fun b_13 e_14 => ?_)
    refine w_iload_n 2 1 (μ := m_X12_sorted) (pc := 126) dX12_sorted_126 rfl rfl ?_
    refine w_ald (μ := m_X12_sorted) (pc := 127) dX12_sorted_127 (wt_12_14 wt k0 e_14) ?_
    refine w_icmp_ge 152 (μ := m_X12_sorted) (pc := 128) dX12_sorted_128 (by decide) (fun c_15 => ?_) (fun c_15 => ?_)
    · refine w_lv [1, 2, 3, 5, 0] rfl ?_
      exact t_J_X12_sorted_152 wt hl (by omega) k0 _ _ _
    · refine w_aload_n 1 0 (μ := m_X12_sorted) (pc := 131) dX12_sorted_131 rfl rfl ?_
      refine w_getO (μ := m_X12_sorted) (pc := 132) dX12_sorted_132 fl_X12_33 ir_12_13 id_12_13 k0 (fun b_28 e_29 => ?_)
      refine w_sipush (v := 2000) (μ := m_X12_sorted) (pc := 135) dX12_sorted_135 (by decide) ?_
      refine w_iload_n 2 1 (μ := m_X12_sorted) (pc := 138) dX12_sorted_138 rfl rfl ?_
      refine w_imul (μ := m_X12_sorted) (pc := 139) dX12_sorted_139 ?_
      refine w_iload 5 (μ := m_X12_sorted) (pc := 140) dX12_sorted_140 rfl ?_
      refine w_iadd (μ := m_X12_sorted) (pc := 142) dX12_sorted_142 ?_
      refine w_ald (μ := m_X12_sorted) (pc := 143) dX12_sorted_143 (wt_12_13 wt k0 e_29) ?_
      refine w_iload_n 4 3 (μ := m_X12_sorted) (pc := 144) dX12_sorted_144 rfl rfl ?_
      refine w_icmp_ne 152 (μ := m_X12_sorted) (pc := 145) dX12_sorted_145 (by decide) (fun c_30 => ?_) (fun c_30 => ?_)
      · refine w_lv [1, 2, 3, 5, 0] rfl ?_
        exact t_J_X12_sorted_152 wt hl (by omega) k0 _ _ _
      · refine w_iconst (v := 1) (μ := m_X12_sorted) (pc := 148) dX12_sorted_148 (by decide) ?_
        refine w_goto 153 (μ := m_X12_sorted) (pc := 149) dX12_sorted_149 (by decide) ?_
        refine w_lv [1, 2, 3, 5, 0] rfl ?_
        exact t_J_X12_sorted_153 wt hl (by omega) k0 _ _ _ _
def J_X12_sorted_78 (N : Nat) (g : gp) (a0 : Nat) (x1 : Int32) (x2 : Int32) (x3 : Int32) (kt28 : Int32 → Int32 → Int32 → Int32 → dp → Option (Int32 × dp)) (x4v : Int32) (x5v : Int32) (x6v : Int32) (x7v : Int32) (δ : dp) : Option (Int32 × dp) :=
  kt28 x4v x5v x6v x7v δ
set_option maxHeartbeats 4000000 in
set_option maxRecDepth 100000 in
theorem t_J_X12_sorted_78 {l : Launch} {D : va_G} {cy : Nat → ClassId} {N d : Nat} {g : gp} (wt : WT g) (hl : l.stackTraces = false) (hd : 1 ≤ d) {a0 : Nat} {x1 : Int32} {x2 : Int32} {x3 : Int32} (k0 : q_K g a0 = 12) {kt28 : Int32 → Int32 → Int32 → Int32 → dp → Option (Int32 × dp)} (hk28 : ∀ (x4v : Int32) (x5v : Int32) (x6v : Int32) (x7v : Int32) (δ : dp), AWD l D cy m_X12_sorted d 0 0 ei g 28 [(0, .ref a0), (1, .int x1), (2, .int x2), (3, .int x3), (4, .int x4v), (5, .int x5v), (6, .int x6v), (7, .int x7v)] [] δ (kt28 x4v x5v x6v x7v δ)) : ∀ (x4v : Int32) (x5v : Int32) (x6v : Int32) (x7v : Int32) (δ : dp), AWD l D cy m_X12_sorted d 0 0 ei g 78 [(0, .ref a0), (1, .int x1), (2, .int x2), (3, .int x3), (4, .int x4v), (5, .int x5v), (6, .int x6v), (7, .int x7v)] [] δ (J_X12_sorted_78 N g a0 x1 x2 x3 kt28 x4v x5v x6v x7v δ) := by
    intro x4v x5v x6v x7v δ 
    unfold J_X12_sorted_78
    refine w_goto 28 (μ := m_X12_sorted) (pc := 78) dX12_sorted_78 (by decide) ?_
    exact hk28 _ _ _ _ _
def L_X12_sorted_28 (N : Nat) (g : gp) (a0 : Nat) (x1 : Int32) (x2 : Int32) (x3 : Int32) : Nat → Int32 → Int32 → Int32 → Int32 → dp → Option (Int32 × dp)
  | 0, _, _, _, _, _ => none
  | n + 1, x4v, x5v, x6v, x7v, δ => if x6v ≤ x5v then (if x2 = (4 : Int32) then (if x5v ≤ 0 then (J_X12_sorted_117 N g a0 x1 x2 x3 0 x7v x5v δ) else (J_X12_sorted_117 N g a0 x1 x2 x3 1 x7v x5v δ)) else ((q_O g 12 14 a0).bind fun b_8 => if x1 < 0 ∨ q_N g b_8 ≤ x1.toNatClampNeg then none else if (q_R δ b_8 x1.toNatClampNeg) ≤ x5v then (J_X12_sorted_117 N g a0 x1 x2 x3 0 x7v x5v δ) else (J_X12_sorted_117 N g a0 x1 x2 x3 1 x7v x5v δ))) else (bi ((x5v + x6v) / 2) fun x_32 => bi (x7v + 1) fun x_34 => (q_O g 12 13 a0).bind fun b_36 => if ((2000 * x1) + x_32) < 0 ∨ q_N g b_36 ≤ ((2000 * x1) + x_32).toNatClampNeg then none else if x4v ≤ (q_R δ b_36 ((2000 * x1) + x_32).toNatClampNeg) then (J_X12_sorted_78 N g a0 x1 x2 x3 (L_X12_sorted_28 N g a0 x1 x2 x3 n) x4v x5v x_32 x_34 δ) else (bi (x_32 + 1) fun x_39 => J_X12_sorted_78 N g a0 x1 x2 x3 (L_X12_sorted_28 N g a0 x1 x2 x3 n) x4v x_39 x6v x_34 δ))
set_option maxHeartbeats 4000000 in
set_option maxRecDepth 100000 in
theorem t_L_X12_sorted_28 {l : Launch} {D : va_G} {cy : Nat → ClassId} {N d : Nat} {g : gp} (wt : WT g) (hl : l.stackTraces = false) (hd : 1 ≤ d) {a0 : Nat} {x1 : Int32} {x2 : Int32} {x3 : Int32} (k0 : q_K g a0 = 12) : ∀ (n : Nat) (x4v : Int32) (x5v : Int32) (x6v : Int32) (x7v : Int32) (δ : dp), AWD l D cy m_X12_sorted d 0 0 ei g 28 [(0, .ref a0), (1, .int x1), (2, .int x2), (3, .int x3), (4, .int x4v), (5, .int x5v), (6, .int x6v), (7, .int x7v)] [] δ (L_X12_sorted_28 N g a0 x1 x2 x3 n x4v x5v x6v x7v δ) := by
  intro n
  induction n with
  | zero => intro x4v x5v x6v x7v δ ; exact w_none
  | succ n ih =>
    intro x4v x5v x6v x7v δ 
    unfold L_X12_sorted_28
    refine w_iload 5 (μ := m_X12_sorted) (pc := 28) dX12_sorted_28 rfl ?_
    refine w_iload 6 (μ := m_X12_sorted) (pc := 30) dX12_sorted_30 rfl ?_
    refine w_icmp_ge 81 (μ := m_X12_sorted) (pc := 32) dX12_sorted_32 (by decide) (fun c_6 => ?_) (fun c_6 => ?_)
    · refine w_iload 7 (μ := m_X12_sorted) (pc := 81) dX12_sorted_81 rfl ?_
      refine w_iload_n 2 2 (μ := m_X12_sorted) (pc := 83) dX12_sorted_83 rfl rfl ?_
      refine w_iconst (v := 4) (μ := m_X12_sorted) (pc := 84) dX12_sorted_84 (by decide) ?_
      refine w_icmp_ne 101 (μ := m_X12_sorted) (pc := 85) dX12_sorted_85 (by decide) (fun c_7 => ?_) (fun c_7 => ?_)
      · refine w_iload 5 (μ := m_X12_sorted) (pc := 101) dX12_sorted_101 rfl ?_
        refine w_aload_n 0 0 (μ := m_X12_sorted) (pc := 103) dX12_sorted_103 rfl rfl ?_
        refine w_getO (μ := m_X12_sorted) (pc := 104) dX12_sorted_104 fl_X12_36 ir_12_14 id_12_14 k0 (fun b_8 e_9 => ?_)
        refine w_iload_n 1 1 (μ := m_X12_sorted) (pc := 107) dX12_sorted_107 rfl rfl ?_
        refine w_ald (μ := m_X12_sorted) (pc := 108) dX12_sorted_108 (wt_12_14 wt k0 e_9) ?_
        refine w_icmp_ge 116 (μ := m_X12_sorted) (pc := 109) dX12_sorted_109 (by decide) (fun c_10 => ?_) (fun c_10 => ?_)
        · refine w_iconst (v := 0) (μ := m_X12_sorted) (pc := 116) dX12_sorted_116 (by decide) ?_
          refine w_lv [0, 1, 2, 3, 5] rfl ?_
          exact t_J_X12_sorted_117 wt hl (by omega) k0 _ _ _ _
        · refine w_iconst (v := 1) (μ := m_X12_sorted) (pc := 112) dX12_sorted_112 (by decide) ?_
          refine w_goto 117 (μ := m_X12_sorted) (pc := 113) dX12_sorted_113 (by decide) ?_
          refine w_lv [0, 1, 2, 3, 5] rfl ?_
          exact t_J_X12_sorted_117 wt hl (by omega) k0 _ _ _ _
      · refine w_iload 5 (μ := m_X12_sorted) (pc := 88) dX12_sorted_88 rfl ?_
        refine w_if_le 97 (μ := m_X12_sorted) (pc := 90) dX12_sorted_90 (by decide) (fun c_31 => ?_) (fun c_31 => ?_)
        · refine w_iconst (v := 0) (μ := m_X12_sorted) (pc := 97) dX12_sorted_97 (by decide) ?_
          refine w_goto 117 (μ := m_X12_sorted) (pc := 98) dX12_sorted_98 (by decide) ?_
          refine w_lv [0, 1, 2, 3, 5] rfl ?_
          exact t_J_X12_sorted_117 wt hl (by omega) k0 _ _ _ _
        · refine w_iconst (v := 1) (μ := m_X12_sorted) (pc := 93) dX12_sorted_93 (by decide) ?_
          refine w_goto 117 (μ := m_X12_sorted) (pc := 94) dX12_sorted_94 (by decide) ?_
          refine w_lv [0, 1, 2, 3, 5] rfl ?_
          exact t_J_X12_sorted_117 wt hl (by omega) k0 _ _ _ _
    · refine w_iload 5 (μ := m_X12_sorted) (pc := 35) dX12_sorted_35 rfl ?_
      refine w_iload 6 (μ := m_X12_sorted) (pc := 37) dX12_sorted_37 rfl ?_
      refine w_iadd (μ := m_X12_sorted) (pc := 39) dX12_sorted_39 ?_
      refine w_iconst (v := 2) (μ := m_X12_sorted) (pc := 40) dX12_sorted_40 (by decide) ?_
      refine w_idiv (μ := m_X12_sorted) (pc := 41) dX12_sorted_41 (by decide) ?_
      refine w_bi (fun x_32 e_33 => ?_)
      refine w_istore [(8, .int x_32), (0, .ref a0), (1, .int x1), (2, .int x2), (3, .int x3), (4, .int x4v), (5, .int x5v), (6, .int x6v), (7, .int x7v)] (μ := m_X12_sorted) (pc := 42) dX12_sorted_42 (by decide) rfl ?_
      refine w_inb (fun x_34 e_35 => ?_)
      refine w_iinc 8 [(7, .int x_34), (8, .int x_32), (0, .ref a0), (1, .int x1), (2, .int x2), (3, .int x3), (4, .int x4v), (5, .int x5v), (6, .int x6v)] (μ := m_X12_sorted) (pc := 44) dX12_sorted_44 rfl (by rw [e_35]; rfl) (by decide) rfl ?_
      refine w_aload_n 2 0 (μ := m_X12_sorted) (pc := 47) dX12_sorted_47 rfl rfl ?_
      refine w_getO (μ := m_X12_sorted) (pc := 48) dX12_sorted_48 fl_X12_33 ir_12_13 id_12_13 k0 (fun b_36 e_37 => ?_)
      refine w_sipush (v := 2000) (μ := m_X12_sorted) (pc := 51) dX12_sorted_51 (by decide) ?_
      refine w_iload_n 3 1 (μ := m_X12_sorted) (pc := 54) dX12_sorted_54 rfl rfl ?_
      refine w_imul (μ := m_X12_sorted) (pc := 55) dX12_sorted_55 ?_
      refine w_iload 1 (μ := m_X12_sorted) (pc := 56) dX12_sorted_56 rfl ?_
      refine w_iadd (μ := m_X12_sorted) (pc := 58) dX12_sorted_58 ?_
      refine w_ald (μ := m_X12_sorted) (pc := 59) dX12_sorted_59 (wt_12_13 wt k0 e_37) ?_
      refine w_iload 6 (μ := m_X12_sorted) (pc := 60) dX12_sorted_60 rfl ?_
      refine w_icmp_ge 74 (μ := m_X12_sorted) (pc := 62) dX12_sorted_62 (by decide) (fun c_38 => ?_) (fun c_38 => ?_)
      · refine w_iload 1 (μ := m_X12_sorted) (pc := 74) dX12_sorted_74 rfl ?_
        refine w_istore [(6, .int x_32), (7, .int x_34), (8, .int x_32), (0, .ref a0), (1, .int x1), (2, .int x2), (3, .int x3), (4, .int x4v), (5, .int x5v)] (μ := m_X12_sorted) (pc := 76) dX12_sorted_76 (by decide) rfl ?_
        refine w_lv [3, 4, 5, 6, 7, 8, 0, 1] rfl ?_
        exact t_J_X12_sorted_78 wt hl (by omega) k0 ih _ _ _ _ _
      · refine w_iload 1 (μ := m_X12_sorted) (pc := 65) dX12_sorted_65 rfl ?_
        refine w_iconst (v := 1) (μ := m_X12_sorted) (pc := 67) dX12_sorted_67 (by decide) ?_
        refine w_iadd (μ := m_X12_sorted) (pc := 68) dX12_sorted_68 ?_
        refine w_bi (fun x_39 e_40 => ?_)
        refine w_istore [(5, .int x_39), (7, .int x_34), (8, .int x_32), (0, .ref a0), (1, .int x1), (2, .int x2), (3, .int x3), (4, .int x4v), (6, .int x6v)] (μ := m_X12_sorted) (pc := 69) dX12_sorted_69 (by decide) rfl ?_
        refine w_goto 78 (μ := m_X12_sorted) (pc := 71) dX12_sorted_71 (by decide) ?_
        refine w_lv [3, 4, 5, 6, 7, 0, 8, 1] rfl ?_
        exact t_J_X12_sorted_78 wt hl (by omega) k0 ih _ _ _ _ _
def J_X12_sorted_12 (N : Nat) (g : gp) (a0 : Nat) (x1 : Int32) (x2 : Int32) (x3 : Int32) (xs0 : Int32) (δ : dp) : Option (Int32 × dp) :=
  (q_O g 12 14 a0).bind fun b_2 => if x1 < 0 ∨ q_N g b_2 ≤ x1.toNatClampNeg then none else bi (q_R δ b_2 x1.toNatClampNeg) fun x_4 => L_X12_sorted_28 N g a0 x1 x2 x3 N xs0 0 x_4 0 δ
set_option maxHeartbeats 4000000 in
set_option maxRecDepth 100000 in
theorem t_J_X12_sorted_12 {l : Launch} {D : va_G} {cy : Nat → ClassId} {N d : Nat} {g : gp} (wt : WT g) (hl : l.stackTraces = false) (hd : 1 ≤ d) {a0 : Nat} {x1 : Int32} {x2 : Int32} {x3 : Int32} (k0 : q_K g a0 = 12) : ∀ (xs0 : Int32) (δ : dp), AWD l D cy m_X12_sorted d 0 0 ei g 12 [(0, .ref a0), (1, .int x1), (2, .int x2), (3, .int x3)] [.int xs0] δ (J_X12_sorted_12 N g a0 x1 x2 x3 xs0 δ) := by
    intro xs0 δ 
    unfold J_X12_sorted_12
    refine w_istore [(4, .int xs0), (0, .ref a0), (1, .int x1), (2, .int x2), (3, .int x3)] (μ := m_X12_sorted) (pc := 12) dX12_sorted_12 (by decide) rfl ?_
    refine w_iconst (v := 0) (μ := m_X12_sorted) (pc := 14) dX12_sorted_14 (by decide) ?_
    refine w_istore [(5, .int 0), (4, .int xs0), (0, .ref a0), (1, .int x1), (2, .int x2), (3, .int x3)] (μ := m_X12_sorted) (pc := 15) dX12_sorted_15 (by decide) rfl ?_
    refine w_aload_n 2 0 (μ := m_X12_sorted) (pc := 17) dX12_sorted_17 rfl rfl ?_
    refine w_getO (μ := m_X12_sorted) (pc := 18) dX12_sorted_18 fl_X12_36 ir_12_14 id_12_14 k0 (fun b_2 e_3 => ?_)
    refine w_iload_n 3 1 (μ := m_X12_sorted) (pc := 21) dX12_sorted_21 rfl rfl ?_
    refine w_ald (μ := m_X12_sorted) (pc := 22) dX12_sorted_22 (wt_12_14 wt k0 e_3) ?_
    refine w_bi (fun x_4 e_5 => ?_)
    refine w_istore [(6, .int x_4), (5, .int 0), (4, .int xs0), (0, .ref a0), (1, .int x1), (2, .int x2), (3, .int x3)] (μ := m_X12_sorted) (pc := 23) dX12_sorted_23 (by decide) rfl ?_
    refine w_iconst (v := 0) (μ := m_X12_sorted) (pc := 25) dX12_sorted_25 (by decide) ?_
    refine w_istore [(7, .int 0), (6, .int x_4), (5, .int 0), (4, .int xs0), (0, .ref a0), (1, .int x1), (2, .int x2), (3, .int x3)] (μ := m_X12_sorted) (pc := 26) dX12_sorted_26 (by decide) rfl ?_
    refine w_lv [4, 5, 6, 7, 3, 2, 1, 0] rfl ?_
    exact t_L_X12_sorted_28 wt hl (by omega) k0 N _ _ _ _ _
def D_X12_sorted (N : Nat) (g : gp) (a0 : Nat) (x1 : Int32) (x2 : Int32) (x3 : Int32) (δ : dp) : Option (Int32 × dp) :=
  if x2 = (3 : Int32) then (J_X12_sorted_12 N g a0 x1 x2 x3 (x3 + 1) δ) else (J_X12_sorted_12 N g a0 x1 x2 x3 x3 δ)
set_option maxHeartbeats 4000000 in
set_option maxRecDepth 100000 in
theorem c_X12_sorted {l : Launch} {D : va_G} {cy : Nat → ClassId} {N d : Nat} {g : gp} (wt : WT g) (hl : l.stackTraces = false) (hd : 1 ≤ d) {a0 : Nat} {x1 : Int32} {x2 : Int32} {x3 : Int32} {δ : dp} (k0 : q_K g a0 = 12) : CalD l D cy m_X12_sorted d 0 0 ei g [.ref a0, .int x1, .int x2, .int x3] δ (D_X12_sorted N g a0 x1 x2 x3 δ) := by
  refine CalD.of (by decide +kernel) (Nat.le_of_ble_eq_true rfl) hl ?_
  unfold D_X12_sorted
  refine w_iload_n 2 2 (μ := m_X12_sorted) (pc := 0) dX12_sorted_0 rfl rfl ?_
  refine w_iconst (v := 3) (μ := m_X12_sorted) (pc := 1) dX12_sorted_1 (by decide) ?_
  refine w_icmp_ne 11 (μ := m_X12_sorted) (pc := 2) dX12_sorted_2 (by decide) (fun c_1 => ?_) (fun c_1 => ?_)
  · refine w_iload_n 3 3 (μ := m_X12_sorted) (pc := 11) dX12_sorted_11 rfl rfl ?_
    exact t_J_X12_sorted_12 wt hl (by omega) k0 _ _
  · refine w_iload_n 3 3 (μ := m_X12_sorted) (pc := 5) dX12_sorted_5 rfl rfl ?_
    refine w_iconst (v := 1) (μ := m_X12_sorted) (pc := 6) dX12_sorted_6 (by decide) ?_
    refine w_iadd (μ := m_X12_sorted) (pc := 7) dX12_sorted_7 ?_
    refine w_goto 12 (μ := m_X12_sorted) (pc := 8) dX12_sorted_8 (by decide) ?_
    exact t_J_X12_sorted_12 wt hl (by omega) k0 _ _
def D_X12_isCall (N : Nat) (g : gp) (x0 : Int32) (δ : dp) : Option (Int32 × dp) :=
  (D_X12_within N g x0 0 4 δ).bind fun r_1 => if r_1.1 = 0 ∨ r_1.1 = 1 then some (r_1.1, r_1.2) else none
set_option maxHeartbeats 4000000 in
set_option maxRecDepth 100000 in
theorem c_X12_isCall {l : Launch} {D : va_G} {cy : Nat → ClassId} {N d : Nat} {g : gp} (wt : WT g) (hl : l.stackTraces = false) (hd : 2 ≤ d) {x0 : Int32} {δ : dp} : CalD l D cy m_X12_isCall d 0 0 ei g [.int x0] δ (D_X12_isCall N g x0 δ) := by
  refine CalD.of (by decide +kernel) (Nat.le_of_ble_eq_true rfl) hl ?_
  unfold D_X12_isCall
  refine w_iload_n 0 0 (μ := m_X12_isCall) (pc := 0) dX12_isCall_0 rfl rfl ?_
  refine w_iconst (v := 0) (μ := m_X12_isCall) (pc := 1) dX12_isCall_1 (by decide) ?_
  refine w_iconst (v := 4) (μ := m_X12_isCall) (pc := 2) dX12_isCall_2 (by decide) ?_
  refine w_callS (As := [.int x0, .int 0, .int 4]) (rest := []) (μ := m_X12_isCall) (pc := 3) dX12_isCall_3 cs_X12_250 rfl rfl (Nat.le_of_ble_eq_true rfl) (d' := d - 1) (by omega) he_i (c_X12_within wt hl (d := d - 1) (by omega) ) (fun r_1 => ?_)
  exact w_zret (μ := m_X12_isCall) (pc := 6) dX12_isCall_6 rfl rfl
def J_X12_cellsOf_150 (N : Nat) (g : gp) (T : Nat → Int32 → Int32 → Int32 → dp → Option (Int32 × dp)) (a0 : Nat) (x1 : Int32) (x2 : Int32) (x3 : Int32) (kt63 : Int32 → Int32 → Int32 → dp → Option (Int32 × dp)) (x4v : Int32) (x6v : Int32) (x7v : Int32) (δ : dp) : Option (Int32 × dp) :=
  bi (x7v + 1) fun x_22 => kt63 x4v x6v x_22 δ
set_option maxHeartbeats 4000000 in
set_option maxRecDepth 100000 in
theorem t_J_X12_cellsOf_150 {l : Launch} {D : va_G} {cy : Nat → ClassId} {N d : Nat} {g : gp} (wt : WT g) (hl : l.stackTraces = false) {T : Nat → Int32 → Int32 → Int32 → dp → Option (Int32 × dp)} {dh : Nat} (hT : ∀ (a0 : Nat) (x1 : Int32) (x2 : Int32) (x3 : Int32) (δ : dp), q_K g a0 = 12 → CalD l D cy m_X12_cellsOf dh 0 0 ei g [.ref a0, .int x1, .int x2, .int x3] δ (T a0 x1 x2 x3 δ)) (hh : dh + 1 ≤ d) (hd : 2 ≤ d) {a0 : Nat} {x1 : Int32} {x2 : Int32} {x3 : Int32} (k0 : q_K g a0 = 12) {kt63 : Int32 → Int32 → Int32 → dp → Option (Int32 × dp)} (hk63 : ∀ (x4v : Int32) (x6v : Int32) (x7v : Int32) (δ : dp), AWD l D cy m_X12_cellsOf d 0 0 ei g 63 [(0, .ref a0), (2, .int x2), (3, .int x3), (4, .int x4v), (6, .int x6v), (7, .int x7v)] [] δ (kt63 x4v x6v x7v δ)) : ∀ (x4v : Int32) (x6v : Int32) (x7v : Int32) (δ : dp), AWD l D cy m_X12_cellsOf d 0 0 ei g 150 [(0, .ref a0), (2, .int x2), (3, .int x3), (4, .int x4v), (6, .int x6v), (7, .int x7v)] [] δ (J_X12_cellsOf_150 N g T a0 x1 x2 x3 kt63 x4v x6v x7v δ) := by
    intro x4v x6v x7v δ 
    unfold J_X12_cellsOf_150
    refine w_inb (fun x_22 e_23 => ?_)
    refine w_iinc 5 [(7, .int x_22), (0, .ref a0), (2, .int x2), (3, .int x3), (4, .int x4v), (6, .int x6v)] (μ := m_X12_cellsOf) (pc := 150) dX12_cellsOf_150 rfl (by rw [e_23]; rfl) (by decide) rfl ?_
    refine w_goto 63 (μ := m_X12_cellsOf) (pc := 153) dX12_cellsOf_153 (by decide) ?_
    refine w_lv [1, 2, 3, 4, 5, 0] rfl ?_
    exact hk63 _ _ _ _
def J_X12_cellsOf_107 (N : Nat) (g : gp) (T : Nat → Int32 → Int32 → Int32 → dp → Option (Int32 × dp)) (a0 : Nat) (x1 : Int32) (x2 : Int32) (x3 : Int32) (kt63 : Int32 → Int32 → Int32 → dp → Option (Int32 × dp)) (x4v : Int32) (x6v : Int32) (x7v : Int32) (δ : dp) : Option (Int32 × dp) :=
  (q_O g 12 35 a0).bind fun b_14 => if x7v < 0 ∨ q_N g b_14 ≤ x7v.toNatClampNeg then none else (D_X12_rooms N g a0 x2 x3 x4v ((q_R δ b_14 x7v.toNatClampNeg) >>> (x4v &&& 31)) δ).bind fun r_16 => (T a0 x4v r_16.1 (q_I r_16.2 12 36 a0) r_16.2).bind fun r_17 => bi (x6v + r_17.1) fun x_18 => bd (s_I r_17.2 12 36 a0 r_16.1) fun δ_20 => J_X12_cellsOf_150 N g T a0 x1 x2 x3 kt63 x4v x_18 x7v δ_20
set_option maxHeartbeats 4000000 in
set_option maxRecDepth 100000 in
theorem t_J_X12_cellsOf_107 {l : Launch} {D : va_G} {cy : Nat → ClassId} {N d : Nat} {g : gp} (wt : WT g) (hl : l.stackTraces = false) {T : Nat → Int32 → Int32 → Int32 → dp → Option (Int32 × dp)} {dh : Nat} (hT : ∀ (a0 : Nat) (x1 : Int32) (x2 : Int32) (x3 : Int32) (δ : dp), q_K g a0 = 12 → CalD l D cy m_X12_cellsOf dh 0 0 ei g [.ref a0, .int x1, .int x2, .int x3] δ (T a0 x1 x2 x3 δ)) (hh : dh + 1 ≤ d) (hd : 2 ≤ d) {a0 : Nat} {x1 : Int32} {x2 : Int32} {x3 : Int32} (k0 : q_K g a0 = 12) {kt63 : Int32 → Int32 → Int32 → dp → Option (Int32 × dp)} (hk63 : ∀ (x4v : Int32) (x6v : Int32) (x7v : Int32) (δ : dp), AWD l D cy m_X12_cellsOf d 0 0 ei g 63 [(0, .ref a0), (2, .int x2), (3, .int x3), (4, .int x4v), (6, .int x6v), (7, .int x7v)] [] δ (kt63 x4v x6v x7v δ)) : ∀ (x4v : Int32) (x6v : Int32) (x7v : Int32) (δ : dp), AWD l D cy m_X12_cellsOf d 0 0 ei g 107 [(0, .ref a0), (2, .int x2), (3, .int x3), (4, .int x4v), (6, .int x6v), (7, .int x7v)] [] δ (J_X12_cellsOf_107 N g T a0 x1 x2 x3 kt63 x4v x6v x7v δ) := by
    intro x4v x6v x7v δ 
    unfold J_X12_cellsOf_107
    refine w_aload_n 0 0 (μ := m_X12_cellsOf) (pc := 107) dX12_cellsOf_107 rfl rfl ?_
    refine w_iload_n 1 2 (μ := m_X12_cellsOf) (pc := 108) dX12_cellsOf_108 rfl rfl ?_
    refine w_iload_n 2 3 (μ := m_X12_cellsOf) (pc := 109) dX12_cellsOf_109 rfl rfl ?_
    refine w_iload 3 (μ := m_X12_cellsOf) (pc := 110) dX12_cellsOf_110 rfl ?_
    refine w_aload_n 0 0 (μ := m_X12_cellsOf) (pc := 112) dX12_cellsOf_112 rfl rfl ?_
    refine w_getO (μ := m_X12_cellsOf) (pc := 113) dX12_cellsOf_113 fl_X12_84 ir_12_35 id_12_35 k0 (fun b_14 e_15 => ?_)
    refine w_iload 5 (μ := m_X12_cellsOf) (pc := 116) dX12_cellsOf_116 rfl ?_
    refine w_ald (μ := m_X12_cellsOf) (pc := 118) dX12_cellsOf_118 (wt_12_35 wt k0 e_15) ?_
    refine w_iload 3 (μ := m_X12_cellsOf) (pc := 119) dX12_cellsOf_119 rfl ?_
    refine w_ishr (μ := m_X12_cellsOf) (pc := 121) dX12_cellsOf_121 ?_
    refine w_callV (As := [.int x2, .int x3, .int x4v, .int ((q_R δ b_14 x7v.toNatClampNeg) >>> (x4v &&& 31))]) (rest := []) (μ := m_X12_cellsOf) (pc := 122) dX12_cellsOf_122 cv_X12_303 rfl rfl k0 (by decide) rfl (Nat.le_of_ble_eq_true rfl) (d' := d - 1) (by omega) he_i (c_X12_rooms wt hl (d := d - 1) (by omega) k0) (fun r_16 => ?_)
    refine w_istore [(8, .int r_16.1), (0, .ref a0), (2, .int x2), (3, .int x3), (4, .int x4v), (6, .int x6v), (7, .int x7v)] (μ := m_X12_cellsOf) (pc := 125) dX12_cellsOf_125 (by decide) rfl ?_
    refine w_iload 5 (μ := m_X12_cellsOf) (pc := 127) dX12_cellsOf_127 rfl ?_
    refine w_aload_n 1 0 (μ := m_X12_cellsOf) (pc := 129) dX12_cellsOf_129 rfl rfl ?_
    refine w_iload 4 (μ := m_X12_cellsOf) (pc := 130) dX12_cellsOf_130 rfl ?_
    refine w_iload 0 (μ := m_X12_cellsOf) (pc := 132) dX12_cellsOf_132 rfl ?_
    refine w_aload_n 1 0 (μ := m_X12_cellsOf) (pc := 134) dX12_cellsOf_134 rfl rfl ?_
    refine w_getI (μ := m_X12_cellsOf) (pc := 135) dX12_cellsOf_135 fl_X12_290 ir_12_36 k0 ?_
    refine w_callV (As := [.int x4v, .int r_16.1, .int (q_I r_16.2 12 36 a0)]) (rest := [.int x6v]) (μ := m_X12_cellsOf) (pc := 138) dX12_cellsOf_138 cv_X12_350 rfl rfl k0 (by decide) rfl (Nat.le_of_ble_eq_true rfl) (d' := dh) (by omega) he_i (hT _ _ _ _ _ k0) (fun r_17 => ?_)
    refine w_iadd (μ := m_X12_cellsOf) (pc := 141) dX12_cellsOf_141 ?_
    refine w_bi (fun x_18 e_19 => ?_)
    refine w_istore [(6, .int x_18), (8, .int r_16.1), (0, .ref a0), (2, .int x2), (3, .int x3), (4, .int x4v), (7, .int x7v)] (μ := m_X12_cellsOf) (pc := 142) dX12_cellsOf_142 (by decide) rfl ?_
    refine w_aload_n 2 0 (μ := m_X12_cellsOf) (pc := 144) dX12_cellsOf_144 rfl rfl ?_
    refine w_iload 1 (μ := m_X12_cellsOf) (pc := 145) dX12_cellsOf_145 rfl ?_
    refine w_putI (μ := m_X12_cellsOf) (pc := 147) dX12_cellsOf_147 fl_X12_290 flw_12_36 ir_12_36 k0 ?_
    refine w_bd (fun δ_20 e_21 => ?_)
    refine w_lv [2, 3, 4, 5, 0, 6] rfl ?_
    exact t_J_X12_cellsOf_150 wt hl hT (by omega) (by omega) k0 hk63 _ _ _ _
def L_X12_cellsOf_63 (N : Nat) (g : gp) (T : Nat → Int32 → Int32 → Int32 → dp → Option (Int32 × dp)) (a0 : Nat) (x1 : Int32) (x2 : Int32) (x3 : Int32) : Nat → Int32 → Int32 → Int32 → dp → Option (Int32 × dp)
  | 0, _, _, _, _ => none
  | n + 1, x4v, x6v, x7v, δ => if (x3 - 1) ≤ x7v then (some (x6v, δ)) else (if x7v ≤ (x2 + 1) then (J_X12_cellsOf_107 N g T a0 x1 x2 x3 (L_X12_cellsOf_63 N g T a0 x1 x2 x3 n) x4v x6v x7v δ) else ((q_O g 12 35 a0).bind fun b_24 => if x7v < 0 ∨ q_N g b_24 ≤ x7v.toNatClampNeg then none else (q_O g 12 35 a0).bind fun b_26 => if (x7v - 1) < 0 ∨ q_N g b_26 ≤ (x7v - 1).toNatClampNeg then none else if ((q_R δ b_24 x7v.toNatClampNeg) >>> (x4v &&& 31)) = ((q_R δ b_26 (x7v - 1).toNatClampNeg) >>> (x4v &&& 31)) then (J_X12_cellsOf_150 N g T a0 x1 x2 x3 (L_X12_cellsOf_63 N g T a0 x1 x2 x3 n) x4v x6v x7v δ) else (J_X12_cellsOf_107 N g T a0 x1 x2 x3 (L_X12_cellsOf_63 N g T a0 x1 x2 x3 n) x4v x6v x7v δ)))
set_option maxHeartbeats 4000000 in
set_option maxRecDepth 100000 in
theorem t_L_X12_cellsOf_63 {l : Launch} {D : va_G} {cy : Nat → ClassId} {N d : Nat} {g : gp} (wt : WT g) (hl : l.stackTraces = false) {T : Nat → Int32 → Int32 → Int32 → dp → Option (Int32 × dp)} {dh : Nat} (hT : ∀ (a0 : Nat) (x1 : Int32) (x2 : Int32) (x3 : Int32) (δ : dp), q_K g a0 = 12 → CalD l D cy m_X12_cellsOf dh 0 0 ei g [.ref a0, .int x1, .int x2, .int x3] δ (T a0 x1 x2 x3 δ)) (hh : dh + 1 ≤ d) (hd : 2 ≤ d) {a0 : Nat} {x1 : Int32} {x2 : Int32} {x3 : Int32} (k0 : q_K g a0 = 12) : ∀ (n : Nat) (x4v : Int32) (x6v : Int32) (x7v : Int32) (δ : dp), AWD l D cy m_X12_cellsOf d 0 0 ei g 63 [(0, .ref a0), (2, .int x2), (3, .int x3), (4, .int x4v), (6, .int x6v), (7, .int x7v)] [] δ (L_X12_cellsOf_63 N g T a0 x1 x2 x3 n x4v x6v x7v δ) := by
  intro n
  induction n with
  | zero => intro x4v x6v x7v δ ; exact w_none
  | succ n ih =>
    intro x4v x6v x7v δ 
    unfold L_X12_cellsOf_63
    refine w_iload 5 (μ := m_X12_cellsOf) (pc := 63) dX12_cellsOf_63 rfl ?_
    refine w_iload_n 2 3 (μ := m_X12_cellsOf) (pc := 65) dX12_cellsOf_65 rfl rfl ?_
    refine w_iconst (v := 1) (μ := m_X12_cellsOf) (pc := 66) dX12_cellsOf_66 (by decide) ?_
    refine w_isub (μ := m_X12_cellsOf) (pc := 67) dX12_cellsOf_67 ?_
    refine w_icmp_ge 156 (μ := m_X12_cellsOf) (pc := 68) dX12_cellsOf_68 (by decide) (fun c_12 => ?_) (fun c_12 => ?_)
    · refine w_iload 4 (μ := m_X12_cellsOf) (pc := 156) dX12_cellsOf_156 rfl ?_
      exact w_iret (μ := m_X12_cellsOf) (pc := 158) dX12_cellsOf_158 rfl rfl
    · refine w_iload 5 (μ := m_X12_cellsOf) (pc := 71) dX12_cellsOf_71 rfl ?_
      refine w_iload_n 1 2 (μ := m_X12_cellsOf) (pc := 73) dX12_cellsOf_73 rfl rfl ?_
      refine w_iconst (v := 1) (μ := m_X12_cellsOf) (pc := 74) dX12_cellsOf_74 (by decide) ?_
      refine w_iadd (μ := m_X12_cellsOf) (pc := 75) dX12_cellsOf_75 ?_
      refine w_icmp_le 107 (μ := m_X12_cellsOf) (pc := 76) dX12_cellsOf_76 (by decide) (fun c_13 => ?_) (fun c_13 => ?_)
      · exact t_J_X12_cellsOf_107 wt hl hT (by omega) (by omega) k0 ih _ _ _ _
      · refine w_aload_n 0 0 (μ := m_X12_cellsOf) (pc := 79) dX12_cellsOf_79 rfl rfl ?_
        refine w_getO (μ := m_X12_cellsOf) (pc := 80) dX12_cellsOf_80 fl_X12_84 ir_12_35 id_12_35 k0 (fun b_24 e_25 => ?_)
        refine w_iload 5 (μ := m_X12_cellsOf) (pc := 83) dX12_cellsOf_83 rfl ?_
        refine w_ald (μ := m_X12_cellsOf) (pc := 85) dX12_cellsOf_85 (wt_12_35 wt k0 e_25) ?_
        refine w_iload 3 (μ := m_X12_cellsOf) (pc := 86) dX12_cellsOf_86 rfl ?_
        refine w_ishr (μ := m_X12_cellsOf) (pc := 88) dX12_cellsOf_88 ?_
        refine w_aload_n 0 0 (μ := m_X12_cellsOf) (pc := 89) dX12_cellsOf_89 rfl rfl ?_
        refine w_getO (μ := m_X12_cellsOf) (pc := 90) dX12_cellsOf_90 fl_X12_84 ir_12_35 id_12_35 k0 (fun b_26 e_27 => ?_)
        refine w_iload 5 (μ := m_X12_cellsOf) (pc := 93) dX12_cellsOf_93 rfl ?_
        refine w_iconst (v := 1) (μ := m_X12_cellsOf) (pc := 95) dX12_cellsOf_95 (by decide) ?_
        refine w_isub (μ := m_X12_cellsOf) (pc := 96) dX12_cellsOf_96 ?_
        refine w_ald (μ := m_X12_cellsOf) (pc := 97) dX12_cellsOf_97 (wt_12_35 wt k0 e_27) ?_
        refine w_iload 3 (μ := m_X12_cellsOf) (pc := 98) dX12_cellsOf_98 rfl ?_
        refine w_ishr (μ := m_X12_cellsOf) (pc := 100) dX12_cellsOf_100 ?_
        refine w_icmp_ne 107 (μ := m_X12_cellsOf) (pc := 101) dX12_cellsOf_101 (by decide) (fun c_28 => ?_) (fun c_28 => ?_)
        · exact t_J_X12_cellsOf_107 wt hl hT (by omega) (by omega) k0 ih _ _ _ _
        · refine w_goto 150 (μ := m_X12_cellsOf) (pc := 104) dX12_cellsOf_104 (by decide) ?_
          exact t_J_X12_cellsOf_150 wt hl hT (by omega) (by omega) k0 ih _ _ _ _
def B_X12_cellsOf (N : Nat) (g : gp) (T : Nat → Int32 → Int32 → Int32 → dp → Option (Int32 × dp)) (a0 : Nat) (x1 : Int32) (x2 : Int32) (x3 : Int32) (δ : dp) : Option (Int32 × dp) :=
  if x2 = x3 then (some (0, δ)) else (if (q_I δ 12 11 a0) < x1 then ((D_X12_lowerBits N g a0 x1 δ).bind fun r_3 => (D_X12_lists N g a0 x2 x3 r_3.1 r_3.2).bind fun r_4 => (T a0 (x1 - r_3.1) r_4.1 (q_I r_4.2 12 36 a0) r_4.2).bind fun r_5 => bi (2 + r_5.1) fun x_6 => bd (s_I r_5.2 12 36 a0 r_4.1) fun δ_8 => bi (x2 + 1) fun x_10 => L_X12_cellsOf_63 N g T a0 x1 x2 x3 N r_3.1 x_6 x_10 δ_8) else (some (1, δ)))
set_option maxHeartbeats 4000000 in
set_option maxRecDepth 100000 in
theorem c_b_X12_cellsOf {l : Launch} {D : va_G} {cy : Nat → ClassId} {N d : Nat} {g : gp} (wt : WT g) (hl : l.stackTraces = false) {T : Nat → Int32 → Int32 → Int32 → dp → Option (Int32 × dp)} {dh : Nat} (hT : ∀ (a0 : Nat) (x1 : Int32) (x2 : Int32) (x3 : Int32) (δ : dp), q_K g a0 = 12 → CalD l D cy m_X12_cellsOf dh 0 0 ei g [.ref a0, .int x1, .int x2, .int x3] δ (T a0 x1 x2 x3 δ)) (hh : dh + 1 ≤ d) (hd : 2 ≤ d) {a0 : Nat} {x1 : Int32} {x2 : Int32} {x3 : Int32} {δ : dp} (k0 : q_K g a0 = 12) : CalD l D cy m_X12_cellsOf d 0 0 ei g [.ref a0, .int x1, .int x2, .int x3] δ (B_X12_cellsOf N g T a0 x1 x2 x3 δ) := by
  refine CalD.of (by decide +kernel) (Nat.le_of_ble_eq_true rfl) hl ?_
  unfold B_X12_cellsOf
  refine w_iload_n 2 2 (μ := m_X12_cellsOf) (pc := 0) dX12_cellsOf_0 rfl rfl ?_
  refine w_iload_n 3 3 (μ := m_X12_cellsOf) (pc := 1) dX12_cellsOf_1 rfl rfl ?_
  refine w_icmp_ne 7 (μ := m_X12_cellsOf) (pc := 2) dX12_cellsOf_2 (by decide) (fun c_1 => ?_) (fun c_1 => ?_)
  · refine w_iload_n 1 1 (μ := m_X12_cellsOf) (pc := 7) dX12_cellsOf_7 rfl rfl ?_
    refine w_aload_n 0 0 (μ := m_X12_cellsOf) (pc := 8) dX12_cellsOf_8 rfl rfl ?_
    refine w_getI (μ := m_X12_cellsOf) (pc := 9) dX12_cellsOf_9 fl_X12_26 ir_12_11 k0 ?_
    refine w_icmp_gt 17 (μ := m_X12_cellsOf) (pc := 12) dX12_cellsOf_12 (by decide) (fun c_2 => ?_) (fun c_2 => ?_)
    · refine w_aload_n 0 0 (μ := m_X12_cellsOf) (pc := 17) dX12_cellsOf_17 rfl rfl ?_
      refine w_iload_n 1 1 (μ := m_X12_cellsOf) (pc := 18) dX12_cellsOf_18 rfl rfl ?_
      refine w_callV (As := [.int x1]) (rest := []) (μ := m_X12_cellsOf) (pc := 19) dX12_cellsOf_19 cv_X12_293 rfl rfl k0 (by decide) rfl (Nat.le_of_ble_eq_true rfl) (d' := d - 1) (by omega) he_i (c_X12_lowerBits wt hl (d := d - 1) (by omega) k0) (fun r_3 => ?_)
      refine w_istore [(4, .int r_3.1), (0, .ref a0), (1, .int x1), (2, .int x2), (3, .int x3)] (μ := m_X12_cellsOf) (pc := 22) dX12_cellsOf_22 (by decide) rfl ?_
      refine w_aload_n 1 0 (μ := m_X12_cellsOf) (pc := 24) dX12_cellsOf_24 rfl rfl ?_
      refine w_iload_n 3 2 (μ := m_X12_cellsOf) (pc := 25) dX12_cellsOf_25 rfl rfl ?_
      refine w_iload_n 4 3 (μ := m_X12_cellsOf) (pc := 26) dX12_cellsOf_26 rfl rfl ?_
      refine w_iload 0 (μ := m_X12_cellsOf) (pc := 27) dX12_cellsOf_27 rfl ?_
      refine w_callV (As := [.int x2, .int x3, .int r_3.1]) (rest := []) (μ := m_X12_cellsOf) (pc := 29) dX12_cellsOf_29 cv_X12_296 rfl rfl k0 (by decide) rfl (Nat.le_of_ble_eq_true rfl) (d' := d - 1) (by omega) he_i (c_X12_lists wt hl (d := d - 1) (by omega) k0) (fun r_4 => ?_)
      refine w_istore [(5, .int r_4.1), (4, .int r_3.1), (0, .ref a0), (1, .int x1), (2, .int x2), (3, .int x3)] (μ := m_X12_cellsOf) (pc := 32) dX12_cellsOf_32 (by decide) rfl ?_
      refine w_iconst (v := 2) (μ := m_X12_cellsOf) (pc := 34) dX12_cellsOf_34 (by decide) ?_
      refine w_aload_n 2 0 (μ := m_X12_cellsOf) (pc := 35) dX12_cellsOf_35 rfl rfl ?_
      refine w_iload_n 3 1 (μ := m_X12_cellsOf) (pc := 36) dX12_cellsOf_36 rfl rfl ?_
      refine w_iload 1 (μ := m_X12_cellsOf) (pc := 37) dX12_cellsOf_37 rfl ?_
      refine w_isub (μ := m_X12_cellsOf) (pc := 39) dX12_cellsOf_39 ?_
      refine w_iload 0 (μ := m_X12_cellsOf) (pc := 40) dX12_cellsOf_40 rfl ?_
      refine w_aload_n 2 0 (μ := m_X12_cellsOf) (pc := 42) dX12_cellsOf_42 rfl rfl ?_
      refine w_getI (μ := m_X12_cellsOf) (pc := 43) dX12_cellsOf_43 fl_X12_290 ir_12_36 k0 ?_
      refine w_callV (As := [.int (x1 - r_3.1), .int r_4.1, .int (q_I r_4.2 12 36 a0)]) (rest := [.int 2]) (μ := m_X12_cellsOf) (pc := 46) dX12_cellsOf_46 cv_X12_350 rfl rfl k0 (by decide) rfl (Nat.le_of_ble_eq_true rfl) (d' := dh) (by omega) he_i (hT _ _ _ _ _ k0) (fun r_5 => ?_)
      refine w_iadd (μ := m_X12_cellsOf) (pc := 49) dX12_cellsOf_49 ?_
      refine w_bi (fun x_6 e_7 => ?_)
      refine w_istore [(6, .int x_6), (5, .int r_4.1), (4, .int r_3.1), (0, .ref a0), (1, .int x1), (2, .int x2), (3, .int x3)] (μ := m_X12_cellsOf) (pc := 50) dX12_cellsOf_50 (by decide) rfl ?_
      refine w_aload_n 3 0 (μ := m_X12_cellsOf) (pc := 52) dX12_cellsOf_52 rfl rfl ?_
      refine w_iload 1 (μ := m_X12_cellsOf) (pc := 53) dX12_cellsOf_53 rfl ?_
      refine w_putI (μ := m_X12_cellsOf) (pc := 55) dX12_cellsOf_55 fl_X12_290 flw_12_36 ir_12_36 k0 ?_
      refine w_bd (fun δ_8 e_9 => ?_)
      refine w_iload_n 5 2 (μ := m_X12_cellsOf) (pc := 58) dX12_cellsOf_58 rfl rfl ?_
      refine w_iconst (v := 1) (μ := m_X12_cellsOf) (pc := 59) dX12_cellsOf_59 (by decide) ?_
      refine w_iadd (μ := m_X12_cellsOf) (pc := 60) dX12_cellsOf_60 ?_
      refine w_bi (fun x_10 e_11 => ?_)
      refine w_istore [(7, .int x_10), (6, .int x_6), (5, .int r_4.1), (4, .int r_3.1), (0, .ref a0), (1, .int x1), (2, .int x2), (3, .int x3)] (μ := m_X12_cellsOf) (pc := 61) dX12_cellsOf_61 (by decide) rfl ?_
      refine w_lv [4, 6, 7, 3, 1, 0] rfl ?_
      exact t_L_X12_cellsOf_63 wt hl hT (by omega) (by omega) k0 N _ _ _ _
    · refine w_iconst (v := 1) (μ := m_X12_cellsOf) (pc := 15) dX12_cellsOf_15 (by decide) ?_
      exact w_iret (μ := m_X12_cellsOf) (pc := 16) dX12_cellsOf_16 rfl rfl
  · refine w_iconst (v := 0) (μ := m_X12_cellsOf) (pc := 5) dX12_cellsOf_5 (by decide) ?_
    exact w_iret (μ := m_X12_cellsOf) (pc := 6) dX12_cellsOf_6 rfl rfl
def E_X12_cellsOf (N : Nat) (g : gp) : Nat → Nat → Int32 → Int32 → Int32 → dp → Option (Int32 × dp)
  | 0, _, _, _, _, _ => none
  | k + 1, a0, x1, x2, x3, δ => B_X12_cellsOf N g (E_X12_cellsOf N g k) a0 x1 x2 x3 δ
theorem e_X12_cellsOf {l : Launch} {D : va_G} {cy : Nat → ClassId} {N : Nat} {g : gp} (wt : WT g) (hl : l.stackTraces = false) : ∀ (k d : Nat), 2 + 1 * k ≤ d → ∀ (a0 : Nat) (x1 : Int32) (x2 : Int32) (x3 : Int32) (δ : dp), q_K g a0 = 12 → CalD l D cy m_X12_cellsOf d 0 0 ei g [.ref a0, .int x1, .int x2, .int x3] δ (E_X12_cellsOf N g k a0 x1 x2 x3 δ) := by
  intro k
  induction k with
  | zero => intro d _ a0 x1 x2 x3 δ k0 r hr; cases hr
  | succ k ih =>
    intro d hd a0 x1 x2 x3 δ k0
    unfold E_X12_cellsOf
    exact c_b_X12_cellsOf wt hl (ih (2 + 1 * k) (Nat.le_refl _)) (by omega) (by omega) k0
def D_X12_cellsOf (N : Nat) (g : gp) (a0 : Nat) (x1 : Int32) (x2 : Int32) (x3 : Int32) (δ : dp) : Option (Int32 × dp) := E_X12_cellsOf N g 20 a0 x1 x2 x3 δ
theorem c_X12_cellsOf {l : Launch} {D : va_G} {cy : Nat → ClassId} {N d : Nat} {g : gp} (wt : WT g) (hl : l.stackTraces = false) (hd : 22 ≤ d) {a0 : Nat} {x1 : Int32} {x2 : Int32} {x3 : Int32} {δ : dp} (k0 : q_K g a0 = 12) : CalD l D cy m_X12_cellsOf d 0 0 ei g [.ref a0, .int x1, .int x2, .int x3] δ (D_X12_cellsOf N g a0 x1 x2 x3 δ) := e_X12_cellsOf wt hl 20 d (by omega) _ _ _ _ _ k0
def J_X12_size_29 (N : Nat) (g : gp) (a0 : Nat) (x1 : Int32) (x2 : Int32) (δ : dp) : Option (Int32 × dp) :=
  some (0, δ)
set_option maxHeartbeats 4000000 in
set_option maxRecDepth 100000 in
theorem t_J_X12_size_29 {l : Launch} {D : va_G} {cy : Nat → ClassId} {N d : Nat} {g : gp} (wt : WT g) (hl : l.stackTraces = false) (hd : 23 ≤ d) {a0 : Nat} {x1 : Int32} {x2 : Int32} (k0 : q_K g a0 = 12) : ∀ (δ : dp), AWD l D cy m_X12_size d 0 0 ei g 29 [] [] δ (J_X12_size_29 N g a0 x1 x2 δ) := by
    intro  δ 
    unfold J_X12_size_29
    refine w_iconst (v := 0) (μ := m_X12_size) (pc := 29) dX12_size_29 (by decide) ?_
    exact w_iret (μ := m_X12_size) (pc := 30) dX12_size_30 rfl rfl
def J_X12_size_90 (N : Nat) (g : gp) (a0 : Nat) (x1 : Int32) (x2 : Int32) (xs0 : Int32) (δ : dp) : Option (Int32 × dp) :=
  some (xs0, δ)
set_option maxHeartbeats 4000000 in
set_option maxRecDepth 100000 in
theorem t_J_X12_size_90 {l : Launch} {D : va_G} {cy : Nat → ClassId} {N d : Nat} {g : gp} (wt : WT g) (hl : l.stackTraces = false) (hd : 23 ≤ d) {a0 : Nat} {x1 : Int32} {x2 : Int32} (k0 : q_K g a0 = 12) : ∀ (xs0 : Int32) (δ : dp), AWD l D cy m_X12_size d 0 0 ei g 90 [] [.int xs0] δ (J_X12_size_90 N g a0 x1 x2 xs0 δ) := by
    intro xs0 δ 
    unfold J_X12_size_90
    exact w_iret (μ := m_X12_size) (pc := 90) dX12_size_90 rfl rfl
def D_X12_size (N : Nat) (g : gp) (a0 : Nat) (x1 : Int32) (x2 : Int32) (δ : dp) : Option (Int32 × dp) :=
  bd (s_I δ 12 0 a0 0) fun δ_1 => (D_X12_isHouse N g a0 x1 1 δ_1).bind fun r_3 => if r_3.1 = 0 then (J_X12_size_29 N g a0 x1 x2 r_3.2) else ((D_X12_within N g x2 0 2 r_3.2).bind fun r_5 => (D_X12_may N g a0 r_5.1 2 2 r_5.2).bind fun r_6 => if r_6.1 = 0 then (J_X12_size_29 N g a0 x1 x2 r_6.2) else ((D_X12_lays N g a0 x1 r_6.2).bind fun r_8 => if x2 = 0 then ((D_X12_cellsOf N g a0 (q_I r_8 12 10 a0) 0 (q_I r_8 12 36 a0) r_8).bind fun r_14 => J_X12_size_90 N g a0 x1 x2 r_14.1 r_14.2) else (if x2 = (2 : Int32) then ((q_O g 12 14 a0).bind fun b_12 => if x1 < 0 ∨ q_N g b_12 ≤ x1.toNatClampNeg then none else J_X12_size_90 N g a0 x1 x2 (q_R r_8 b_12 x1.toNatClampNeg) r_8) else (if (5 : Int32) ≤ (q_I r_8 12 10 a0) then (J_X12_size_90 N g a0 x1 x2 (1 <<< (((q_I r_8 12 10 a0) - 5) &&& 31)) r_8) else (J_X12_size_90 N g a0 x1 x2 1 r_8)))))
set_option maxHeartbeats 4000000 in
set_option maxRecDepth 100000 in
theorem c_X12_size {l : Launch} {D : va_G} {cy : Nat → ClassId} {N d : Nat} {g : gp} (wt : WT g) (hl : l.stackTraces = false) (hd : 23 ≤ d) {a0 : Nat} {x1 : Int32} {x2 : Int32} {δ : dp} (k0 : q_K g a0 = 12) : CalD l D cy m_X12_size d 0 0 ei g [.ref a0, .int x1, .int x2] δ (D_X12_size N g a0 x1 x2 δ) := by
  refine CalD.of (by decide +kernel) (Nat.le_of_ble_eq_true rfl) hl ?_
  unfold D_X12_size
  refine w_aload_n 0 0 (μ := m_X12_size) (pc := 0) dX12_size_0 rfl rfl ?_
  refine w_iconst (v := 0) (μ := m_X12_size) (pc := 1) dX12_size_1 (by decide) ?_
  refine w_putI (μ := m_X12_size) (pc := 2) dX12_size_2 fl_X12_1 flw_12_0 ir_12_0 k0 ?_
  refine w_bd (fun δ_1 e_2 => ?_)
  refine w_aload_n 0 0 (μ := m_X12_size) (pc := 5) dX12_size_5 rfl rfl ?_
  refine w_iload_n 1 1 (μ := m_X12_size) (pc := 6) dX12_size_6 rfl rfl ?_
  refine w_iconst (v := 1) (μ := m_X12_size) (pc := 7) dX12_size_7 (by decide) ?_
  refine w_callV (As := [.int x1, .int 1]) (rest := []) (μ := m_X12_size) (pc := 8) dX12_size_8 cv_X12_260 rfl rfl k0 (by decide) rfl (Nat.le_of_ble_eq_true rfl) (d' := d - 1) (by omega) he_i (c_X12_isHouse wt hl (d := d - 1) (by omega) k0) (fun r_3 => ?_)
  refine w_if_eq 29 (μ := m_X12_size) (pc := 11) dX12_size_11 (by decide) (fun c_4 => ?_) (fun c_4 => ?_)
  · refine w_lv [] rfl ?_
    exact t_J_X12_size_29 wt hl (by omega) k0 _
  · refine w_aload_n 0 0 (μ := m_X12_size) (pc := 14) dX12_size_14 rfl rfl ?_
    refine w_iload_n 2 2 (μ := m_X12_size) (pc := 15) dX12_size_15 rfl rfl ?_
    refine w_iconst (v := 0) (μ := m_X12_size) (pc := 16) dX12_size_16 (by decide) ?_
    refine w_iconst (v := 2) (μ := m_X12_size) (pc := 17) dX12_size_17 (by decide) ?_
    refine w_callS (As := [.int x2, .int 0, .int 2]) (rest := [.ref a0]) (μ := m_X12_size) (pc := 18) dX12_size_18 cs_X12_250 rfl rfl (Nat.le_of_ble_eq_true rfl) (d' := d - 1) (by omega) he_i (c_X12_within wt hl (d := d - 1) (by omega) ) (fun r_5 => ?_)
    refine w_iconst (v := 2) (μ := m_X12_size) (pc := 21) dX12_size_21 (by decide) ?_
    refine w_iconst (v := 2) (μ := m_X12_size) (pc := 22) dX12_size_22 (by decide) ?_
    refine w_callV (As := [.int r_5.1, .int 2, .int 2]) (rest := []) (μ := m_X12_size) (pc := 23) dX12_size_23 cv_X12_157 rfl rfl k0 (by decide) rfl (Nat.le_of_ble_eq_true rfl) (d' := d - 1) (by omega) he_i (c_X12_may wt hl (d := d - 1) (by omega) k0) (fun r_6 => ?_)
    refine w_if_ne 31 (μ := m_X12_size) (pc := 26) dX12_size_26 (by decide) (fun c_7 => ?_) (fun c_7 => ?_)
    · refine w_aload_n 0 0 (μ := m_X12_size) (pc := 31) dX12_size_31 rfl rfl ?_
      refine w_iload_n 1 1 (μ := m_X12_size) (pc := 32) dX12_size_32 rfl rfl ?_
      refine w_callV (As := [.int x1]) (rest := []) (μ := m_X12_size) (pc := 33) dX12_size_33 cv_X12_329 rfl rfl k0 (by decide) rfl (Nat.le_of_ble_eq_true rfl) (d' := d - 1) (by omega) he_v (c_X12_lays wt hl (d := d - 1) (by omega) k0) (fun r_8 => ?_)
      refine w_iload_n 2 2 (μ := m_X12_size) (pc := 36) dX12_size_36 rfl rfl ?_
      refine w_if_ne 56 (μ := m_X12_size) (pc := 37) dX12_size_37 (by decide) (fun c_9 => ?_) (fun c_9 => ?_)
      · refine w_iload_n 2 2 (μ := m_X12_size) (pc := 56) dX12_size_56 rfl rfl ?_
        refine w_iconst (v := 2) (μ := m_X12_size) (pc := 57) dX12_size_57 (by decide) ?_
        refine w_icmp_ne 70 (μ := m_X12_size) (pc := 58) dX12_size_58 (by decide) (fun c_10 => ?_) (fun c_10 => ?_)
        · refine w_aload_n 0 0 (μ := m_X12_size) (pc := 70) dX12_size_70 rfl rfl ?_
          refine w_getI (μ := m_X12_size) (pc := 71) dX12_size_71 fl_X12_23 ir_12_10 k0 ?_
          refine w_iconst (v := 5) (μ := m_X12_size) (pc := 74) dX12_size_74 (by decide) ?_
          refine w_icmp_ge 82 (μ := m_X12_size) (pc := 75) dX12_size_75 (by decide) (fun c_11 => ?_) (fun c_11 => ?_)
          · refine w_iconst (v := 1) (μ := m_X12_size) (pc := 82) dX12_size_82 (by decide) ?_
            refine w_aload_n 0 0 (μ := m_X12_size) (pc := 83) dX12_size_83 rfl rfl ?_
            refine w_getI (μ := m_X12_size) (pc := 84) dX12_size_84 fl_X12_23 ir_12_10 k0 ?_
            refine w_iconst (v := 5) (μ := m_X12_size) (pc := 87) dX12_size_87 (by decide) ?_
            refine w_isub (μ := m_X12_size) (pc := 88) dX12_size_88 ?_
            refine w_ishl (μ := m_X12_size) (pc := 89) dX12_size_89 ?_
            refine w_lv [] rfl ?_
            exact t_J_X12_size_90 wt hl (by omega) k0 _ _
          · refine w_iconst (v := 1) (μ := m_X12_size) (pc := 78) dX12_size_78 (by decide) ?_
            refine w_goto 90 (μ := m_X12_size) (pc := 79) dX12_size_79 (by decide) ?_
            refine w_lv [] rfl ?_
            exact t_J_X12_size_90 wt hl (by omega) k0 _ _
        · refine w_aload_n 0 0 (μ := m_X12_size) (pc := 61) dX12_size_61 rfl rfl ?_
          refine w_getO (μ := m_X12_size) (pc := 62) dX12_size_62 fl_X12_36 ir_12_14 id_12_14 k0 (fun b_12 e_13 => ?_)
          refine w_iload_n 1 1 (μ := m_X12_size) (pc := 65) dX12_size_65 rfl rfl ?_
          refine w_ald (μ := m_X12_size) (pc := 66) dX12_size_66 (wt_12_14 wt k0 e_13) ?_
          refine w_goto 90 (μ := m_X12_size) (pc := 67) dX12_size_67 (by decide) ?_
          refine w_lv [] rfl ?_
          exact t_J_X12_size_90 wt hl (by omega) k0 _ _
      · refine w_aload_n 0 0 (μ := m_X12_size) (pc := 40) dX12_size_40 rfl rfl ?_
        refine w_aload_n 0 0 (μ := m_X12_size) (pc := 41) dX12_size_41 rfl rfl ?_
        refine w_getI (μ := m_X12_size) (pc := 42) dX12_size_42 fl_X12_23 ir_12_10 k0 ?_
        refine w_iconst (v := 0) (μ := m_X12_size) (pc := 45) dX12_size_45 (by decide) ?_
        refine w_aload_n 0 0 (μ := m_X12_size) (pc := 46) dX12_size_46 rfl rfl ?_
        refine w_getI (μ := m_X12_size) (pc := 47) dX12_size_47 fl_X12_290 ir_12_36 k0 ?_
        refine w_callV (As := [.int (q_I r_8 12 10 a0), .int 0, .int (q_I r_8 12 36 a0)]) (rest := []) (μ := m_X12_size) (pc := 50) dX12_size_50 cv_X12_350 rfl rfl k0 (by decide) rfl (Nat.le_of_ble_eq_true rfl) (d' := d - 1) (by omega) he_i (c_X12_cellsOf wt hl (d := d - 1) (by omega) k0) (fun r_14 => ?_)
        refine w_goto 90 (μ := m_X12_size) (pc := 53) dX12_size_53 (by decide) ?_
        refine w_lv [] rfl ?_
        exact t_J_X12_size_90 wt hl (by omega) k0 _ _
    · refine w_lv [] rfl ?_
      exact t_J_X12_size_29 wt hl (by omega) k0 _
def J_X12_boundOf_78 (N : Nat) (g : gp) (T : Nat → Int32 → Int32 → dp → Option (Int32 × dp)) (a0 : Nat) (x1 : Int32) (x2 : Int32) (xs0 : Int32) (xs1 : Int32) (δ : dp) : Option (Int32 × dp) :=
  some (xs1 + xs0, δ)
set_option maxHeartbeats 4000000 in
set_option maxRecDepth 100000 in
theorem t_J_X12_boundOf_78 {l : Launch} {D : va_G} {cy : Nat → ClassId} {N d : Nat} {g : gp} (wt : WT g) (hl : l.stackTraces = false) {T : Nat → Int32 → Int32 → dp → Option (Int32 × dp)} {dh : Nat} (hT : ∀ (a0 : Nat) (x1 : Int32) (x2 : Int32) (δ : dp), q_K g a0 = 12 → CalD l D cy m_X12_boundOf dh 0 0 ei g [.ref a0, .int x1, .int x2] δ (T a0 x1 x2 δ)) (hh : dh + 1 ≤ d) (hd : 2 ≤ d) {a0 : Nat} {x1 : Int32} {x2 : Int32} (k0 : q_K g a0 = 12) : ∀ (xs0 : Int32) (xs1 : Int32) (δ : dp), AWD l D cy m_X12_boundOf d 0 0 ei g 78 [] [.int xs0, .int xs1] δ (J_X12_boundOf_78 N g T a0 x1 x2 xs0 xs1 δ) := by
    intro xs0 xs1 δ 
    unfold J_X12_boundOf_78
    refine w_iadd (μ := m_X12_boundOf) (pc := 78) dX12_boundOf_78 ?_
    exact w_iret (μ := m_X12_boundOf) (pc := 79) dX12_boundOf_79 rfl rfl
def J_X12_boundOf_64 (N : Nat) (g : gp) (T : Nat → Int32 → Int32 → dp → Option (Int32 × dp)) (a0 : Nat) (x1 : Int32) (x2 : Int32) (xs0 : Int32) (x4v : Int32) (x5v : Int32) (δ : dp) : Option (Int32 × dp) :=
  if x4v ≤ x5v then (J_X12_boundOf_78 N g T a0 x1 x2 x5v xs0 δ) else (J_X12_boundOf_78 N g T a0 x1 x2 x4v xs0 δ)
set_option maxHeartbeats 4000000 in
set_option maxRecDepth 100000 in
theorem t_J_X12_boundOf_64 {l : Launch} {D : va_G} {cy : Nat → ClassId} {N d : Nat} {g : gp} (wt : WT g) (hl : l.stackTraces = false) {T : Nat → Int32 → Int32 → dp → Option (Int32 × dp)} {dh : Nat} (hT : ∀ (a0 : Nat) (x1 : Int32) (x2 : Int32) (δ : dp), q_K g a0 = 12 → CalD l D cy m_X12_boundOf dh 0 0 ei g [.ref a0, .int x1, .int x2] δ (T a0 x1 x2 δ)) (hh : dh + 1 ≤ d) (hd : 2 ≤ d) {a0 : Nat} {x1 : Int32} {x2 : Int32} (k0 : q_K g a0 = 12) : ∀ (xs0 : Int32) (x4v : Int32) (x5v : Int32) (δ : dp), AWD l D cy m_X12_boundOf d 0 0 ei g 64 [(4, .int x4v), (5, .int x5v)] [.int xs0] δ (J_X12_boundOf_64 N g T a0 x1 x2 xs0 x4v x5v δ) := by
    intro xs0 x4v x5v δ 
    unfold J_X12_boundOf_64
    refine w_iload 0 (μ := m_X12_boundOf) (pc := 64) dX12_boundOf_64 rfl ?_
    refine w_iload 1 (μ := m_X12_boundOf) (pc := 66) dX12_boundOf_66 rfl ?_
    refine w_icmp_le 76 (μ := m_X12_boundOf) (pc := 68) dX12_boundOf_68 (by decide) (fun c_10 => ?_) (fun c_10 => ?_)
    · refine w_iload 1 (μ := m_X12_boundOf) (pc := 76) dX12_boundOf_76 rfl ?_
      refine w_lv [] rfl ?_
      exact t_J_X12_boundOf_78 wt hl hT (by omega) (by omega) k0 _ _ _
    · refine w_iload 0 (μ := m_X12_boundOf) (pc := 71) dX12_boundOf_71 rfl ?_
      refine w_goto 78 (μ := m_X12_boundOf) (pc := 73) dX12_boundOf_73 (by decide) ?_
      refine w_lv [] rfl ?_
      exact t_J_X12_boundOf_78 wt hl hT (by omega) (by omega) k0 _ _ _
def B_X12_boundOf (N : Nat) (g : gp) (T : Nat → Int32 → Int32 → dp → Option (Int32 × dp)) (a0 : Nat) (x1 : Int32) (x2 : Int32) (δ : dp) : Option (Int32 × dp) :=
  if (q_I δ 12 11 a0) < x2 then ((D_X12_lowerBits N g a0 x2 δ).bind fun r_2 => (T a0 x1 r_2.1 r_2.2).bind fun r_3 => if x1 = (2 : Int32) then (some (1 + r_3.1, r_3.2)) else ((T a0 x1 (x2 - r_2.1) r_3.2).bind fun r_5 => bi (1 + r_5.1) fun x_6 => if x1 = 0 then (J_X12_boundOf_64 N g T a0 x1 x2 1 r_3.1 x_6 r_5.2) else (if x1 = (1 : Int32) then (J_X12_boundOf_64 N g T a0 x1 x2 3 r_3.1 x_6 r_5.2) else (J_X12_boundOf_64 N g T a0 x1 x2 2 r_3.1 x_6 r_5.2)))) else (some (1, δ))
set_option maxHeartbeats 4000000 in
set_option maxRecDepth 100000 in
theorem c_b_X12_boundOf {l : Launch} {D : va_G} {cy : Nat → ClassId} {N d : Nat} {g : gp} (wt : WT g) (hl : l.stackTraces = false) {T : Nat → Int32 → Int32 → dp → Option (Int32 × dp)} {dh : Nat} (hT : ∀ (a0 : Nat) (x1 : Int32) (x2 : Int32) (δ : dp), q_K g a0 = 12 → CalD l D cy m_X12_boundOf dh 0 0 ei g [.ref a0, .int x1, .int x2] δ (T a0 x1 x2 δ)) (hh : dh + 1 ≤ d) (hd : 2 ≤ d) {a0 : Nat} {x1 : Int32} {x2 : Int32} {δ : dp} (k0 : q_K g a0 = 12) : CalD l D cy m_X12_boundOf d 0 0 ei g [.ref a0, .int x1, .int x2] δ (B_X12_boundOf N g T a0 x1 x2 δ) := by
  refine CalD.of (by decide +kernel) (Nat.le_of_ble_eq_true rfl) hl ?_
  unfold B_X12_boundOf
  refine w_iload_n 2 2 (μ := m_X12_boundOf) (pc := 0) dX12_boundOf_0 rfl rfl ?_
  refine w_aload_n 0 0 (μ := m_X12_boundOf) (pc := 1) dX12_boundOf_1 rfl rfl ?_
  refine w_getI (μ := m_X12_boundOf) (pc := 2) dX12_boundOf_2 fl_X12_26 ir_12_11 k0 ?_
  refine w_icmp_gt 10 (μ := m_X12_boundOf) (pc := 5) dX12_boundOf_5 (by decide) (fun c_1 => ?_) (fun c_1 => ?_)
  · refine w_aload_n 0 0 (μ := m_X12_boundOf) (pc := 10) dX12_boundOf_10 rfl rfl ?_
    refine w_iload_n 2 2 (μ := m_X12_boundOf) (pc := 11) dX12_boundOf_11 rfl rfl ?_
    refine w_callV (As := [.int x2]) (rest := []) (μ := m_X12_boundOf) (pc := 12) dX12_boundOf_12 cv_X12_293 rfl rfl k0 (by decide) rfl (Nat.le_of_ble_eq_true rfl) (d' := d - 1) (by omega) he_i (c_X12_lowerBits wt hl (d := d - 1) (by omega) k0) (fun r_2 => ?_)
    refine w_istore_n [(3, .int r_2.1), (0, .ref a0), (1, .int x1), (2, .int x2)] (μ := m_X12_boundOf) (pc := 15) dX12_boundOf_15 rfl (by decide) rfl ?_
    refine w_aload_n 1 0 (μ := m_X12_boundOf) (pc := 16) dX12_boundOf_16 rfl rfl ?_
    refine w_iload_n 2 1 (μ := m_X12_boundOf) (pc := 17) dX12_boundOf_17 rfl rfl ?_
    refine w_iload_n 0 3 (μ := m_X12_boundOf) (pc := 18) dX12_boundOf_18 rfl rfl ?_
    refine w_callV (As := [.int x1, .int r_2.1]) (rest := []) (μ := m_X12_boundOf) (pc := 19) dX12_boundOf_19 cv_X12_353 rfl rfl k0 (by decide) rfl (Nat.le_of_ble_eq_true rfl) (d' := dh) (by omega) he_i (hT _ _ _ _ k0) (fun r_3 => ?_)
    refine w_istore [(4, .int r_3.1), (3, .int r_2.1), (0, .ref a0), (1, .int x1), (2, .int x2)] (μ := m_X12_boundOf) (pc := 22) dX12_boundOf_22 (by decide) rfl ?_
    refine w_iload_n 3 1 (μ := m_X12_boundOf) (pc := 24) dX12_boundOf_24 rfl rfl ?_
    refine w_iconst (v := 2) (μ := m_X12_boundOf) (pc := 25) dX12_boundOf_25 (by decide) ?_
    refine w_icmp_ne 34 (μ := m_X12_boundOf) (pc := 26) dX12_boundOf_26 (by decide) (fun c_4 => ?_) (fun c_4 => ?_)
    · refine w_iconst (v := 1) (μ := m_X12_boundOf) (pc := 34) dX12_boundOf_34 (by decide) ?_
      refine w_aload_n 2 0 (μ := m_X12_boundOf) (pc := 35) dX12_boundOf_35 rfl rfl ?_
      refine w_iload_n 3 1 (μ := m_X12_boundOf) (pc := 36) dX12_boundOf_36 rfl rfl ?_
      refine w_iload_n 4 2 (μ := m_X12_boundOf) (pc := 37) dX12_boundOf_37 rfl rfl ?_
      refine w_iload_n 1 3 (μ := m_X12_boundOf) (pc := 38) dX12_boundOf_38 rfl rfl ?_
      refine w_isub (μ := m_X12_boundOf) (pc := 39) dX12_boundOf_39 ?_
      refine w_callV (As := [.int x1, .int (x2 - r_2.1)]) (rest := [.int 1]) (μ := m_X12_boundOf) (pc := 40) dX12_boundOf_40 cv_X12_353 rfl rfl k0 (by decide) rfl (Nat.le_of_ble_eq_true rfl) (d' := dh) (by omega) he_i (hT _ _ _ _ k0) (fun r_5 => ?_)
      refine w_iadd (μ := m_X12_boundOf) (pc := 43) dX12_boundOf_43 ?_
      refine w_bi (fun x_6 e_7 => ?_)
      refine w_istore [(5, .int x_6), (4, .int r_3.1), (3, .int r_2.1), (0, .ref a0), (1, .int x1), (2, .int x2)] (μ := m_X12_boundOf) (pc := 44) dX12_boundOf_44 (by decide) rfl ?_
      refine w_iload_n 4 1 (μ := m_X12_boundOf) (pc := 46) dX12_boundOf_46 rfl rfl ?_
      refine w_if_ne 54 (μ := m_X12_boundOf) (pc := 47) dX12_boundOf_47 (by decide) (fun c_8 => ?_) (fun c_8 => ?_)
      · refine w_iload_n 4 1 (μ := m_X12_boundOf) (pc := 54) dX12_boundOf_54 rfl rfl ?_
        refine w_iconst (v := 1) (μ := m_X12_boundOf) (pc := 55) dX12_boundOf_55 (by decide) ?_
        refine w_icmp_ne 63 (μ := m_X12_boundOf) (pc := 56) dX12_boundOf_56 (by decide) (fun c_9 => ?_) (fun c_9 => ?_)
        · refine w_iconst (v := 2) (μ := m_X12_boundOf) (pc := 63) dX12_boundOf_63 (by decide) ?_
          refine w_lv [1, 0] rfl ?_
          exact t_J_X12_boundOf_64 wt hl hT (by omega) (by omega) k0 _ _ _ _
        · refine w_iconst (v := 3) (μ := m_X12_boundOf) (pc := 59) dX12_boundOf_59 (by decide) ?_
          refine w_goto 64 (μ := m_X12_boundOf) (pc := 60) dX12_boundOf_60 (by decide) ?_
          refine w_lv [1, 0] rfl ?_
          exact t_J_X12_boundOf_64 wt hl hT (by omega) (by omega) k0 _ _ _ _
      · refine w_iconst (v := 1) (μ := m_X12_boundOf) (pc := 50) dX12_boundOf_50 (by decide) ?_
        refine w_goto 64 (μ := m_X12_boundOf) (pc := 51) dX12_boundOf_51 (by decide) ?_
        refine w_lv [1, 0] rfl ?_
        exact t_J_X12_boundOf_64 wt hl hT (by omega) (by omega) k0 _ _ _ _
    · refine w_iconst (v := 1) (μ := m_X12_boundOf) (pc := 29) dX12_boundOf_29 (by decide) ?_
      refine w_iload 0 (μ := m_X12_boundOf) (pc := 30) dX12_boundOf_30 rfl ?_
      refine w_iadd (μ := m_X12_boundOf) (pc := 32) dX12_boundOf_32 ?_
      exact w_iret (μ := m_X12_boundOf) (pc := 33) dX12_boundOf_33 rfl rfl
  · refine w_iconst (v := 1) (μ := m_X12_boundOf) (pc := 8) dX12_boundOf_8 (by decide) ?_
    exact w_iret (μ := m_X12_boundOf) (pc := 9) dX12_boundOf_9 rfl rfl
def E_X12_boundOf (N : Nat) (g : gp) : Nat → Nat → Int32 → Int32 → dp → Option (Int32 × dp)
  | 0, _, _, _, _ => none
  | k + 1, a0, x1, x2, δ => B_X12_boundOf N g (E_X12_boundOf N g k) a0 x1 x2 δ
theorem e_X12_boundOf {l : Launch} {D : va_G} {cy : Nat → ClassId} {N : Nat} {g : gp} (wt : WT g) (hl : l.stackTraces = false) : ∀ (k d : Nat), 2 + 1 * k ≤ d → ∀ (a0 : Nat) (x1 : Int32) (x2 : Int32) (δ : dp), q_K g a0 = 12 → CalD l D cy m_X12_boundOf d 0 0 ei g [.ref a0, .int x1, .int x2] δ (E_X12_boundOf N g k a0 x1 x2 δ) := by
  intro k
  induction k with
  | zero => intro d _ a0 x1 x2 δ k0 r hr; cases hr
  | succ k ih =>
    intro d hd a0 x1 x2 δ k0
    unfold E_X12_boundOf
    exact c_b_X12_boundOf wt hl (ih (2 + 1 * k) (Nat.le_refl _)) (by omega) (by omega) k0
def D_X12_boundOf (N : Nat) (g : gp) (a0 : Nat) (x1 : Int32) (x2 : Int32) (δ : dp) : Option (Int32 × dp) := E_X12_boundOf N g 20 a0 x1 x2 δ
theorem c_X12_boundOf {l : Launch} {D : va_G} {cy : Nat → ClassId} {N d : Nat} {g : gp} (wt : WT g) (hl : l.stackTraces = false) (hd : 22 ≤ d) {a0 : Nat} {x1 : Int32} {x2 : Int32} {δ : dp} (k0 : q_K g a0 = 12) : CalD l D cy m_X12_boundOf d 0 0 ei g [.ref a0, .int x1, .int x2] δ (D_X12_boundOf N g a0 x1 x2 δ) := e_X12_boundOf wt hl 20 d (by omega) _ _ _ _ k0
def D_X12_bound (N : Nat) (g : gp) (a0 : Nat) (x1 : Int32) (δ : dp) : Option (Int32 × dp) :=
  bd (s_I δ 12 0 a0 0) fun δ_1 => (D_X12_isCall N g x1 δ_1).bind fun r_3 => (D_X12_may N g a0 r_3.1 1 2 r_3.2).bind fun r_4 => if r_4.1 = 0 then (some (0, r_4.2)) else ((D_X12_boundOf N g a0 x1 (q_I r_4.2 12 10 a0) r_4.2).bind fun r_6 => some (r_6.1, r_6.2))
set_option maxHeartbeats 4000000 in
set_option maxRecDepth 100000 in
theorem c_X12_bound {l : Launch} {D : va_G} {cy : Nat → ClassId} {N d : Nat} {g : gp} (wt : WT g) (hl : l.stackTraces = false) (hd : 23 ≤ d) {a0 : Nat} {x1 : Int32} {δ : dp} (k0 : q_K g a0 = 12) : CalD l D cy m_X12_bound d 0 0 ei g [.ref a0, .int x1] δ (D_X12_bound N g a0 x1 δ) := by
  refine CalD.of (by decide +kernel) (Nat.le_of_ble_eq_true rfl) hl ?_
  unfold D_X12_bound
  refine w_aload_n 0 0 (μ := m_X12_bound) (pc := 0) dX12_bound_0 rfl rfl ?_
  refine w_iconst (v := 0) (μ := m_X12_bound) (pc := 1) dX12_bound_1 (by decide) ?_
  refine w_putI (μ := m_X12_bound) (pc := 2) dX12_bound_2 fl_X12_1 flw_12_0 ir_12_0 k0 ?_
  refine w_bd (fun δ_1 e_2 => ?_)
  refine w_aload_n 0 0 (μ := m_X12_bound) (pc := 5) dX12_bound_5 rfl rfl ?_
  refine w_iload_n 1 1 (μ := m_X12_bound) (pc := 6) dX12_bound_6 rfl rfl ?_
  refine w_callS (As := [.int x1]) (rest := [.ref a0]) (μ := m_X12_bound) (pc := 7) dX12_bound_7 cs_X12_344 rfl rfl (Nat.le_of_ble_eq_true rfl) (d' := d - 1) (by omega) he_i (c_X12_isCall wt hl (d := d - 1) (by omega) ) (fun r_3 => ?_)
  refine w_iconst (v := 1) (μ := m_X12_bound) (pc := 10) dX12_bound_10 (by decide) ?_
  refine w_iconst (v := 2) (μ := m_X12_bound) (pc := 11) dX12_bound_11 (by decide) ?_
  refine w_callV (As := [.int r_3.1, .int 1, .int 2]) (rest := []) (μ := m_X12_bound) (pc := 12) dX12_bound_12 cv_X12_157 rfl rfl k0 (by decide) rfl (Nat.le_of_ble_eq_true rfl) (d' := d - 1) (by omega) he_i (c_X12_may wt hl (d := d - 1) (by omega) k0) (fun r_4 => ?_)
  refine w_if_ne 20 (μ := m_X12_bound) (pc := 15) dX12_bound_15 (by decide) (fun c_5 => ?_) (fun c_5 => ?_)
  · refine w_aload_n 0 0 (μ := m_X12_bound) (pc := 20) dX12_bound_20 rfl rfl ?_
    refine w_iload_n 1 1 (μ := m_X12_bound) (pc := 21) dX12_bound_21 rfl rfl ?_
    refine w_aload_n 0 0 (μ := m_X12_bound) (pc := 22) dX12_bound_22 rfl rfl ?_
    refine w_getI (μ := m_X12_bound) (pc := 23) dX12_bound_23 fl_X12_23 ir_12_10 k0 ?_
    refine w_callV (As := [.int x1, .int (q_I r_4.2 12 10 a0)]) (rest := []) (μ := m_X12_bound) (pc := 26) dX12_bound_26 cv_X12_353 rfl rfl k0 (by decide) rfl (Nat.le_of_ble_eq_true rfl) (d' := d - 1) (by omega) he_i (c_X12_boundOf wt hl (d := d - 1) (by omega) k0) (fun r_6 => ?_)
    exact w_iret (μ := m_X12_bound) (pc := 29) dX12_bound_29 rfl rfl
  · refine w_iconst (v := 0) (μ := m_X12_bound) (pc := 18) dX12_bound_18 (by decide) ?_
    exact w_iret (μ := m_X12_bound) (pc := 19) dX12_bound_19 rfl rfl
def J_X12_mostSet_14 (N : Nat) (g : gp) (a0 : Nat) (xs0 : Int32) (δ : dp) : Option (Int32 × dp) :=
  some (xs0, δ)
set_option maxHeartbeats 4000000 in
set_option maxRecDepth 100000 in
theorem t_J_X12_mostSet_14 {l : Launch} {D : va_G} {cy : Nat → ClassId} {N d : Nat} {g : gp} (wt : WT g) (hl : l.stackTraces = false) (hd : 1 ≤ d) {a0 : Nat} (k0 : q_K g a0 = 12) : ∀ (xs0 : Int32) (δ : dp), AWD l D cy m_X12_mostSet d 0 0 ei g 14 [] [.int xs0] δ (J_X12_mostSet_14 N g a0 xs0 δ) := by
    intro xs0 δ 
    unfold J_X12_mostSet_14
    exact w_iret (μ := m_X12_mostSet) (pc := 14) dX12_mostSet_14 rfl rfl
def D_X12_mostSet (N : Nat) (g : gp) (a0 : Nat) (δ : dp) : Option (Int32 × dp) :=
  if (4 : Int32) < (q_I δ 12 10 a0) then (J_X12_mostSet_14 N g a0 3 δ) else (J_X12_mostSet_14 N g a0 16 δ)
set_option maxHeartbeats 4000000 in
set_option maxRecDepth 100000 in
theorem c_X12_mostSet {l : Launch} {D : va_G} {cy : Nat → ClassId} {N d : Nat} {g : gp} (wt : WT g) (hl : l.stackTraces = false) (hd : 1 ≤ d) {a0 : Nat} {δ : dp} (k0 : q_K g a0 = 12) : CalD l D cy m_X12_mostSet d 0 0 ei g [.ref a0] δ (D_X12_mostSet N g a0 δ) := by
  refine CalD.of (by decide +kernel) (Nat.le_of_ble_eq_true rfl) hl ?_
  unfold D_X12_mostSet
  refine w_aload_n 0 0 (μ := m_X12_mostSet) (pc := 0) dX12_mostSet_0 rfl rfl ?_
  refine w_getI (μ := m_X12_mostSet) (pc := 1) dX12_mostSet_1 fl_X12_23 ir_12_10 k0 ?_
  refine w_iconst (v := 4) (μ := m_X12_mostSet) (pc := 4) dX12_mostSet_4 (by decide) ?_
  refine w_icmp_gt 13 (μ := m_X12_mostSet) (pc := 5) dX12_mostSet_5 (by decide) (fun c_1 => ?_) (fun c_1 => ?_)
  · refine w_iconst (v := 3) (μ := m_X12_mostSet) (pc := 13) dX12_mostSet_13 (by decide) ?_
    refine w_lv [] rfl ?_
    exact t_J_X12_mostSet_14 wt hl (by omega) k0 _ _
  · refine w_bipush (v := 16) (μ := m_X12_mostSet) (pc := 8) dX12_mostSet_8 (by decide) ?_
    refine w_goto 14 (μ := m_X12_mostSet) (pc := 10) dX12_mostSet_10 (by decide) ?_
    refine w_lv [] rfl ?_
    exact t_J_X12_mostSet_14 wt hl (by omega) k0 _ _
def J_X12_isWorst_26 (N : Nat) (g : gp) (a0 : Nat) (x1 : Int32) (xs0 : Int32) (δ : dp) : Option (Int32 × dp) :=
  if xs0 = 0 ∨ xs0 = 1 then some (xs0, δ) else none
set_option maxHeartbeats 4000000 in
set_option maxRecDepth 100000 in
theorem t_J_X12_isWorst_26 {l : Launch} {D : va_G} {cy : Nat → ClassId} {N d : Nat} {g : gp} (wt : WT g) (hl : l.stackTraces = false) (hd : 2 ≤ d) {a0 : Nat} {x1 : Int32} (k0 : q_K g a0 = 12) : ∀ (xs0 : Int32) (δ : dp), AWD l D cy m_X12_isWorst d 0 0 ei g 26 [] [.int xs0] δ (J_X12_isWorst_26 N g a0 x1 xs0 δ) := by
    intro xs0 δ 
    unfold J_X12_isWorst_26
    exact w_zret (μ := m_X12_isWorst) (pc := 26) dX12_isWorst_26 rfl rfl
def J_X12_isWorst_25 (N : Nat) (g : gp) (a0 : Nat) (x1 : Int32) (δ : dp) : Option (Int32 × dp) :=
  J_X12_isWorst_26 N g a0 x1 0 δ
set_option maxHeartbeats 4000000 in
set_option maxRecDepth 100000 in
theorem t_J_X12_isWorst_25 {l : Launch} {D : va_G} {cy : Nat → ClassId} {N d : Nat} {g : gp} (wt : WT g) (hl : l.stackTraces = false) (hd : 2 ≤ d) {a0 : Nat} {x1 : Int32} (k0 : q_K g a0 = 12) : ∀ (δ : dp), AWD l D cy m_X12_isWorst d 0 0 ei g 25 [] [] δ (J_X12_isWorst_25 N g a0 x1 δ) := by
    intro  δ 
    unfold J_X12_isWorst_25
    refine w_iconst (v := 0) (μ := m_X12_isWorst) (pc := 25) dX12_isWorst_25 (by decide) ?_
    exact t_J_X12_isWorst_26 wt hl (by omega) k0 _ _
def D_X12_isWorst (N : Nat) (g : gp) (a0 : Nat) (x1 : Int32) (δ : dp) : Option (Int32 × dp) :=
  if (6 : Int32) < (q_I δ 12 10 a0) then (J_X12_isWorst_25 N g a0 x1 δ) else ((D_X12_mostSet N g a0 δ).bind fun r_2 => (D_X12_within N g x1 0 r_2.1 r_2.2).bind fun r_3 => if r_3.1 = 0 then (J_X12_isWorst_25 N g a0 x1 r_3.2) else (J_X12_isWorst_26 N g a0 x1 1 r_3.2))
set_option maxHeartbeats 4000000 in
set_option maxRecDepth 100000 in
theorem c_X12_isWorst {l : Launch} {D : va_G} {cy : Nat → ClassId} {N d : Nat} {g : gp} (wt : WT g) (hl : l.stackTraces = false) (hd : 2 ≤ d) {a0 : Nat} {x1 : Int32} {δ : dp} (k0 : q_K g a0 = 12) : CalD l D cy m_X12_isWorst d 0 0 ei g [.ref a0, .int x1] δ (D_X12_isWorst N g a0 x1 δ) := by
  refine CalD.of (by decide +kernel) (Nat.le_of_ble_eq_true rfl) hl ?_
  unfold D_X12_isWorst
  refine w_aload_n 0 0 (μ := m_X12_isWorst) (pc := 0) dX12_isWorst_0 rfl rfl ?_
  refine w_getI (μ := m_X12_isWorst) (pc := 1) dX12_isWorst_1 fl_X12_23 ir_12_10 k0 ?_
  refine w_bipush (v := 6) (μ := m_X12_isWorst) (pc := 4) dX12_isWorst_4 (by decide) ?_
  refine w_icmp_gt 25 (μ := m_X12_isWorst) (pc := 6) dX12_isWorst_6 (by decide) (fun c_1 => ?_) (fun c_1 => ?_)
  · refine w_lv [] rfl ?_
    exact t_J_X12_isWorst_25 wt hl (by omega) k0 _
  · refine w_iload_n 1 1 (μ := m_X12_isWorst) (pc := 9) dX12_isWorst_9 rfl rfl ?_
    refine w_iconst (v := 0) (μ := m_X12_isWorst) (pc := 10) dX12_isWorst_10 (by decide) ?_
    refine w_aload_n 0 0 (μ := m_X12_isWorst) (pc := 11) dX12_isWorst_11 rfl rfl ?_
    refine w_callV (As := []) (rest := [.int 0, .int x1]) (μ := m_X12_isWorst) (pc := 12) dX12_isWorst_12 cv_X12_372 rfl rfl k0 (by decide) rfl (Nat.le_of_ble_eq_true rfl) (d' := d - 1) (by omega) he_i (c_X12_mostSet wt hl (d := d - 1) (by omega) k0) (fun r_2 => ?_)
    refine w_callS (As := [.int x1, .int 0, .int r_2.1]) (rest := []) (μ := m_X12_isWorst) (pc := 15) dX12_isWorst_15 cs_X12_250 rfl rfl (Nat.le_of_ble_eq_true rfl) (d' := d - 1) (by omega) he_i (c_X12_within wt hl (d := d - 1) (by omega) ) (fun r_3 => ?_)
    refine w_if_eq 25 (μ := m_X12_isWorst) (pc := 18) dX12_isWorst_18 (by decide) (fun c_4 => ?_) (fun c_4 => ?_)
    · refine w_lv [] rfl ?_
      exact t_J_X12_isWorst_25 wt hl (by omega) k0 _
    · refine w_iconst (v := 1) (μ := m_X12_isWorst) (pc := 21) dX12_isWorst_21 (by decide) ?_
      refine w_goto 26 (μ := m_X12_isWorst) (pc := 22) dX12_isWorst_22 (by decide) ?_
      refine w_lv [] rfl ?_
      exact t_J_X12_isWorst_26 wt hl (by omega) k0 _ _
def J_X12_behind_28 (N : Nat) (g : gp) (a0 : Nat) (x1 : Int32) (x2 : Int32) (x3 : Int32) (xs0 : Int32) (δ : dp) : Option (Int32 × dp) :=
  some (xs0, δ)
set_option maxHeartbeats 4000000 in
set_option maxRecDepth 100000 in
theorem t_J_X12_behind_28 {l : Launch} {D : va_G} {cy : Nat → ClassId} {N d : Nat} {g : gp} (wt : WT g) (hl : l.stackTraces = false) (hd : 1 ≤ d) {a0 : Nat} {x1 : Int32} {x2 : Int32} {x3 : Int32} (k0 : q_K g a0 = 12) : ∀ (xs0 : Int32) (δ : dp), AWD l D cy m_X12_behind d 0 0 ei g 28 [] [.int xs0] δ (J_X12_behind_28 N g a0 x1 x2 x3 xs0 δ) := by
    intro xs0 δ 
    unfold J_X12_behind_28
    exact w_iret (μ := m_X12_behind) (pc := 28) dX12_behind_28 rfl rfl
def D_X12_behind (N : Nat) (g : gp) (a0 : Nat) (x1 : Int32) (x2 : Int32) (x3 : Int32) (δ : dp) : Option (Int32 × dp) :=
  if x1 = 0 then (J_X12_behind_28 N g a0 x1 x2 x3 (x3 ||| (1 <<< (x2 &&& 31))) δ) else (if x1 = (1 : Int32) then (J_X12_behind_28 N g a0 x1 x2 x3 (x3 &&& ((1 <<< (x2 &&& 31)) ^^^ ((-1)))) δ) else (J_X12_behind_28 N g a0 x1 x2 x3 x3 δ))
set_option maxHeartbeats 4000000 in
set_option maxRecDepth 100000 in
theorem c_X12_behind {l : Launch} {D : va_G} {cy : Nat → ClassId} {N d : Nat} {g : gp} (wt : WT g) (hl : l.stackTraces = false) (hd : 1 ≤ d) {a0 : Nat} {x1 : Int32} {x2 : Int32} {x3 : Int32} {δ : dp} (k0 : q_K g a0 = 12) : CalD l D cy m_X12_behind d 0 0 ei g [.ref a0, .int x1, .int x2, .int x3] δ (D_X12_behind N g a0 x1 x2 x3 δ) := by
  refine CalD.of (by decide +kernel) (Nat.le_of_ble_eq_true rfl) hl ?_
  unfold D_X12_behind
  refine w_iload_n 1 1 (μ := m_X12_behind) (pc := 0) dX12_behind_0 rfl rfl ?_
  refine w_if_ne 12 (μ := m_X12_behind) (pc := 1) dX12_behind_1 (by decide) (fun c_1 => ?_) (fun c_1 => ?_)
  · refine w_iload_n 1 1 (μ := m_X12_behind) (pc := 12) dX12_behind_12 rfl rfl ?_
    refine w_iconst (v := 1) (μ := m_X12_behind) (pc := 13) dX12_behind_13 (by decide) ?_
    refine w_icmp_ne 27 (μ := m_X12_behind) (pc := 14) dX12_behind_14 (by decide) (fun c_2 => ?_) (fun c_2 => ?_)
    · refine w_iload_n 3 3 (μ := m_X12_behind) (pc := 27) dX12_behind_27 rfl rfl ?_
      refine w_lv [] rfl ?_
      exact t_J_X12_behind_28 wt hl (by omega) k0 _ _
    · refine w_iload_n 3 3 (μ := m_X12_behind) (pc := 17) dX12_behind_17 rfl rfl ?_
      refine w_iconst (v := 1) (μ := m_X12_behind) (pc := 18) dX12_behind_18 (by decide) ?_
      refine w_iload_n 2 2 (μ := m_X12_behind) (pc := 19) dX12_behind_19 rfl rfl ?_
      refine w_ishl (μ := m_X12_behind) (pc := 20) dX12_behind_20 ?_
      refine w_iconst (v := (-1)) (μ := m_X12_behind) (pc := 21) dX12_behind_21 (by decide) ?_
      refine w_ixor (μ := m_X12_behind) (pc := 22) dX12_behind_22 ?_
      refine w_iand (μ := m_X12_behind) (pc := 23) dX12_behind_23 ?_
      refine w_goto 28 (μ := m_X12_behind) (pc := 24) dX12_behind_24 (by decide) ?_
      refine w_lv [] rfl ?_
      exact t_J_X12_behind_28 wt hl (by omega) k0 _ _
  · refine w_iload_n 3 3 (μ := m_X12_behind) (pc := 4) dX12_behind_4 rfl rfl ?_
    refine w_iconst (v := 1) (μ := m_X12_behind) (pc := 5) dX12_behind_5 (by decide) ?_
    refine w_iload_n 2 2 (μ := m_X12_behind) (pc := 6) dX12_behind_6 rfl rfl ?_
    refine w_ishl (μ := m_X12_behind) (pc := 7) dX12_behind_7 ?_
    refine w_ior (μ := m_X12_behind) (pc := 8) dX12_behind_8 ?_
    refine w_goto 28 (μ := m_X12_behind) (pc := 9) dX12_behind_9 (by decide) ?_
    refine w_lv [] rfl ?_
    exact t_J_X12_behind_28 wt hl (by omega) k0 _ _
def L_X12_ones_4 (N : Nat) (g : gp) (x0 : Int32) : Nat → Int32 → Int32 → dp → Option (Int32 × dp)
  | 0, _, _, _ => none
  | n + 1, x1v, x2v, δ => if x2v = 0 then (some (x1v, δ)) else (bi (x1v + 1) fun x_2 => bi (x2v &&& (x2v - 1)) fun x_4 => L_X12_ones_4 N g x0 n x_2 x_4 δ)
set_option maxHeartbeats 4000000 in
set_option maxRecDepth 100000 in
theorem t_L_X12_ones_4 {l : Launch} {D : va_G} {cy : Nat → ClassId} {N d : Nat} {g : gp} (wt : WT g) (hl : l.stackTraces = false) (hd : 1 ≤ d) {x0 : Int32} : ∀ (n : Nat) (x1v : Int32) (x2v : Int32) (δ : dp), AWD l D cy m_X12_ones d 0 0 ei g 4 [(1, .int x1v), (2, .int x2v)] [] δ (L_X12_ones_4 N g x0 n x1v x2v δ) := by
  intro n
  induction n with
  | zero => intro x1v x2v δ ; exact w_none
  | succ n ih =>
    intro x1v x2v δ 
    unfold L_X12_ones_4
    refine w_iload_n 1 2 (μ := m_X12_ones) (pc := 4) dX12_ones_4 rfl rfl ?_
    refine w_if_eq 20 (μ := m_X12_ones) (pc := 5) dX12_ones_5 (by decide) (fun c_1 => ?_) (fun c_1 => ?_)
    · refine w_iload_n 0 1 (μ := m_X12_ones) (pc := 20) dX12_ones_20 rfl rfl ?_
      exact w_iret (μ := m_X12_ones) (pc := 21) dX12_ones_21 rfl rfl
    · refine w_inb (fun x_2 e_3 => ?_)
      refine w_iinc 0 [(1, .int x_2), (2, .int x2v)] (μ := m_X12_ones) (pc := 8) dX12_ones_8 rfl (by rw [e_3]; rfl) (by decide) rfl ?_
      refine w_iload_n 1 2 (μ := m_X12_ones) (pc := 11) dX12_ones_11 rfl rfl ?_
      refine w_iload_n 1 2 (μ := m_X12_ones) (pc := 12) dX12_ones_12 rfl rfl ?_
      refine w_iconst (v := 1) (μ := m_X12_ones) (pc := 13) dX12_ones_13 (by decide) ?_
      refine w_isub (μ := m_X12_ones) (pc := 14) dX12_ones_14 ?_
      refine w_iand (μ := m_X12_ones) (pc := 15) dX12_ones_15 ?_
      refine w_bi (fun x_4 e_5 => ?_)
      refine w_istore_n [(2, .int x_4), (1, .int x_2)] (μ := m_X12_ones) (pc := 16) dX12_ones_16 rfl (by decide) rfl ?_
      refine w_goto 4 (μ := m_X12_ones) (pc := 17) dX12_ones_17 (by decide) ?_
      refine w_lv [1, 0] rfl ?_
      exact ih _ _ _
def D_X12_ones (N : Nat) (g : gp) (x0 : Int32) (δ : dp) : Option (Int32 × dp) :=
  L_X12_ones_4 N g x0 N 0 x0 δ
set_option maxHeartbeats 4000000 in
set_option maxRecDepth 100000 in
theorem c_X12_ones {l : Launch} {D : va_G} {cy : Nat → ClassId} {N d : Nat} {g : gp} (wt : WT g) (hl : l.stackTraces = false) (hd : 1 ≤ d) {x0 : Int32} {δ : dp} : CalD l D cy m_X12_ones d 0 0 ei g [.int x0] δ (D_X12_ones N g x0 δ) := by
  refine CalD.of (by decide +kernel) (Nat.le_of_ble_eq_true rfl) hl ?_
  unfold D_X12_ones
  refine w_iconst (v := 0) (μ := m_X12_ones) (pc := 0) dX12_ones_0 (by decide) ?_
  refine w_istore_n [(1, .int 0), (0, .int x0)] (μ := m_X12_ones) (pc := 1) dX12_ones_1 rfl (by decide) rfl ?_
  refine w_iload_n 1 0 (μ := m_X12_ones) (pc := 2) dX12_ones_2 rfl rfl ?_
  refine w_istore_n [(2, .int x0), (1, .int 0), (0, .int x0)] (μ := m_X12_ones) (pc := 3) dX12_ones_3 rfl (by decide) rfl ?_
  refine w_lv [1, 0] rfl ?_
  exact t_L_X12_ones_4 wt hl (by omega) N _ _ _
def J_X12_isRow_36 (N : Nat) (g : gp) (a0 : Nat) (x1 : Int32) (xs0 : Int32) (δ : dp) : Option (Int32 × dp) :=
  if xs0 = 0 ∨ xs0 = 1 then some (xs0, δ) else none
set_option maxHeartbeats 4000000 in
set_option maxRecDepth 100000 in
theorem t_J_X12_isRow_36 {l : Launch} {D : va_G} {cy : Nat → ClassId} {N d : Nat} {g : gp} (wt : WT g) (hl : l.stackTraces = false) (hd : 2 ≤ d) {a0 : Nat} {x1 : Int32} (k0 : q_K g a0 = 12) : ∀ (xs0 : Int32) (δ : dp), AWD l D cy m_X12_isRow d 0 0 ei g 36 [] [.int xs0] δ (J_X12_isRow_36 N g a0 x1 xs0 δ) := by
    intro xs0 δ 
    unfold J_X12_isRow_36
    exact w_zret (μ := m_X12_isRow) (pc := 36) dX12_isRow_36 rfl rfl
def J_X12_isRow_35 (N : Nat) (g : gp) (a0 : Nat) (x1 : Int32) (δ : dp) : Option (Int32 × dp) :=
  J_X12_isRow_36 N g a0 x1 0 δ
set_option maxHeartbeats 4000000 in
set_option maxRecDepth 100000 in
theorem t_J_X12_isRow_35 {l : Launch} {D : va_G} {cy : Nat → ClassId} {N d : Nat} {g : gp} (wt : WT g) (hl : l.stackTraces = false) (hd : 2 ≤ d) {a0 : Nat} {x1 : Int32} (k0 : q_K g a0 = 12) : ∀ (δ : dp), AWD l D cy m_X12_isRow d 0 0 ei g 35 [] [] δ (J_X12_isRow_35 N g a0 x1 δ) := by
    intro  δ 
    unfold J_X12_isRow_35
    refine w_iconst (v := 0) (μ := m_X12_isRow) (pc := 35) dX12_isRow_35 (by decide) ?_
    exact t_J_X12_isRow_36 wt hl (by omega) k0 _ _
def J_X12_isRow_25 (N : Nat) (g : gp) (a0 : Nat) (x1 : Int32) (xs0 : Int32) (xs1 : Int32) (xs2 : Int32) (δ : dp) : Option (Int32 × dp) :=
  (D_X12_within N g xs2 xs1 xs0 δ).bind fun r_3 => if r_3.1 = 0 then (J_X12_isRow_35 N g a0 x1 r_3.2) else (J_X12_isRow_36 N g a0 x1 1 r_3.2)
set_option maxHeartbeats 4000000 in
set_option maxRecDepth 100000 in
theorem t_J_X12_isRow_25 {l : Launch} {D : va_G} {cy : Nat → ClassId} {N d : Nat} {g : gp} (wt : WT g) (hl : l.stackTraces = false) (hd : 2 ≤ d) {a0 : Nat} {x1 : Int32} (k0 : q_K g a0 = 12) : ∀ (xs0 : Int32) (xs1 : Int32) (xs2 : Int32) (δ : dp), AWD l D cy m_X12_isRow d 0 0 ei g 25 [] [.int xs0, .int xs1, .int xs2] δ (J_X12_isRow_25 N g a0 x1 xs0 xs1 xs2 δ) := by
    intro xs0 xs1 xs2 δ 
    unfold J_X12_isRow_25
    refine w_callS (As := [.int xs2, .int xs1, .int xs0]) (rest := []) (μ := m_X12_isRow) (pc := 25) dX12_isRow_25 cs_X12_250 rfl rfl (Nat.le_of_ble_eq_true rfl) (d' := d - 1) (by omega) he_i (c_X12_within wt hl (d := d - 1) (by omega) ) (fun r_3 => ?_)
    refine w_if_eq 35 (μ := m_X12_isRow) (pc := 28) dX12_isRow_28 (by decide) (fun c_4 => ?_) (fun c_4 => ?_)
    · exact t_J_X12_isRow_35 wt hl (by omega) k0 _
    · refine w_iconst (v := 1) (μ := m_X12_isRow) (pc := 31) dX12_isRow_31 (by decide) ?_
      refine w_goto 36 (μ := m_X12_isRow) (pc := 32) dX12_isRow_32 (by decide) ?_
      exact t_J_X12_isRow_36 wt hl (by omega) k0 _ _
def D_X12_isRow (N : Nat) (g : gp) (a0 : Nat) (x1 : Int32) (δ : dp) : Option (Int32 × dp) :=
  if (6 : Int32) < (q_I δ 12 10 a0) then (J_X12_isRow_35 N g a0 x1 δ) else (if (4 : Int32) < (q_I δ 12 10 a0) then (J_X12_isRow_25 N g a0 x1 2 1 x1 δ) else (J_X12_isRow_25 N g a0 x1 6 1 x1 δ))
set_option maxHeartbeats 4000000 in
set_option maxRecDepth 100000 in
theorem c_X12_isRow {l : Launch} {D : va_G} {cy : Nat → ClassId} {N d : Nat} {g : gp} (wt : WT g) (hl : l.stackTraces = false) (hd : 2 ≤ d) {a0 : Nat} {x1 : Int32} {δ : dp} (k0 : q_K g a0 = 12) : CalD l D cy m_X12_isRow d 0 0 ei g [.ref a0, .int x1] δ (D_X12_isRow N g a0 x1 δ) := by
  refine CalD.of (by decide +kernel) (Nat.le_of_ble_eq_true rfl) hl ?_
  unfold D_X12_isRow
  refine w_aload_n 0 0 (μ := m_X12_isRow) (pc := 0) dX12_isRow_0 rfl rfl ?_
  refine w_getI (μ := m_X12_isRow) (pc := 1) dX12_isRow_1 fl_X12_23 ir_12_10 k0 ?_
  refine w_bipush (v := 6) (μ := m_X12_isRow) (pc := 4) dX12_isRow_4 (by decide) ?_
  refine w_icmp_gt 35 (μ := m_X12_isRow) (pc := 6) dX12_isRow_6 (by decide) (fun c_1 => ?_) (fun c_1 => ?_)
  · refine w_lv [] rfl ?_
    exact t_J_X12_isRow_35 wt hl (by omega) k0 _
  · refine w_iload_n 1 1 (μ := m_X12_isRow) (pc := 9) dX12_isRow_9 rfl rfl ?_
    refine w_iconst (v := 1) (μ := m_X12_isRow) (pc := 10) dX12_isRow_10 (by decide) ?_
    refine w_aload_n 0 0 (μ := m_X12_isRow) (pc := 11) dX12_isRow_11 rfl rfl ?_
    refine w_getI (μ := m_X12_isRow) (pc := 12) dX12_isRow_12 fl_X12_23 ir_12_10 k0 ?_
    refine w_iconst (v := 4) (μ := m_X12_isRow) (pc := 15) dX12_isRow_15 (by decide) ?_
    refine w_icmp_gt 24 (μ := m_X12_isRow) (pc := 16) dX12_isRow_16 (by decide) (fun c_2 => ?_) (fun c_2 => ?_)
    · refine w_iconst (v := 2) (μ := m_X12_isRow) (pc := 24) dX12_isRow_24 (by decide) ?_
      refine w_lv [] rfl ?_
      exact t_J_X12_isRow_25 wt hl (by omega) k0 _ _ _ _
    · refine w_bipush (v := 6) (μ := m_X12_isRow) (pc := 19) dX12_isRow_19 (by decide) ?_
      refine w_goto 25 (μ := m_X12_isRow) (pc := 21) dX12_isRow_21 (by decide) ?_
      refine w_lv [] rfl ?_
      exact t_J_X12_isRow_25 wt hl (by omega) k0 _ _ _ _
def L_X12_keeps_2 (N : Nat) (g : gp) (a0 : Nat) (x1 : Int32) : Nat → Int32 → dp → Option (dp)
  | 0, _, _ => none
  | n + 1, x2v, δ => (q_O g 12 14 a0).bind fun b_1 => if x1 < 0 ∨ q_N g b_1 ≤ x1.toNatClampNeg then none else if (q_R δ b_1 x1.toNatClampNeg) ≤ x2v then ((q_O g 12 14 a0).bind fun b_4 => if x1 < 0 ∨ q_N g b_4 ≤ x1.toNatClampNeg then none else bd (s_I δ 12 47 a0 (q_R δ b_4 x1.toNatClampNeg)) fun δ_6 => some δ_6) else ((q_O g 12 46 a0).bind fun b_8 => (q_O g 12 13 a0).bind fun b_10 => if ((2000 * x1) + x2v) < 0 ∨ q_N g b_10 ≤ ((2000 * x1) + x2v).toNatClampNeg then none else if x2v < 0 ∨ q_N g b_8 ≤ x2v.toNatClampNeg then none else bd (s_R δ b_8 x2v.toNatClampNeg (q_R δ b_10 ((2000 * x1) + x2v).toNatClampNeg)) fun δ_12 => bi (x2v + 1) fun x_14 => L_X12_keeps_2 N g a0 x1 n x_14 δ_12)
set_option maxHeartbeats 4000000 in
set_option maxRecDepth 100000 in
theorem t_L_X12_keeps_2 {l : Launch} {D : va_G} {cy : Nat → ClassId} {N d : Nat} {g : gp} (wt : WT g) (hl : l.stackTraces = false) (hd : 1 ≤ d) {a0 : Nat} {x1 : Int32} (k0 : q_K g a0 = 12) : ∀ (n : Nat) (x2v : Int32) (δ : dp), AWD l D cy m_X12_keeps d 0 0 ev g 2 [(0, .ref a0), (1, .int x1), (2, .int x2v)] [] δ (L_X12_keeps_2 N g a0 x1 n x2v δ) := by
  intro n
  induction n with
  | zero => intro x2v δ ; exact w_none
  | succ n ih =>
    intro x2v δ 
    unfold L_X12_keeps_2
    refine w_iload_n 2 2 (μ := m_X12_keeps) (pc := 2) dX12_keeps_2 rfl rfl ?_
    refine w_aload_n 0 0 (μ := m_X12_keeps) (pc := 3) dX12_keeps_3 rfl rfl ?_
    refine w_getO (μ := m_X12_keeps) (pc := 4) dX12_keeps_4 fl_X12_36 ir_12_14 id_12_14 k0 (fun b_1 e_2 => ?_)
    refine w_iload_n 1 1 (μ := m_X12_keeps) (pc := 7) dX12_keeps_7 rfl rfl ?_
    refine w_ald (μ := m_X12_keeps) (pc := 8) dX12_keeps_8 (wt_12_14 wt k0 e_2) ?_
    refine w_icmp_ge 36 (μ := m_X12_keeps) (pc := 9) dX12_keeps_9 (by decide) (fun c_3 => ?_) (fun c_3 => ?_)
    · refine w_aload_n 0 0 (μ := m_X12_keeps) (pc := 36) dX12_keeps_36 rfl rfl ?_
      refine w_aload_n 0 0 (μ := m_X12_keeps) (pc := 37) dX12_keeps_37 rfl rfl ?_
      refine w_getO (μ := m_X12_keeps) (pc := 38) dX12_keeps_38 fl_X12_36 ir_12_14 id_12_14 k0 (fun b_4 e_5 => ?_)
      refine w_iload_n 1 1 (μ := m_X12_keeps) (pc := 41) dX12_keeps_41 rfl rfl ?_
      refine w_ald (μ := m_X12_keeps) (pc := 42) dX12_keeps_42 (wt_12_14 wt k0 e_5) ?_
      refine w_putI (μ := m_X12_keeps) (pc := 43) dX12_keeps_43 fl_X12_406 flw_12_47 ir_12_47 k0 ?_
      refine w_bd (fun δ_6 e_7 => ?_)
      exact w_vret (μ := m_X12_keeps) (pc := 46) dX12_keeps_46 rfl rfl
    · refine w_aload_n 0 0 (μ := m_X12_keeps) (pc := 12) dX12_keeps_12 rfl rfl ?_
      refine w_getO (μ := m_X12_keeps) (pc := 13) dX12_keeps_13 fl_X12_100 ir_12_46 id_12_46 k0 (fun b_8 e_9 => ?_)
      refine w_iload_n 2 2 (μ := m_X12_keeps) (pc := 16) dX12_keeps_16 rfl rfl ?_
      refine w_aload_n 0 0 (μ := m_X12_keeps) (pc := 17) dX12_keeps_17 rfl rfl ?_
      refine w_getO (μ := m_X12_keeps) (pc := 18) dX12_keeps_18 fl_X12_33 ir_12_13 id_12_13 k0 (fun b_10 e_11 => ?_)
      refine w_sipush (v := 2000) (μ := m_X12_keeps) (pc := 21) dX12_keeps_21 (by decide) ?_
      refine w_iload_n 1 1 (μ := m_X12_keeps) (pc := 24) dX12_keeps_24 rfl rfl ?_
      refine w_imul (μ := m_X12_keeps) (pc := 25) dX12_keeps_25 ?_
      refine w_iload_n 2 2 (μ := m_X12_keeps) (pc := 26) dX12_keeps_26 rfl rfl ?_
      refine w_iadd (μ := m_X12_keeps) (pc := 27) dX12_keeps_27 ?_
      refine w_ald (μ := m_X12_keeps) (pc := 28) dX12_keeps_28 (wt_12_13 wt k0 e_11) ?_
      refine w_ast (μ := m_X12_keeps) (pc := 29) dX12_keeps_29 (wt_12_46 wt k0 e_9) ?_
      refine w_bd (fun δ_12 e_13 => ?_)
      refine w_inb (fun x_14 e_15 => ?_)
      refine w_iinc 2 [(2, .int x_14), (0, .ref a0), (1, .int x1)] (μ := m_X12_keeps) (pc := 30) dX12_keeps_30 rfl (by rw [e_15]; rfl) (by decide) rfl ?_
      refine w_goto 2 (μ := m_X12_keeps) (pc := 33) dX12_keeps_33 (by decide) ?_
      refine w_lv [1, 2, 0] rfl ?_
      exact ih _ _
def D_X12_keeps (N : Nat) (g : gp) (a0 : Nat) (x1 : Int32) (δ : dp) : Option (dp) :=
  L_X12_keeps_2 N g a0 x1 N 0 δ
set_option maxHeartbeats 4000000 in
set_option maxRecDepth 100000 in
theorem c_X12_keeps {l : Launch} {D : va_G} {cy : Nat → ClassId} {N d : Nat} {g : gp} (wt : WT g) (hl : l.stackTraces = false) (hd : 1 ≤ d) {a0 : Nat} {x1 : Int32} {δ : dp} (k0 : q_K g a0 = 12) : CalD l D cy m_X12_keeps d 0 0 ev g [.ref a0, .int x1] δ (D_X12_keeps N g a0 x1 δ) := by
  refine CalD.of (by decide +kernel) (Nat.le_of_ble_eq_true rfl) hl ?_
  unfold D_X12_keeps
  refine w_iconst (v := 0) (μ := m_X12_keeps) (pc := 0) dX12_keeps_0 (by decide) ?_
  refine w_istore_n [(2, .int 0), (0, .ref a0), (1, .int x1)] (μ := m_X12_keeps) (pc := 1) dX12_keeps_1 rfl (by decide) rfl ?_
  refine w_lv [1, 2, 0] rfl ?_
  exact t_L_X12_keeps_2 wt hl (by omega) k0 N _ _
def L_X12_comesBack_2 (N : Nat) (g : gp) (a0 : Nat) (x1 : Int32) : Nat → Int32 → dp → Option (dp)
  | 0, _, _ => none
  | n + 1, x2v, δ => if (q_I δ 12 47 a0) ≤ x2v then ((q_O g 12 14 a0).bind fun b_2 => if x1 < 0 ∨ q_N g b_2 ≤ x1.toNatClampNeg then none else bd (s_R δ b_2 x1.toNatClampNeg (q_I δ 12 47 a0)) fun δ_4 => some δ_4) else ((q_O g 12 13 a0).bind fun b_6 => (q_O g 12 46 a0).bind fun b_8 => if x2v < 0 ∨ q_N g b_8 ≤ x2v.toNatClampNeg then none else if ((2000 * x1) + x2v) < 0 ∨ q_N g b_6 ≤ ((2000 * x1) + x2v).toNatClampNeg then none else bd (s_R δ b_6 ((2000 * x1) + x2v).toNatClampNeg (q_R δ b_8 x2v.toNatClampNeg)) fun δ_10 => bi (x2v + 1) fun x_12 => L_X12_comesBack_2 N g a0 x1 n x_12 δ_10)
set_option maxHeartbeats 4000000 in
set_option maxRecDepth 100000 in
theorem t_L_X12_comesBack_2 {l : Launch} {D : va_G} {cy : Nat → ClassId} {N d : Nat} {g : gp} (wt : WT g) (hl : l.stackTraces = false) (hd : 1 ≤ d) {a0 : Nat} {x1 : Int32} (k0 : q_K g a0 = 12) : ∀ (n : Nat) (x2v : Int32) (δ : dp), AWD l D cy m_X12_comesBack d 0 0 ev g 2 [(0, .ref a0), (1, .int x1), (2, .int x2v)] [] δ (L_X12_comesBack_2 N g a0 x1 n x2v δ) := by
  intro n
  induction n with
  | zero => intro x2v δ ; exact w_none
  | succ n ih =>
    intro x2v δ 
    unfold L_X12_comesBack_2
    refine w_iload_n 2 2 (μ := m_X12_comesBack) (pc := 2) dX12_comesBack_2 rfl rfl ?_
    refine w_aload_n 0 0 (μ := m_X12_comesBack) (pc := 3) dX12_comesBack_3 rfl rfl ?_
    refine w_getI (μ := m_X12_comesBack) (pc := 4) dX12_comesBack_4 fl_X12_406 ir_12_47 k0 ?_
    refine w_icmp_ge 34 (μ := m_X12_comesBack) (pc := 7) dX12_comesBack_7 (by decide) (fun c_1 => ?_) (fun c_1 => ?_)
    · refine w_aload_n 0 0 (μ := m_X12_comesBack) (pc := 34) dX12_comesBack_34 rfl rfl ?_
      refine w_getO (μ := m_X12_comesBack) (pc := 35) dX12_comesBack_35 fl_X12_36 ir_12_14 id_12_14 k0 (fun b_2 e_3 => ?_)
      refine w_iload_n 1 1 (μ := m_X12_comesBack) (pc := 38) dX12_comesBack_38 rfl rfl ?_
      refine w_aload_n 0 0 (μ := m_X12_comesBack) (pc := 39) dX12_comesBack_39 rfl rfl ?_
      refine w_getI (μ := m_X12_comesBack) (pc := 40) dX12_comesBack_40 fl_X12_406 ir_12_47 k0 ?_
      refine w_ast (μ := m_X12_comesBack) (pc := 43) dX12_comesBack_43 (wt_12_14 wt k0 e_3) ?_
      refine w_bd (fun δ_4 e_5 => ?_)
      exact w_vret (μ := m_X12_comesBack) (pc := 44) dX12_comesBack_44 rfl rfl
    · refine w_aload_n 0 0 (μ := m_X12_comesBack) (pc := 10) dX12_comesBack_10 rfl rfl ?_
      refine w_getO (μ := m_X12_comesBack) (pc := 11) dX12_comesBack_11 fl_X12_33 ir_12_13 id_12_13 k0 (fun b_6 e_7 => ?_)
      refine w_sipush (v := 2000) (μ := m_X12_comesBack) (pc := 14) dX12_comesBack_14 (by decide) ?_
      refine w_iload_n 1 1 (μ := m_X12_comesBack) (pc := 17) dX12_comesBack_17 rfl rfl ?_
      refine w_imul (μ := m_X12_comesBack) (pc := 18) dX12_comesBack_18 ?_
      refine w_iload_n 2 2 (μ := m_X12_comesBack) (pc := 19) dX12_comesBack_19 rfl rfl ?_
      refine w_iadd (μ := m_X12_comesBack) (pc := 20) dX12_comesBack_20 ?_
      refine w_aload_n 0 0 (μ := m_X12_comesBack) (pc := 21) dX12_comesBack_21 rfl rfl ?_
      refine w_getO (μ := m_X12_comesBack) (pc := 22) dX12_comesBack_22 fl_X12_100 ir_12_46 id_12_46 k0 (fun b_8 e_9 => ?_)
      refine w_iload_n 2 2 (μ := m_X12_comesBack) (pc := 25) dX12_comesBack_25 rfl rfl ?_
      refine w_ald (μ := m_X12_comesBack) (pc := 26) dX12_comesBack_26 (wt_12_46 wt k0 e_9) ?_
      refine w_ast (μ := m_X12_comesBack) (pc := 27) dX12_comesBack_27 (wt_12_13 wt k0 e_7) ?_
      refine w_bd (fun δ_10 e_11 => ?_)
      refine w_inb (fun x_12 e_13 => ?_)
      refine w_iinc 2 [(2, .int x_12), (0, .ref a0), (1, .int x1)] (μ := m_X12_comesBack) (pc := 28) dX12_comesBack_28 rfl (by rw [e_13]; rfl) (by decide) rfl ?_
      refine w_goto 2 (μ := m_X12_comesBack) (pc := 31) dX12_comesBack_31 (by decide) ?_
      refine w_lv [1, 2, 0] rfl ?_
      exact ih _ _
def D_X12_comesBack (N : Nat) (g : gp) (a0 : Nat) (x1 : Int32) (δ : dp) : Option (dp) :=
  L_X12_comesBack_2 N g a0 x1 N 0 δ
set_option maxHeartbeats 4000000 in
set_option maxRecDepth 100000 in
theorem c_X12_comesBack {l : Launch} {D : va_G} {cy : Nat → ClassId} {N d : Nat} {g : gp} (wt : WT g) (hl : l.stackTraces = false) (hd : 1 ≤ d) {a0 : Nat} {x1 : Int32} {δ : dp} (k0 : q_K g a0 = 12) : CalD l D cy m_X12_comesBack d 0 0 ev g [.ref a0, .int x1] δ (D_X12_comesBack N g a0 x1 δ) := by
  refine CalD.of (by decide +kernel) (Nat.le_of_ble_eq_true rfl) hl ?_
  unfold D_X12_comesBack
  refine w_iconst (v := 0) (μ := m_X12_comesBack) (pc := 0) dX12_comesBack_0 (by decide) ?_
  refine w_istore_n [(2, .int 0), (0, .ref a0), (1, .int x1)] (μ := m_X12_comesBack) (pc := 1) dX12_comesBack_1 rfl (by decide) rfl ?_
  refine w_lv [1, 2, 0] rfl ?_
  exact t_L_X12_comesBack_2 wt hl (by omega) k0 N _ _
def J_X12_changes_44 (N : Nat) (g : gp) (a0 : Nat) (x1 : Int32) (x2 : Int32) (δ : dp) : Option (dp) :=
  some δ
set_option maxHeartbeats 4000000 in
set_option maxRecDepth 100000 in
theorem t_J_X12_changes_44 {l : Launch} {D : va_G} {cy : Nat → ClassId} {N d : Nat} {g : gp} (wt : WT g) (hl : l.stackTraces = false) (hd : 3 ≤ d) {a0 : Nat} {x1 : Int32} {x2 : Int32} (k0 : q_K g a0 = 12) : ∀ (δ : dp), AWD l D cy m_X12_changes d 0 0 ev g 44 [] [] δ (J_X12_changes_44 N g a0 x1 x2 δ) := by
    intro  δ 
    unfold J_X12_changes_44
    exact w_vret (μ := m_X12_changes) (pc := 44) dX12_changes_44 rfl rfl
def D_X12_changes (N : Nat) (g : gp) (a0 : Nat) (x1 : Int32) (x2 : Int32) (δ : dp) : Option (dp) :=
  (q_O g 12 15 a0).bind fun b_1 => if ((1000 * x1) + x2) < 0 ∨ q_N g b_1 ≤ ((1000 * x1) + x2).toNatClampNeg then none else bi (q_R δ b_1 ((1000 * x1) + x2).toNatClampNeg) fun x_3 => (q_O g 12 16 a0).bind fun b_5 => if ((1000 * x1) + x2) < 0 ∨ q_N g b_5 ≤ ((1000 * x1) + x2).toNatClampNeg then none else if (q_R δ b_5 ((1000 * x1) + x2).toNatClampNeg) = (1 : Int32) then ((D_X12_comes N g a0 x1 x_3 δ).bind fun r_9 => J_X12_changes_44 N g a0 x1 x2 r_9) else ((D_X12_leaves N g a0 x1 x_3 δ).bind fun r_8 => J_X12_changes_44 N g a0 x1 x2 r_8)
set_option maxHeartbeats 4000000 in
set_option maxRecDepth 100000 in
theorem c_X12_changes {l : Launch} {D : va_G} {cy : Nat → ClassId} {N d : Nat} {g : gp} (wt : WT g) (hl : l.stackTraces = false) (hd : 3 ≤ d) {a0 : Nat} {x1 : Int32} {x2 : Int32} {δ : dp} (k0 : q_K g a0 = 12) : CalD l D cy m_X12_changes d 0 0 ev g [.ref a0, .int x1, .int x2] δ (D_X12_changes N g a0 x1 x2 δ) := by
  refine CalD.of (by decide +kernel) (Nat.le_of_ble_eq_true rfl) hl ?_
  unfold D_X12_changes
  refine w_aload_n 0 0 (μ := m_X12_changes) (pc := 0) dX12_changes_0 rfl rfl ?_
  refine w_getO (μ := m_X12_changes) (pc := 1) dX12_changes_1 fl_X12_39 ir_12_15 id_12_15 k0 (fun b_1 e_2 => ?_)
  refine w_sipush (v := 1000) (μ := m_X12_changes) (pc := 4) dX12_changes_4 (by decide) ?_
  refine w_iload_n 1 1 (μ := m_X12_changes) (pc := 7) dX12_changes_7 rfl rfl ?_
  refine w_imul (μ := m_X12_changes) (pc := 8) dX12_changes_8 ?_
  refine w_iload_n 2 2 (μ := m_X12_changes) (pc := 9) dX12_changes_9 rfl rfl ?_
  refine w_iadd (μ := m_X12_changes) (pc := 10) dX12_changes_10 ?_
  refine w_ald (μ := m_X12_changes) (pc := 11) dX12_changes_11 (wt_12_15 wt k0 e_2) ?_
  refine w_bi (fun x_3 e_4 => ?_)
  refine w_istore_n [(3, .int x_3), (0, .ref a0), (1, .int x1), (2, .int x2)] (μ := m_X12_changes) (pc := 12) dX12_changes_12 rfl (by decide) rfl ?_
  refine w_aload_n 1 0 (μ := m_X12_changes) (pc := 13) dX12_changes_13 rfl rfl ?_
  refine w_getO (μ := m_X12_changes) (pc := 14) dX12_changes_14 fl_X12_42 ir_12_16 id_12_16 k0 (fun b_5 e_6 => ?_)
  refine w_sipush (v := 1000) (μ := m_X12_changes) (pc := 17) dX12_changes_17 (by decide) ?_
  refine w_iload_n 2 1 (μ := m_X12_changes) (pc := 20) dX12_changes_20 rfl rfl ?_
  refine w_imul (μ := m_X12_changes) (pc := 21) dX12_changes_21 ?_
  refine w_iload_n 3 2 (μ := m_X12_changes) (pc := 22) dX12_changes_22 rfl rfl ?_
  refine w_iadd (μ := m_X12_changes) (pc := 23) dX12_changes_23 ?_
  refine w_ald (μ := m_X12_changes) (pc := 24) dX12_changes_24 (wt_12_16 wt k0 e_6) ?_
  refine w_iconst (v := 1) (μ := m_X12_changes) (pc := 25) dX12_changes_25 (by decide) ?_
  refine w_icmp_ne 38 (μ := m_X12_changes) (pc := 26) dX12_changes_26 (by decide) (fun c_7 => ?_) (fun c_7 => ?_)
  · refine w_aload_n 1 0 (μ := m_X12_changes) (pc := 38) dX12_changes_38 rfl rfl ?_
    refine w_iload_n 2 1 (μ := m_X12_changes) (pc := 39) dX12_changes_39 rfl rfl ?_
    refine w_iload_n 0 3 (μ := m_X12_changes) (pc := 40) dX12_changes_40 rfl rfl ?_
    refine w_callV (As := [.int x1, .int x_3]) (rest := []) (μ := m_X12_changes) (pc := 41) dX12_changes_41 cv_X12_277 rfl rfl k0 (by decide) rfl (Nat.le_of_ble_eq_true rfl) (d' := d - 1) (by omega) he_v (c_X12_leaves wt hl (d := d - 1) (by omega) k0) (fun r_8 => ?_)
    refine w_lv [] rfl ?_
    exact t_J_X12_changes_44 wt hl (by omega) k0 _
  · refine w_aload_n 1 0 (μ := m_X12_changes) (pc := 29) dX12_changes_29 rfl rfl ?_
    refine w_iload_n 2 1 (μ := m_X12_changes) (pc := 30) dX12_changes_30 rfl rfl ?_
    refine w_iload_n 0 3 (μ := m_X12_changes) (pc := 31) dX12_changes_31 rfl rfl ?_
    refine w_callV (As := [.int x1, .int x_3]) (rest := []) (μ := m_X12_changes) (pc := 32) dX12_changes_32 cv_X12_270 rfl rfl k0 (by decide) rfl (Nat.le_of_ble_eq_true rfl) (d' := d - 1) (by omega) he_v (c_X12_comes wt hl (d := d - 1) (by omega) k0) (fun r_9 => ?_)
    refine w_goto 44 (μ := m_X12_changes) (pc := 35) dX12_changes_35 (by decide) ?_
    refine w_lv [] rfl ?_
    exact t_J_X12_changes_44 wt hl (by omega) k0 _
def D_X12_isTime (N : Nat) (g : gp) (a0 : Nat) (x1 : Int32) (x2 : Int32) (δ : dp) : Option (Int32 × dp) :=
  (q_O g 12 17 a0).bind fun b_1 => if x1 < 0 ∨ q_N g b_1 ≤ x1.toNatClampNeg then none else (D_X12_within N g x2 0 (q_R δ b_1 x1.toNatClampNeg) δ).bind fun r_3 => if r_3.1 = 0 ∨ r_3.1 = 1 then some (r_3.1, r_3.2) else none
set_option maxHeartbeats 4000000 in
set_option maxRecDepth 100000 in
theorem c_X12_isTime {l : Launch} {D : va_G} {cy : Nat → ClassId} {N d : Nat} {g : gp} (wt : WT g) (hl : l.stackTraces = false) (hd : 2 ≤ d) {a0 : Nat} {x1 : Int32} {x2 : Int32} {δ : dp} (k0 : q_K g a0 = 12) : CalD l D cy m_X12_isTime d 0 0 ei g [.ref a0, .int x1, .int x2] δ (D_X12_isTime N g a0 x1 x2 δ) := by
  refine CalD.of (by decide +kernel) (Nat.le_of_ble_eq_true rfl) hl ?_
  unfold D_X12_isTime
  refine w_iload_n 2 2 (μ := m_X12_isTime) (pc := 0) dX12_isTime_0 rfl rfl ?_
  refine w_iconst (v := 0) (μ := m_X12_isTime) (pc := 1) dX12_isTime_1 (by decide) ?_
  refine w_aload_n 0 0 (μ := m_X12_isTime) (pc := 2) dX12_isTime_2 rfl rfl ?_
  refine w_getO (μ := m_X12_isTime) (pc := 3) dX12_isTime_3 fl_X12_45 ir_12_17 id_12_17 k0 (fun b_1 e_2 => ?_)
  refine w_iload_n 1 1 (μ := m_X12_isTime) (pc := 6) dX12_isTime_6 rfl rfl ?_
  refine w_ald (μ := m_X12_isTime) (pc := 7) dX12_isTime_7 (wt_12_17 wt k0 e_2) ?_
  refine w_callS (As := [.int x2, .int 0, .int (q_R δ b_1 x1.toNatClampNeg)]) (rest := []) (μ := m_X12_isTime) (pc := 8) dX12_isTime_8 cs_X12_250 rfl rfl (Nat.le_of_ble_eq_true rfl) (d' := d - 1) (by omega) he_i (c_X12_within wt hl (d := d - 1) (by omega) ) (fun r_3 => ?_)
  exact w_zret (μ := m_X12_isTime) (pc := 11) dX12_isTime_11 rfl rfl
def J_X12_since_45 (N : Nat) (g : gp) (a0 : Nat) (x1 : Int32) (x2 : Int32) (x3 : Int32) (δ : dp) : Option (Int32 × dp) :=
  some (0, δ)
set_option maxHeartbeats 4000000 in
set_option maxRecDepth 100000 in
theorem t_J_X12_since_45 {l : Launch} {D : va_G} {cy : Nat → ClassId} {N d : Nat} {g : gp} (wt : WT g) (hl : l.stackTraces = false) (hd : 3 ≤ d) {a0 : Nat} {x1 : Int32} {x2 : Int32} {x3 : Int32} (k0 : q_K g a0 = 12) : ∀ (δ : dp), AWD l D cy m_X12_since d 0 0 ei g 45 [] [] δ (J_X12_since_45 N g a0 x1 x2 x3 δ) := by
    intro  δ 
    unfold J_X12_since_45
    refine w_iconst (v := 0) (μ := m_X12_since) (pc := 45) dX12_since_45 (by decide) ?_
    exact w_iret (μ := m_X12_since) (pc := 46) dX12_since_46 rfl rfl
def J_X12_since_103 (N : Nat) (g : gp) (a0 : Nat) (x1 : Int32) (x2 : Int32) (x3 : Int32) (kt57 : Int32 → dp → Option (Int32 × dp)) (x4v : Int32) (δ : dp) : Option (Int32 × dp) :=
  bi (x4v + (-1)) fun x_17 => kt57 x_17 δ
set_option maxHeartbeats 4000000 in
set_option maxRecDepth 100000 in
theorem t_J_X12_since_103 {l : Launch} {D : va_G} {cy : Nat → ClassId} {N d : Nat} {g : gp} (wt : WT g) (hl : l.stackTraces = false) (hd : 3 ≤ d) {a0 : Nat} {x1 : Int32} {x2 : Int32} {x3 : Int32} (k0 : q_K g a0 = 12) {kt57 : Int32 → dp → Option (Int32 × dp)} (hk57 : ∀ (x4v : Int32) (δ : dp), AWD l D cy m_X12_since d 0 0 ei g 57 [(0, .ref a0), (1, .int x1), (2, .int x2), (3, .int x3), (4, .int x4v)] [] δ (kt57 x4v δ)) : ∀ (x4v : Int32) (δ : dp), AWD l D cy m_X12_since d 0 0 ei g 103 [(0, .ref a0), (1, .int x1), (2, .int x2), (3, .int x3), (4, .int x4v)] [] δ (J_X12_since_103 N g a0 x1 x2 x3 kt57 x4v δ) := by
    intro x4v δ 
    unfold J_X12_since_103
    refine w_inb (fun x_17 e_18 => ?_)
    refine w_iinc 4 [(4, .int x_17), (0, .ref a0), (1, .int x1), (2, .int x2), (3, .int x3)] (μ := m_X12_since) (pc := 103) dX12_since_103 rfl (by rw [e_18]; rfl) (by decide) rfl ?_
    refine w_goto 57 (μ := m_X12_since) (pc := 106) dX12_since_106 (by decide) ?_
    refine w_lv [1, 2, 3, 4, 0] rfl ?_
    exact hk57 _ _
def L_X12_since_57 (N : Nat) (g : gp) (a0 : Nat) (x1 : Int32) (x2 : Int32) (x3 : Int32) : Nat → Int32 → dp → Option (Int32 × dp)
  | 0, _, _ => none
  | n + 1, x4v, δ => if x4v < 0 then (some ((-1), δ)) else ((q_O g 12 15 a0).bind fun b_14 => if ((1000 * x1) + x4v) < 0 ∨ q_N g b_14 ≤ ((1000 * x1) + x4v).toNatClampNeg then none else if (q_R δ b_14 ((1000 * x1) + x4v).toNatClampNeg) = x2 then ((q_O g 12 16 a0).bind fun b_19 => if ((1000 * x1) + x4v) < 0 ∨ q_N g b_19 ≤ ((1000 * x1) + x4v).toNatClampNeg then none else if (q_R δ b_19 ((1000 * x1) + x4v).toNatClampNeg) = (1 - x3) then (some (x4v + 1, δ)) else (J_X12_since_103 N g a0 x1 x2 x3 (L_X12_since_57 N g a0 x1 x2 x3 n) x4v δ)) else (J_X12_since_103 N g a0 x1 x2 x3 (L_X12_since_57 N g a0 x1 x2 x3 n) x4v δ))
set_option maxHeartbeats 4000000 in
set_option maxRecDepth 100000 in
theorem t_L_X12_since_57 {l : Launch} {D : va_G} {cy : Nat → ClassId} {N d : Nat} {g : gp} (wt : WT g) (hl : l.stackTraces = false) (hd : 3 ≤ d) {a0 : Nat} {x1 : Int32} {x2 : Int32} {x3 : Int32} (k0 : q_K g a0 = 12) : ∀ (n : Nat) (x4v : Int32) (δ : dp), AWD l D cy m_X12_since d 0 0 ei g 57 [(0, .ref a0), (1, .int x1), (2, .int x2), (3, .int x3), (4, .int x4v)] [] δ (L_X12_since_57 N g a0 x1 x2 x3 n x4v δ) := by
  intro n
  induction n with
  | zero => intro x4v δ ; exact w_none
  | succ n ih =>
    intro x4v δ 
    unfold L_X12_since_57
    refine w_iload 4 (μ := m_X12_since) (pc := 57) dX12_since_57 rfl ?_
    refine w_if_lt 109 (μ := m_X12_since) (pc := 59) dX12_since_59 (by decide) (fun c_13 => ?_) (fun c_13 => ?_)
    · refine w_iconst (v := (-1)) (μ := m_X12_since) (pc := 109) dX12_since_109 (by decide) ?_
      exact w_iret (μ := m_X12_since) (pc := 110) dX12_since_110 rfl rfl
    · refine w_aload_n 0 0 (μ := m_X12_since) (pc := 62) dX12_since_62 rfl rfl ?_
      refine w_getO (μ := m_X12_since) (pc := 63) dX12_since_63 fl_X12_39 ir_12_15 id_12_15 k0 (fun b_14 e_15 => ?_)
      refine w_sipush (v := 1000) (μ := m_X12_since) (pc := 66) dX12_since_66 (by decide) ?_
      refine w_iload_n 1 1 (μ := m_X12_since) (pc := 69) dX12_since_69 rfl rfl ?_
      refine w_imul (μ := m_X12_since) (pc := 70) dX12_since_70 ?_
      refine w_iload 4 (μ := m_X12_since) (pc := 71) dX12_since_71 rfl ?_
      refine w_iadd (μ := m_X12_since) (pc := 73) dX12_since_73 ?_
      refine w_ald (μ := m_X12_since) (pc := 74) dX12_since_74 (wt_12_15 wt k0 e_15) ?_
      refine w_iload_n 2 2 (μ := m_X12_since) (pc := 75) dX12_since_75 rfl rfl ?_
      refine w_icmp_ne 103 (μ := m_X12_since) (pc := 76) dX12_since_76 (by decide) (fun c_16 => ?_) (fun c_16 => ?_)
      · exact t_J_X12_since_103 wt hl (by omega) k0 ih _ _
      · refine w_aload_n 0 0 (μ := m_X12_since) (pc := 79) dX12_since_79 rfl rfl ?_
        refine w_getO (μ := m_X12_since) (pc := 80) dX12_since_80 fl_X12_42 ir_12_16 id_12_16 k0 (fun b_19 e_20 => ?_)
        refine w_sipush (v := 1000) (μ := m_X12_since) (pc := 83) dX12_since_83 (by decide) ?_
        refine w_iload_n 1 1 (μ := m_X12_since) (pc := 86) dX12_since_86 rfl rfl ?_
        refine w_imul (μ := m_X12_since) (pc := 87) dX12_since_87 ?_
        refine w_iload 4 (μ := m_X12_since) (pc := 88) dX12_since_88 rfl ?_
        refine w_iadd (μ := m_X12_since) (pc := 90) dX12_since_90 ?_
        refine w_ald (μ := m_X12_since) (pc := 91) dX12_since_91 (wt_12_16 wt k0 e_20) ?_
        refine w_iconst (v := 1) (μ := m_X12_since) (pc := 92) dX12_since_92 (by decide) ?_
        refine w_iload_n 3 3 (μ := m_X12_since) (pc := 93) dX12_since_93 rfl rfl ?_
        refine w_isub (μ := m_X12_since) (pc := 94) dX12_since_94 ?_
        refine w_icmp_ne 103 (μ := m_X12_since) (pc := 95) dX12_since_95 (by decide) (fun c_21 => ?_) (fun c_21 => ?_)
        · exact t_J_X12_since_103 wt hl (by omega) k0 ih _ _
        · refine w_iload 4 (μ := m_X12_since) (pc := 98) dX12_since_98 rfl ?_
          refine w_iconst (v := 1) (μ := m_X12_since) (pc := 100) dX12_since_100 (by decide) ?_
          refine w_iadd (μ := m_X12_since) (pc := 101) dX12_since_101 ?_
          exact w_iret (μ := m_X12_since) (pc := 102) dX12_since_102 rfl rfl
def J_X12_since_37 (N : Nat) (g : gp) (a0 : Nat) (x1 : Int32) (x2 : Int32) (x3 : Int32) (xs0 : Int32) (as1 : Nat) (δ : dp) : Option (Int32 × dp) :=
  (D_X12_may N g as1 xs0 2 2 δ).bind fun r_7 => if r_7.1 = 0 then (J_X12_since_45 N g a0 x1 x2 x3 r_7.2) else ((q_O g 12 17 a0).bind fun b_9 => if x1 < 0 ∨ q_N g b_9 ≤ x1.toNatClampNeg then none else bi ((q_R r_7.2 b_9 x1.toNatClampNeg) - 1) fun x_11 => L_X12_since_57 N g a0 x1 x2 x3 N x_11 r_7.2)
set_option maxHeartbeats 4000000 in
set_option maxRecDepth 100000 in
theorem t_J_X12_since_37 {l : Launch} {D : va_G} {cy : Nat → ClassId} {N d : Nat} {g : gp} (wt : WT g) (hl : l.stackTraces = false) (hd : 3 ≤ d) {a0 : Nat} {x1 : Int32} {x2 : Int32} {x3 : Int32} (k0 : q_K g a0 = 12) : ∀ (xs0 : Int32) (as1 : Nat) (δ : dp), q_K g as1 = 12 → AWD l D cy m_X12_since d 0 0 ei g 37 [(0, .ref a0), (1, .int x1), (2, .int x2), (3, .int x3)] [.int xs0, .ref as1] δ (J_X12_since_37 N g a0 x1 x2 x3 xs0 as1 δ) := by
    intro xs0 as1 δ has1
    unfold J_X12_since_37
    refine w_iconst (v := 2) (μ := m_X12_since) (pc := 37) dX12_since_37 (by decide) ?_
    refine w_iconst (v := 2) (μ := m_X12_since) (pc := 38) dX12_since_38 (by decide) ?_
    refine w_callV (As := [.int xs0, .int 2, .int 2]) (rest := []) (μ := m_X12_since) (pc := 39) dX12_since_39 cv_X12_157 rfl rfl has1 (by decide) rfl (Nat.le_of_ble_eq_true rfl) (d' := d - 1) (by omega) he_i (c_X12_may wt hl (d := d - 1) (by omega) has1) (fun r_7 => ?_)
    refine w_if_ne 47 (μ := m_X12_since) (pc := 42) dX12_since_42 (by decide) (fun c_8 => ?_) (fun c_8 => ?_)
    · refine w_aload_n 0 0 (μ := m_X12_since) (pc := 47) dX12_since_47 rfl rfl ?_
      refine w_getO (μ := m_X12_since) (pc := 48) dX12_since_48 fl_X12_45 ir_12_17 id_12_17 k0 (fun b_9 e_10 => ?_)
      refine w_iload_n 1 1 (μ := m_X12_since) (pc := 51) dX12_since_51 rfl rfl ?_
      refine w_ald (μ := m_X12_since) (pc := 52) dX12_since_52 (wt_12_17 wt k0 e_10) ?_
      refine w_iconst (v := 1) (μ := m_X12_since) (pc := 53) dX12_since_53 (by decide) ?_
      refine w_isub (μ := m_X12_since) (pc := 54) dX12_since_54 ?_
      refine w_bi (fun x_11 e_12 => ?_)
      refine w_istore [(4, .int x_11), (0, .ref a0), (1, .int x1), (2, .int x2), (3, .int x3)] (μ := m_X12_since) (pc := 55) dX12_since_55 (by decide) rfl ?_
      refine w_lv [1, 2, 3, 4, 0] rfl ?_
      exact t_L_X12_since_57 wt hl (by omega) k0 N _ _
    · refine w_lv [] rfl ?_
      exact t_J_X12_since_45 wt hl (by omega) k0 _
def J_X12_since_36 (N : Nat) (g : gp) (a0 : Nat) (x1 : Int32) (x2 : Int32) (x3 : Int32) (as0 : Nat) (δ : dp) : Option (Int32 × dp) :=
  J_X12_since_37 N g a0 x1 x2 x3 0 as0 δ
set_option maxHeartbeats 4000000 in
set_option maxRecDepth 100000 in
theorem t_J_X12_since_36 {l : Launch} {D : va_G} {cy : Nat → ClassId} {N d : Nat} {g : gp} (wt : WT g) (hl : l.stackTraces = false) (hd : 3 ≤ d) {a0 : Nat} {x1 : Int32} {x2 : Int32} {x3 : Int32} (k0 : q_K g a0 = 12) : ∀ (as0 : Nat) (δ : dp), q_K g as0 = 12 → AWD l D cy m_X12_since d 0 0 ei g 36 [(0, .ref a0), (1, .int x1), (2, .int x2), (3, .int x3)] [.ref as0] δ (J_X12_since_36 N g a0 x1 x2 x3 as0 δ) := by
    intro as0 δ has0
    unfold J_X12_since_36
    refine w_iconst (v := 0) (μ := m_X12_since) (pc := 36) dX12_since_36 (by decide) ?_
    exact t_J_X12_since_37 wt hl (by omega) k0 _ _ _ has0
def D_X12_since (N : Nat) (g : gp) (a0 : Nat) (x1 : Int32) (x2 : Int32) (x3 : Int32) (δ : dp) : Option (Int32 × dp) :=
  bd (s_I δ 12 0 a0 0) fun δ_1 => (D_X12_isHouse N g a0 x1 1 δ_1).bind fun r_3 => if r_3.1 = 0 then (J_X12_since_45 N g a0 x1 x2 x3 r_3.2) else ((D_X12_isNumber N g a0 x2 r_3.2).bind fun r_5 => if r_5.1 = 0 then (J_X12_since_36 N g a0 x1 x2 x3 a0 r_5.2) else ((D_X12_within N g x3 0 1 r_5.2).bind fun r_22 => if r_22.1 = 0 then (J_X12_since_36 N g a0 x1 x2 x3 a0 r_22.2) else (J_X12_since_37 N g a0 x1 x2 x3 1 a0 r_22.2)))
set_option maxHeartbeats 4000000 in
set_option maxRecDepth 100000 in
theorem c_X12_since {l : Launch} {D : va_G} {cy : Nat → ClassId} {N d : Nat} {g : gp} (wt : WT g) (hl : l.stackTraces = false) (hd : 3 ≤ d) {a0 : Nat} {x1 : Int32} {x2 : Int32} {x3 : Int32} {δ : dp} (k0 : q_K g a0 = 12) : CalD l D cy m_X12_since d 0 0 ei g [.ref a0, .int x1, .int x2, .int x3] δ (D_X12_since N g a0 x1 x2 x3 δ) := by
  refine CalD.of (by decide +kernel) (Nat.le_of_ble_eq_true rfl) hl ?_
  unfold D_X12_since
  refine w_aload_n 0 0 (μ := m_X12_since) (pc := 0) dX12_since_0 rfl rfl ?_
  refine w_iconst (v := 0) (μ := m_X12_since) (pc := 1) dX12_since_1 (by decide) ?_
  refine w_putI (μ := m_X12_since) (pc := 2) dX12_since_2 fl_X12_1 flw_12_0 ir_12_0 k0 ?_
  refine w_bd (fun δ_1 e_2 => ?_)
  refine w_aload_n 0 0 (μ := m_X12_since) (pc := 5) dX12_since_5 rfl rfl ?_
  refine w_iload_n 1 1 (μ := m_X12_since) (pc := 6) dX12_since_6 rfl rfl ?_
  refine w_iconst (v := 1) (μ := m_X12_since) (pc := 7) dX12_since_7 (by decide) ?_
  refine w_callV (As := [.int x1, .int 1]) (rest := []) (μ := m_X12_since) (pc := 8) dX12_since_8 cv_X12_260 rfl rfl k0 (by decide) rfl (Nat.le_of_ble_eq_true rfl) (d' := d - 1) (by omega) he_i (c_X12_isHouse wt hl (d := d - 1) (by omega) k0) (fun r_3 => ?_)
  refine w_if_eq 45 (μ := m_X12_since) (pc := 11) dX12_since_11 (by decide) (fun c_4 => ?_) (fun c_4 => ?_)
  · refine w_lv [] rfl ?_
    exact t_J_X12_since_45 wt hl (by omega) k0 _
  · refine w_aload_n 0 0 (μ := m_X12_since) (pc := 14) dX12_since_14 rfl rfl ?_
    refine w_aload_n 0 0 (μ := m_X12_since) (pc := 15) dX12_since_15 rfl rfl ?_
    refine w_iload_n 2 2 (μ := m_X12_since) (pc := 16) dX12_since_16 rfl rfl ?_
    refine w_callV (As := [.int x2]) (rest := [.ref a0]) (μ := m_X12_since) (pc := 17) dX12_since_17 cv_X12_264 rfl rfl k0 (by decide) rfl (Nat.le_of_ble_eq_true rfl) (d' := d - 1) (by omega) he_i (c_X12_isNumber wt hl (d := d - 1) (by omega) k0) (fun r_5 => ?_)
    refine w_if_eq 36 (μ := m_X12_since) (pc := 20) dX12_since_20 (by decide) (fun c_6 => ?_) (fun c_6 => ?_)
    · exact t_J_X12_since_36 wt hl (by omega) k0 _ _ k0
    · refine w_iload_n 3 3 (μ := m_X12_since) (pc := 23) dX12_since_23 rfl rfl ?_
      refine w_iconst (v := 0) (μ := m_X12_since) (pc := 24) dX12_since_24 (by decide) ?_
      refine w_iconst (v := 1) (μ := m_X12_since) (pc := 25) dX12_since_25 (by decide) ?_
      refine w_callS (As := [.int x3, .int 0, .int 1]) (rest := [.ref a0]) (μ := m_X12_since) (pc := 26) dX12_since_26 cs_X12_250 rfl rfl (Nat.le_of_ble_eq_true rfl) (d' := d - 1) (by omega) he_i (c_X12_within wt hl (d := d - 1) (by omega) ) (fun r_22 => ?_)
      refine w_if_eq 36 (μ := m_X12_since) (pc := 29) dX12_since_29 (by decide) (fun c_23 => ?_) (fun c_23 => ?_)
      · exact t_J_X12_since_36 wt hl (by omega) k0 _ _ k0
      · refine w_iconst (v := 1) (μ := m_X12_since) (pc := 32) dX12_since_32 (by decide) ?_
        refine w_goto 37 (μ := m_X12_since) (pc := 33) dX12_since_33 (by decide) ?_
        exact t_J_X12_since_37 wt hl (by omega) k0 _ _ _ k0
def J_X12_runs_23 (N : Nat) (g : gp) (a0 : Nat) (x1 : Int32) (x2 : Int32) (δ : dp) : Option (Int32 × dp) :=
  some (0, δ)
set_option maxHeartbeats 4000000 in
set_option maxRecDepth 100000 in
theorem t_J_X12_runs_23 {l : Launch} {D : va_G} {cy : Nat → ClassId} {N d : Nat} {g : gp} (wt : WT g) (hl : l.stackTraces = false) (hd : 3 ≤ d) {a0 : Nat} {x1 : Int32} {x2 : Int32} (k0 : q_K g a0 = 12) : ∀ (δ : dp), AWD l D cy m_X12_runs d 0 0 ei g 23 [] [] δ (J_X12_runs_23 N g a0 x1 x2 δ) := by
    intro  δ 
    unfold J_X12_runs_23
    refine w_iconst (v := 0) (μ := m_X12_runs) (pc := 23) dX12_runs_23 (by decide) ?_
    exact w_iret (μ := m_X12_runs) (pc := 24) dX12_runs_24 rfl rfl
def J_X12_runs_169 (N : Nat) (g : gp) (a0 : Nat) (x1 : Int32) (x2 : Int32) (kt36 : Int32 → Int32 → Int32 → Int32 → dp → Option (Int32 × dp)) (xs0 : Int32) (xs1 : Int32) (x5v : Int32) (x6v : Int32) (x9v : Int32) (δ : dp) : Option (Int32 × dp) :=
  bi (xs1 + xs0) fun x_23 => kt36 x_23 x9v x5v x6v δ
set_option maxHeartbeats 4000000 in
set_option maxRecDepth 100000 in
theorem t_J_X12_runs_169 {l : Launch} {D : va_G} {cy : Nat → ClassId} {N d : Nat} {g : gp} (wt : WT g) (hl : l.stackTraces = false) (hd : 3 ≤ d) {a0 : Nat} {x1 : Int32} {x2 : Int32} (k0 : q_K g a0 = 12) {kt36 : Int32 → Int32 → Int32 → Int32 → dp → Option (Int32 × dp)} (hk36 : ∀ (x3v : Int32) (x4v : Int32) (x5v : Int32) (x6v : Int32) (δ : dp), AWD l D cy m_X12_runs d 0 0 ei g 36 [(0, .ref a0), (1, .int x1), (2, .int x2), (3, .int x3v), (4, .int x4v), (5, .int x5v), (6, .int x6v)] [] δ (kt36 x3v x4v x5v x6v δ)) : ∀ (xs0 : Int32) (xs1 : Int32) (x5v : Int32) (x6v : Int32) (x9v : Int32) (δ : dp), AWD l D cy m_X12_runs d 0 0 ei g 169 [(0, .ref a0), (1, .int x1), (2, .int x2), (5, .int x5v), (6, .int x6v), (9, .int x9v)] [.int xs0, .int xs1] δ (J_X12_runs_169 N g a0 x1 x2 kt36 xs0 xs1 x5v x6v x9v δ) := by
    intro xs0 xs1 x5v x6v x9v δ 
    unfold J_X12_runs_169
    refine w_iadd (μ := m_X12_runs) (pc := 169) dX12_runs_169 ?_
    refine w_bi (fun x_23 e_24 => ?_)
    refine w_istore_n [(3, .int x_23), (0, .ref a0), (1, .int x1), (2, .int x2), (5, .int x5v), (6, .int x6v), (9, .int x9v)] (μ := m_X12_runs) (pc := 170) dX12_runs_170 rfl (by decide) rfl ?_
    refine w_iload 6 (μ := m_X12_runs) (pc := 171) dX12_runs_171 rfl ?_
    refine w_istore [(4, .int x9v), (3, .int x_23), (0, .ref a0), (1, .int x1), (2, .int x2), (5, .int x5v), (6, .int x6v), (9, .int x9v)] (μ := m_X12_runs) (pc := 173) dX12_runs_173 (by decide) rfl ?_
    refine w_goto 36 (μ := m_X12_runs) (pc := 175) dX12_runs_175 (by decide) ?_
    refine w_lv [2, 3, 4, 1, 0, 5, 6] rfl ?_
    exact hk36 _ _ _ _ _
def J_X12_runs_154 (N : Nat) (g : gp) (a0 : Nat) (x1 : Int32) (x2 : Int32) (kt36 : Int32 → Int32 → Int32 → Int32 → dp → Option (Int32 × dp)) (xs0 : Int32) (x3v : Int32) (x4v : Int32) (x5v : Int32) (x6v : Int32) (δ : dp) : Option (Int32 × dp) :=
  if xs0 = x4v then (J_X12_runs_169 N g a0 x1 x2 kt36 0 x3v x5v x6v xs0 δ) else (J_X12_runs_169 N g a0 x1 x2 kt36 1 x3v x5v x6v xs0 δ)
set_option maxHeartbeats 4000000 in
set_option maxRecDepth 100000 in
theorem t_J_X12_runs_154 {l : Launch} {D : va_G} {cy : Nat → ClassId} {N d : Nat} {g : gp} (wt : WT g) (hl : l.stackTraces = false) (hd : 3 ≤ d) {a0 : Nat} {x1 : Int32} {x2 : Int32} (k0 : q_K g a0 = 12) {kt36 : Int32 → Int32 → Int32 → Int32 → dp → Option (Int32 × dp)} (hk36 : ∀ (x3v : Int32) (x4v : Int32) (x5v : Int32) (x6v : Int32) (δ : dp), AWD l D cy m_X12_runs d 0 0 ei g 36 [(0, .ref a0), (1, .int x1), (2, .int x2), (3, .int x3v), (4, .int x4v), (5, .int x5v), (6, .int x6v)] [] δ (kt36 x3v x4v x5v x6v δ)) : ∀ (xs0 : Int32) (x3v : Int32) (x4v : Int32) (x5v : Int32) (x6v : Int32) (δ : dp), AWD l D cy m_X12_runs d 0 0 ei g 154 [(0, .ref a0), (1, .int x1), (2, .int x2), (3, .int x3v), (4, .int x4v), (5, .int x5v), (6, .int x6v)] [.int xs0] δ (J_X12_runs_154 N g a0 x1 x2 kt36 xs0 x3v x4v x5v x6v δ) := by
    intro xs0 x3v x4v x5v x6v δ 
    unfold J_X12_runs_154
    refine w_istore [(9, .int xs0), (0, .ref a0), (1, .int x1), (2, .int x2), (3, .int x3v), (4, .int x4v), (5, .int x5v), (6, .int x6v)] (μ := m_X12_runs) (pc := 154) dX12_runs_154 (by decide) rfl ?_
    refine w_iload_n 4 3 (μ := m_X12_runs) (pc := 156) dX12_runs_156 rfl rfl ?_
    refine w_iload 0 (μ := m_X12_runs) (pc := 157) dX12_runs_157 rfl ?_
    refine w_iload 5 (μ := m_X12_runs) (pc := 159) dX12_runs_159 rfl ?_
    refine w_icmp_ne 168 (μ := m_X12_runs) (pc := 161) dX12_runs_161 (by decide) (fun c_22 => ?_) (fun c_22 => ?_)
    · refine w_iconst (v := 1) (μ := m_X12_runs) (pc := 168) dX12_runs_168 (by decide) ?_
      refine w_lv [1, 2, 3, 6, 7, 0] rfl ?_
      exact t_J_X12_runs_169 wt hl (by omega) k0 hk36 _ _ _ _ _ _
    · refine w_iconst (v := 0) (μ := m_X12_runs) (pc := 164) dX12_runs_164 (by decide) ?_
      refine w_goto 169 (μ := m_X12_runs) (pc := 165) dX12_runs_165 (by decide) ?_
      refine w_lv [1, 2, 3, 6, 7, 0] rfl ?_
      exact t_J_X12_runs_169 wt hl (by omega) k0 hk36 _ _ _ _ _ _
def J_X12_runs_132 (N : Nat) (g : gp) (a0 : Nat) (x1 : Int32) (x2 : Int32) (kt36 : Int32 → Int32 → Int32 → Int32 → dp → Option (Int32 × dp)) (x3v : Int32) (x4v : Int32) (x5v : Int32) (x6v : Int32) (x7v : Int32) (x8v : Int32) (δ : dp) : Option (Int32 × dp) :=
  if x7v = x8v then (kt36 x3v x4v x5v x6v δ) else (if x8v ≤ x7v then (J_X12_runs_154 N g a0 x1 x2 kt36 1 x3v x4v x5v x6v δ) else (J_X12_runs_154 N g a0 x1 x2 kt36 0 x3v x4v x5v x6v δ))
set_option maxHeartbeats 4000000 in
set_option maxRecDepth 100000 in
theorem t_J_X12_runs_132 {l : Launch} {D : va_G} {cy : Nat → ClassId} {N d : Nat} {g : gp} (wt : WT g) (hl : l.stackTraces = false) (hd : 3 ≤ d) {a0 : Nat} {x1 : Int32} {x2 : Int32} (k0 : q_K g a0 = 12) {kt36 : Int32 → Int32 → Int32 → Int32 → dp → Option (Int32 × dp)} (hk36 : ∀ (x3v : Int32) (x4v : Int32) (x5v : Int32) (x6v : Int32) (δ : dp), AWD l D cy m_X12_runs d 0 0 ei g 36 [(0, .ref a0), (1, .int x1), (2, .int x2), (3, .int x3v), (4, .int x4v), (5, .int x5v), (6, .int x6v)] [] δ (kt36 x3v x4v x5v x6v δ)) : ∀ (x3v : Int32) (x4v : Int32) (x5v : Int32) (x6v : Int32) (x7v : Int32) (x8v : Int32) (δ : dp), AWD l D cy m_X12_runs d 0 0 ei g 132 [(0, .ref a0), (1, .int x1), (2, .int x2), (3, .int x3v), (4, .int x4v), (5, .int x5v), (6, .int x6v), (7, .int x7v), (8, .int x8v)] [] δ (J_X12_runs_132 N g a0 x1 x2 kt36 x3v x4v x5v x6v x7v x8v δ) := by
    intro x3v x4v x5v x6v x7v x8v δ 
    unfold J_X12_runs_132
    refine w_iload 7 (μ := m_X12_runs) (pc := 132) dX12_runs_132 rfl ?_
    refine w_iload 8 (μ := m_X12_runs) (pc := 134) dX12_runs_134 rfl ?_
    refine w_icmp_ne 142 (μ := m_X12_runs) (pc := 136) dX12_runs_136 (by decide) (fun c_20 => ?_) (fun c_20 => ?_)
    · refine w_iload 7 (μ := m_X12_runs) (pc := 142) dX12_runs_142 rfl ?_
      refine w_iload 8 (μ := m_X12_runs) (pc := 144) dX12_runs_144 rfl ?_
      refine w_icmp_ge 153 (μ := m_X12_runs) (pc := 146) dX12_runs_146 (by decide) (fun c_21 => ?_) (fun c_21 => ?_)
      · refine w_iconst (v := 1) (μ := m_X12_runs) (pc := 153) dX12_runs_153 (by decide) ?_
        refine w_lv [0, 1, 2, 3, 4, 5, 6] rfl ?_
        exact t_J_X12_runs_154 wt hl (by omega) k0 hk36 _ _ _ _ _ _
      · refine w_iconst (v := 0) (μ := m_X12_runs) (pc := 149) dX12_runs_149 (by decide) ?_
        refine w_goto 154 (μ := m_X12_runs) (pc := 150) dX12_runs_150 (by decide) ?_
        refine w_lv [0, 1, 2, 3, 4, 5, 6] rfl ?_
        exact t_J_X12_runs_154 wt hl (by omega) k0 hk36 _ _ _ _ _ _
    · refine w_goto 36 (μ := m_X12_runs) (pc := 139) dX12_runs_139 (by decide) ?_
      refine w_lv [0, 1, 2, 3, 4, 5, 6] rfl ?_
      exact hk36 _ _ _ _ _
def J_X12_runs_122 (N : Nat) (g : gp) (a0 : Nat) (x1 : Int32) (x2 : Int32) (kt36 : Int32 → Int32 → Int32 → Int32 → dp → Option (Int32 × dp)) (x3v : Int32) (x4v : Int32) (x5v : Int32) (x6v : Int32) (x7v : Int32) (x8v : Int32) (δ : dp) : Option (Int32 × dp) :=
  if x7v < x8v then (J_X12_runs_132 N g a0 x1 x2 kt36 x3v x4v x5v x6v x7v x8v δ) else (bi (x6v + 1) fun x_25 => J_X12_runs_132 N g a0 x1 x2 kt36 x3v x4v x5v x_25 x7v x8v δ)
set_option maxHeartbeats 4000000 in
set_option maxRecDepth 100000 in
theorem t_J_X12_runs_122 {l : Launch} {D : va_G} {cy : Nat → ClassId} {N d : Nat} {g : gp} (wt : WT g) (hl : l.stackTraces = false) (hd : 3 ≤ d) {a0 : Nat} {x1 : Int32} {x2 : Int32} (k0 : q_K g a0 = 12) {kt36 : Int32 → Int32 → Int32 → Int32 → dp → Option (Int32 × dp)} (hk36 : ∀ (x3v : Int32) (x4v : Int32) (x5v : Int32) (x6v : Int32) (δ : dp), AWD l D cy m_X12_runs d 0 0 ei g 36 [(0, .ref a0), (1, .int x1), (2, .int x2), (3, .int x3v), (4, .int x4v), (5, .int x5v), (6, .int x6v)] [] δ (kt36 x3v x4v x5v x6v δ)) : ∀ (x3v : Int32) (x4v : Int32) (x5v : Int32) (x6v : Int32) (x7v : Int32) (x8v : Int32) (δ : dp), AWD l D cy m_X12_runs d 0 0 ei g 122 [(0, .ref a0), (1, .int x1), (2, .int x2), (3, .int x3v), (4, .int x4v), (5, .int x5v), (6, .int x6v), (7, .int x7v), (8, .int x8v)] [] δ (J_X12_runs_122 N g a0 x1 x2 kt36 x3v x4v x5v x6v x7v x8v δ) := by
    intro x3v x4v x5v x6v x7v x8v δ 
    unfold J_X12_runs_122
    refine w_iload 8 (μ := m_X12_runs) (pc := 122) dX12_runs_122 rfl ?_
    refine w_iload 7 (μ := m_X12_runs) (pc := 124) dX12_runs_124 rfl ?_
    refine w_icmp_gt 132 (μ := m_X12_runs) (pc := 126) dX12_runs_126 (by decide) (fun c_19 => ?_) (fun c_19 => ?_)
    · exact t_J_X12_runs_132 wt hl (by omega) k0 hk36 _ _ _ _ _ _ _
    · refine w_inb (fun x_25 e_26 => ?_)
      refine w_iinc 6 [(6, .int x_25), (0, .ref a0), (1, .int x1), (2, .int x2), (3, .int x3v), (4, .int x4v), (5, .int x5v), (7, .int x7v), (8, .int x8v)] (μ := m_X12_runs) (pc := 129) dX12_runs_129 rfl (by rw [e_26]; rfl) (by decide) rfl ?_
      refine w_lv [1, 2, 3, 4, 5, 6, 0, 7, 8] rfl ?_
      exact t_J_X12_runs_132 wt hl (by omega) k0 hk36 _ _ _ _ _ _ _
def J_X12_runs_110 (N : Nat) (g : gp) (a0 : Nat) (x1 : Int32) (x2 : Int32) (kt36 : Int32 → Int32 → Int32 → Int32 → dp → Option (Int32 × dp)) (xs0 : Int32) (x3v : Int32) (x4v : Int32) (x5v : Int32) (x6v : Int32) (x7v : Int32) (δ : dp) : Option (Int32 × dp) :=
  if xs0 < x7v then (J_X12_runs_122 N g a0 x1 x2 kt36 x3v x4v x5v x6v x7v xs0 δ) else (bi (x5v + 1) fun x_27 => J_X12_runs_122 N g a0 x1 x2 kt36 x3v x4v x_27 x6v x7v xs0 δ)
set_option maxHeartbeats 4000000 in
set_option maxRecDepth 100000 in
theorem t_J_X12_runs_110 {l : Launch} {D : va_G} {cy : Nat → ClassId} {N d : Nat} {g : gp} (wt : WT g) (hl : l.stackTraces = false) (hd : 3 ≤ d) {a0 : Nat} {x1 : Int32} {x2 : Int32} (k0 : q_K g a0 = 12) {kt36 : Int32 → Int32 → Int32 → Int32 → dp → Option (Int32 × dp)} (hk36 : ∀ (x3v : Int32) (x4v : Int32) (x5v : Int32) (x6v : Int32) (δ : dp), AWD l D cy m_X12_runs d 0 0 ei g 36 [(0, .ref a0), (1, .int x1), (2, .int x2), (3, .int x3v), (4, .int x4v), (5, .int x5v), (6, .int x6v)] [] δ (kt36 x3v x4v x5v x6v δ)) : ∀ (xs0 : Int32) (x3v : Int32) (x4v : Int32) (x5v : Int32) (x6v : Int32) (x7v : Int32) (δ : dp), AWD l D cy m_X12_runs d 0 0 ei g 110 [(0, .ref a0), (1, .int x1), (2, .int x2), (3, .int x3v), (4, .int x4v), (5, .int x5v), (6, .int x6v), (7, .int x7v)] [.int xs0] δ (J_X12_runs_110 N g a0 x1 x2 kt36 xs0 x3v x4v x5v x6v x7v δ) := by
    intro xs0 x3v x4v x5v x6v x7v δ 
    unfold J_X12_runs_110
    refine w_istore [(8, .int xs0), (0, .ref a0), (1, .int x1), (2, .int x2), (3, .int x3v), (4, .int x4v), (5, .int x5v), (6, .int x6v), (7, .int x7v)] (μ := m_X12_runs) (pc := 110) dX12_runs_110 (by decide) rfl ?_
    refine w_iload 8 (μ := m_X12_runs) (pc := 112) dX12_runs_112 rfl ?_
    refine w_iload 0 (μ := m_X12_runs) (pc := 114) dX12_runs_114 rfl ?_
    refine w_icmp_gt 122 (μ := m_X12_runs) (pc := 116) dX12_runs_116 (by decide) (fun c_18 => ?_) (fun c_18 => ?_)
    · refine w_lv [1, 2, 3, 4, 5, 6, 7, 8, 0] rfl ?_
      exact t_J_X12_runs_122 wt hl (by omega) k0 hk36 _ _ _ _ _ _ _
    · refine w_inb (fun x_27 e_28 => ?_)
      refine w_iinc 6 [(5, .int x_27), (8, .int xs0), (0, .ref a0), (1, .int x1), (2, .int x2), (3, .int x3v), (4, .int x4v), (6, .int x6v), (7, .int x7v)] (μ := m_X12_runs) (pc := 119) dX12_runs_119 rfl (by rw [e_28]; rfl) (by decide) rfl ?_
      refine w_lv [2, 3, 4, 5, 6, 0, 7, 8, 1] rfl ?_
      exact t_J_X12_runs_122 wt hl (by omega) k0 hk36 _ _ _ _ _ _ _
def J_X12_runs_83 (N : Nat) (g : gp) (a0 : Nat) (x1 : Int32) (x2 : Int32) (kt36 : Int32 → Int32 → Int32 → Int32 → dp → Option (Int32 × dp)) (xs0 : Int32) (x3v : Int32) (x4v : Int32) (x5v : Int32) (x6v : Int32) (δ : dp) : Option (Int32 × dp) :=
  (q_O g 12 14 a0).bind fun b_14 => if x2 < 0 ∨ q_N g b_14 ≤ x2.toNatClampNeg then none else if (q_R δ b_14 x2.toNatClampNeg) ≤ x6v then ((D_X12_all N g a0 δ).bind fun r_17 => J_X12_runs_110 N g a0 x1 x2 kt36 r_17.1 x3v x4v x5v x6v xs0 r_17.2) else ((D_X12_numberAt N g a0 x2 x6v δ).bind fun r_29 => J_X12_runs_110 N g a0 x1 x2 kt36 r_29.1 x3v x4v x5v x6v xs0 r_29.2)
set_option maxHeartbeats 4000000 in
set_option maxRecDepth 100000 in
theorem t_J_X12_runs_83 {l : Launch} {D : va_G} {cy : Nat → ClassId} {N d : Nat} {g : gp} (wt : WT g) (hl : l.stackTraces = false) (hd : 3 ≤ d) {a0 : Nat} {x1 : Int32} {x2 : Int32} (k0 : q_K g a0 = 12) {kt36 : Int32 → Int32 → Int32 → Int32 → dp → Option (Int32 × dp)} (hk36 : ∀ (x3v : Int32) (x4v : Int32) (x5v : Int32) (x6v : Int32) (δ : dp), AWD l D cy m_X12_runs d 0 0 ei g 36 [(0, .ref a0), (1, .int x1), (2, .int x2), (3, .int x3v), (4, .int x4v), (5, .int x5v), (6, .int x6v)] [] δ (kt36 x3v x4v x5v x6v δ)) : ∀ (xs0 : Int32) (x3v : Int32) (x4v : Int32) (x5v : Int32) (x6v : Int32) (δ : dp), AWD l D cy m_X12_runs d 0 0 ei g 83 [(0, .ref a0), (1, .int x1), (2, .int x2), (3, .int x3v), (4, .int x4v), (5, .int x5v), (6, .int x6v)] [.int xs0] δ (J_X12_runs_83 N g a0 x1 x2 kt36 xs0 x3v x4v x5v x6v δ) := by
    intro xs0 x3v x4v x5v x6v δ 
    unfold J_X12_runs_83
    refine w_istore [(7, .int xs0), (0, .ref a0), (1, .int x1), (2, .int x2), (3, .int x3v), (4, .int x4v), (5, .int x5v), (6, .int x6v)] (μ := m_X12_runs) (pc := 83) dX12_runs_83 (by decide) rfl ?_
    refine w_iload 7 (μ := m_X12_runs) (pc := 85) dX12_runs_85 rfl ?_
    refine w_aload_n 1 0 (μ := m_X12_runs) (pc := 87) dX12_runs_87 rfl rfl ?_
    refine w_getO (μ := m_X12_runs) (pc := 88) dX12_runs_88 fl_X12_36 ir_12_14 id_12_14 k0 (fun b_14 e_15 => ?_)
    refine w_iload_n 3 2 (μ := m_X12_runs) (pc := 91) dX12_runs_91 rfl rfl ?_
    refine w_ald (μ := m_X12_runs) (pc := 92) dX12_runs_92 (wt_12_14 wt k0 e_15) ?_
    refine w_icmp_ge 106 (μ := m_X12_runs) (pc := 93) dX12_runs_93 (by decide) (fun c_16 => ?_) (fun c_16 => ?_)
    · refine w_aload_n 1 0 (μ := m_X12_runs) (pc := 106) dX12_runs_106 rfl rfl ?_
      refine w_callV (As := []) (rest := []) (μ := m_X12_runs) (pc := 107) dX12_runs_107 cv_X12_257 rfl rfl k0 (by decide) rfl (Nat.le_of_ble_eq_true rfl) (d' := d - 1) (by omega) he_i (c_X12_all wt hl (d := d - 1) (by omega) k0) (fun r_17 => ?_)
      refine w_lv [1, 2, 3, 4, 5, 6, 7, 0] rfl ?_
      exact t_J_X12_runs_110 wt hl (by omega) k0 hk36 _ _ _ _ _ _ _
    · refine w_aload_n 1 0 (μ := m_X12_runs) (pc := 96) dX12_runs_96 rfl rfl ?_
      refine w_iload_n 3 2 (μ := m_X12_runs) (pc := 97) dX12_runs_97 rfl rfl ?_
      refine w_iload 7 (μ := m_X12_runs) (pc := 98) dX12_runs_98 rfl ?_
      refine w_callV (As := [.int x2, .int x6v]) (rest := []) (μ := m_X12_runs) (pc := 100) dX12_runs_100 cv_X12_280 rfl rfl k0 (by decide) rfl (Nat.le_of_ble_eq_true rfl) (d' := d - 1) (by omega) he_i (c_X12_numberAt wt hl (d := d - 1) (by omega) k0) (fun r_29 => ?_)
      refine w_goto 110 (μ := m_X12_runs) (pc := 103) dX12_runs_103 (by decide) ?_
      refine w_lv [1, 2, 3, 4, 5, 6, 7, 0] rfl ?_
      exact t_J_X12_runs_110 wt hl (by omega) k0 hk36 _ _ _ _ _ _ _
def J_X12_runs_58 (N : Nat) (g : gp) (a0 : Nat) (x1 : Int32) (x2 : Int32) (kt36 : Int32 → Int32 → Int32 → Int32 → dp → Option (Int32 × dp)) (x3v : Int32) (x4v : Int32) (x5v : Int32) (x6v : Int32) (δ : dp) : Option (Int32 × dp) :=
  (q_O g 12 14 a0).bind fun b_10 => if x1 < 0 ∨ q_N g b_10 ≤ x1.toNatClampNeg then none else if (q_R δ b_10 x1.toNatClampNeg) ≤ x5v then ((D_X12_all N g a0 δ).bind fun r_13 => J_X12_runs_83 N g a0 x1 x2 kt36 r_13.1 x3v x4v x5v x6v r_13.2) else ((D_X12_numberAt N g a0 x1 x5v δ).bind fun r_30 => J_X12_runs_83 N g a0 x1 x2 kt36 r_30.1 x3v x4v x5v x6v r_30.2)
set_option maxHeartbeats 4000000 in
set_option maxRecDepth 100000 in
theorem t_J_X12_runs_58 {l : Launch} {D : va_G} {cy : Nat → ClassId} {N d : Nat} {g : gp} (wt : WT g) (hl : l.stackTraces = false) (hd : 3 ≤ d) {a0 : Nat} {x1 : Int32} {x2 : Int32} (k0 : q_K g a0 = 12) {kt36 : Int32 → Int32 → Int32 → Int32 → dp → Option (Int32 × dp)} (hk36 : ∀ (x3v : Int32) (x4v : Int32) (x5v : Int32) (x6v : Int32) (δ : dp), AWD l D cy m_X12_runs d 0 0 ei g 36 [(0, .ref a0), (1, .int x1), (2, .int x2), (3, .int x3v), (4, .int x4v), (5, .int x5v), (6, .int x6v)] [] δ (kt36 x3v x4v x5v x6v δ)) : ∀ (x3v : Int32) (x4v : Int32) (x5v : Int32) (x6v : Int32) (δ : dp), AWD l D cy m_X12_runs d 0 0 ei g 58 [(0, .ref a0), (1, .int x1), (2, .int x2), (3, .int x3v), (4, .int x4v), (5, .int x5v), (6, .int x6v)] [] δ (J_X12_runs_58 N g a0 x1 x2 kt36 x3v x4v x5v x6v δ) := by
    intro x3v x4v x5v x6v δ 
    unfold J_X12_runs_58
    refine w_iload 5 (μ := m_X12_runs) (pc := 58) dX12_runs_58 rfl ?_
    refine w_aload_n 0 0 (μ := m_X12_runs) (pc := 60) dX12_runs_60 rfl rfl ?_
    refine w_getO (μ := m_X12_runs) (pc := 61) dX12_runs_61 fl_X12_36 ir_12_14 id_12_14 k0 (fun b_10 e_11 => ?_)
    refine w_iload_n 1 1 (μ := m_X12_runs) (pc := 64) dX12_runs_64 rfl rfl ?_
    refine w_ald (μ := m_X12_runs) (pc := 65) dX12_runs_65 (wt_12_14 wt k0 e_11) ?_
    refine w_icmp_ge 79 (μ := m_X12_runs) (pc := 66) dX12_runs_66 (by decide) (fun c_12 => ?_) (fun c_12 => ?_)
    · refine w_aload_n 0 0 (μ := m_X12_runs) (pc := 79) dX12_runs_79 rfl rfl ?_
      refine w_callV (As := []) (rest := []) (μ := m_X12_runs) (pc := 80) dX12_runs_80 cv_X12_257 rfl rfl k0 (by decide) rfl (Nat.le_of_ble_eq_true rfl) (d' := d - 1) (by omega) he_i (c_X12_all wt hl (d := d - 1) (by omega) k0) (fun r_13 => ?_)
      exact t_J_X12_runs_83 wt hl (by omega) k0 hk36 _ _ _ _ _ _
    · refine w_aload_n 0 0 (μ := m_X12_runs) (pc := 69) dX12_runs_69 rfl rfl ?_
      refine w_iload_n 1 1 (μ := m_X12_runs) (pc := 70) dX12_runs_70 rfl rfl ?_
      refine w_iload 5 (μ := m_X12_runs) (pc := 71) dX12_runs_71 rfl ?_
      refine w_callV (As := [.int x1, .int x5v]) (rest := []) (μ := m_X12_runs) (pc := 73) dX12_runs_73 cv_X12_280 rfl rfl k0 (by decide) rfl (Nat.le_of_ble_eq_true rfl) (d' := d - 1) (by omega) he_i (c_X12_numberAt wt hl (d := d - 1) (by omega) k0) (fun r_30 => ?_)
      refine w_goto 83 (μ := m_X12_runs) (pc := 76) dX12_runs_76 (by decide) ?_
      exact t_J_X12_runs_83 wt hl (by omega) k0 hk36 _ _ _ _ _ _
def L_X12_runs_36 (N : Nat) (g : gp) (a0 : Nat) (x1 : Int32) (x2 : Int32) : Nat → Int32 → Int32 → Int32 → Int32 → dp → Option (Int32 × dp)
  | 0, _, _, _, _, _ => none
  | n + 1, x3v, x4v, x5v, x6v, δ => (q_O g 12 14 a0).bind fun b_7 => if x1 < 0 ∨ q_N g b_7 ≤ x1.toNatClampNeg then none else if x5v < (q_R δ b_7 x1.toNatClampNeg) then (J_X12_runs_58 N g a0 x1 x2 (L_X12_runs_36 N g a0 x1 x2 n) x3v x4v x5v x6v δ) else ((q_O g 12 14 a0).bind fun b_31 => if x2 < 0 ∨ q_N g b_31 ≤ x2.toNatClampNeg then none else if (q_R δ b_31 x2.toNatClampNeg) ≤ x6v then (some (x3v, δ)) else (J_X12_runs_58 N g a0 x1 x2 (L_X12_runs_36 N g a0 x1 x2 n) x3v x4v x5v x6v δ))
set_option maxHeartbeats 4000000 in
set_option maxRecDepth 100000 in
theorem t_L_X12_runs_36 {l : Launch} {D : va_G} {cy : Nat → ClassId} {N d : Nat} {g : gp} (wt : WT g) (hl : l.stackTraces = false) (hd : 3 ≤ d) {a0 : Nat} {x1 : Int32} {x2 : Int32} (k0 : q_K g a0 = 12) : ∀ (n : Nat) (x3v : Int32) (x4v : Int32) (x5v : Int32) (x6v : Int32) (δ : dp), AWD l D cy m_X12_runs d 0 0 ei g 36 [(0, .ref a0), (1, .int x1), (2, .int x2), (3, .int x3v), (4, .int x4v), (5, .int x5v), (6, .int x6v)] [] δ (L_X12_runs_36 N g a0 x1 x2 n x3v x4v x5v x6v δ) := by
  intro n
  induction n with
  | zero => intro x3v x4v x5v x6v δ ; exact w_none
  | succ n ih =>
    intro x3v x4v x5v x6v δ 
    unfold L_X12_runs_36
    refine w_iload 5 (μ := m_X12_runs) (pc := 36) dX12_runs_36 rfl ?_
    refine w_aload_n 0 0 (μ := m_X12_runs) (pc := 38) dX12_runs_38 rfl rfl ?_
    refine w_getO (μ := m_X12_runs) (pc := 39) dX12_runs_39 fl_X12_36 ir_12_14 id_12_14 k0 (fun b_7 e_8 => ?_)
    refine w_iload_n 1 1 (μ := m_X12_runs) (pc := 42) dX12_runs_42 rfl rfl ?_
    refine w_ald (μ := m_X12_runs) (pc := 43) dX12_runs_43 (wt_12_14 wt k0 e_8) ?_
    refine w_icmp_lt 58 (μ := m_X12_runs) (pc := 44) dX12_runs_44 (by decide) (fun c_9 => ?_) (fun c_9 => ?_)
    · exact t_J_X12_runs_58 wt hl (by omega) k0 ih _ _ _ _ _
    · refine w_iload 6 (μ := m_X12_runs) (pc := 47) dX12_runs_47 rfl ?_
      refine w_aload_n 0 0 (μ := m_X12_runs) (pc := 49) dX12_runs_49 rfl rfl ?_
      refine w_getO (μ := m_X12_runs) (pc := 50) dX12_runs_50 fl_X12_36 ir_12_14 id_12_14 k0 (fun b_31 e_32 => ?_)
      refine w_iload_n 2 2 (μ := m_X12_runs) (pc := 53) dX12_runs_53 rfl rfl ?_
      refine w_ald (μ := m_X12_runs) (pc := 54) dX12_runs_54 (wt_12_14 wt k0 e_32) ?_
      refine w_icmp_ge 178 (μ := m_X12_runs) (pc := 55) dX12_runs_55 (by decide) (fun c_33 => ?_) (fun c_33 => ?_)
      · refine w_iload_n 3 3 (μ := m_X12_runs) (pc := 178) dX12_runs_178 rfl rfl ?_
        exact w_iret (μ := m_X12_runs) (pc := 179) dX12_runs_179 rfl rfl
      · exact t_J_X12_runs_58 wt hl (by omega) k0 ih _ _ _ _ _
def D_X12_runs (N : Nat) (g : gp) (a0 : Nat) (x1 : Int32) (x2 : Int32) (δ : dp) : Option (Int32 × dp) :=
  bd (s_I δ 12 0 a0 0) fun δ_1 => (D_X12_isHouse N g a0 x1 1 δ_1).bind fun r_3 => if r_3.1 = 0 then (J_X12_runs_23 N g a0 x1 x2 r_3.2) else ((D_X12_isHouse N g a0 x2 1 r_3.2).bind fun r_5 => if r_5.1 = 0 then (J_X12_runs_23 N g a0 x1 x2 r_5.2) else (L_X12_runs_36 N g a0 x1 x2 N 0 ((-1)) 0 0 r_5.2))
set_option maxHeartbeats 4000000 in
set_option maxRecDepth 100000 in
theorem c_X12_runs {l : Launch} {D : va_G} {cy : Nat → ClassId} {N d : Nat} {g : gp} (wt : WT g) (hl : l.stackTraces = false) (hd : 3 ≤ d) {a0 : Nat} {x1 : Int32} {x2 : Int32} {δ : dp} (k0 : q_K g a0 = 12) : CalD l D cy m_X12_runs d 0 0 ei g [.ref a0, .int x1, .int x2] δ (D_X12_runs N g a0 x1 x2 δ) := by
  refine CalD.of (by decide +kernel) (Nat.le_of_ble_eq_true rfl) hl ?_
  unfold D_X12_runs
  refine w_aload_n 0 0 (μ := m_X12_runs) (pc := 0) dX12_runs_0 rfl rfl ?_
  refine w_iconst (v := 0) (μ := m_X12_runs) (pc := 1) dX12_runs_1 (by decide) ?_
  refine w_putI (μ := m_X12_runs) (pc := 2) dX12_runs_2 fl_X12_1 flw_12_0 ir_12_0 k0 ?_
  refine w_bd (fun δ_1 e_2 => ?_)
  refine w_aload_n 0 0 (μ := m_X12_runs) (pc := 5) dX12_runs_5 rfl rfl ?_
  refine w_iload_n 1 1 (μ := m_X12_runs) (pc := 6) dX12_runs_6 rfl rfl ?_
  refine w_iconst (v := 1) (μ := m_X12_runs) (pc := 7) dX12_runs_7 (by decide) ?_
  refine w_callV (As := [.int x1, .int 1]) (rest := []) (μ := m_X12_runs) (pc := 8) dX12_runs_8 cv_X12_260 rfl rfl k0 (by decide) rfl (Nat.le_of_ble_eq_true rfl) (d' := d - 1) (by omega) he_i (c_X12_isHouse wt hl (d := d - 1) (by omega) k0) (fun r_3 => ?_)
  refine w_if_eq 23 (μ := m_X12_runs) (pc := 11) dX12_runs_11 (by decide) (fun c_4 => ?_) (fun c_4 => ?_)
  · refine w_lv [] rfl ?_
    exact t_J_X12_runs_23 wt hl (by omega) k0 _
  · refine w_aload_n 0 0 (μ := m_X12_runs) (pc := 14) dX12_runs_14 rfl rfl ?_
    refine w_iload_n 2 2 (μ := m_X12_runs) (pc := 15) dX12_runs_15 rfl rfl ?_
    refine w_iconst (v := 1) (μ := m_X12_runs) (pc := 16) dX12_runs_16 (by decide) ?_
    refine w_callV (As := [.int x2, .int 1]) (rest := []) (μ := m_X12_runs) (pc := 17) dX12_runs_17 cv_X12_260 rfl rfl k0 (by decide) rfl (Nat.le_of_ble_eq_true rfl) (d' := d - 1) (by omega) he_i (c_X12_isHouse wt hl (d := d - 1) (by omega) k0) (fun r_5 => ?_)
    refine w_if_ne 25 (μ := m_X12_runs) (pc := 20) dX12_runs_20 (by decide) (fun c_6 => ?_) (fun c_6 => ?_)
    · refine w_iconst (v := 0) (μ := m_X12_runs) (pc := 25) dX12_runs_25 (by decide) ?_
      refine w_istore_n [(3, .int 0), (0, .ref a0), (1, .int x1), (2, .int x2)] (μ := m_X12_runs) (pc := 26) dX12_runs_26 rfl (by decide) rfl ?_
      refine w_iconst (v := (-1)) (μ := m_X12_runs) (pc := 27) dX12_runs_27 (by decide) ?_
      refine w_istore [(4, .int ((-1))), (3, .int 0), (0, .ref a0), (1, .int x1), (2, .int x2)] (μ := m_X12_runs) (pc := 28) dX12_runs_28 (by decide) rfl ?_
      refine w_iconst (v := 0) (μ := m_X12_runs) (pc := 30) dX12_runs_30 (by decide) ?_
      refine w_istore [(5, .int 0), (4, .int ((-1))), (3, .int 0), (0, .ref a0), (1, .int x1), (2, .int x2)] (μ := m_X12_runs) (pc := 31) dX12_runs_31 (by decide) rfl ?_
      refine w_iconst (v := 0) (μ := m_X12_runs) (pc := 33) dX12_runs_33 (by decide) ?_
      refine w_istore [(6, .int 0), (5, .int 0), (4, .int ((-1))), (3, .int 0), (0, .ref a0), (1, .int x1), (2, .int x2)] (μ := m_X12_runs) (pc := 34) dX12_runs_34 (by decide) rfl ?_
      refine w_lv [4, 5, 6, 3, 2, 1, 0] rfl ?_
      exact t_L_X12_runs_36 wt hl (by omega) k0 N _ _ _ _ _
    · refine w_lv [] rfl ?_
      exact t_J_X12_runs_23 wt hl (by omega) k0 _
