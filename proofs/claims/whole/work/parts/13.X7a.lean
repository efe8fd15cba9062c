theorem dX7_hasPlace_0 : decode cX7_hasPlace 0 = .ok (.aload_n 0, 1) := by decide +kernel
theorem dX7_hasPlace_1 : decode cX7_hasPlace 1 = .ok (.getfield 15, 3) := by decide +kernel
theorem dX7_hasPlace_4 : decode cX7_hasPlace 4 = .ok (.bipush 20, 2) := by decide +kernel
theorem dX7_hasPlace_6 : decode cX7_hasPlace 6 = .ok (.iadd, 1) := by decide +kernel
theorem dX7_hasPlace_7 : decode cX7_hasPlace 7 = .ok (.sipush 500, 3) := by decide +kernel
theorem dX7_hasPlace_10 : decode cX7_hasPlace 10 = .ok (.if_icmp .gt 7, 3) := by decide +kernel
theorem dX7_hasPlace_13 : decode cX7_hasPlace 13 = .ok (.iconst 1, 1) := by decide +kernel
theorem dX7_hasPlace_14 : decode cX7_hasPlace 14 = .ok (.goto 4, 3) := by decide +kernel
theorem dX7_hasPlace_17 : decode cX7_hasPlace 17 = .ok (.iconst 0, 1) := by decide +kernel
theorem dX7_hasPlace_18 : decode cX7_hasPlace 18 = .ok (.ireturn, 1) := by decide +kernel
theorem dX7_take_0 : decode cX7_take 0 = .ok (.bipush 24, 2) := by decide +kernel
theorem dX7_take_2 : decode cX7_take 2 = .ok (.istore_n 2, 1) := by decide +kernel
theorem dX7_take_3 : decode cX7_take 3 = .ok (.iload_n 2, 1) := by decide +kernel
theorem dX7_take_4 : decode cX7_take 4 = .ok (.ifCond .lt 45, 3) := by decide +kernel
theorem dX7_take_7 : decode cX7_take 7 = .ok (.aload_n 0, 1) := by decide +kernel
theorem dX7_take_8 : decode cX7_take 8 = .ok (.getfield 15, 3) := by decide +kernel
theorem dX7_take_11 : decode cX7_take 11 = .ok (.sipush 500, 3) := by decide +kernel
theorem dX7_take_14 : decode cX7_take 14 = .ok (.if_icmp .ge 35, 3) := by decide +kernel
theorem dX7_take_17 : decode cX7_take 17 = .ok (.aload_n 0, 1) := by decide +kernel
theorem dX7_take_18 : decode cX7_take 18 = .ok (.getfield 9, 3) := by decide +kernel
theorem dX7_take_21 : decode cX7_take 21 = .ok (.aload_n 0, 1) := by decide +kernel
theorem dX7_take_22 : decode cX7_take 22 = .ok (.getfield 15, 3) := by decide +kernel
theorem dX7_take_25 : decode cX7_take 25 = .ok (.iload_n 1, 1) := by decide +kernel
theorem dX7_take_26 : decode cX7_take 26 = .ok (.iload_n 2, 1) := by decide +kernel
theorem dX7_take_27 : decode cX7_take 27 = .ok (.ishr, 1) := by decide +kernel
theorem dX7_take_28 : decode cX7_take 28 = .ok (.sipush 255, 3) := by decide +kernel
theorem dX7_take_31 : decode cX7_take 31 = .ok (.iand, 1) := by decide +kernel
theorem dX7_take_32 : decode cX7_take 32 = .ok (.iastore, 1) := by decide +kernel
theorem dX7_take_33 : decode cX7_take 33 = .ok (.aload_n 0, 1) := by decide +kernel
theorem dX7_take_34 : decode cX7_take 34 = .ok (.dup, 1) := by decide +kernel
theorem dX7_take_35 : decode cX7_take 35 = .ok (.getfield 15, 3) := by decide +kernel
theorem dX7_take_38 : decode cX7_take 38 = .ok (.iconst 1, 1) := by decide +kernel
theorem dX7_take_39 : decode cX7_take 39 = .ok (.iadd, 1) := by decide +kernel
theorem dX7_take_40 : decode cX7_take 40 = .ok (.putfield 15, 3) := by decide +kernel
theorem dX7_take_43 : decode cX7_take 43 = .ok (.iinc 2 (-8), 3) := by decide +kernel
theorem dX7_take_46 : decode cX7_take 46 = .ok (.goto (-43), 3) := by decide +kernel
theorem dX7_take_49 : decode cX7_take 49 = .ok (.return_, 1) := by decide +kernel
theorem dX7_open_0 : decode cX7_open 0 = .ok (.aload_n 0, 1) := by decide +kernel
theorem dX7_open_1 : decode cX7_open 1 = .ok (.iconst 0, 1) := by decide +kernel
theorem dX7_open_2 : decode cX7_open 2 = .ok (.putfield 15, 3) := by decide +kernel
theorem dX7_open_5 : decode cX7_open 5 = .ok (.aload_n 0, 1) := by decide +kernel
theorem dX7_open_6 : decode cX7_open 6 = .ok (.iload_n 1, 1) := by decide +kernel
theorem dX7_open_7 : decode cX7_open 7 = .ok (.putfield 19, 3) := by decide +kernel
theorem dX7_open_10 : decode cX7_open 10 = .ok (.aload_n 0, 1) := by decide +kernel
theorem dX7_open_11 : decode cX7_open 11 = .ok (.iconst 0, 1) := by decide +kernel
theorem dX7_open_12 : decode cX7_open 12 = .ok (.putfield 22, 3) := by decide +kernel
theorem dX7_open_15 : decode cX7_open 15 = .ok (.aload_n 0, 1) := by decide +kernel
theorem dX7_open_16 : decode cX7_open 16 = .ok (.iconst 0, 1) := by decide +kernel
theorem dX7_open_17 : decode cX7_open 17 = .ok (.putfield 25, 3) := by decide +kernel
theorem dX7_open_20 : decode cX7_open 20 = .ok (.aload_n 0, 1) := by decide +kernel
theorem dX7_open_21 : decode cX7_open 21 = .ok (.iconst 0, 1) := by decide +kernel
theorem dX7_open_22 : decode cX7_open 22 = .ok (.putfield 28, 3) := by decide +kernel
theorem dX7_open_25 : decode cX7_open 25 = .ok (.return_, 1) := by decide +kernel
theorem dX7_isSound_0 : decode cX7_isSound 0 = .ok (.aload_n 0, 1) := by decide +kernel
theorem dX7_isSound_1 : decode cX7_isSound 1 = .ok (.getfield 28, 3) := by decide +kernel
theorem dX7_isSound_4 : decode cX7_isSound 4 = .ok (.ifCond .ne 7, 3) := by decide +kernel
theorem dX7_isSound_7 : decode cX7_isSound 7 = .ok (.iconst 1, 1) := by decide +kernel
theorem dX7_isSound_8 : decode cX7_isSound 8 = .ok (.goto 4, 3) := by decide +kernel
theorem dX7_isSound_11 : decode cX7_isSound 11 = .ok (.iconst 0, 1) := by decide +kernel
theorem dX7_isSound_12 : decode cX7_isSound 12 = .ok (.ireturn, 1) := by decide +kernel
theorem dX7_refuse_0 : decode cX7_refuse 0 = .ok (.aload_n 0, 1) := by decide +kernel
theorem dX7_refuse_1 : decode cX7_refuse 1 = .ok (.getfield 28, 3) := by decide +kernel
theorem dX7_refuse_4 : decode cX7_refuse 4 = .ok (.ifCond .ne 16, 3) := by decide +kernel
theorem dX7_refuse_7 : decode cX7_refuse 7 = .ok (.aload_n 0, 1) := by decide +kernel
theorem dX7_refuse_8 : decode cX7_refuse 8 = .ok (.iload_n 1, 1) := by decide +kernel
theorem dX7_refuse_9 : decode cX7_refuse 9 = .ok (.putfield 28, 3) := by decide +kernel
theorem dX7_refuse_12 : decode cX7_refuse 12 = .ok (.aload_n 0, 1) := by decide +kernel
theorem dX7_refuse_13 : decode cX7_refuse 13 = .ok (.aload_n 0, 1) := by decide +kernel
theorem dX7_refuse_14 : decode cX7_refuse 14 = .ok (.getfield 25, 3) := by decide +kernel
theorem dX7_refuse_17 : decode cX7_refuse 17 = .ok (.putfield 31, 3) := by decide +kernel
theorem dX7_refuse_20 : decode cX7_refuse 20 = .ok (.return_, 1) := by decide +kernel
theorem dX7_ahead_0 : decode cX7_ahead 0 = .ok (.aload_n 0, 1) := by decide +kernel
theorem dX7_ahead_1 : decode cX7_ahead 1 = .ok (.getfield 22, 3) := by decide +kernel
theorem dX7_ahead_4 : decode cX7_ahead 4 = .ok (.aload_n 0, 1) := by decide +kernel
theorem dX7_ahead_5 : decode cX7_ahead 5 = .ok (.getfield 19, 3) := by decide +kernel
theorem dX7_ahead_8 : decode cX7_ahead 8 = .ok (.if_icmp .ge 30, 3) := by decide +kernel
theorem dX7_ahead_11 : decode cX7_ahead 11 = .ok (.aload_n 0, 1) := by decide +kernel
theorem dX7_ahead_12 : decode cX7_ahead 12 = .ok (.getfield 9, 3) := by decide +kernel
theorem dX7_ahead_15 : decode cX7_ahead 15 = .ok (.aload_n 0, 1) := by decide +kernel
theorem dX7_ahead_16 : decode cX7_ahead 16 = .ok (.getfield 22, 3) := by decide +kernel
theorem dX7_ahead_19 : decode cX7_ahead 19 = .ok (.iaload, 1) := by decide +kernel
theorem dX7_ahead_20 : decode cX7_ahead 20 = .ok (.bipush 32, 2) := by decide +kernel
theorem dX7_ahead_22 : decode cX7_ahead 22 = .ok (.if_icmp .ne 16, 3) := by decide +kernel
theorem dX7_ahead_25 : decode cX7_ahead 25 = .ok (.aload_n 0, 1) := by decide +kernel
theorem dX7_ahead_26 : decode cX7_ahead 26 = .ok (.dup, 1) := by decide +kernel
theorem dX7_ahead_27 : decode cX7_ahead 27 = .ok (.getfield 22, 3) := by decide +kernel
theorem dX7_ahead_30 : decode cX7_ahead 30 = .ok (.iconst 1, 1) := by decide +kernel
theorem dX7_ahead_31 : decode cX7_ahead 31 = .ok (.iadd, 1) := by decide +kernel
theorem dX7_ahead_32 : decode cX7_ahead 32 = .ok (.putfield 22, 3) := by decide +kernel
theorem dX7_ahead_35 : decode cX7_ahead 35 = .ok (.goto (-35), 3) := by decide +kernel
theorem dX7_ahead_38 : decode cX7_ahead 38 = .ok (.aload_n 0, 1) := by decide +kernel
theorem dX7_ahead_39 : decode cX7_ahead 39 = .ok (.aload_n 0, 1) := by decide +kernel
theorem dX7_ahead_40 : decode cX7_ahead 40 = .ok (.getfield 22, 3) := by decide +kernel
theorem dX7_ahead_43 : decode cX7_ahead 43 = .ok (.putfield 25, 3) := by decide +kernel
theorem dX7_ahead_46 : decode cX7_ahead 46 = .ok (.aload_n 0, 1) := by decide +kernel
theorem dX7_ahead_47 : decode cX7_ahead 47 = .ok (.getfield 22, 3) := by decide +kernel
theorem dX7_ahead_50 : decode cX7_ahead 50 = .ok (.aload_n 0, 1) := by decide +kernel
theorem dX7_ahead_51 : decode cX7_ahead 51 = .ok (.getfield 19, 3) := by decide +kernel
theorem dX7_ahead_54 : decode cX7_ahead 54 = .ok (.if_icmp .ge 15, 3) := by decide +kernel
theorem dX7_ahead_57 : decode cX7_ahead 57 = .ok (.aload_n 0, 1) := by decide +kernel
theorem dX7_ahead_58 : decode cX7_ahead 58 = .ok (.getfield 9, 3) := by decide +kernel
theorem dX7_ahead_61 : decode cX7_ahead 61 = .ok (.aload_n 0, 1) := by decide +kernel
theorem dX7_ahead_62 : decode cX7_ahead 62 = .ok (.getfield 22, 3) := by decide +kernel
theorem dX7_ahead_65 : decode cX7_ahead 65 = .ok (.iaload, 1) := by decide +kernel
theorem dX7_ahead_66 : decode cX7_ahead 66 = .ok (.goto 4, 3) := by decide +kernel
theorem dX7_ahead_69 : decode cX7_ahead 69 = .ok (.iconst (-1), 1) := by decide +kernel
theorem dX7_ahead_70 : decode cX7_ahead 70 = .ok (.ireturn, 1) := by decide +kernel
theorem dX7_takeSign_0 : decode cX7_takeSign 0 = .ok (.aload_n 0, 1) := by decide +kernel
theorem dX7_takeSign_1 : decode cX7_takeSign 1 = .ok (.invokevirtual 34, 3) := by decide +kernel
theorem dX7_takeSign_4 : decode cX7_takeSign 4 = .ok (.iload_n 1, 1) := by decide +kernel
theorem dX7_takeSign_5 : decode cX7_takeSign 5 = .ok (.if_icmp .ne 7, 3) := by decide +kernel
theorem dX7_takeSign_8 : decode cX7_takeSign 8 = .ok (.iconst 1, 1) := by decide +kernel
theorem dX7_takeSign_9 : decode cX7_takeSign 9 = .ok (.goto 4, 3) := by decide +kernel
theorem dX7_takeSign_12 : decode cX7_takeSign 12 = .ok (.iconst 0, 1) := by decide +kernel
theorem dX7_takeSign_13 : decode cX7_takeSign 13 = .ok (.istore_n 2, 1) := by decide +kernel
theorem dX7_takeSign_14 : decode cX7_takeSign 14 = .ok (.iload_n 2, 1) := by decide +kernel
theorem dX7_takeSign_15 : decode cX7_takeSign 15 = .ok (.ifCond .eq 13, 3) := by decide +kernel
theorem dX7_takeSign_18 : decode cX7_takeSign 18 = .ok (.aload_n 0, 1) := by decide +kernel
theorem dX7_takeSign_19 : decode cX7_takeSign 19 = .ok (.dup, 1) := by decide +kernel
theorem dX7_takeSign_20 : decode cX7_takeSign 20 = .ok (.getfield 22, 3) := by decide +kernel
theorem dX7_takeSign_23 : decode cX7_takeSign 23 = .ok (.iconst 1, 1) := by decide +kernel
theorem dX7_takeSign_24 : decode cX7_takeSign 24 = .ok (.iadd, 1) := by decide +kernel
theorem dX7_takeSign_25 : decode cX7_takeSign 25 = .ok (.putfield 22, 3) := by decide +kernel
theorem dX7_takeSign_28 : decode cX7_takeSign 28 = .ok (.iload_n 2, 1) := by decide +kernel
theorem dX7_takeSign_29 : decode cX7_takeSign 29 = .ok (.ireturn, 1) := by decide +kernel
theorem dX7_needSign_0 : decode cX7_needSign 0 = .ok (.aload_n 0, 1) := by decide +kernel
theorem dX7_needSign_1 : decode cX7_needSign 1 = .ok (.invokevirtual 34, 3) := by decide +kernel
theorem dX7_needSign_4 : decode cX7_needSign 4 = .ok (.iload_n 1, 1) := by decide +kernel
theorem dX7_needSign_5 : decode cX7_needSign 5 = .ok (.if_icmp .ne 16, 3) := by decide +kernel
theorem dX7_needSign_8 : decode cX7_needSign 8 = .ok (.aload_n 0, 1) := by decide +kernel
theorem dX7_needSign_9 : decode cX7_needSign 9 = .ok (.dup, 1) := by decide +kernel
theorem dX7_needSign_10 : decode cX7_needSign 10 = .ok (.getfield 22, 3) := by decide +kernel
theorem dX7_needSign_13 : decode cX7_needSign 13 = .ok (.iconst 1, 1) := by decide +kernel
theorem dX7_needSign_14 : decode cX7_needSign 14 = .ok (.iadd, 1) := by decide +kernel
theorem dX7_needSign_15 : decode cX7_needSign 15 = .ok (.putfield 22, 3) := by decide +kernel
theorem dX7_needSign_18 : decode cX7_needSign 18 = .ok (.goto 8, 3) := by decide +kernel
theorem dX7_needSign_21 : decode cX7_needSign 21 = .ok (.aload_n 0, 1) := by decide +kernel
theorem dX7_needSign_22 : decode cX7_needSign 22 = .ok (.iconst 1, 1) := by decide +kernel
theorem dX7_needSign_23 : decode cX7_needSign 23 = .ok (.invokevirtual 38, 3) := by decide +kernel
theorem dX7_needSign_26 : decode cX7_needSign 26 = .ok (.return_, 1) := by decide +kernel
theorem dX7_readWord_0 : decode cX7_readWord 0 = .ok (.aload_n 0, 1) := by decide +kernel
theorem dX7_readWord_1 : decode cX7_readWord 1 = .ok (.invokevirtual 34, 3) := by decide +kernel
theorem dX7_readWord_4 : decode cX7_readWord 4 = .ok (.pop, 1) := by decide +kernel
theorem dX7_readWord_5 : decode cX7_readWord 5 = .ok (.aload_n 0, 1) := by decide +kernel
theorem dX7_readWord_6 : decode cX7_readWord 6 = .ok (.getfield 22, 3) := by decide +kernel
theorem dX7_readWord_9 : decode cX7_readWord 9 = .ok (.aload_n 0, 1) := by decide +kernel
theorem dX7_readWord_10 : decode cX7_readWord 10 = .ok (.getfield 19, 3) := by decide +kernel
theorem dX7_readWord_13 : decode cX7_readWord 13 = .ok (.if_icmp .ge 44, 3) := by decide +kernel
theorem dX7_readWord_16 : decode cX7_readWord 16 = .ok (.aload_n 0, 1) := by decide +kernel
theorem dX7_readWord_17 : decode cX7_readWord 17 = .ok (.getfield 9, 3) := by decide +kernel
theorem dX7_readWord_20 : decode cX7_readWord 20 = .ok (.aload_n 0, 1) := by decide +kernel
theorem dX7_readWord_21 : decode cX7_readWord 21 = .ok (.getfield 22, 3) := by decide +kernel
theorem dX7_readWord_24 : decode cX7_readWord 24 = .ok (.iaload, 1) := by decide +kernel
theorem dX7_readWord_25 : decode cX7_readWord 25 = .ok (.bipush 97, 2) := by decide +kernel
theorem dX7_readWord_27 : decode cX7_readWord 27 = .ok (.if_icmp .lt 30, 3) := by decide +kernel
theorem dX7_readWord_30 : decode cX7_readWord 30 = .ok (.aload_n 0, 1) := by decide +kernel
theorem dX7_readWord_31 : decode cX7_readWord 31 = .ok (.getfield 9, 3) := by decide +kernel
theorem dX7_readWord_34 : decode cX7_readWord 34 = .ok (.aload_n 0, 1) := by decide +kernel
theorem dX7_readWord_35 : decode cX7_readWord 35 = .ok (.getfield 22, 3) := by decide +kernel
theorem dX7_readWord_38 : decode cX7_readWord 38 = .ok (.iaload, 1) := by decide +kernel
theorem dX7_readWord_39 : decode cX7_readWord 39 = .ok (.bipush 122, 2) := by decide +kernel
theorem dX7_readWord_41 : decode cX7_readWord 41 = .ok (.if_icmp .gt 16, 3) := by decide +kernel
theorem dX7_readWord_44 : decode cX7_readWord 44 = .ok (.aload_n 0, 1) := by decide +kernel
theorem dX7_readWord_45 : decode cX7_readWord 45 = .ok (.dup, 1) := by decide +kernel
theorem dX7_readWord_46 : decode cX7_readWord 46 = .ok (.getfield 22, 3) := by decide +kernel
theorem dX7_readWord_49 : decode cX7_readWord 49 = .ok (.iconst 1, 1) := by decide +kernel
theorem dX7_readWord_50 : decode cX7_readWord 50 = .ok (.iadd, 1) := by decide +kernel
theorem dX7_readWord_51 : decode cX7_readWord 51 = .ok (.putfield 22, 3) := by decide +kernel
theorem dX7_readWord_54 : decode cX7_readWord 54 = .ok (.goto (-49), 3) := by decide +kernel
theorem dX7_readWord_57 : decode cX7_readWord 57 = .ok (.return_, 1) := by decide +kernel
theorem dX7_wordIs_0 : decode cX7_wordIs 0 = .ok (.aload_n 0, 1) := by decide +kernel
theorem dX7_wordIs_1 : decode cX7_wordIs 1 = .ok (.getfield 22, 3) := by decide +kernel
theorem dX7_wordIs_4 : decode cX7_wordIs 4 = .ok (.aload_n 0, 1) := by decide +kernel
theorem dX7_wordIs_5 : decode cX7_wordIs 5 = .ok (.getfield 25, 3) := by decide +kernel
theorem dX7_wordIs_8 : decode cX7_wordIs 8 = .ok (.isub, 1) := by decide +kernel
theorem dX7_wordIs_9 : decode cX7_wordIs 9 = .ok (.aload_n 1, 1) := by decide +kernel
theorem dX7_wordIs_10 : decode cX7_wordIs 10 = .ok (.invokevirtual 42, 3) := by decide +kernel
theorem dX7_wordIs_13 : decode cX7_wordIs 13 = .ok (.if_icmp .eq 5, 3) := by decide +kernel
theorem dX7_wordIs_16 : decode cX7_wordIs 16 = .ok (.iconst 0, 1) := by decide +kernel
theorem dX7_wordIs_17 : decode cX7_wordIs 17 = .ok (.ireturn, 1) := by decide +kernel
theorem dX7_wordIs_18 : decode cX7_wordIs 18 = .ok (.iconst 0, 1) := by decide +kernel
theorem dX7_wordIs_19 : decode cX7_wordIs 19 = .ok (.istore_n 2, 1) := by decide +kernel
theorem dX7_wordIs_20 : decode cX7_wordIs 20 = .ok (.iload_n 2, 1) := by decide +kernel
theorem dX7_wordIs_21 : decode cX7_wordIs 21 = .ok (.aload_n 1, 1) := by decide +kernel
theorem dX7_wordIs_22 : decode cX7_wordIs 22 = .ok (.invokevirtual 42, 3) := by decide +kernel
theorem dX7_wordIs_25 : decode cX7_wordIs 25 = .ok (.if_icmp .ge 30, 3) := by decide +kernel
theorem dX7_wordIs_28 : decode cX7_wordIs 28 = .ok (.aload_n 0, 1) := by decide +kernel
theorem dX7_wordIs_29 : decode cX7_wordIs 29 = .ok (.getfield 9, 3) := by decide +kernel
theorem dX7_wordIs_32 : decode cX7_wordIs 32 = .ok (.aload_n 0, 1) := by decide +kernel
theorem dX7_wordIs_33 : decode cX7_wordIs 33 = .ok (.getfield 25, 3) := by decide +kernel
theorem dX7_wordIs_36 : decode cX7_wordIs 36 = .ok (.iload_n 2, 1) := by decide +kernel
theorem dX7_wordIs_37 : decode cX7_wordIs 37 = .ok (.iadd, 1) := by decide +kernel
theorem dX7_wordIs_38 : decode cX7_wordIs 38 = .ok (.iaload, 1) := by decide +kernel
theorem dX7_wordIs_39 : decode cX7_wordIs 39 = .ok (.aload_n 1, 1) := by decide +kernel
theorem dX7_wordIs_40 : decode cX7_wordIs 40 = .ok (.iload_n 2, 1) := by decide +kernel
theorem dX7_wordIs_41 : decode cX7_wordIs 41 = .ok (.invokevirtual 46, 3) := by decide +kernel
theorem dX7_wordIs_44 : decode cX7_wordIs 44 = .ok (.if_icmp .eq 5, 3) := by decide +kernel
theorem dX7_wordIs_47 : decode cX7_wordIs 47 = .ok (.iconst 0, 1) := by decide +kernel
theorem dX7_wordIs_48 : decode cX7_wordIs 48 = .ok (.ireturn, 1) := by decide +kernel
theorem dX7_wordIs_49 : decode cX7_wordIs 49 = .ok (.iinc 2 1, 3) := by decide +kernel
theorem dX7_wordIs_52 : decode cX7_wordIs 52 = .ok (.goto (-32), 3) := by decide +kernel
theorem dX7_wordIs_55 : decode cX7_wordIs 55 = .ok (.iconst 1, 1) := by decide +kernel
theorem dX7_wordIs_56 : decode cX7_wordIs 56 = .ok (.ireturn, 1) := by decide +kernel
theorem dX7_readNumber_0 : decode cX7_readNumber 0 = .ok (.aload_n 0, 1) := by decide +kernel
theorem dX7_readNumber_1 : decode cX7_readNumber 1 = .ok (.invokevirtual 34, 3) := by decide +kernel
theorem dX7_readNumber_4 : decode cX7_readNumber 4 = .ok (.pop, 1) := by decide +kernel
theorem dX7_readNumber_5 : decode cX7_readNumber 5 = .ok (.iconst 0, 1) := by decide +kernel
theorem dX7_readNumber_6 : decode cX7_readNumber 6 = .ok (.istore_n 3, 1) := by decide +kernel
theorem dX7_readNumber_7 : decode cX7_readNumber 7 = .ok (.aload_n 0, 1) := by decide +kernel
theorem dX7_readNumber_8 : decode cX7_readNumber 8 = .ok (.getfield 22, 3) := by decide +kernel
theorem dX7_readNumber_11 : decode cX7_readNumber 11 = .ok (.aload_n 0, 1) := by decide +kernel
theorem dX7_readNumber_12 : decode cX7_readNumber 12 = .ok (.getfield 19, 3) := by decide +kernel
theorem dX7_readNumber_15 : decode cX7_readNumber 15 = .ok (.if_icmp .ge 67, 3) := by decide +kernel
theorem dX7_readNumber_18 : decode cX7_readNumber 18 = .ok (.aload_n 0, 1) := by decide +kernel
theorem dX7_readNumber_19 : decode cX7_readNumber 19 = .ok (.getfield 9, 3) := by decide +kernel
theorem dX7_readNumber_22 : decode cX7_readNumber 22 = .ok (.aload_n 0, 1) := by decide +kernel
theorem dX7_readNumber_23 : decode cX7_readNumber 23 = .ok (.getfield 22, 3) := by decide +kernel
theorem dX7_readNumber_26 : decode cX7_readNumber 26 = .ok (.iaload, 1) := by decide +kernel
theorem dX7_readNumber_27 : decode cX7_readNumber 27 = .ok (.bipush 48, 2) := by decide +kernel
theorem dX7_readNumber_29 : decode cX7_readNumber 29 = .ok (.if_icmp .lt 53, 3) := by decide +kernel
theorem dX7_readNumber_32 : decode cX7_readNumber 32 = .ok (.aload_n 0, 1) := by decide +kernel
theorem dX7_readNumber_33 : decode cX7_readNumber 33 = .ok (.getfield 9, 3) := by decide +kernel
theorem dX7_readNumber_36 : decode cX7_readNumber 36 = .ok (.aload_n 0, 1) := by decide +kernel
theorem dX7_readNumber_37 : decode cX7_readNumber 37 = .ok (.getfield 22, 3) := by decide +kernel
theorem dX7_readNumber_40 : decode cX7_readNumber 40 = .ok (.iaload, 1) := by decide +kernel
theorem dX7_readNumber_41 : decode cX7_readNumber 41 = .ok (.bipush 57, 2) := by decide +kernel
theorem dX7_readNumber_43 : decode cX7_readNumber 43 = .ok (.if_icmp .gt 39, 3) := by decide +kernel
theorem dX7_readNumber_46 : decode cX7_readNumber 46 = .ok (.iload_n 3, 1) := by decide +kernel
theorem dX7_readNumber_47 : decode cX7_readNumber 47 = .ok (.bipush 10, 2) := by decide +kernel
theorem dX7_readNumber_49 : decode cX7_readNumber 49 = .ok (.imul, 1) := by decide +kernel
theorem dX7_readNumber_50 : decode cX7_readNumber 50 = .ok (.aload_n 0, 1) := by decide +kernel
theorem dX7_readNumber_51 : decode cX7_readNumber 51 = .ok (.getfield 9, 3) := by decide +kernel
theorem dX7_readNumber_54 : decode cX7_readNumber 54 = .ok (.aload_n 0, 1) := by decide +kernel
theorem dX7_readNumber_55 : decode cX7_readNumber 55 = .ok (.getfield 22, 3) := by decide +kernel
theorem dX7_readNumber_58 : decode cX7_readNumber 58 = .ok (.iaload, 1) := by decide +kernel
theorem dX7_readNumber_59 : decode cX7_readNumber 59 = .ok (.iadd, 1) := by decide +kernel
theorem dX7_readNumber_60 : decode cX7_readNumber 60 = .ok (.bipush 48, 2) := by decide +kernel
theorem dX7_readNumber_62 : decode cX7_readNumber 62 = .ok (.isub, 1) := by decide +kernel
theorem dX7_readNumber_63 : decode cX7_readNumber 63 = .ok (.ldc 50, 2) := by decide +kernel
theorem dX7_readNumber_65 : decode cX7_readNumber 65 = .ok (.invokestatic 51, 3) := by decide +kernel
theorem dX7_readNumber_68 : decode cX7_readNumber 68 = .ok (.istore_n 3, 1) := by decide +kernel
theorem dX7_readNumber_69 : decode cX7_readNumber 69 = .ok (.aload_n 0, 1) := by decide +kernel
theorem dX7_readNumber_70 : decode cX7_readNumber 70 = .ok (.dup, 1) := by decide +kernel
theorem dX7_readNumber_71 : decode cX7_readNumber 71 = .ok (.getfield 22, 3) := by decide +kernel
theorem dX7_readNumber_74 : decode cX7_readNumber 74 = .ok (.iconst 1, 1) := by decide +kernel
theorem dX7_readNumber_75 : decode cX7_readNumber 75 = .ok (.iadd, 1) := by decide +kernel
theorem dX7_readNumber_76 : decode cX7_readNumber 76 = .ok (.putfield 22, 3) := by decide +kernel
theorem dX7_readNumber_79 : decode cX7_readNumber 79 = .ok (.goto (-72), 3) := by decide +kernel
theorem dX7_readNumber_82 : decode cX7_readNumber 82 = .ok (.aload_n 0, 1) := by decide +kernel
theorem dX7_readNumber_83 : decode cX7_readNumber 83 = .ok (.getfield 22, 3) := by decide +kernel
theorem dX7_readNumber_86 : decode cX7_readNumber 86 = .ok (.aload_n 0, 1) := by decide +kernel
theorem dX7_readNumber_87 : decode cX7_readNumber 87 = .ok (.getfield 25, 3) := by decide +kernel
theorem dX7_readNumber_90 : decode cX7_readNumber 90 = .ok (.if_icmp .ne 11, 3) := by decide +kernel
theorem dX7_readNumber_93 : decode cX7_readNumber 93 = .ok (.aload_n 0, 1) := by decide +kernel
theorem dX7_readNumber_94 : decode cX7_readNumber 94 = .ok (.iconst 1, 1) := by decide +kernel
theorem dX7_readNumber_95 : decode cX7_readNumber 95 = .ok (.invokevirtual 38, 3) := by decide +kernel
theorem dX7_readNumber_98 : decode cX7_readNumber 98 = .ok (.goto 18, 3) := by decide +kernel
theorem dX7_readNumber_101 : decode cX7_readNumber 101 = .ok (.iload_n 3, 1) := by decide +kernel
theorem dX7_readNumber_102 : decode cX7_readNumber 102 = .ok (.iload_n 1, 1) := by decide +kernel
theorem dX7_readNumber_103 : decode cX7_readNumber 103 = .ok (.if_icmp .lt 8, 3) := by decide +kernel
theorem dX7_readNumber_106 : decode cX7_readNumber 106 = .ok (.iload_n 3, 1) := by decide +kernel
theorem dX7_readNumber_107 : decode cX7_readNumber 107 = .ok (.iload_n 2, 1) := by decide +kernel
theorem dX7_readNumber_108 : decode cX7_readNumber 108 = .ok (.if_icmp .le 8, 3) := by decide +kernel
theorem dX7_readNumber_111 : decode cX7_readNumber 111 = .ok (.aload_n 0, 1) := by decide +kernel
theorem dX7_readNumber_112 : decode cX7_readNumber 112 = .ok (.iconst 2, 1) := by decide +kernel
theorem dX7_readNumber_113 : decode cX7_readNumber 113 = .ok (.invokevirtual 38, 3) := by decide +kernel
theorem dX7_readNumber_116 : decode cX7_readNumber 116 = .ok (.iload_n 3, 1) := by decide +kernel
theorem dX7_readNumber_117 : decode cX7_readNumber 117 = .ok (.ireturn, 1) := by decide +kernel
def J_X7_hasPlace_18 (N : Nat) (g : gp) (a0 : Nat) (xs0 : Int32) (δ : dp) : Option (Int32 × dp) :=
  if xs0 = 0 ∨ xs0 = 1 then some (xs0, δ) else none
set_option maxHeartbeats 4000000 in
set_option maxRecDepth 100000 in
theorem t_J_X7_hasPlace_18 {l : Launch} {D : va_G} {cy : Nat → ClassId} {N d : Nat} {g : gp} (wt : WT g) (hl : l.stackTraces = false) (hd : 1 ≤ d) {a0 : Nat} (k0 : q_K g a0 = 7) : ∀ (xs0 : Int32) (δ : dp), AWD l D cy m_X7_hasPlace d 0 0 ei g 18 [] [.int xs0] δ (J_X7_hasPlace_18 N g a0 xs0 δ) := by
    intro xs0 δ 
    unfold J_X7_hasPlace_18
    exact w_zret (μ := m_X7_hasPlace) (pc := 18) dX7_hasPlace_18 rfl rfl
def D_X7_hasPlace (N : Nat) (g : gp) (a0 : Nat) (δ : dp) : Option (Int32 × dp) :=
  if (500 : Int32) < ((q_I δ 7 1 a0) + 20) then (J_X7_hasPlace_18 N g a0 0 δ) else (J_X7_hasPlace_18 N g a0 1 δ)
set_option maxHeartbeats 4000000 in
set_option maxRecDepth 100000 in
theorem c_X7_hasPlace {l : Launch} {D : va_G} {cy : Nat → ClassId} {N d : Nat} {g : gp} (wt : WT g) (hl : l.stackTraces = false) (hd : 1 ≤ d) {a0 : Nat} {δ : dp} (k0 : q_K g a0 = 7) : CalD l D cy m_X7_hasPlace d 0 0 ei g [.ref a0] δ (D_X7_hasPlace N g a0 δ) := by
  refine CalD.of (by decide +kernel) (Nat.le_of_ble_eq_true rfl) hl ?_
  unfold D_X7_hasPlace
  refine w_aload_n 0 0 (μ := m_X7_hasPlace) (pc := 0) dX7_hasPlace_0 rfl rfl ?_
  refine w_getI (μ := m_X7_hasPlace) (pc := 1) dX7_hasPlace_1 fl_X7_15 ir_7_1 k0 ?_
  refine w_bipush (v := 20) (μ := m_X7_hasPlace) (pc := 4) dX7_hasPlace_4 (by decide) ?_
  refine w_iadd (μ := m_X7_hasPlace) (pc := 6) dX7_hasPlace_6 ?_
  refine w_sipush (v := 500) (μ := m_X7_hasPlace) (pc := 7) dX7_hasPlace_7 (by decide) ?_
  refine w_icmp_gt 17 (μ := m_X7_hasPlace) (pc := 10) dX7_hasPlace_10 (by decide) (fun c_1 => ?_) (fun c_1 => ?_)
  · refine w_iconst (v := 0) (μ := m_X7_hasPlace) (pc := 17) dX7_hasPlace_17 (by decide) ?_
    refine w_lv [] rfl ?_
    exact t_J_X7_hasPlace_18 wt hl (by omega) k0 _ _
  · refine w_iconst (v := 1) (μ := m_X7_hasPlace) (pc := 13) dX7_hasPlace_13 (by decide) ?_
    refine w_goto 18 (μ := m_X7_hasPlace) (pc := 14) dX7_hasPlace_14 (by decide) ?_
    refine w_lv [] rfl ?_
    exact t_J_X7_hasPlace_18 wt hl (by omega) k0 _ _
def J_X7_take_49 (N : Nat) (g : gp) (a0 : Nat) (x1 : Int32) (δ : dp) : Option (dp) :=
  some δ
set_option maxHeartbeats 4000000 in
set_option maxRecDepth 100000 in
theorem t_J_X7_take_49 {l : Launch} {D : va_G} {cy : Nat → ClassId} {N d : Nat} {g : gp} (wt : WT g) (hl : l.stackTraces = false) (hd : 1 ≤ d) {a0 : Nat} {x1 : Int32} (k0 : q_K g a0 = 7) : ∀ (δ : dp), AWD l D cy m_X7_take d 0 0 ev g 49 [] [] δ (J_X7_take_49 N g a0 x1 δ) := by
    intro  δ 
    unfold J_X7_take_49
    exact w_vret (μ := m_X7_take) (pc := 49) dX7_take_49 rfl rfl
def L_X7_take_3 (N : Nat) (g : gp) (a0 : Nat) (x1 : Int32) : Nat → Int32 → dp → Option (dp)
  | 0, _, _ => none
  | n + 1, x2v, δ => if x2v < 0 then (J_X7_take_49 N g a0 x1 δ) else (if (500 : Int32) ≤ (q_I δ 7 1 a0) then (J_X7_take_49 N g a0 x1 δ) else ((q_O g 7 0 a0).bind fun b_3 => if (q_I δ 7 1 a0) < 0 ∨ q_N g b_3 ≤ (q_I δ 7 1 a0).toNatClampNeg then none else bd (s_R δ b_3 (q_I δ 7 1 a0).toNatClampNeg ((x1 >>> (x2v &&& 31)) &&& 255)) fun δ_5 => bd (s_I δ_5 7 1 a0 ((q_I δ_5 7 1 a0) + 1)) fun δ_7 => bi (x2v + (-8)) fun x_9 => L_X7_take_3 N g a0 x1 n x_9 δ_7))
set_option maxHeartbeats 4000000 in
set_option maxRecDepth 100000 in
theorem t_L_X7_take_3 {l : Launch} {D : va_G} {cy : Nat → ClassId} {N d : Nat} {g : gp} (wt : WT g) (hl : l.stackTraces = false) (hd : 1 ≤ d) {a0 : Nat} {x1 : Int32} (k0 : q_K g a0 = 7) : ∀ (n : Nat) (x2v : Int32) (δ : dp), AWD l D cy m_X7_take d 0 0 ev g 3 [(0, .ref a0), (1, .int x1), (2, .int x2v)] [] δ (L_X7_take_3 N g a0 x1 n x2v δ) := by
  intro n
  induction n with
  | zero => intro x2v δ ; exact w_none
  | succ n ih =>
    intro x2v δ 
    unfold L_X7_take_3
    refine w_iload_n 2 2 (μ := m_X7_take) (pc := 3) dX7_take_3 rfl rfl ?_
    refine w_if_lt 49 (μ := m_X7_take) (pc := 4) dX7_take_4 (by decide) (fun c_1 => ?_) (fun c_1 => ?_)
    · refine w_lv [] rfl ?_
      exact t_J_X7_take_49 wt hl (by omega) k0 _
    · refine w_aload_n 0 0 (μ := m_X7_take) (pc := 7) dX7_take_7 rfl rfl ?_
      refine w_getI (μ := m_X7_take) (pc := 8) dX7_take_8 fl_X7_15 ir_7_1 k0 ?_
      refine w_sipush (v := 500) (μ := m_X7_take) (pc := 11) dX7_take_11 (by decide) ?_
      refine w_icmp_ge 49 (μ := m_X7_take) (pc := 14) dX7_take_14 (by decide) (fun c_2 => ?_) (fun c_2 => ?_)
      · refine w_lv [] rfl ?_
        exact t_J_X7_take_49 wt hl (by omega) k0 _
      · refine w_aload_n 0 0 (μ := m_X7_take) (pc := 17) dX7_take_17 rfl rfl ?_
        refine w_getO (μ := m_X7_take) (pc := 18) dX7_take_18 fl_X7_9 ir_7_0 id_7_0 k0 (fun b_3 e_4 => ?_)
        refine w_aload_n 0 0 (μ := m_X7_take) (pc := 21) dX7_take_21 rfl rfl ?_
        refine w_getI (μ := m_X7_take) (pc := 22) dX7_take_22 fl_X7_15 ir_7_1 k0 ?_
        refine w_iload_n 1 1 (μ := m_X7_take) (pc := 25) dX7_take_25 rfl rfl ?_
        refine w_iload_n 2 2 (μ := m_X7_take) (pc := 26) dX7_take_26 rfl rfl ?_
        refine w_ishr (μ := m_X7_take) (pc := 27) dX7_take_27 ?_
        refine w_sipush (v := 255) (μ := m_X7_take) (pc := 28) dX7_take_28 (by decide) ?_
        refine w_iand (μ := m_X7_take) (pc := 31) dX7_take_31 ?_
        refine w_ast (μ := m_X7_take) (pc := 32) dX7_take_32 (wt_7_0 wt k0 e_4) ?_
        refine w_bd (fun δ_5 e_6 => ?_)
        refine w_aload_n 0 0 (μ := m_X7_take) (pc := 33) dX7_take_33 rfl rfl ?_
        refine w_dup (μ := m_X7_take) (pc := 34) dX7_take_34 rfl ?_
        refine w_getI (μ := m_X7_take) (pc := 35) dX7_take_35 fl_X7_15 ir_7_1 k0 ?_
        refine w_iconst (v := 1) (μ := m_X7_take) (pc := 38) dX7_take_38 (by decide) ?_
        refine w_iadd (μ := m_X7_take) (pc := 39) dX7_take_39 ?_
        refine w_putI (μ := m_X7_take) (pc := 40) dX7_take_40 fl_X7_15 flw_7_1 ir_7_1 k0 ?_
        refine w_bd (fun δ_7 e_8 => ?_)
        refine w_inb (fun x_9 e_10 => ?_)
        refine w_iinc 2 [(2, .int x_9), (0, .ref a0), (1, .int x1)] (μ := m_X7_take) (pc := 43) dX7_take_43 rfl (by rw [e_10]; rfl) (by decide) rfl ?_
        refine w_goto 3 (μ := m_X7_take) (pc := 46) dX7_take_46 (by decide) ?_
        refine w_lv [1, 2, 0] rfl ?_
        exact ih _ _
def D_X7_take (N : Nat) (g : gp) (a0 : Nat) (x1 : Int32) (δ : dp) : Option (dp) :=
  L_X7_take_3 N g a0 x1 N 24 δ
set_option maxHeartbeats 4000000 in
set_option maxRecDepth 100000 in
theorem c_X7_take {l : Launch} {D : va_G} {cy : Nat → ClassId} {N d : Nat} {g : gp} (wt : WT g) (hl : l.stackTraces = false) (hd : 1 ≤ d) {a0 : Nat} {x1 : Int32} {δ : dp} (k0 : q_K g a0 = 7) : CalD l D cy m_X7_take d 0 0 ev g [.ref a0, .int x1] δ (D_X7_take N g a0 x1 δ) := by
  refine CalD.of (by decide +kernel) (Nat.le_of_ble_eq_true rfl) hl ?_
  unfold D_X7_take
  refine w_bipush (v := 24) (μ := m_X7_take) (pc := 0) dX7_take_0 (by decide) ?_
  refine w_istore_n [(2, .int 24), (0, .ref a0), (1, .int x1)] (μ := m_X7_take) (pc := 2) dX7_take_2 rfl (by decide) rfl ?_
  refine w_lv [1, 2, 0] rfl ?_
  exact t_L_X7_take_3 wt hl (by omega) k0 N _ _
def D_X7_open (N : Nat) (g : gp) (a0 : Nat) (x1 : Int32) (δ : dp) : Option (dp) :=
  bd (s_I δ 7 1 a0 0) fun δ_1 => bd (s_I δ_1 7 2 a0 x1) fun δ_3 => bd (s_I δ_3 7 3 a0 0) fun δ_5 => bd (s_I δ_5 7 4 a0 0) fun δ_7 => bd (s_I δ_7 7 5 a0 0) fun δ_9 => some δ_9
set_option maxHeartbeats 4000000 in
set_option maxRecDepth 100000 in
theorem c_X7_open {l : Launch} {D : va_G} {cy : Nat → ClassId} {N d : Nat} {g : gp} (wt : WT g) (hl : l.stackTraces = false) (hd : 1 ≤ d) {a0 : Nat} {x1 : Int32} {δ : dp} (k0 : q_K g a0 = 7) : CalD l D cy m_X7_open d 0 0 ev g [.ref a0, .int x1] δ (D_X7_open N g a0 x1 δ) := by
  refine CalD.of (by decide +kernel) (Nat.le_of_ble_eq_true rfl) hl ?_
  unfold D_X7_open
  refine w_aload_n 0 0 (μ := m_X7_open) (pc := 0) dX7_open_0 rfl rfl ?_
  refine w_iconst (v := 0) (μ := m_X7_open) (pc := 1) dX7_open_1 (by decide) ?_
  refine w_putI (μ := m_X7_open) (pc := 2) dX7_open_2 fl_X7_15 flw_7_1 ir_7_1 k0 ?_
  refine w_bd (fun δ_1 e_2 => ?_)
  refine w_aload_n 0 0 (μ := m_X7_open) (pc := 5) dX7_open_5 rfl rfl ?_
  refine w_iload_n 1 1 (μ := m_X7_open) (pc := 6) dX7_open_6 rfl rfl ?_
  refine w_putI (μ := m_X7_open) (pc := 7) dX7_open_7 fl_X7_19 flw_7_2 ir_7_2 k0 ?_
  refine w_bd (fun δ_3 e_4 => ?_)
  refine w_aload_n 0 0 (μ := m_X7_open) (pc := 10) dX7_open_10 rfl rfl ?_
  refine w_iconst (v := 0) (μ := m_X7_open) (pc := 11) dX7_open_11 (by decide) ?_
  refine w_putI (μ := m_X7_open) (pc := 12) dX7_open_12 fl_X7_22 flw_7_3 ir_7_3 k0 ?_
  refine w_bd (fun δ_5 e_6 => ?_)
  refine w_aload_n 0 0 (μ := m_X7_open) (pc := 15) dX7_open_15 rfl rfl ?_
  refine w_iconst (v := 0) (μ := m_X7_open) (pc := 16) dX7_open_16 (by decide) ?_
  refine w_putI (μ := m_X7_open) (pc := 17) dX7_open_17 fl_X7_25 flw_7_4 ir_7_4 k0 ?_
  refine w_bd (fun δ_7 e_8 => ?_)
  refine w_aload_n 0 0 (μ := m_X7_open) (pc := 20) dX7_open_20 rfl rfl ?_
  refine w_iconst (v := 0) (μ := m_X7_open) (pc := 21) dX7_open_21 (by decide) ?_
  refine w_putI (μ := m_X7_open) (pc := 22) dX7_open_22 fl_X7_28 flw_7_5 ir_7_5 k0 ?_
  refine w_bd (fun δ_9 e_10 => ?_)
  exact w_vret (μ := m_X7_open) (pc := 25) dX7_open_25 rfl rfl
def J_X7_isSound_12 (N : Nat) (g : gp) (a0 : Nat) (xs0 : Int32) (δ : dp) : Option (Int32 × dp) :=
  if xs0 = 0 ∨ xs0 = 1 then some (xs0, δ) else none
set_option maxHeartbeats 4000000 in
set_option maxRecDepth 100000 in
theorem t_J_X7_isSound_12 {l : Launch} {D : va_G} {cy : Nat → ClassId} {N d : Nat} {g : gp} (wt : WT g) (hl : l.stackTraces = false) (hd : 1 ≤ d) {a0 : Nat} (k0 : q_K g a0 = 7) : ∀ (xs0 : Int32) (δ : dp), AWD l D cy m_X7_isSound d 0 0 ei g 12 [] [.int xs0] δ (J_X7_isSound_12 N g a0 xs0 δ) := by
    intro xs0 δ 
    unfold J_X7_isSound_12
    exact w_zret (μ := m_X7_isSound) (pc := 12) dX7_isSound_12 rfl rfl
def D_X7_isSound (N : Nat) (g : gp) (a0 : Nat) (δ : dp) : Option (Int32 × dp) :=
  if (q_I δ 7 5 a0) = 0 then (J_X7_isSound_12 N g a0 1 δ) else (J_X7_isSound_12 N g a0 0 δ)
set_option maxHeartbeats 4000000 in
set_option maxRecDepth 100000 in
theorem c_X7_isSound {l : Launch} {D : va_G} {cy : Nat → ClassId} {N d : Nat} {g : gp} (wt : WT g) (hl : l.stackTraces = false) (hd : 1 ≤ d) {a0 : Nat} {δ : dp} (k0 : q_K g a0 = 7) : CalD l D cy m_X7_isSound d 0 0 ei g [.ref a0] δ (D_X7_isSound N g a0 δ) := by
  refine CalD.of (by decide +kernel) (Nat.le_of_ble_eq_true rfl) hl ?_
  unfold D_X7_isSound
  refine w_aload_n 0 0 (μ := m_X7_isSound) (pc := 0) dX7_isSound_0 rfl rfl ?_
  refine w_getI (μ := m_X7_isSound) (pc := 1) dX7_isSound_1 fl_X7_28 ir_7_5 k0 ?_
  refine w_if_ne 11 (μ := m_X7_isSound) (pc := 4) dX7_isSound_4 (by decide) (fun c_1 => ?_) (fun c_1 => ?_)
  · refine w_iconst (v := 0) (μ := m_X7_isSound) (pc := 11) dX7_isSound_11 (by decide) ?_
    refine w_lv [] rfl ?_
    exact t_J_X7_isSound_12 wt hl (by omega) k0 _ _
  · refine w_iconst (v := 1) (μ := m_X7_isSound) (pc := 7) dX7_isSound_7 (by decide) ?_
    refine w_goto 12 (μ := m_X7_isSound) (pc := 8) dX7_isSound_8 (by decide) ?_
    refine w_lv [] rfl ?_
    exact t_J_X7_isSound_12 wt hl (by omega) k0 _ _
def J_X7_refuse_20 (N : Nat) (g : gp) (a0 : Nat) (x1 : Int32) (δ : dp) : Option (dp) :=
  some δ
set_option maxHeartbeats 4000000 in
set_option maxRecDepth 100000 in
theorem t_J_X7_refuse_20 {l : Launch} {D : va_G} {cy : Nat → ClassId} {N d : Nat} {g : gp} (wt : WT g) (hl : l.stackTraces = false) (hd : 1 ≤ d) {a0 : Nat} {x1 : Int32} (k0 : q_K g a0 = 7) : ∀ (δ : dp), AWD l D cy m_X7_refuse d 0 0 ev g 20 [] [] δ (J_X7_refuse_20 N g a0 x1 δ) := by
    intro  δ 
    unfold J_X7_refuse_20
    exact w_vret (μ := m_X7_refuse) (pc := 20) dX7_refuse_20 rfl rfl
def D_X7_refuse (N : Nat) (g : gp) (a0 : Nat) (x1 : Int32) (δ : dp) : Option (dp) :=
  if (q_I δ 7 5 a0) = 0 then (bd (s_I δ 7 5 a0 x1) fun δ_2 => bd (s_I δ_2 7 6 a0 (q_I δ_2 7 4 a0)) fun δ_4 => J_X7_refuse_20 N g a0 x1 δ_4) else (J_X7_refuse_20 N g a0 x1 δ)
set_option maxHeartbeats 4000000 in
set_option maxRecDepth 100000 in
theorem c_X7_refuse {l : Launch} {D : va_G} {cy : Nat → ClassId} {N d : Nat} {g : gp} (wt : WT g) (hl : l.stackTraces = false) (hd : 1 ≤ d) {a0 : Nat} {x1 : Int32} {δ : dp} (k0 : q_K g a0 = 7) : CalD l D cy m_X7_refuse d 0 0 ev g [.ref a0, .int x1] δ (D_X7_refuse N g a0 x1 δ) := by
  refine CalD.of (by decide +kernel) (Nat.le_of_ble_eq_true rfl) hl ?_
  unfold D_X7_refuse
  refine w_aload_n 0 0 (μ := m_X7_refuse) (pc := 0) dX7_refuse_0 rfl rfl ?_
  refine w_getI (μ := m_X7_refuse) (pc := 1) dX7_refuse_1 fl_X7_28 ir_7_5 k0 ?_
  refine w_if_ne 20 (μ := m_X7_refuse) (pc := 4) dX7_refuse_4 (by decide) (fun c_1 => ?_) (fun c_1 => ?_)
  · refine w_lv [] rfl ?_
    exact t_J_X7_refuse_20 wt hl (by omega) k0 _
  · refine w_aload_n 0 0 (μ := m_X7_refuse) (pc := 7) dX7_refuse_7 rfl rfl ?_
    refine w_iload_n 1 1 (μ := m_X7_refuse) (pc := 8) dX7_refuse_8 rfl rfl ?_
    refine w_putI (μ := m_X7_refuse) (pc := 9) dX7_refuse_9 fl_X7_28 flw_7_5 ir_7_5 k0 ?_
    refine w_bd (fun δ_2 e_3 => ?_)
    refine w_aload_n 0 0 (μ := m_X7_refuse) (pc := 12) dX7_refuse_12 rfl rfl ?_
    refine w_aload_n 0 0 (μ := m_X7_refuse) (pc := 13) dX7_refuse_13 rfl rfl ?_
    refine w_getI (μ := m_X7_refuse) (pc := 14) dX7_refuse_14 fl_X7_25 ir_7_4 k0 ?_
    refine w_putI (μ := m_X7_refuse) (pc := 17) dX7_refuse_17 fl_X7_31 flw_7_6 ir_7_6 k0 ?_
    refine w_bd (fun δ_4 e_5 => ?_)
    refine w_lv [] rfl ?_
    exact t_J_X7_refuse_20 wt hl (by omega) k0 _
def J_X7_ahead_70 (N : Nat) (g : gp) (a0 : Nat) (xs0 : Int32) (δ : dp) : Option (Int32 × dp) :=
  some (xs0, δ)
set_option maxHeartbeats 4000000 in
set_option maxRecDepth 100000 in
theorem t_J_X7_ahead_70 {l : Launch} {D : va_G} {cy : Nat → ClassId} {N d : Nat} {g : gp} (wt : WT g) (hl : l.stackTraces = false) (hd : 1 ≤ d) {a0 : Nat} (k0 : q_K g a0 = 7) : ∀ (xs0 : Int32) (δ : dp), AWD l D cy m_X7_ahead d 0 0 ei g 70 [] [.int xs0] δ (J_X7_ahead_70 N g a0 xs0 δ) := by
    intro xs0 δ 
    unfold J_X7_ahead_70
    exact w_iret (μ := m_X7_ahead) (pc := 70) dX7_ahead_70 rfl rfl
def J_X7_ahead_38 (N : Nat) (g : gp) (a0 : Nat) (δ : dp) : Option (Int32 × dp) :=
  bd (s_I δ 7 4 a0 (q_I δ 7 3 a0)) fun δ_2 => if (q_I δ_2 7 2 a0) ≤ (q_I δ_2 7 3 a0) then (J_X7_ahead_70 N g a0 ((-1)) δ_2) else ((q_O g 7 0 a0).bind fun b_5 => if (q_I δ_2 7 3 a0) < 0 ∨ q_N g b_5 ≤ (q_I δ_2 7 3 a0).toNatClampNeg then none else J_X7_ahead_70 N g a0 (q_R δ_2 b_5 (q_I δ_2 7 3 a0).toNatClampNeg) δ_2)
set_option maxHeartbeats 4000000 in
set_option maxRecDepth 100000 in
theorem t_J_X7_ahead_38 {l : Launch} {D : va_G} {cy : Nat → ClassId} {N d : Nat} {g : gp} (wt : WT g) (hl : l.stackTraces = false) (hd : 1 ≤ d) {a0 : Nat} (k0 : q_K g a0 = 7) : ∀ (δ : dp), AWD l D cy m_X7_ahead d 0 0 ei g 38 [(0, .ref a0)] [] δ (J_X7_ahead_38 N g a0 δ) := by
    intro  δ 
    unfold J_X7_ahead_38
    refine w_aload_n 0 0 (μ := m_X7_ahead) (pc := 38) dX7_ahead_38 rfl rfl ?_
    refine w_aload_n 0 0 (μ := m_X7_ahead) (pc := 39) dX7_ahead_39 rfl rfl ?_
    refine w_getI (μ := m_X7_ahead) (pc := 40) dX7_ahead_40 fl_X7_22 ir_7_3 k0 ?_
    refine w_putI (μ := m_X7_ahead) (pc := 43) dX7_ahead_43 fl_X7_25 flw_7_4 ir_7_4 k0 ?_
    refine w_bd (fun δ_2 e_3 => ?_)
    refine w_aload_n 0 0 (μ := m_X7_ahead) (pc := 46) dX7_ahead_46 rfl rfl ?_
    refine w_getI (μ := m_X7_ahead) (pc := 47) dX7_ahead_47 fl_X7_22 ir_7_3 k0 ?_
    refine w_aload_n 0 0 (μ := m_X7_ahead) (pc := 50) dX7_ahead_50 rfl rfl ?_
    refine w_getI (μ := m_X7_ahead) (pc := 51) dX7_ahead_51 fl_X7_19 ir_7_2 k0 ?_
    refine w_icmp_ge 69 (μ := m_X7_ahead) (pc := 54) dX7_ahead_54 (by decide) (fun c_4 => ?_) (fun c_4 => ?_)
    · refine w_iconst (v := (-1)) (μ := m_X7_ahead) (pc := 69) dX7_ahead_69 (by decide) ?_
      refine w_lv [] rfl ?_
      exact t_J_X7_ahead_70 wt hl (by omega) k0 _ _
    · refine w_aload_n 0 0 (μ := m_X7_ahead) (pc := 57) dX7_ahead_57 rfl rfl ?_
      refine w_getO (μ := m_X7_ahead) (pc := 58) dX7_ahead_58 fl_X7_9 ir_7_0 id_7_0 k0 (fun b_5 e_6 => ?_)
      refine w_aload_n 0 0 (μ := m_X7_ahead) (pc := 61) dX7_ahead_61 rfl rfl ?_
      refine w_getI (μ := m_X7_ahead) (pc := 62) dX7_ahead_62 fl_X7_22 ir_7_3 k0 ?_
      refine w_ald (μ := m_X7_ahead) (pc := 65) dX7_ahead_65 (wt_7_0 wt k0 e_6) ?_
      refine w_goto 70 (μ := m_X7_ahead) (pc := 66) dX7_ahead_66 (by decide) ?_
      refine w_lv [] rfl ?_
      exact t_J_X7_ahead_70 wt hl (by omega) k0 _ _
def L_X7_ahead_0 (N : Nat) (g : gp) (a0 : Nat) : Nat → dp → Option (Int32 × dp)
  | 0, _ => none
  | n + 1, δ => if (q_I δ 7 2 a0) ≤ (q_I δ 7 3 a0) then (J_X7_ahead_38 N g a0 δ) else ((q_O g 7 0 a0).bind fun b_7 => if (q_I δ 7 3 a0) < 0 ∨ q_N g b_7 ≤ (q_I δ 7 3 a0).toNatClampNeg then none else if (q_R δ b_7 (q_I δ 7 3 a0).toNatClampNeg) = (32 : Int32) then (bd (s_I δ 7 3 a0 ((q_I δ 7 3 a0) + 1)) fun δ_10 => L_X7_ahead_0 N g a0 n δ_10) else (J_X7_ahead_38 N g a0 δ))
set_option maxHeartbeats 4000000 in
set_option maxRecDepth 100000 in
theorem t_L_X7_ahead_0 {l : Launch} {D : va_G} {cy : Nat → ClassId} {N d : Nat} {g : gp} (wt : WT g) (hl : l.stackTraces = false) (hd : 1 ≤ d) {a0 : Nat} (k0 : q_K g a0 = 7) : ∀ (n : Nat) (δ : dp), AWD l D cy m_X7_ahead d 0 0 ei g 0 [(0, .ref a0)] [] δ (L_X7_ahead_0 N g a0 n δ) := by
  intro n
  induction n with
  | zero => intro  δ ; exact w_none
  | succ n ih =>
    intro  δ 
    unfold L_X7_ahead_0
    refine w_aload_n 0 0 (μ := m_X7_ahead) (pc := 0) dX7_ahead_0 rfl rfl ?_
    refine w_getI (μ := m_X7_ahead) (pc := 1) dX7_ahead_1 fl_X7_22 ir_7_3 k0 ?_
    refine w_aload_n 0 0 (μ := m_X7_ahead) (pc := 4) dX7_ahead_4 rfl rfl ?_
    refine w_getI (μ := m_X7_ahead) (pc := 5) dX7_ahead_5 fl_X7_19 ir_7_2 k0 ?_
    refine w_icmp_ge 38 (μ := m_X7_ahead) (pc := 8) dX7_ahead_8 (by decide) (fun c_1 => ?_) (fun c_1 => ?_)
    · exact t_J_X7_ahead_38 wt hl (by omega) k0 _
    · refine w_aload_n 0 0 (μ := m_X7_ahead) (pc := 11) dX7_ahead_11 rfl rfl ?_
      refine w_getO (μ := m_X7_ahead) (pc := 12) dX7_ahead_12 fl_X7_9 ir_7_0 id_7_0 k0 (fun b_7 e_8 => ?_)
      refine w_aload_n 0 0 (μ := m_X7_ahead) (pc := 15) dX7_ahead_15 rfl rfl ?_
      refine w_getI (μ := m_X7_ahead) (pc := 16) dX7_ahead_16 fl_X7_22 ir_7_3 k0 ?_
      refine w_ald (μ := m_X7_ahead) (pc := 19) dX7_ahead_19 (wt_7_0 wt k0 e_8) ?_
      refine w_bipush (v := 32) (μ := m_X7_ahead) (pc := 20) dX7_ahead_20 (by decide) ?_
      refine w_icmp_ne 38 (μ := m_X7_ahead) (pc := 22) dX7_ahead_22 (by decide) (fun c_9 => ?_) (fun c_9 => ?_)
      · exact t_J_X7_ahead_38 wt hl (by omega) k0 _
      · refine w_aload_n 0 0 (μ := m_X7_ahead) (pc := 25) dX7_ahead_25 rfl rfl ?_
        refine w_dup (μ := m_X7_ahead) (pc := 26) dX7_ahead_26 rfl ?_
        refine w_getI (μ := m_X7_ahead) (pc := 27) dX7_ahead_27 fl_X7_22 ir_7_3 k0 ?_
        refine w_iconst (v := 1) (μ := m_X7_ahead) (pc := 30) dX7_ahead_30 (by decide) ?_
        refine w_iadd (μ := m_X7_ahead) (pc := 31) dX7_ahead_31 ?_
        refine w_putI (μ := m_X7_ahead) (pc := 32) dX7_ahead_32 fl_X7_22 flw_7_3 ir_7_3 k0 ?_
        refine w_bd (fun δ_10 e_11 => ?_)
        refine w_goto 0 (μ := m_X7_ahead) (pc := 35) dX7_ahead_35 (by decide) ?_
        exact ih _
def D_X7_ahead (N : Nat) (g : gp) (a0 : Nat) (δ : dp) : Option (Int32 × dp) :=
  L_X7_ahead_0 N g a0 N δ
set_option maxHeartbeats 4000000 in
set_option maxRecDepth 100000 in
theorem c_X7_ahead {l : Launch} {D : va_G} {cy : Nat → ClassId} {N d : Nat} {g : gp} (wt : WT g) (hl : l.stackTraces = false) (hd : 1 ≤ d) {a0 : Nat} {δ : dp} (k0 : q_K g a0 = 7) : CalD l D cy m_X7_ahead d 0 0 ei g [.ref a0] δ (D_X7_ahead N g a0 δ) := by
  refine CalD.of (by decide +kernel) (Nat.le_of_ble_eq_true rfl) hl ?_
  unfold D_X7_ahead
  exact t_L_X7_ahead_0 wt hl (by omega) k0 N _
def J_X7_takeSign_28 (N : Nat) (g : gp) (a0 : Nat) (x1 : Int32) (x2v : Int32) (δ : dp) : Option (Int32 × dp) :=
  if x2v = 0 ∨ x2v = 1 then some (x2v, δ) else none
set_option maxHeartbeats 4000000 in
set_option maxRecDepth 100000 in
theorem t_J_X7_takeSign_28 {l : Launch} {D : va_G} {cy : Nat → ClassId} {N d : Nat} {g : gp} (wt : WT g) (hl : l.stackTraces = false) (hd : 2 ≤ d) {a0 : Nat} {x1 : Int32} (k0 : q_K g a0 = 7) : ∀ (x2v : Int32) (δ : dp), AWD l D cy m_X7_takeSign d 0 0 ei g 28 [(2, .int x2v)] [] δ (J_X7_takeSign_28 N g a0 x1 x2v δ) := by
    intro x2v δ 
    unfold J_X7_takeSign_28
    refine w_iload_n 0 2 (μ := m_X7_takeSign) (pc := 28) dX7_takeSign_28 rfl rfl ?_
    exact w_zret (μ := m_X7_takeSign) (pc := 29) dX7_takeSign_29 rfl rfl
def J_X7_takeSign_13 (N : Nat) (g : gp) (a0 : Nat) (x1 : Int32) (xs0 : Int32) (δ : dp) : Option (Int32 × dp) :=
  if xs0 = 0 then (J_X7_takeSign_28 N g a0 x1 xs0 δ) else (bd (s_I δ 7 3 a0 ((q_I δ 7 3 a0) + 1)) fun δ_4 => J_X7_takeSign_28 N g a0 x1 xs0 δ_4)
set_option maxHeartbeats 4000000 in
set_option maxRecDepth 100000 in
theorem t_J_X7_takeSign_13 {l : Launch} {D : va_G} {cy : Nat → ClassId} {N d : Nat} {g : gp} (wt : WT g) (hl : l.stackTraces = false) (hd : 2 ≤ d) {a0 : Nat} {x1 : Int32} (k0 : q_K g a0 = 7) : ∀ (xs0 : Int32) (δ : dp), AWD l D cy m_X7_takeSign d 0 0 ei g 13 [(0, .ref a0)] [.int xs0] δ (J_X7_takeSign_13 N g a0 x1 xs0 δ) := by
    intro xs0 δ 
    unfold J_X7_takeSign_13
    refine w_istore_n [(2, .int xs0), (0, .ref a0)] (μ := m_X7_takeSign) (pc := 13) dX7_takeSign_13 rfl (by decide) rfl ?_
    refine w_iload_n 0 2 (μ := m_X7_takeSign) (pc := 14) dX7_takeSign_14 rfl rfl ?_
    refine w_if_eq 28 (μ := m_X7_takeSign) (pc := 15) dX7_takeSign_15 (by decide) (fun c_3 => ?_) (fun c_3 => ?_)
    · refine w_lv [0] rfl ?_
      exact t_J_X7_takeSign_28 wt hl (by omega) k0 _ _
    · refine w_aload_n 1 0 (μ := m_X7_takeSign) (pc := 18) dX7_takeSign_18 rfl rfl ?_
      refine w_dup (μ := m_X7_takeSign) (pc := 19) dX7_takeSign_19 rfl ?_
      refine w_getI (μ := m_X7_takeSign) (pc := 20) dX7_takeSign_20 fl_X7_22 ir_7_3 k0 ?_
      refine w_iconst (v := 1) (μ := m_X7_takeSign) (pc := 23) dX7_takeSign_23 (by decide) ?_
      refine w_iadd (μ := m_X7_takeSign) (pc := 24) dX7_takeSign_24 ?_
      refine w_putI (μ := m_X7_takeSign) (pc := 25) dX7_takeSign_25 fl_X7_22 flw_7_3 ir_7_3 k0 ?_
      refine w_bd (fun δ_4 e_5 => ?_)
      refine w_lv [0] rfl ?_
      exact t_J_X7_takeSign_28 wt hl (by omega) k0 _ _
def D_X7_takeSign (N : Nat) (g : gp) (a0 : Nat) (x1 : Int32) (δ : dp) : Option (Int32 × dp) :=
  (D_X7_ahead N g a0 δ).bind fun r_1 => if r_1.1 = x1 then (J_X7_takeSign_13 N g a0 x1 1 r_1.2) else (J_X7_takeSign_13 N g a0 x1 0 r_1.2)
set_option maxHeartbeats 4000000 in
set_option maxRecDepth 100000 in
theorem c_X7_takeSign {l : Launch} {D : va_G} {cy : Nat → ClassId} {N d : Nat} {g : gp} (wt : WT g) (hl : l.stackTraces = false) (hd : 2 ≤ d) {a0 : Nat} {x1 : Int32} {δ : dp} (k0 : q_K g a0 = 7) : CalD l D cy m_X7_takeSign d 0 0 ei g [.ref a0, .int x1] δ (D_X7_takeSign N g a0 x1 δ) := by
  refine CalD.of (by decide +kernel) (Nat.le_of_ble_eq_true rfl) hl ?_
  unfold D_X7_takeSign
  refine w_aload_n 0 0 (μ := m_X7_takeSign) (pc := 0) dX7_takeSign_0 rfl rfl ?_
  refine w_callV (As := []) (rest := []) (μ := m_X7_takeSign) (pc := 1) dX7_takeSign_1 cv_X7_34 rfl rfl k0 (by decide) rfl (Nat.le_of_ble_eq_true rfl) (d' := d - 1) (by omega) he_i (c_X7_ahead wt hl (d := d - 1) (by omega) k0) (fun r_1 => ?_)
  refine w_iload_n 1 1 (μ := m_X7_takeSign) (pc := 4) dX7_takeSign_4 rfl rfl ?_
  refine w_icmp_ne 12 (μ := m_X7_takeSign) (pc := 5) dX7_takeSign_5 (by decide) (fun c_2 => ?_) (fun c_2 => ?_)
  · refine w_iconst (v := 0) (μ := m_X7_takeSign) (pc := 12) dX7_takeSign_12 (by decide) ?_
    refine w_lv [0] rfl ?_
    exact t_J_X7_takeSign_13 wt hl (by omega) k0 _ _
  · refine w_iconst (v := 1) (μ := m_X7_takeSign) (pc := 8) dX7_takeSign_8 (by decide) ?_
    refine w_goto 13 (μ := m_X7_takeSign) (pc := 9) dX7_takeSign_9 (by decide) ?_
    refine w_lv [0] rfl ?_
    exact t_J_X7_takeSign_13 wt hl (by omega) k0 _ _
def J_X7_needSign_26 (N : Nat) (g : gp) (a0 : Nat) (x1 : Int32) (δ : dp) : Option (dp) :=
  some δ
set_option maxHeartbeats 4000000 in
set_option maxRecDepth 100000 in
theorem t_J_X7_needSign_26 {l : Launch} {D : va_G} {cy : Nat → ClassId} {N d : Nat} {g : gp} (wt : WT g) (hl : l.stackTraces = false) (hd : 2 ≤ d) {a0 : Nat} {x1 : Int32} (k0 : q_K g a0 = 7) : ∀ (δ : dp), AWD l D cy m_X7_needSign d 0 0 ev g 26 [] [] δ (J_X7_needSign_26 N g a0 x1 δ) := by
    intro  δ 
    unfold J_X7_needSign_26
    exact w_vret (μ := m_X7_needSign) (pc := 26) dX7_needSign_26 rfl rfl
def D_X7_needSign (N : Nat) (g : gp) (a0 : Nat) (x1 : Int32) (δ : dp) : Option (dp) :=
  (D_X7_ahead N g a0 δ).bind fun r_1 => if r_1.1 = x1 then (bd (s_I r_1.2 7 3 a0 ((q_I r_1.2 7 3 a0) + 1)) fun δ_4 => J_X7_needSign_26 N g a0 x1 δ_4) else ((D_X7_refuse N g a0 1 r_1.2).bind fun r_3 => J_X7_needSign_26 N g a0 x1 r_3)
set_option maxHeartbeats 4000000 in
set_option maxRecDepth 100000 in
theorem c_X7_needSign {l : Launch} {D : va_G} {cy : Nat → ClassId} {N d : Nat} {g : gp} (wt : WT g) (hl : l.stackTraces = false) (hd : 2 ≤ d) {a0 : Nat} {x1 : Int32} {δ : dp} (k0 : q_K g a0 = 7) : CalD l D cy m_X7_needSign d 0 0 ev g [.ref a0, .int x1] δ (D_X7_needSign N g a0 x1 δ) := by
  refine CalD.of (by decide +kernel) (Nat.le_of_ble_eq_true rfl) hl ?_
  unfold D_X7_needSign
  refine w_aload_n 0 0 (μ := m_X7_needSign) (pc := 0) dX7_needSign_0 rfl rfl ?_
  refine w_callV (As := []) (rest := []) (μ := m_X7_needSign) (pc := 1) dX7_needSign_1 cv_X7_34 rfl rfl k0 (by decide) rfl (Nat.le_of_ble_eq_true rfl) (d' := d - 1) (by omega) he_i (c_X7_ahead wt hl (d := d - 1) (by omega) k0) (fun r_1 => ?_)
  refine w_iload_n 1 1 (μ := m_X7_needSign) (pc := 4) dX7_needSign_4 rfl rfl ?_
  refine w_icmp_ne 21 (μ := m_X7_needSign) (pc := 5) dX7_needSign_5 (by decide) (fun c_2 => ?_) (fun c_2 => ?_)
  · refine w_aload_n 0 0 (μ := m_X7_needSign) (pc := 21) dX7_needSign_21 rfl rfl ?_
    refine w_iconst (v := 1) (μ := m_X7_needSign) (pc := 22) dX7_needSign_22 (by decide) ?_
    refine w_callV (As := [.int 1]) (rest := []) (μ := m_X7_needSign) (pc := 23) dX7_needSign_23 cv_X7_38 rfl rfl k0 (by decide) rfl (Nat.le_of_ble_eq_true rfl) (d' := d - 1) (by omega) he_v (c_X7_refuse wt hl (d := d - 1) (by omega) k0) (fun r_3 => ?_)
    refine w_lv [] rfl ?_
    exact t_J_X7_needSign_26 wt hl (by omega) k0 _
  · refine w_aload_n 0 0 (μ := m_X7_needSign) (pc := 8) dX7_needSign_8 rfl rfl ?_
    refine w_dup (μ := m_X7_needSign) (pc := 9) dX7_needSign_9 rfl ?_
    refine w_getI (μ := m_X7_needSign) (pc := 10) dX7_needSign_10 fl_X7_22 ir_7_3 k0 ?_
    refine w_iconst (v := 1) (μ := m_X7_needSign) (pc := 13) dX7_needSign_13 (by decide) ?_
    refine w_iadd (μ := m_X7_needSign) (pc := 14) dX7_needSign_14 ?_
    refine w_putI (μ := m_X7_needSign) (pc := 15) dX7_needSign_15 fl_X7_22 flw_7_3 ir_7_3 k0 ?_
    refine w_bd (fun δ_4 e_5 => ?_)
    refine w_goto 26 (μ := m_X7_needSign) (pc := 18) dX7_needSign_18 (by decide) ?_
    refine w_lv [] rfl ?_
    exact t_J_X7_needSign_26 wt hl (by omega) k0 _
def J_X7_readWord_57 (N : Nat) (g : gp) (a0 : Nat) (δ : dp) : Option (dp) :=
  some δ
set_option maxHeartbeats 4000000 in
set_option maxRecDepth 100000 in
theorem t_J_X7_readWord_57 {l : Launch} {D : va_G} {cy : Nat → ClassId} {N d : Nat} {g : gp} (wt : WT g) (hl : l.stackTraces = false) (hd : 2 ≤ d) {a0 : Nat} (k0 : q_K g a0 = 7) : ∀ (δ : dp), AWD l D cy m_X7_readWord d 0 0 ev g 57 [] [] δ (J_X7_readWord_57 N g a0 δ) := by
    intro  δ 
    unfold J_X7_readWord_57
    exact w_vret (μ := m_X7_readWord) (pc := 57) dX7_readWord_57 rfl rfl
def L_X7_readWord_5 (N : Nat) (g : gp) (a0 : Nat) : Nat → dp → Option (dp)
  | 0, _ => none
  | n + 1, δ => if (q_I δ 7 2 a0) ≤ (q_I δ 7 3 a0) then (J_X7_readWord_57 N g a0 δ) else ((q_O g 7 0 a0).bind fun b_3 => if (q_I δ 7 3 a0) < 0 ∨ q_N g b_3 ≤ (q_I δ 7 3 a0).toNatClampNeg then none else if (q_R δ b_3 (q_I δ 7 3 a0).toNatClampNeg) < (97 : Int32) then (J_X7_readWord_57 N g a0 δ) else ((q_O g 7 0 a0).bind fun b_6 => if (q_I δ 7 3 a0) < 0 ∨ q_N g b_6 ≤ (q_I δ 7 3 a0).toNatClampNeg then none else if (122 : Int32) < (q_R δ b_6 (q_I δ 7 3 a0).toNatClampNeg) then (J_X7_readWord_57 N g a0 δ) else (bd (s_I δ 7 3 a0 ((q_I δ 7 3 a0) + 1)) fun δ_9 => L_X7_readWord_5 N g a0 n δ_9)))
set_option maxHeartbeats 4000000 in
set_option maxRecDepth 100000 in
theorem t_L_X7_readWord_5 {l : Launch} {D : va_G} {cy : Nat → ClassId} {N d : Nat} {g : gp} (wt : WT g) (hl : l.stackTraces = false) (hd : 2 ≤ d) {a0 : Nat} (k0 : q_K g a0 = 7) : ∀ (n : Nat) (δ : dp), AWD l D cy m_X7_readWord d 0 0 ev g 5 [(0, .ref a0)] [] δ (L_X7_readWord_5 N g a0 n δ) := by
  intro n
  induction n with
  | zero => intro  δ ; exact w_none
  | succ n ih =>
    intro  δ 
    unfold L_X7_readWord_5
    refine w_aload_n 0 0 (μ := m_X7_readWord) (pc := 5) dX7_readWord_5 rfl rfl ?_
    refine w_getI (μ := m_X7_readWord) (pc := 6) dX7_readWord_6 fl_X7_22 ir_7_3 k0 ?_
    refine w_aload_n 0 0 (μ := m_X7_readWord) (pc := 9) dX7_readWord_9 rfl rfl ?_
    refine w_getI (μ := m_X7_readWord) (pc := 10) dX7_readWord_10 fl_X7_19 ir_7_2 k0 ?_
    refine w_icmp_ge 57 (μ := m_X7_readWord) (pc := 13) dX7_readWord_13 (by decide) (fun c_2 => ?_) (fun c_2 => ?_)
    · refine w_lv [] rfl ?_
      exact t_J_X7_readWord_57 wt hl (by omega) k0 _
    · refine w_aload_n 0 0 (μ := m_X7_readWord) (pc := 16) dX7_readWord_16 rfl rfl ?_
      refine w_getO (μ := m_X7_readWord) (pc := 17) dX7_readWord_17 fl_X7_9 ir_7_0 id_7_0 k0 (fun b_3 e_4 => ?_)
      refine w_aload_n 0 0 (μ := m_X7_readWord) (pc := 20) dX7_readWord_20 rfl rfl ?_
      refine w_getI (μ := m_X7_readWord) (pc := 21) dX7_readWord_21 fl_X7_22 ir_7_3 k0 ?_
      refine w_ald (μ := m_X7_readWord) (pc := 24) dX7_readWord_24 (wt_7_0 wt k0 e_4) ?_
      refine w_bipush (v := 97) (μ := m_X7_readWord) (pc := 25) dX7_readWord_25 (by decide) ?_
      refine w_icmp_lt 57 (μ := m_X7_readWord) (pc := 27) dX7_readWord_27 (by decide) (fun c_5 => ?_) (fun c_5 => ?_)
      · refine w_lv [] rfl ?_
        exact t_J_X7_readWord_57 wt hl (by omega) k0 _
      · refine w_aload_n 0 0 (μ := m_X7_readWord) (pc := 30) dX7_readWord_30 rfl rfl ?_
        refine w_getO (μ := m_X7_readWord) (pc := 31) dX7_readWord_31 fl_X7_9 ir_7_0 id_7_0 k0 (fun b_6 e_7 => ?_)
        refine w_aload_n 0 0 (μ := m_X7_readWord) (pc := 34) dX7_readWord_34 rfl rfl ?_
        refine w_getI (μ := m_X7_readWord) (pc := 35) dX7_readWord_35 fl_X7_22 ir_7_3 k0 ?_
        refine w_ald (μ := m_X7_readWord) (pc := 38) dX7_readWord_38 (wt_7_0 wt k0 e_7) ?_
        refine w_bipush (v := 122) (μ := m_X7_readWord) (pc := 39) dX7_readWord_39 (by decide) ?_
        refine w_icmp_gt 57 (μ := m_X7_readWord) (pc := 41) dX7_readWord_41 (by decide) (fun c_8 => ?_) (fun c_8 => ?_)
        · refine w_lv [] rfl ?_
          exact t_J_X7_readWord_57 wt hl (by omega) k0 _
        · refine w_aload_n 0 0 (μ := m_X7_readWord) (pc := 44) dX7_readWord_44 rfl rfl ?_
          refine w_dup (μ := m_X7_readWord) (pc := 45) dX7_readWord_45 rfl ?_
          refine w_getI (μ := m_X7_readWord) (pc := 46) dX7_readWord_46 fl_X7_22 ir_7_3 k0 ?_
          refine w_iconst (v := 1) (μ := m_X7_readWord) (pc := 49) dX7_readWord_49 (by decide) ?_
          refine w_iadd (μ := m_X7_readWord) (pc := 50) dX7_readWord_50 ?_
          refine w_putI (μ := m_X7_readWord) (pc := 51) dX7_readWord_51 fl_X7_22 flw_7_3 ir_7_3 k0 ?_
          refine w_bd (fun δ_9 e_10 => ?_)
          refine w_goto 5 (μ := m_X7_readWord) (pc := 54) dX7_readWord_54 (by decide) ?_
          exact ih _
def D_X7_readWord (N : Nat) (g : gp) (a0 : Nat) (δ : dp) : Option (dp) :=
  (D_X7_ahead N g a0 δ).bind fun r_1 => L_X7_readWord_5 N g a0 N r_1.2
set_option maxHeartbeats 4000000 in
set_option maxRecDepth 100000 in
theorem c_X7_readWord {l : Launch} {D : va_G} {cy : Nat → ClassId} {N d : Nat} {g : gp} (wt : WT g) (hl : l.stackTraces = false) (hd : 2 ≤ d) {a0 : Nat} {δ : dp} (k0 : q_K g a0 = 7) : CalD l D cy m_X7_readWord d 0 0 ev g [.ref a0] δ (D_X7_readWord N g a0 δ) := by
  refine CalD.of (by decide +kernel) (Nat.le_of_ble_eq_true rfl) hl ?_
  unfold D_X7_readWord
  refine w_aload_n 0 0 (μ := m_X7_readWord) (pc := 0) dX7_readWord_0 rfl rfl ?_
  refine w_callV (As := []) (rest := []) (μ := m_X7_readWord) (pc := 1) dX7_readWord_1 cv_X7_34 rfl rfl k0 (by decide) rfl (Nat.le_of_ble_eq_true rfl) (d' := d - 1) (by omega) he_i (c_X7_ahead wt hl (d := d - 1) (by omega) k0) (fun r_1 => ?_)
  refine w_pop (μ := m_X7_readWord) (pc := 4) dX7_readWord_4 rfl ?_
  exact t_L_X7_readWord_5 wt hl (by omega) k0 N _
def L_X7_wordIs_20 (N : Nat) (g : gp) (a0 : Nat) (a1 : Nat) : Nat → Int32 → dp → Option (Int32 × dp)
  | 0, _, _ => none
  | n + 1, x2v, δ => (D_J0_length_8abf5 N g a1 δ).bind fun r_3 => if r_3.1 ≤ x2v then (if (1 : Int32) = 0 ∨ (1 : Int32) = 1 then some (1, r_3.2) else none) else ((q_O g 7 0 a0).bind fun b_5 => if ((q_I r_3.2 7 4 a0) + x2v) < 0 ∨ q_N g b_5 ≤ ((q_I r_3.2 7 4 a0) + x2v).toNatClampNeg then none else (D_J0_charAt_5068e N g a1 x2v r_3.2).bind fun r_7 => if (q_R r_3.2 b_5 ((q_I r_3.2 7 4 a0) + x2v).toNatClampNeg) = r_7.1 then (bi (x2v + 1) fun x_9 => L_X7_wordIs_20 N g a0 a1 n x_9 r_7.2) else (if (0 : Int32) = 0 ∨ (0 : Int32) = 1 then some (0, r_7.2) else none))
set_option maxHeartbeats 4000000 in
set_option maxRecDepth 100000 in
theorem t_L_X7_wordIs_20 {l : Launch} {D : va_G} {cy : Nat → ClassId} {N d : Nat} {g : gp} (wt : WT g) (hl : l.stackTraces = false) (hd : 5 ≤ d) {a0 : Nat} {a1 : Nat} (k0 : q_K g a0 = 7) (k1 : a1 < 16) : ∀ (n : Nat) (x2v : Int32) (δ : dp), AWD l D cy m_X7_wordIs d 0 0 ei g 20 [(0, .ref a0), (1, .ref (D.2 100 a1)), (2, .int x2v)] [] δ (L_X7_wordIs_20 N g a0 a1 n x2v δ) := by
  intro n
  induction n with
  | zero => intro x2v δ ; exact w_none
  | succ n ih =>
    intro x2v δ 
    unfold L_X7_wordIs_20
    refine w_iload_n 2 2 (μ := m_X7_wordIs) (pc := 20) dX7_wordIs_20 rfl rfl ?_
    refine w_aload_n 1 1 (μ := m_X7_wordIs) (pc := 21) dX7_wordIs_21 rfl rfl ?_
    refine w_callT (As := []) (rest := [.int x2v]) k1 (μ := m_X7_wordIs) (pc := 22) dX7_wordIs_22 cv_X7_42 rfl rfl rfl (Nat.le_of_ble_eq_true rfl) (d' := d - 1) (by omega) he_i (c_J0_length_8abf5 wt hl (d := d - 1) (by omega) k1) (fun r_3 => ?_)
    refine w_icmp_ge 55 (μ := m_X7_wordIs) (pc := 25) dX7_wordIs_25 (by decide) (fun c_4 => ?_) (fun c_4 => ?_)
    · refine w_iconst (v := 1) (μ := m_X7_wordIs) (pc := 55) dX7_wordIs_55 (by decide) ?_
      exact w_zret (μ := m_X7_wordIs) (pc := 56) dX7_wordIs_56 rfl rfl
    · refine w_aload_n 0 0 (μ := m_X7_wordIs) (pc := 28) dX7_wordIs_28 rfl rfl ?_
      refine w_getO (μ := m_X7_wordIs) (pc := 29) dX7_wordIs_29 fl_X7_9 ir_7_0 id_7_0 k0 (fun b_5 e_6 => ?_)
      refine w_aload_n 0 0 (μ := m_X7_wordIs) (pc := 32) dX7_wordIs_32 rfl rfl ?_
      refine w_getI (μ := m_X7_wordIs) (pc := 33) dX7_wordIs_33 fl_X7_25 ir_7_4 k0 ?_
      refine w_iload_n 2 2 (μ := m_X7_wordIs) (pc := 36) dX7_wordIs_36 rfl rfl ?_
      refine w_iadd (μ := m_X7_wordIs) (pc := 37) dX7_wordIs_37 ?_
      refine w_ald (μ := m_X7_wordIs) (pc := 38) dX7_wordIs_38 (wt_7_0 wt k0 e_6) ?_
      refine w_aload_n 1 1 (μ := m_X7_wordIs) (pc := 39) dX7_wordIs_39 rfl rfl ?_
      refine w_iload_n 2 2 (μ := m_X7_wordIs) (pc := 40) dX7_wordIs_40 rfl rfl ?_
      refine w_callT (As := [.int x2v]) (rest := [.int (q_R r_3.2 b_5 ((q_I r_3.2 7 4 a0) + x2v).toNatClampNeg)]) k1 (μ := m_X7_wordIs) (pc := 41) dX7_wordIs_41 cv_X7_46 rfl rfl rfl (Nat.le_of_ble_eq_true rfl) (d' := d - 1) (by omega) he_i (c_J0_charAt_5068e wt hl (d := d - 1) (by omega) k1) (fun r_7 => ?_)
      refine w_icmp_eq 49 (μ := m_X7_wordIs) (pc := 44) dX7_wordIs_44 (by decide) (fun c_8 => ?_) (fun c_8 => ?_)
      · refine w_inb (fun x_9 e_10 => ?_)
        refine w_iinc 2 [(2, .int x_9), (0, .ref a0), (1, .ref (D.2 100 a1))] (μ := m_X7_wordIs) (pc := 49) dX7_wordIs_49 rfl (by rw [e_10]; rfl) (by decide) rfl ?_
        refine w_goto 20 (μ := m_X7_wordIs) (pc := 52) dX7_wordIs_52 (by decide) ?_
        refine w_lv [1, 2, 0] rfl ?_
        exact ih _ _
      · refine w_iconst (v := 0) (μ := m_X7_wordIs) (pc := 47) dX7_wordIs_47 (by decide) ?_
        exact w_zret (μ := m_X7_wordIs) (pc := 48) dX7_wordIs_48 rfl rfl
def D_X7_wordIs (N : Nat) (g : gp) (a0 : Nat) (a1 : Nat) (δ : dp) : Option (Int32 × dp) :=
  (D_J0_length_8abf5 N g a1 δ).bind fun r_1 => if ((q_I δ 7 3 a0) - (q_I δ 7 4 a0)) = r_1.1 then (L_X7_wordIs_20 N g a0 a1 N 0 r_1.2) else (if (0 : Int32) = 0 ∨ (0 : Int32) = 1 then some (0, r_1.2) else none)
set_option maxHeartbeats 4000000 in
set_option maxRecDepth 100000 in
theorem c_X7_wordIs {l : Launch} {D : va_G} {cy : Nat → ClassId} {N d : Nat} {g : gp} (wt : WT g) (hl : l.stackTraces = false) (hd : 5 ≤ d) {a0 : Nat} {a1 : Nat} {δ : dp} (k0 : q_K g a0 = 7) (k1 : a1 < 16) : CalD l D cy m_X7_wordIs d 0 0 ei g [.ref a0, .ref (D.2 100 a1)] δ (D_X7_wordIs N g a0 a1 δ) := by
  refine CalD.of (by decide +kernel) (Nat.le_of_ble_eq_true rfl) hl ?_
  unfold D_X7_wordIs
  refine w_aload_n 0 0 (μ := m_X7_wordIs) (pc := 0) dX7_wordIs_0 rfl rfl ?_
  refine w_getI (μ := m_X7_wordIs) (pc := 1) dX7_wordIs_1 fl_X7_22 ir_7_3 k0 ?_
  refine w_aload_n 0 0 (μ := m_X7_wordIs) (pc := 4) dX7_wordIs_4 rfl rfl ?_
  refine w_getI (μ := m_X7_wordIs) (pc := 5) dX7_wordIs_5 fl_X7_25 ir_7_4 k0 ?_
  refine w_isub (μ := m_X7_wordIs) (pc := 8) dX7_wordIs_8 ?_
  refine w_aload_n 1 1 (μ := m_X7_wordIs) (pc := 9) dX7_wordIs_9 rfl rfl ?_
  refine w_callT (As := []) (rest := [.int ((q_I δ 7 3 a0) - (q_I δ 7 4 a0))]) k1 (μ := m_X7_wordIs) (pc := 10) dX7_wordIs_10 cv_X7_42 rfl rfl rfl (Nat.le_of_ble_eq_true rfl) (d' := d - 1) (by omega) he_i (c_J0_length_8abf5 wt hl (d := d - 1) (by omega) k1) (fun r_1 => ?_)
  refine w_icmp_eq 18 (μ := m_X7_wordIs) (pc := 13) dX7_wordIs_13 (by decide) (fun c_2 => ?_) (fun c_2 => ?_)
  · refine w_iconst (v := 0) (μ := m_X7_wordIs) (pc := 18) dX7_wordIs_18 (by decide) ?_
    refine w_istore_n [(2, .int 0), (0, .ref a0), (1, .ref (D.2 100 a1))] (μ := m_X7_wordIs) (pc := 19) dX7_wordIs_19 rfl (by decide) rfl ?_
    refine w_lv [1, 2, 0] rfl ?_
    exact t_L_X7_wordIs_20 wt hl (by omega) k0 k1 N _ _
  · refine w_iconst (v := 0) (μ := m_X7_wordIs) (pc := 16) dX7_wordIs_16 (by decide) ?_
    exact w_zret (μ := m_X7_wordIs) (pc := 17) dX7_wordIs_17 rfl rfl
def J_X7_readNumber_116 (N : Nat) (g : gp) (a0 : Nat) (x1 : Int32) (x2 : Int32) (x3v : Int32) (δ : dp) : Option (Int32 × dp) :=
  some (x3v, δ)
set_option maxHeartbeats 4000000 in
set_option maxRecDepth 100000 in
theorem t_J_X7_readNumber_116 {l : Launch} {D : va_G} {cy : Nat → ClassId} {N d : Nat} {g : gp} (wt : WT g) (hl : l.stackTraces = false) (hd : 2 ≤ d) {a0 : Nat} {x1 : Int32} {x2 : Int32} (k0 : q_K g a0 = 7) : ∀ (x3v : Int32) (δ : dp), AWD l D cy m_X7_readNumber d 0 0 ei g 116 [(3, .int x3v)] [] δ (J_X7_readNumber_116 N g a0 x1 x2 x3v δ) := by
    intro x3v δ 
    unfold J_X7_readNumber_116
    refine w_iload_n 0 3 (μ := m_X7_readNumber) (pc := 116) dX7_readNumber_116 rfl rfl ?_
    exact w_iret (μ := m_X7_readNumber) (pc := 117) dX7_readNumber_117 rfl rfl
def J_X7_readNumber_111 (N : Nat) (g : gp) (a0 : Nat) (x1 : Int32) (x2 : Int32) (x3v : Int32) (δ : dp) : Option (Int32 × dp) :=
  (D_X7_refuse N g a0 2 δ).bind fun r_5 => J_X7_readNumber_116 N g a0 x1 x2 x3v r_5
set_option maxHeartbeats 4000000 in
set_option maxRecDepth 100000 in
theorem t_J_X7_readNumber_111 {l : Launch} {D : va_G} {cy : Nat → ClassId} {N d : Nat} {g : gp} (wt : WT g) (hl : l.stackTraces = false) (hd : 2 ≤ d) {a0 : Nat} {x1 : Int32} {x2 : Int32} (k0 : q_K g a0 = 7) : ∀ (x3v : Int32) (δ : dp), AWD l D cy m_X7_readNumber d 0 0 ei g 111 [(0, .ref a0), (3, .int x3v)] [] δ (J_X7_readNumber_111 N g a0 x1 x2 x3v δ) := by
    intro x3v δ 
    unfold J_X7_readNumber_111
    refine w_aload_n 0 0 (μ := m_X7_readNumber) (pc := 111) dX7_readNumber_111 rfl rfl ?_
    refine w_iconst (v := 2) (μ := m_X7_readNumber) (pc := 112) dX7_readNumber_112 (by decide) ?_
    refine w_callV (As := [.int 2]) (rest := []) (μ := m_X7_readNumber) (pc := 113) dX7_readNumber_113 cv_X7_38 rfl rfl k0 (by decide) rfl (Nat.le_of_ble_eq_true rfl) (d' := d - 1) (by omega) he_v (c_X7_refuse wt hl (d := d - 1) (by omega) k0) (fun r_5 => ?_)
    refine w_lv [1] rfl ?_
    exact t_J_X7_readNumber_116 wt hl (by omega) k0 _ _
def J_X7_readNumber_82 (N : Nat) (g : gp) (a0 : Nat) (x1 : Int32) (x2 : Int32) (x3v : Int32) (δ : dp) : Option (Int32 × dp) :=
  if (q_I δ 7 3 a0) = (q_I δ 7 4 a0) then ((D_X7_refuse N g a0 1 δ).bind fun r_7 => J_X7_readNumber_116 N g a0 x1 x2 x3v r_7) else (if x3v < x1 then (J_X7_readNumber_111 N g a0 x1 x2 x3v δ) else (if x3v ≤ x2 then (J_X7_readNumber_116 N g a0 x1 x2 x3v δ) else (J_X7_readNumber_111 N g a0 x1 x2 x3v δ)))
set_option maxHeartbeats 4000000 in
set_option maxRecDepth 100000 in
theorem t_J_X7_readNumber_82 {l : Launch} {D : va_G} {cy : Nat → ClassId} {N d : Nat} {g : gp} (wt : WT g) (hl : l.stackTraces = false) (hd : 2 ≤ d) {a0 : Nat} {x1 : Int32} {x2 : Int32} (k0 : q_K g a0 = 7) : ∀ (x3v : Int32) (δ : dp), AWD l D cy m_X7_readNumber d 0 0 ei g 82 [(0, .ref a0), (1, .int x1), (2, .int x2), (3, .int x3v)] [] δ (J_X7_readNumber_82 N g a0 x1 x2 x3v δ) := by
    intro x3v δ 
    unfold J_X7_readNumber_82
    refine w_aload_n 0 0 (μ := m_X7_readNumber) (pc := 82) dX7_readNumber_82 rfl rfl ?_
    refine w_getI (μ := m_X7_readNumber) (pc := 83) dX7_readNumber_83 fl_X7_22 ir_7_3 k0 ?_
    refine w_aload_n 0 0 (μ := m_X7_readNumber) (pc := 86) dX7_readNumber_86 rfl rfl ?_
    refine w_getI (μ := m_X7_readNumber) (pc := 87) dX7_readNumber_87 fl_X7_25 ir_7_4 k0 ?_
    refine w_icmp_ne 101 (μ := m_X7_readNumber) (pc := 90) dX7_readNumber_90 (by decide) (fun c_3 => ?_) (fun c_3 => ?_)
    · refine w_iload_n 3 3 (μ := m_X7_readNumber) (pc := 101) dX7_readNumber_101 rfl rfl ?_
      refine w_iload_n 1 1 (μ := m_X7_readNumber) (pc := 102) dX7_readNumber_102 rfl rfl ?_
      refine w_icmp_lt 111 (μ := m_X7_readNumber) (pc := 103) dX7_readNumber_103 (by decide) (fun c_4 => ?_) (fun c_4 => ?_)
      · refine w_lv [0, 3] rfl ?_
        exact t_J_X7_readNumber_111 wt hl (by omega) k0 _ _
      · refine w_iload_n 3 3 (μ := m_X7_readNumber) (pc := 106) dX7_readNumber_106 rfl rfl ?_
        refine w_iload_n 2 2 (μ := m_X7_readNumber) (pc := 107) dX7_readNumber_107 rfl rfl ?_
        refine w_icmp_le 116 (μ := m_X7_readNumber) (pc := 108) dX7_readNumber_108 (by decide) (fun c_6 => ?_) (fun c_6 => ?_)
        · refine w_lv [3] rfl ?_
          exact t_J_X7_readNumber_116 wt hl (by omega) k0 _ _
        · refine w_lv [0, 3] rfl ?_
          exact t_J_X7_readNumber_111 wt hl (by omega) k0 _ _
    · refine w_aload_n 0 0 (μ := m_X7_readNumber) (pc := 93) dX7_readNumber_93 rfl rfl ?_
      refine w_iconst (v := 1) (μ := m_X7_readNumber) (pc := 94) dX7_readNumber_94 (by decide) ?_
      refine w_callV (As := [.int 1]) (rest := []) (μ := m_X7_readNumber) (pc := 95) dX7_readNumber_95 cv_X7_38 rfl rfl k0 (by decide) rfl (Nat.le_of_ble_eq_true rfl) (d' := d - 1) (by omega) he_v (c_X7_refuse wt hl (d := d - 1) (by omega) k0) (fun r_7 => ?_)
      refine w_goto 116 (μ := m_X7_readNumber) (pc := 98) dX7_readNumber_98 (by decide) ?_
      refine w_lv [3] rfl ?_
      exact t_J_X7_readNumber_116 wt hl (by omega) k0 _ _
def L_X7_readNumber_7 (N : Nat) (g : gp) (a0 : Nat) (x1 : Int32) (x2 : Int32) : Nat → Int32 → dp → Option (Int32 × dp)
  | 0, _, _ => none
  | n + 1, x3v, δ => if (q_I δ 7 2 a0) ≤ (q_I δ 7 3 a0) then (J_X7_readNumber_82 N g a0 x1 x2 x3v δ) else ((q_O g 7 0 a0).bind fun b_8 => if (q_I δ 7 3 a0) < 0 ∨ q_N g b_8 ≤ (q_I δ 7 3 a0).toNatClampNeg then none else if (q_R δ b_8 (q_I δ 7 3 a0).toNatClampNeg) < (48 : Int32) then (J_X7_readNumber_82 N g a0 x1 x2 x3v δ) else ((q_O g 7 0 a0).bind fun b_11 => if (q_I δ 7 3 a0) < 0 ∨ q_N g b_11 ≤ (q_I δ 7 3 a0).toNatClampNeg then none else if (57 : Int32) < (q_R δ b_11 (q_I δ 7 3 a0).toNatClampNeg) then (J_X7_readNumber_82 N g a0 x1 x2 x3v δ) else ((q_O g 7 0 a0).bind fun b_14 => if (q_I δ 7 3 a0) < 0 ∨ q_N g b_14 ≤ (q_I δ 7 3 a0).toNatClampNeg then none else (D_J9_min_7cf53 N g (((x3v * 10) + (q_R δ b_14 (q_I δ 7 3 a0).toNatClampNeg)) - 48) 1000000 δ).bind fun r_16 => bd (s_I r_16.2 7 3 a0 ((q_I r_16.2 7 3 a0) + 1)) fun δ_17 => L_X7_readNumber_7 N g a0 x1 x2 n r_16.1 δ_17)))
set_option maxHeartbeats 4000000 in
set_option maxRecDepth 100000 in
theorem t_L_X7_readNumber_7 {l : Launch} {D : va_G} {cy : Nat → ClassId} {N d : Nat} {g : gp} (wt : WT g) (hl : l.stackTraces = false) (hd : 2 ≤ d) {a0 : Nat} {x1 : Int32} {x2 : Int32} (k0 : q_K g a0 = 7) : ∀ (n : Nat) (x3v : Int32) (δ : dp), AWD l D cy m_X7_readNumber d 0 0 ei g 7 [(0, .ref a0), (1, .int x1), (2, .int x2), (3, .int x3v)] [] δ (L_X7_readNumber_7 N g a0 x1 x2 n x3v δ) := by
  intro n
  induction n with
  | zero => intro x3v δ ; exact w_none
  | succ n ih =>
    intro x3v δ 
    unfold L_X7_readNumber_7
    refine w_aload_n 0 0 (μ := m_X7_readNumber) (pc := 7) dX7_readNumber_7 rfl rfl ?_
    refine w_getI (μ := m_X7_readNumber) (pc := 8) dX7_readNumber_8 fl_X7_22 ir_7_3 k0 ?_
    refine w_aload_n 0 0 (μ := m_X7_readNumber) (pc := 11) dX7_readNumber_11 rfl rfl ?_
    refine w_getI (μ := m_X7_readNumber) (pc := 12) dX7_readNumber_12 fl_X7_19 ir_7_2 k0 ?_
    refine w_icmp_ge 82 (μ := m_X7_readNumber) (pc := 15) dX7_readNumber_15 (by decide) (fun c_2 => ?_) (fun c_2 => ?_)
    · exact t_J_X7_readNumber_82 wt hl (by omega) k0 _ _
    · refine w_aload_n 0 0 (μ := m_X7_readNumber) (pc := 18) dX7_readNumber_18 rfl rfl ?_
      refine w_getO (μ := m_X7_readNumber) (pc := 19) dX7_readNumber_19 fl_X7_9 ir_7_0 id_7_0 k0 (fun b_8 e_9 => ?_)
      refine w_aload_n 0 0 (μ := m_X7_readNumber) (pc := 22) dX7_readNumber_22 rfl rfl ?_
      refine w_getI (μ := m_X7_readNumber) (pc := 23) dX7_readNumber_23 fl_X7_22 ir_7_3 k0 ?_
      refine w_ald (μ := m_X7_readNumber) (pc := 26) dX7_readNumber_26 (wt_7_0 wt k0 e_9) ?_
      refine w_bipush (v := 48) (μ := m_X7_readNumber) (pc := 27) dX7_readNumber_27 (by decide) ?_
      refine w_icmp_lt 82 (μ := m_X7_readNumber) (pc := 29) dX7_readNumber_29 (by decide) (fun c_10 => ?_) (fun c_10 => ?_)
      · exact t_J_X7_readNumber_82 wt hl (by omega) k0 _ _
      · refine w_aload_n 0 0 (μ := m_X7_readNumber) (pc := 32) dX7_readNumber_32 rfl rfl ?_
        refine w_getO (μ := m_X7_readNumber) (pc := 33) dX7_readNumber_33 fl_X7_9 ir_7_0 id_7_0 k0 (fun b_11 e_12 => ?_)
        refine w_aload_n 0 0 (μ := m_X7_readNumber) (pc := 36) dX7_readNumber_36 rfl rfl ?_
        refine w_getI (μ := m_X7_readNumber) (pc := 37) dX7_readNumber_37 fl_X7_22 ir_7_3 k0 ?_
        refine w_ald (μ := m_X7_readNumber) (pc := 40) dX7_readNumber_40 (wt_7_0 wt k0 e_12) ?_
        refine w_bipush (v := 57) (μ := m_X7_readNumber) (pc := 41) dX7_readNumber_41 (by decide) ?_
        refine w_icmp_gt 82 (μ := m_X7_readNumber) (pc := 43) dX7_readNumber_43 (by decide) (fun c_13 => ?_) (fun c_13 => ?_)
        · exact t_J_X7_readNumber_82 wt hl (by omega) k0 _ _
        · refine w_iload_n 3 3 (μ := m_X7_readNumber) (pc := 46) dX7_readNumber_46 rfl rfl ?_
          refine w_bipush (v := 10) (μ := m_X7_readNumber) (pc := 47) dX7_readNumber_47 (by decide) ?_
          refine w_imul (μ := m_X7_readNumber) (pc := 49) dX7_readNumber_49 ?_
          refine w_aload_n 0 0 (μ := m_X7_readNumber) (pc := 50) dX7_readNumber_50 rfl rfl ?_
          refine w_getO (μ := m_X7_readNumber) (pc := 51) dX7_readNumber_51 fl_X7_9 ir_7_0 id_7_0 k0 (fun b_14 e_15 => ?_)
          refine w_aload_n 0 0 (μ := m_X7_readNumber) (pc := 54) dX7_readNumber_54 rfl rfl ?_
          refine w_getI (μ := m_X7_readNumber) (pc := 55) dX7_readNumber_55 fl_X7_22 ir_7_3 k0 ?_
          refine w_ald (μ := m_X7_readNumber) (pc := 58) dX7_readNumber_58 (wt_7_0 wt k0 e_15) ?_
          refine w_iadd (μ := m_X7_readNumber) (pc := 59) dX7_readNumber_59 ?_
          refine w_bipush (v := 48) (μ := m_X7_readNumber) (pc := 60) dX7_readNumber_60 (by decide) ?_
          refine w_isub (μ := m_X7_readNumber) (pc := 62) dX7_readNumber_62 ?_
          refine w_ldc (v := 1000000) (μ := m_X7_readNumber) (pc := 63) dX7_readNumber_63 cn_X7_50 ?_
          refine w_callS (As := [.int (((x3v * 10) + (q_R δ b_14 (q_I δ 7 3 a0).toNatClampNeg)) - 48), .int 1000000]) (rest := []) (μ := m_X7_readNumber) (pc := 65) dX7_readNumber_65 cs_X7_51 rfl rfl (Nat.le_of_ble_eq_true rfl) (d' := d - 1) (by omega) he_i (c_J9_min_7cf53 wt hl (d := d - 1) (by omega) ) (fun r_16 => ?_)
          refine w_istore_n [(3, .int r_16.1), (0, .ref a0), (1, .int x1), (2, .int x2)] (μ := m_X7_readNumber) (pc := 68) dX7_readNumber_68 rfl (by decide) rfl ?_
          refine w_aload_n 1 0 (μ := m_X7_readNumber) (pc := 69) dX7_readNumber_69 rfl rfl ?_
          refine w_dup (μ := m_X7_readNumber) (pc := 70) dX7_readNumber_70 rfl ?_
          refine w_getI (μ := m_X7_readNumber) (pc := 71) dX7_readNumber_71 fl_X7_22 ir_7_3 k0 ?_
          refine w_iconst (v := 1) (μ := m_X7_readNumber) (pc := 74) dX7_readNumber_74 (by decide) ?_
          refine w_iadd (μ := m_X7_readNumber) (pc := 75) dX7_readNumber_75 ?_
          refine w_putI (μ := m_X7_readNumber) (pc := 76) dX7_readNumber_76 fl_X7_22 flw_7_3 ir_7_3 k0 ?_
          refine w_bd (fun δ_17 e_18 => ?_)
          refine w_goto 7 (μ := m_X7_readNumber) (pc := 79) dX7_readNumber_79 (by decide) ?_
          refine w_lv [1, 2, 3, 0] rfl ?_
          exact ih _ _
def D_X7_readNumber (N : Nat) (g : gp) (a0 : Nat) (x1 : Int32) (x2 : Int32) (δ : dp) : Option (Int32 × dp) :=
  (D_X7_ahead N g a0 δ).bind fun r_1 => L_X7_readNumber_7 N g a0 x1 x2 N 0 r_1.2
set_option maxHeartbeats 4000000 in
set_option maxRecDepth 100000 in
theorem c_X7_readNumber {l : Launch} {D : va_G} {cy : Nat → ClassId} {N d : Nat} {g : gp} (wt : WT g) (hl : l.stackTraces = false) (hd : 2 ≤ d) {a0 : Nat} {x1 : Int32} {x2 : Int32} {δ : dp} (k0 : q_K g a0 = 7) : CalD l D cy m_X7_readNumber d 0 0 ei g [.ref a0, .int x1, .int x2] δ (D_X7_readNumber N g a0 x1 x2 δ) := by
  refine CalD.of (by decide +kernel) (Nat.le_of_ble_eq_true rfl) hl ?_
  unfold D_X7_readNumber
  refine w_aload_n 0 0 (μ := m_X7_readNumber) (pc := 0) dX7_readNumber_0 rfl rfl ?_
  refine w_callV (As := []) (rest := []) (μ := m_X7_readNumber) (pc := 1) dX7_readNumber_1 cv_X7_34 rfl rfl k0 (by decide) rfl (Nat.le_of_ble_eq_true rfl) (d' := d - 1) (by omega) he_i (c_X7_ahead wt hl (d := d - 1) (by omega) k0) (fun r_1 => ?_)
  refine w_pop (μ := m_X7_readNumber) (pc := 4) dX7_readNumber_4 rfl ?_
  refine w_iconst (v := 0) (μ := m_X7_readNumber) (pc := 5) dX7_readNumber_5 (by decide) ?_
  refine w_istore_n [(3, .int 0), (0, .ref a0), (1, .int x1), (2, .int x2)] (μ := m_X7_readNumber) (pc := 6) dX7_readNumber_6 rfl (by decide) rfl ?_
  refine w_lv [1, 2, 3, 0] rfl ?_
  exact t_L_X7_readNumber_7 wt hl (by omega) k0 N _ _
