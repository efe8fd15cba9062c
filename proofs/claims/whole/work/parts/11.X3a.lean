theorem dX3_clear_0 : decode cX3_clear 0 = .ok (.aload_n 0, 1) := by decide +kernel
theorem dX3_clear_1 : decode cX3_clear 1 = .ok (.iconst 0, 1) := by decide +kernel
theorem dX3_clear_2 : decode cX3_clear 2 = .ok (.putfield 15, 3) := by decide +kernel
theorem dX3_clear_5 : decode cX3_clear 5 = .ok (.return_, 1) := by decide +kernel
theorem dX3_copyFrom_0 : decode cX3_copyFrom 0 = .ok (.aload_n 0, 1) := by decide +kernel
theorem dX3_copyFrom_1 : decode cX3_copyFrom 1 = .ok (.aload_n 1, 1) := by decide +kernel
theorem dX3_copyFrom_2 : decode cX3_copyFrom 2 = .ok (.getfield 15, 3) := by decide +kernel
theorem dX3_copyFrom_5 : decode cX3_copyFrom 5 = .ok (.aload_n 0, 1) := by decide +kernel
theorem dX3_copyFrom_6 : decode cX3_copyFrom 6 = .ok (.getfield 9, 3) := by decide +kernel
theorem dX3_copyFrom_9 : decode cX3_copyFrom 9 = .ok (.arraylength, 1) := by decide +kernel
theorem dX3_copyFrom_10 : decode cX3_copyFrom 10 = .ok (.invokestatic 19, 3) := by decide +kernel
theorem dX3_copyFrom_13 : decode cX3_copyFrom 13 = .ok (.putfield 15, 3) := by decide +kernel
theorem dX3_copyFrom_16 : decode cX3_copyFrom 16 = .ok (.aload_n 1, 1) := by decide +kernel
theorem dX3_copyFrom_17 : decode cX3_copyFrom 17 = .ok (.getfield 9, 3) := by decide +kernel
theorem dX3_copyFrom_20 : decode cX3_copyFrom 20 = .ok (.iconst 0, 1) := by decide +kernel
theorem dX3_copyFrom_21 : decode cX3_copyFrom 21 = .ok (.aload_n 0, 1) := by decide +kernel
theorem dX3_copyFrom_22 : decode cX3_copyFrom 22 = .ok (.getfield 9, 3) := by decide +kernel
theorem dX3_copyFrom_25 : decode cX3_copyFrom 25 = .ok (.iconst 0, 1) := by decide +kernel
theorem dX3_copyFrom_26 : decode cX3_copyFrom 26 = .ok (.aload_n 0, 1) := by decide +kernel
theorem dX3_copyFrom_27 : decode cX3_copyFrom 27 = .ok (.getfield 15, 3) := by decide +kernel
theorem dX3_copyFrom_30 : decode cX3_copyFrom 30 = .ok (.invokestatic 25, 3) := by decide +kernel
theorem dX3_copyFrom_33 : decode cX3_copyFrom 33 = .ok (.return_, 1) := by decide +kernel
theorem dX3_firstFrom_0 : decode cX3_firstFrom 0 = .ok (.iconst 0, 1) := by decide +kernel
theorem dX3_firstFrom_1 : decode cX3_firstFrom 1 = .ok (.istore_n 2, 1) := by decide +kernel
theorem dX3_firstFrom_2 : decode cX3_firstFrom 2 = .ok (.aload_n 0, 1) := by decide +kernel
theorem dX3_firstFrom_3 : decode cX3_firstFrom 3 = .ok (.getfield 15, 3) := by decide +kernel
theorem dX3_firstFrom_6 : decode cX3_firstFrom 6 = .ok (.istore_n 3, 1) := by decide +kernel
theorem dX3_firstFrom_7 : decode cX3_firstFrom 7 = .ok (.iload_n 2, 1) := by decide +kernel
theorem dX3_firstFrom_8 : decode cX3_firstFrom 8 = .ok (.iload_n 3, 1) := by decide +kernel
theorem dX3_firstFrom_9 : decode cX3_firstFrom 9 = .ok (.if_icmp .ge 35, 3) := by decide +kernel
theorem dX3_firstFrom_12 : decode cX3_firstFrom 12 = .ok (.iload_n 2, 1) := by decide +kernel
theorem dX3_firstFrom_13 : decode cX3_firstFrom 13 = .ok (.iload_n 3, 1) := by decide +kernel
theorem dX3_firstFrom_14 : decode cX3_firstFrom 14 = .ok (.iadd, 1) := by decide +kernel
theorem dX3_firstFrom_15 : decode cX3_firstFrom 15 = .ok (.iconst 2, 1) := by decide +kernel
theorem dX3_firstFrom_16 : decode cX3_firstFrom 16 = .ok (.idiv, 1) := by decide +kernel
theorem dX3_firstFrom_17 : decode cX3_firstFrom 17 = .ok (.istore 4, 2) := by decide +kernel
theorem dX3_firstFrom_19 : decode cX3_firstFrom 19 = .ok (.aload_n 0, 1) := by decide +kernel
theorem dX3_firstFrom_20 : decode cX3_firstFrom 20 = .ok (.getfield 9, 3) := by decide +kernel
theorem dX3_firstFrom_23 : decode cX3_firstFrom 23 = .ok (.iload 4, 2) := by decide +kernel
theorem dX3_firstFrom_25 : decode cX3_firstFrom 25 = .ok (.iaload, 1) := by decide +kernel
theorem dX3_firstFrom_26 : decode cX3_firstFrom 26 = .ok (.iload_n 1, 1) := by decide +kernel
theorem dX3_firstFrom_27 : decode cX3_firstFrom 27 = .ok (.if_icmp .ge 11, 3) := by decide +kernel
theorem dX3_firstFrom_30 : decode cX3_firstFrom 30 = .ok (.iload 4, 2) := by decide +kernel
theorem dX3_firstFrom_32 : decode cX3_firstFrom 32 = .ok (.iconst 1, 1) := by decide +kernel
theorem dX3_firstFrom_33 : decode cX3_firstFrom 33 = .ok (.iadd, 1) := by decide +kernel
theorem dX3_firstFrom_34 : decode cX3_firstFrom 34 = .ok (.istore_n 2, 1) := by decide +kernel
theorem dX3_firstFrom_35 : decode cX3_firstFrom 35 = .ok (.goto 6, 3) := by decide +kernel
theorem dX3_firstFrom_38 : decode cX3_firstFrom 38 = .ok (.iload 4, 2) := by decide +kernel
theorem dX3_firstFrom_40 : decode cX3_firstFrom 40 = .ok (.istore_n 3, 1) := by decide +kernel
theorem dX3_firstFrom_41 : decode cX3_firstFrom 41 = .ok (.goto (-34), 3) := by decide +kernel
theorem dX3_firstFrom_44 : decode cX3_firstFrom 44 = .ok (.iload_n 2, 1) := by decide +kernel
theorem dX3_firstFrom_45 : decode cX3_firstFrom 45 = .ok (.ireturn, 1) := by decide +kernel
theorem dX3_at_0 : decode cX3_at 0 = .ok (.iload_n 1, 1) := by decide +kernel
theorem dX3_at_1 : decode cX3_at 1 = .ok (.ifCond .lt 11, 3) := by decide +kernel
theorem dX3_at_4 : decode cX3_at 4 = .ok (.iload_n 1, 1) := by decide +kernel
theorem dX3_at_5 : decode cX3_at 5 = .ok (.aload_n 0, 1) := by decide +kernel
theorem dX3_at_6 : decode cX3_at 6 = .ok (.getfield 15, 3) := by decide +kernel
theorem dX3_at_9 : decode cX3_at 9 = .ok (.if_icmp .lt 7, 3) := by decide +kernel
theorem dX3_at_12 : decode cX3_at 12 = .ok (.iconst (-1), 1) := by decide +kernel
theorem dX3_at_13 : decode cX3_at 13 = .ok (.goto 9, 3) := by decide +kernel
theorem dX3_at_16 : decode cX3_at 16 = .ok (.aload_n 0, 1) := by decide +kernel
theorem dX3_at_17 : decode cX3_at 17 = .ok (.getfield 9, 3) := by decide +kernel
theorem dX3_at_20 : decode cX3_at 20 = .ok (.iload_n 1, 1) := by decide +kernel
theorem dX3_at_21 : decode cX3_at 21 = .ok (.iaload, 1) := by decide +kernel
theorem dX3_at_22 : decode cX3_at 22 = .ok (.ireturn, 1) := by decide +kernel
theorem dX3_holds_0 : decode cX3_holds 0 = .ok (.aload_n 0, 1) := by decide +kernel
theorem dX3_holds_1 : decode cX3_holds 1 = .ok (.iload_n 1, 1) := by decide +kernel
theorem dX3_holds_2 : decode cX3_holds 2 = .ok (.invokevirtual 31, 3) := by decide +kernel
theorem dX3_holds_5 : decode cX3_holds 5 = .ok (.istore_n 2, 1) := by decide +kernel
theorem dX3_holds_6 : decode cX3_holds 6 = .ok (.iload_n 2, 1) := by decide +kernel
theorem dX3_holds_7 : decode cX3_holds 7 = .ok (.aload_n 0, 1) := by decide +kernel
theorem dX3_holds_8 : decode cX3_holds 8 = .ok (.getfield 15, 3) := by decide +kernel
theorem dX3_holds_11 : decode cX3_holds 11 = .ok (.if_icmp .ge 17, 3) := by decide +kernel
theorem dX3_holds_14 : decode cX3_holds 14 = .ok (.aload_n 0, 1) := by decide +kernel
theorem dX3_holds_15 : decode cX3_holds 15 = .ok (.getfield 9, 3) := by decide +kernel
theorem dX3_holds_18 : decode cX3_holds 18 = .ok (.iload_n 2, 1) := by decide +kernel
theorem dX3_holds_19 : decode cX3_holds 19 = .ok (.iaload, 1) := by decide +kernel
theorem dX3_holds_20 : decode cX3_holds 20 = .ok (.iload_n 1, 1) := by decide +kernel
theorem dX3_holds_21 : decode cX3_holds 21 = .ok (.if_icmp .ne 7, 3) := by decide +kernel
theorem dX3_holds_24 : decode cX3_holds 24 = .ok (.iconst 1, 1) := by decide +kernel
theorem dX3_holds_25 : decode cX3_holds 25 = .ok (.goto 4, 3) := by decide +kernel
theorem dX3_holds_28 : decode cX3_holds 28 = .ok (.iconst 0, 1) := by decide +kernel
theorem dX3_holds_29 : decode cX3_holds 29 = .ok (.ireturn, 1) := by decide +kernel
theorem dX3_above_0 : decode cX3_above 0 = .ok (.aload_n 0, 1) := by decide +kernel
theorem dX3_above_1 : decode cX3_above 1 = .ok (.aload_n 0, 1) := by decide +kernel
theorem dX3_above_2 : decode cX3_above 2 = .ok (.iload_n 1, 1) := by decide +kernel
theorem dX3_above_3 : decode cX3_above 3 = .ok (.iconst 1, 1) := by decide +kernel
theorem dX3_above_4 : decode cX3_above 4 = .ok (.iadd, 1) := by decide +kernel
theorem dX3_above_5 : decode cX3_above 5 = .ok (.invokevirtual 31, 3) := by decide +kernel
theorem dX3_above_8 : decode cX3_above 8 = .ok (.invokevirtual 35, 3) := by decide +kernel
theorem dX3_above_11 : decode cX3_above 11 = .ok (.ireturn, 1) := by decide +kernel
theorem dX3_below_0 : decode cX3_below 0 = .ok (.aload_n 0, 1) := by decide +kernel
theorem dX3_below_1 : decode cX3_below 1 = .ok (.aload_n 0, 1) := by decide +kernel
theorem dX3_below_2 : decode cX3_below 2 = .ok (.iload_n 1, 1) := by decide +kernel
theorem dX3_below_3 : decode cX3_below 3 = .ok (.invokevirtual 31, 3) := by decide +kernel
theorem dX3_below_6 : decode cX3_below 6 = .ok (.iconst 1, 1) := by decide +kernel
theorem dX3_below_7 : decode cX3_below 7 = .ok (.isub, 1) := by decide +kernel
theorem dX3_below_8 : decode cX3_below 8 = .ok (.invokevirtual 35, 3) := by decide +kernel
theorem dX3_below_11 : decode cX3_below 11 = .ok (.ireturn, 1) := by decide +kernel
theorem dX3_tell_0 : decode cX3_tell 0 = .ok (.iload_n 1, 1) := by decide +kernel
theorem dX3_tell_1 : decode cX3_tell 1 = .ok (.ifCond .ne 10, 3) := by decide +kernel
theorem dX3_tell_4 : decode cX3_tell 4 = .ok (.aload_n 0, 1) := by decide +kernel
theorem dX3_tell_5 : decode cX3_tell 5 = .ok (.getfield 15, 3) := by decide +kernel
theorem dX3_tell_8 : decode cX3_tell 8 = .ok (.goto 26, 3) := by decide +kernel
theorem dX3_tell_11 : decode cX3_tell 11 = .ok (.iload_n 1, 1) := by decide +kernel
theorem dX3_tell_12 : decode cX3_tell 12 = .ok (.iconst 1, 1) := by decide +kernel
theorem dX3_tell_13 : decode cX3_tell 13 = .ok (.if_icmp .ne 11, 3) := by decide +kernel
theorem dX3_tell_16 : decode cX3_tell 16 = .ok (.aload_n 0, 1) := by decide +kernel
theorem dX3_tell_17 : decode cX3_tell 17 = .ok (.iconst 0, 1) := by decide +kernel
theorem dX3_tell_18 : decode cX3_tell 18 = .ok (.invokevirtual 35, 3) := by decide +kernel
theorem dX3_tell_21 : decode cX3_tell 21 = .ok (.goto 13, 3) := by decide +kernel
theorem dX3_tell_24 : decode cX3_tell 24 = .ok (.aload_n 0, 1) := by decide +kernel
theorem dX3_tell_25 : decode cX3_tell 25 = .ok (.aload_n 0, 1) := by decide +kernel
theorem dX3_tell_26 : decode cX3_tell 26 = .ok (.getfield 15, 3) := by decide +kernel
theorem dX3_tell_29 : decode cX3_tell 29 = .ok (.iconst 1, 1) := by decide +kernel
theorem dX3_tell_30 : decode cX3_tell 30 = .ok (.isub, 1) := by decide +kernel
theorem dX3_tell_31 : decode cX3_tell 31 = .ok (.invokevirtual 35, 3) := by decide +kernel
theorem dX3_tell_34 : decode cX3_tell 34 = .ok (.ireturn, 1) := by decide +kernel
theorem dX3_add_0 : decode cX3_add 0 = .ok (.aload_n 0, 1) := by decide +kernel
theorem dX3_add_1 : decode cX3_add 1 = .ok (.iload_n 1, 1) := by decide +kernel
theorem dX3_add_2 : decode cX3_add 2 = .ok (.invokevirtual 31, 3) := by decide +kernel
theorem dX3_add_5 : decode cX3_add 5 = .ok (.istore_n 2, 1) := by decide +kernel
theorem dX3_add_6 : decode cX3_add 6 = .ok (.iload_n 2, 1) := by decide +kernel
theorem dX3_add_7 : decode cX3_add 7 = .ok (.aload_n 0, 1) := by decide +kernel
theorem dX3_add_8 : decode cX3_add 8 = .ok (.getfield 15, 3) := by decide +kernel
theorem dX3_add_11 : decode cX3_add 11 = .ok (.if_icmp .ge 13, 3) := by decide +kernel
theorem dX3_add_14 : decode cX3_add 14 = .ok (.aload_n 0, 1) := by decide +kernel
theorem dX3_add_15 : decode cX3_add 15 = .ok (.getfield 9, 3) := by decide +kernel
theorem dX3_add_18 : decode cX3_add 18 = .ok (.iload_n 2, 1) := by decide +kernel
theorem dX3_add_19 : decode cX3_add 19 = .ok (.iaload, 1) := by decide +kernel
theorem dX3_add_20 : decode cX3_add 20 = .ok (.iload_n 1, 1) := by decide +kernel
theorem dX3_add_21 : decode cX3_add 21 = .ok (.if_icmp .eq 15, 3) := by decide +kernel
theorem dX3_add_24 : decode cX3_add 24 = .ok (.aload_n 0, 1) := by decide +kernel
theorem dX3_add_25 : decode cX3_add 25 = .ok (.getfield 15, 3) := by decide +kernel
theorem dX3_add_28 : decode cX3_add 28 = .ok (.aload_n 0, 1) := by decide +kernel
theorem dX3_add_29 : decode cX3_add 29 = .ok (.getfield 9, 3) := by decide +kernel
theorem dX3_add_32 : decode cX3_add 32 = .ok (.arraylength, 1) := by decide +kernel
theorem dX3_add_33 : decode cX3_add 33 = .ok (.if_icmp .lt 5, 3) := by decide +kernel
theorem dX3_add_36 : decode cX3_add 36 = .ok (.iconst 0, 1) := by decide +kernel
theorem dX3_add_37 : decode cX3_add 37 = .ok (.ireturn, 1) := by decide +kernel
theorem dX3_add_38 : decode cX3_add 38 = .ok (.aload_n 0, 1) := by decide +kernel
theorem dX3_add_39 : decode cX3_add 39 = .ok (.getfield 9, 3) := by decide +kernel
theorem dX3_add_42 : decode cX3_add 42 = .ok (.iload_n 2, 1) := by decide +kernel
theorem dX3_add_43 : decode cX3_add 43 = .ok (.aload_n 0, 1) := by decide +kernel
theorem dX3_add_44 : decode cX3_add 44 = .ok (.getfield 9, 3) := by decide +kernel
theorem dX3_add_47 : decode cX3_add 47 = .ok (.iload_n 2, 1) := by decide +kernel
theorem dX3_add_48 : decode cX3_add 48 = .ok (.iconst 1, 1) := by decide +kernel
theorem dX3_add_49 : decode cX3_add 49 = .ok (.iadd, 1) := by decide +kernel
theorem dX3_add_50 : decode cX3_add 50 = .ok (.aload_n 0, 1) := by decide +kernel
theorem dX3_add_51 : decode cX3_add 51 = .ok (.getfield 15, 3) := by decide +kernel
theorem dX3_add_54 : decode cX3_add 54 = .ok (.iload_n 2, 1) := by decide +kernel
theorem dX3_add_55 : decode cX3_add 55 = .ok (.isub, 1) := by decide +kernel
theorem dX3_add_56 : decode cX3_add 56 = .ok (.invokestatic 25, 3) := by decide +kernel
theorem dX3_add_59 : decode cX3_add 59 = .ok (.aload_n 0, 1) := by decide +kernel
theorem dX3_add_60 : decode cX3_add 60 = .ok (.getfield 9, 3) := by decide +kernel
theorem dX3_add_63 : decode cX3_add 63 = .ok (.iload_n 2, 1) := by decide +kernel
theorem dX3_add_64 : decode cX3_add 64 = .ok (.iload_n 1, 1) := by decide +kernel
theorem dX3_add_65 : decode cX3_add 65 = .ok (.iastore, 1) := by decide +kernel
theorem dX3_add_66 : decode cX3_add 66 = .ok (.aload_n 0, 1) := by decide +kernel
theorem dX3_add_67 : decode cX3_add 67 = .ok (.dup, 1) := by decide +kernel
theorem dX3_add_68 : decode cX3_add 68 = .ok (.getfield 15, 3) := by decide +kernel
theorem dX3_add_71 : decode cX3_add 71 = .ok (.iconst 1, 1) := by decide +kernel
theorem dX3_add_72 : decode cX3_add 72 = .ok (.iadd, 1) := by decide +kernel
theorem dX3_add_73 : decode cX3_add 73 = .ok (.putfield 15, 3) := by decide +kernel
theorem dX3_add_76 : decode cX3_add 76 = .ok (.iconst 1, 1) := by decide +kernel
theorem dX3_add_77 : decode cX3_add 77 = .ok (.ireturn, 1) := by decide +kernel
theorem dX3_remove_0 : decode cX3_remove 0 = .ok (.aload_n 0, 1) := by decide +kernel
theorem dX3_remove_1 : decode cX3_remove 1 = .ok (.iload_n 1, 1) := by decide +kernel
theorem dX3_remove_2 : decode cX3_remove 2 = .ok (.invokevirtual 31, 3) := by decide +kernel
theorem dX3_remove_5 : decode cX3_remove 5 = .ok (.istore_n 2, 1) := by decide +kernel
theorem dX3_remove_6 : decode cX3_remove 6 = .ok (.iload_n 2, 1) := by decide +kernel
theorem dX3_remove_7 : decode cX3_remove 7 = .ok (.aload_n 0, 1) := by decide +kernel
theorem dX3_remove_8 : decode cX3_remove 8 = .ok (.getfield 15, 3) := by decide +kernel
theorem dX3_remove_11 : decode cX3_remove 11 = .ok (.if_icmp .ge 13, 3) := by decide +kernel
theorem dX3_remove_14 : decode cX3_remove 14 = .ok (.aload_n 0, 1) := by decide +kernel
theorem dX3_remove_15 : decode cX3_remove 15 = .ok (.getfield 9, 3) := by decide +kernel
theorem dX3_remove_18 : decode cX3_remove 18 = .ok (.iload_n 2, 1) := by decide +kernel
theorem dX3_remove_19 : decode cX3_remove 19 = .ok (.iaload, 1) := by decide +kernel
theorem dX3_remove_20 : decode cX3_remove 20 = .ok (.iload_n 1, 1) := by decide +kernel
theorem dX3_remove_21 : decode cX3_remove 21 = .ok (.if_icmp .eq 5, 3) := by decide +kernel
theorem dX3_remove_24 : decode cX3_remove 24 = .ok (.iconst 0, 1) := by decide +kernel
theorem dX3_remove_25 : decode cX3_remove 25 = .ok (.ireturn, 1) := by decide +kernel
theorem dX3_remove_26 : decode cX3_remove 26 = .ok (.aload_n 0, 1) := by decide +kernel
theorem dX3_remove_27 : decode cX3_remove 27 = .ok (.dup, 1) := by decide +kernel
theorem dX3_remove_28 : decode cX3_remove 28 = .ok (.getfield 15, 3) := by decide +kernel
theorem dX3_remove_31 : decode cX3_remove 31 = .ok (.iconst 1, 1) := by decide +kernel
theorem dX3_remove_32 : decode cX3_remove 32 = .ok (.isub, 1) := by decide +kernel
theorem dX3_remove_33 : decode cX3_remove 33 = .ok (.putfield 15, 3) := by decide +kernel
theorem dX3_remove_36 : decode cX3_remove 36 = .ok (.aload_n 0, 1) := by decide +kernel
theorem dX3_remove_37 : decode cX3_remove 37 = .ok (.getfield 9, 3) := by decide +kernel
theorem dX3_remove_40 : decode cX3_remove 40 = .ok (.iload_n 2, 1) := by decide +kernel
theorem dX3_remove_41 : decode cX3_remove 41 = .ok (.iconst 1, 1) := by decide +kernel
theorem dX3_remove_42 : decode cX3_remove 42 = .ok (.iadd, 1) := by decide +kernel
theorem dX3_remove_43 : decode cX3_remove 43 = .ok (.aload_n 0, 1) := by decide +kernel
theorem dX3_remove_44 : decode cX3_remove 44 = .ok (.getfield 9, 3) := by decide +kernel
theorem dX3_remove_47 : decode cX3_remove 47 = .ok (.iload_n 2, 1) := by decide +kernel
theorem dX3_remove_48 : decode cX3_remove 48 = .ok (.aload_n 0, 1) := by decide +kernel
theorem dX3_remove_49 : decode cX3_remove 49 = .ok (.getfield 15, 3) := by decide +kernel
theorem dX3_remove_52 : decode cX3_remove 52 = .ok (.iload_n 2, 1) := by decide +kernel
theorem dX3_remove_53 : decode cX3_remove 53 = .ok (.isub, 1) := by decide +kernel
theorem dX3_remove_54 : decode cX3_remove 54 = .ok (.invokestatic 25, 3) := by decide +kernel
theorem dX3_remove_57 : decode cX3_remove 57 = .ok (.iconst 1, 1) := by decide +kernel
theorem dX3_remove_58 : decode cX3_remove 58 = .ok (.ireturn, 1) := by decide +kernel
theorem dX3_answer_0 : decode cX3_answer 0 = .ok (.iload_n 1, 1) := by decide +kernel
theorem dX3_answer_1 : decode cX3_answer 1 = .ok (.iconst 3, 1) := by decide +kernel
theorem dX3_answer_2 : decode cX3_answer 2 = .ok (.if_icmp .ne 9, 3) := by decide +kernel
theorem dX3_answer_5 : decode cX3_answer 5 = .ok (.aload_n 0, 1) := by decide +kernel
theorem dX3_answer_6 : decode cX3_answer 6 = .ok (.iload_n 2, 1) := by decide +kernel
theorem dX3_answer_7 : decode cX3_answer 7 = .ok (.invokevirtual 38, 3) := by decide +kernel
theorem dX3_answer_10 : decode cX3_answer 10 = .ok (.ireturn, 1) := by decide +kernel
theorem dX3_answer_11 : decode cX3_answer 11 = .ok (.iload_n 1, 1) := by decide +kernel
theorem dX3_answer_12 : decode cX3_answer 12 = .ok (.iconst 4, 1) := by decide +kernel
theorem dX3_answer_13 : decode cX3_answer 13 = .ok (.if_icmp .ne 9, 3) := by decide +kernel
theorem dX3_answer_16 : decode cX3_answer 16 = .ok (.aload_n 0, 1) := by decide +kernel
theorem dX3_answer_17 : decode cX3_answer 17 = .ok (.iload_n 2, 1) := by decide +kernel
theorem dX3_answer_18 : decode cX3_answer 18 = .ok (.invokevirtual 41, 3) := by decide +kernel
theorem dX3_answer_21 : decode cX3_answer 21 = .ok (.ireturn, 1) := by decide +kernel
theorem dX3_answer_22 : decode cX3_answer 22 = .ok (.iload_n 1, 1) := by decide +kernel
theorem dX3_answer_23 : decode cX3_answer 23 = .ok (.ifCond .ne 11, 3) := by decide +kernel
theorem dX3_answer_26 : decode cX3_answer 26 = .ok (.aload_n 0, 1) := by decide +kernel
theorem dX3_answer_27 : decode cX3_answer 27 = .ok (.iload_n 2, 1) := by decide +kernel
theorem dX3_answer_28 : decode cX3_answer 28 = .ok (.invokevirtual 44, 3) := by decide +kernel
theorem dX3_answer_31 : decode cX3_answer 31 = .ok (.goto 21, 3) := by decide +kernel
theorem dX3_answer_34 : decode cX3_answer 34 = .ok (.iload_n 1, 1) := by decide +kernel
theorem dX3_answer_35 : decode cX3_answer 35 = .ok (.iconst 1, 1) := by decide +kernel
theorem dX3_answer_36 : decode cX3_answer 36 = .ok (.if_icmp .ne 11, 3) := by decide +kernel
theorem dX3_answer_39 : decode cX3_answer 39 = .ok (.aload_n 0, 1) := by decide +kernel
theorem dX3_answer_40 : decode cX3_answer 40 = .ok (.iload_n 2, 1) := by decide +kernel
theorem dX3_answer_41 : decode cX3_answer 41 = .ok (.invokevirtual 48, 3) := by decide +kernel
theorem dX3_answer_44 : decode cX3_answer 44 = .ok (.goto 8, 3) := by decide +kernel
theorem dX3_answer_47 : decode cX3_answer 47 = .ok (.aload_n 0, 1) := by decide +kernel
theorem dX3_answer_48 : decode cX3_answer 48 = .ok (.iload_n 2, 1) := by decide +kernel
theorem dX3_answer_49 : decode cX3_answer 49 = .ok (.invokevirtual 51, 3) := by decide +kernel
theorem dX3_answer_52 : decode cX3_answer 52 = .ok (.istore_n 3, 1) := by decide +kernel
theorem dX3_answer_53 : decode cX3_answer 53 = .ok (.iload_n 3, 1) := by decide +kernel
theorem dX3_answer_54 : decode cX3_answer 54 = .ok (.ifCond .eq 7, 3) := by decide +kernel
theorem dX3_answer_57 : decode cX3_answer 57 = .ok (.iconst 1, 1) := by decide +kernel
theorem dX3_answer_58 : decode cX3_answer 58 = .ok (.goto 4, 3) := by decide +kernel
theorem dX3_answer_61 : decode cX3_answer 61 = .ok (.iconst 0, 1) := by decide +kernel
theorem dX3_answer_62 : decode cX3_answer 62 = .ok (.ireturn, 1) := by decide +kernel
theorem dX3_commonFrom_0 : decode cX3_commonFrom 0 = .ok (.iconst 0, 1) := by decide +kernel
theorem dX3_commonFrom_1 : decode cX3_commonFrom 1 = .ok (.istore_n 3, 1) := by decide +kernel
theorem dX3_commonFrom_2 : decode cX3_commonFrom 2 = .ok (.iload_n 1, 1) := by decide +kernel
theorem dX3_commonFrom_3 : decode cX3_commonFrom 3 = .ok (.istore 4, 2) := by decide +kernel
theorem dX3_commonFrom_5 : decode cX3_commonFrom 5 = .ok (.iload 4, 2) := by decide +kernel
theorem dX3_commonFrom_7 : decode cX3_commonFrom 7 = .ok (.aload_n 0, 1) := by decide +kernel
theorem dX3_commonFrom_8 : decode cX3_commonFrom 8 = .ok (.getfield 15, 3) := by decide +kernel
theorem dX3_commonFrom_11 : decode cX3_commonFrom 11 = .ok (.if_icmp .ge 26, 3) := by decide +kernel
theorem dX3_commonFrom_14 : decode cX3_commonFrom 14 = .ok (.aload_n 2, 1) := by decide +kernel
theorem dX3_commonFrom_15 : decode cX3_commonFrom 15 = .ok (.aload_n 0, 1) := by decide +kernel
theorem dX3_commonFrom_16 : decode cX3_commonFrom 16 = .ok (.getfield 9, 3) := by decide +kernel
theorem dX3_commonFrom_19 : decode cX3_commonFrom 19 = .ok (.iload 4, 2) := by decide +kernel
theorem dX3_commonFrom_21 : decode cX3_commonFrom 21 = .ok (.iaload, 1) := by decide +kernel
theorem dX3_commonFrom_22 : decode cX3_commonFrom 22 = .ok (.invokevirtual 51, 3) := by decide +kernel
theorem dX3_commonFrom_25 : decode cX3_commonFrom 25 = .ok (.ifCond .eq 6, 3) := by decide +kernel
theorem dX3_commonFrom_28 : decode cX3_commonFrom 28 = .ok (.iinc 3 1, 3) := by decide +kernel
theorem dX3_commonFrom_31 : decode cX3_commonFrom 31 = .ok (.iinc 4 1, 3) := by decide +kernel
theorem dX3_commonFrom_34 : decode cX3_commonFrom 34 = .ok (.goto (-29), 3) := by decide +kernel
theorem dX3_commonFrom_37 : decode cX3_commonFrom 37 = .ok (.iload_n 3, 1) := by decide +kernel
theorem dX3_commonFrom_38 : decode cX3_commonFrom 38 = .ok (.ireturn, 1) := by decide +kernel
theorem dX3_runsWith_0 : decode cX3_runsWith 0 = .ok (.iconst 0, 1) := by decide +kernel
theorem dX3_runsWith_1 : decode cX3_runsWith 1 = .ok (.istore_n 2, 1) := by decide +kernel
theorem dX3_runsWith_2 : decode cX3_runsWith 2 = .ok (.iconst 0, 1) := by decide +kernel
theorem dX3_runsWith_3 : decode cX3_runsWith 3 = .ok (.istore_n 3, 1) := by decide +kernel
theorem dX3_runsWith_4 : decode cX3_runsWith 4 = .ok (.iconst 0, 1) := by decide +kernel
theorem dX3_runsWith_5 : decode cX3_runsWith 5 = .ok (.istore 4, 2) := by decide +kernel
theorem dX3_runsWith_7 : decode cX3_runsWith 7 = .ok (.iconst 0, 1) := by decide +kernel
theorem dX3_runsWith_8 : decode cX3_runsWith 8 = .ok (.istore 5, 2) := by decide +kernel
theorem dX3_runsWith_10 : decode cX3_runsWith 10 = .ok (.iload 4, 2) := by decide +kernel
theorem dX3_runsWith_12 : decode cX3_runsWith 12 = .ok (.aload_n 0, 1) := by decide +kernel
theorem dX3_runsWith_13 : decode cX3_runsWith 13 = .ok (.getfield 15, 3) := by decide +kernel
theorem dX3_runsWith_16 : decode cX3_runsWith 16 = .ok (.if_icmp .lt 12, 3) := by decide +kernel
theorem dX3_runsWith_19 : decode cX3_runsWith 19 = .ok (.iload 5, 2) := by decide +kernel
theorem dX3_runsWith_21 : decode cX3_runsWith 21 = .ok (.aload_n 1, 1) := by decide +kernel
theorem dX3_runsWith_22 : decode cX3_runsWith 22 = .ok (.getfield 15, 3) := by decide +kernel
theorem dX3_runsWith_25 : decode cX3_runsWith 25 = .ok (.if_icmp .ge 84, 3) := by decide +kernel
theorem dX3_runsWith_28 : decode cX3_runsWith 28 = .ok (.iload 4, 2) := by decide +kernel
theorem dX3_runsWith_30 : decode cX3_runsWith 30 = .ok (.aload_n 0, 1) := by decide +kernel
theorem dX3_runsWith_31 : decode cX3_runsWith 31 = .ok (.getfield 15, 3) := by decide +kernel
theorem dX3_runsWith_34 : decode cX3_runsWith 34 = .ok (.if_icmp .lt 7, 3) := by decide +kernel
theorem dX3_runsWith_37 : decode cX3_runsWith 37 = .ok (.iconst 1, 1) := by decide +kernel
theorem dX3_runsWith_38 : decode cX3_runsWith 38 = .ok (.goto 33, 3) := by decide +kernel
theorem dX3_runsWith_41 : decode cX3_runsWith 41 = .ok (.iload 5, 2) := by decide +kernel
theorem dX3_runsWith_43 : decode cX3_runsWith 43 = .ok (.aload_n 1, 1) := by decide +kernel
theorem dX3_runsWith_44 : decode cX3_runsWith 44 = .ok (.getfield 15, 3) := by decide +kernel
theorem dX3_runsWith_47 : decode cX3_runsWith 47 = .ok (.if_icmp .lt 7, 3) := by decide +kernel
theorem dX3_runsWith_50 : decode cX3_runsWith 50 = .ok (.iconst (-1), 1) := by decide +kernel
theorem dX3_runsWith_51 : decode cX3_runsWith 51 = .ok (.goto 20, 3) := by decide +kernel
theorem dX3_runsWith_54 : decode cX3_runsWith 54 = .ok (.aload_n 0, 1) := by decide +kernel
theorem dX3_runsWith_55 : decode cX3_runsWith 55 = .ok (.getfield 9, 3) := by decide +kernel
theorem dX3_runsWith_58 : decode cX3_runsWith 58 = .ok (.iload 4, 2) := by decide +kernel
theorem dX3_runsWith_60 : decode cX3_runsWith 60 = .ok (.iaload, 1) := by decide +kernel
theorem dX3_runsWith_61 : decode cX3_runsWith 61 = .ok (.aload_n 1, 1) := by decide +kernel
theorem dX3_runsWith_62 : decode cX3_runsWith 62 = .ok (.getfield 9, 3) := by decide +kernel
theorem dX3_runsWith_65 : decode cX3_runsWith 65 = .ok (.iload 5, 2) := by decide +kernel
theorem dX3_runsWith_67 : decode cX3_runsWith 67 = .ok (.iaload, 1) := by decide +kernel
theorem dX3_runsWith_68 : decode cX3_runsWith 68 = .ok (.invokestatic 54, 3) := by decide +kernel
theorem dX3_runsWith_71 : decode cX3_runsWith 71 = .ok (.istore 6, 2) := by decide +kernel
theorem dX3_runsWith_73 : decode cX3_runsWith 73 = .ok (.iload 6, 2) := by decide +kernel
theorem dX3_runsWith_75 : decode cX3_runsWith 75 = .ok (.ifCond .eq 15, 3) := by decide +kernel
theorem dX3_runsWith_78 : decode cX3_runsWith 78 = .ok (.iload 6, 2) := by decide +kernel
theorem dX3_runsWith_80 : decode cX3_runsWith 80 = .ok (.iload_n 3, 1) := by decide +kernel
theorem dX3_runsWith_81 : decode cX3_runsWith 81 = .ok (.if_icmp .eq 9, 3) := by decide +kernel
theorem dX3_runsWith_84 : decode cX3_runsWith 84 = .ok (.iload 6, 2) := by decide +kernel
theorem dX3_runsWith_86 : decode cX3_runsWith 86 = .ok (.istore_n 3, 1) := by decide +kernel
theorem dX3_runsWith_87 : decode cX3_runsWith 87 = .ok (.iinc 2 1, 3) := by decide +kernel
theorem dX3_runsWith_90 : decode cX3_runsWith 90 = .ok (.iload 6, 2) := by decide +kernel
theorem dX3_runsWith_92 : decode cX3_runsWith 92 = .ok (.ifCond .gt 6, 3) := by decide +kernel
theorem dX3_runsWith_95 : decode cX3_runsWith 95 = .ok (.iinc 4 1, 3) := by decide +kernel
theorem dX3_runsWith_98 : decode cX3_runsWith 98 = .ok (.iload 6, 2) := by decide +kernel
theorem dX3_runsWith_100 : decode cX3_runsWith 100 = .ok (.ifCond .lt 6, 3) := by decide +kernel
theorem dX3_runsWith_103 : decode cX3_runsWith 103 = .ok (.iinc 5 1, 3) := by decide +kernel
theorem dX3_runsWith_106 : decode cX3_runsWith 106 = .ok (.goto (-96), 3) := by decide +kernel
theorem dX3_runsWith_109 : decode cX3_runsWith 109 = .ok (.iload_n 2, 1) := by decide +kernel
theorem dX3_runsWith_110 : decode cX3_runsWith 110 = .ok (.ireturn, 1) := by decide +kernel
theorem dX3_widestGap_0 : decode cX3_widestGap 0 = .ok (.iconst (-1), 1) := by decide +kernel
theorem dX3_widestGap_1 : decode cX3_widestGap 1 = .ok (.istore_n 1, 1) := by decide +kernel
theorem dX3_widestGap_2 : decode cX3_widestGap 2 = .ok (.iconst 0, 1) := by decide +kernel
theorem dX3_widestGap_3 : decode cX3_widestGap 3 = .ok (.istore_n 2, 1) := by decide +kernel
theorem dX3_widestGap_4 : decode cX3_widestGap 4 = .ok (.iconst 0, 1) := by decide +kernel
theorem dX3_widestGap_5 : decode cX3_widestGap 5 = .ok (.istore_n 3, 1) := by decide +kernel
theorem dX3_widestGap_6 : decode cX3_widestGap 6 = .ok (.iload_n 3, 1) := by decide +kernel
theorem dX3_widestGap_7 : decode cX3_widestGap 7 = .ok (.iconst 1, 1) := by decide +kernel
theorem dX3_widestGap_8 : decode cX3_widestGap 8 = .ok (.iadd, 1) := by decide +kernel
theorem dX3_widestGap_9 : decode cX3_widestGap 9 = .ok (.aload_n 0, 1) := by decide +kernel
theorem dX3_widestGap_10 : decode cX3_widestGap 10 = .ok (.getfield 15, 3) := by decide +kernel
theorem dX3_widestGap_13 : decode cX3_widestGap 13 = .ok (.if_icmp .ge 37, 3) := by decide +kernel
theorem dX3_widestGap_16 : decode cX3_widestGap 16 = .ok (.aload_n 0, 1) := by decide +kernel
theorem dX3_widestGap_17 : decode cX3_widestGap 17 = .ok (.getfield 9, 3) := by decide +kernel
theorem dX3_widestGap_20 : decode cX3_widestGap 20 = .ok (.iload_n 3, 1) := by decide +kernel
theorem dX3_widestGap_21 : decode cX3_widestGap 21 = .ok (.iconst 1, 1) := by decide +kernel
theorem dX3_widestGap_22 : decode cX3_widestGap 22 = .ok (.iadd, 1) := by decide +kernel
theorem dX3_widestGap_23 : decode cX3_widestGap 23 = .ok (.iaload, 1) := by decide +kernel
theorem dX3_widestGap_24 : decode cX3_widestGap 24 = .ok (.aload_n 0, 1) := by decide +kernel
theorem dX3_widestGap_25 : decode cX3_widestGap 25 = .ok (.getfield 9, 3) := by decide +kernel
theorem dX3_widestGap_28 : decode cX3_widestGap 28 = .ok (.iload_n 3, 1) := by decide +kernel
theorem dX3_widestGap_29 : decode cX3_widestGap 29 = .ok (.iaload, 1) := by decide +kernel
theorem dX3_widestGap_30 : decode cX3_widestGap 30 = .ok (.isub, 1) := by decide +kernel
theorem dX3_widestGap_31 : decode cX3_widestGap 31 = .ok (.istore 4, 2) := by decide +kernel
theorem dX3_widestGap_33 : decode cX3_widestGap 33 = .ok (.iload 4, 2) := by decide +kernel
theorem dX3_widestGap_35 : decode cX3_widestGap 35 = .ok (.iload_n 2, 1) := by decide +kernel
theorem dX3_widestGap_36 : decode cX3_widestGap 36 = .ok (.if_icmp .le 8, 3) := by decide +kernel
theorem dX3_widestGap_39 : decode cX3_widestGap 39 = .ok (.iload 4, 2) := by decide +kernel
theorem dX3_widestGap_41 : decode cX3_widestGap 41 = .ok (.istore_n 2, 1) := by decide +kernel
theorem dX3_widestGap_42 : decode cX3_widestGap 42 = .ok (.iload_n 3, 1) := by decide +kernel
theorem dX3_widestGap_43 : decode cX3_widestGap 43 = .ok (.istore_n 1, 1) := by decide +kernel
theorem dX3_widestGap_44 : decode cX3_widestGap 44 = .ok (.iinc 3 1, 3) := by decide +kernel
theorem dX3_widestGap_47 : decode cX3_widestGap 47 = .ok (.goto (-41), 3) := by decide +kernel
theorem dX3_widestGap_50 : decode cX3_widestGap 50 = .ok (.iload_n 1, 1) := by decide +kernel
theorem dX3_widestGap_51 : decode cX3_widestGap 51 = .ok (.ireturn, 1) := by decide +kernel
theorem dX3_wordOf_0 : decode cX3_wordOf 0 = .ok (.iload_n 0, 1) := by decide +kernel
theorem dX3_wordOf_1 : decode cX3_wordOf 1 = .ok (.iconst 5, 1) := by decide +kernel
theorem dX3_wordOf_2 : decode cX3_wordOf 2 = .ok (.ishr, 1) := by decide +kernel
theorem dX3_wordOf_3 : decode cX3_wordOf 3 = .ok (.ireturn, 1) := by decide +kernel
theorem dX3_touchesInWords_0 : decode cX3_touchesInWords 0 = .ok (.iconst 1, 1) := by decide +kernel
theorem dX3_touchesInWords_1 : decode cX3_touchesInWords 1 = .ok (.iload_n 3, 1) := by decide +kernel
theorem dX3_touchesInWords_2 : decode cX3_touchesInWords 2 = .ok (.ishl, 1) := by decide +kernel
theorem dX3_touchesInWords_3 : decode cX3_touchesInWords 3 = .ok (.iconst 1, 1) := by decide +kernel
theorem dX3_touchesInWords_4 : decode cX3_touchesInWords 4 = .ok (.isub, 1) := by decide +kernel
theorem dX3_touchesInWords_5 : decode cX3_touchesInWords 5 = .ok (.istore 4, 2) := by decide +kernel
theorem dX3_touchesInWords_7 : decode cX3_touchesInWords 7 = .ok (.iload_n 1, 1) := by decide +kernel
theorem dX3_touchesInWords_8 : decode cX3_touchesInWords 8 = .ok (.iconst 3, 1) := by decide +kernel
theorem dX3_touchesInWords_9 : decode cX3_touchesInWords 9 = .ok (.if_icmp .ne 46, 3) := by decide +kernel
theorem dX3_touchesInWords_12 : decode cX3_touchesInWords 12 = .ok (.aload_n 0, 1) := by decide +kernel
theorem dX3_touchesInWords_13 : decode cX3_touchesInWords 13 = .ok (.iload_n 2, 1) := by decide +kernel
theorem dX3_touchesInWords_14 : decode cX3_touchesInWords 14 = .ok (.invokevirtual 38, 3) := by decide +kernel
theorem dX3_touchesInWords_17 : decode cX3_touchesInWords 17 = .ok (.istore 5, 2) := by decide +kernel
theorem dX3_touchesInWords_19 : decode cX3_touchesInWords 19 = .ok (.iload_n 2, 1) := by decide +kernel
theorem dX3_touchesInWords_20 : decode cX3_touchesInWords 20 = .ok (.iload 4, 2) := by decide +kernel
theorem dX3_touchesInWords_22 : decode cX3_touchesInWords 22 = .ok (.if_icmp .lt 7, 3) := by decide +kernel
theorem dX3_touchesInWords_25 : decode cX3_touchesInWords 25 = .ok (.iconst 0, 1) := by decide +kernel
theorem dX3_touchesInWords_26 : decode cX3_touchesInWords 26 = .ok (.goto 28, 3) := by decide +kernel
theorem dX3_touchesInWords_29 : decode cX3_touchesInWords 29 = .ok (.iload 5, 2) := by decide +kernel
theorem dX3_touchesInWords_31 : decode cX3_touchesInWords 31 = .ok (.iconst (-1), 1) := by decide +kernel
theorem dX3_touchesInWords_32 : decode cX3_touchesInWords 32 = .ok (.if_icmp .ne 8, 3) := by decide +kernel
theorem dX3_touchesInWords_35 : decode cX3_touchesInWords 35 = .ok (.iload 4, 2) := by decide +kernel
theorem dX3_touchesInWords_37 : decode cX3_touchesInWords 37 = .ok (.goto 5, 3) := by decide +kernel
theorem dX3_touchesInWords_40 : decode cX3_touchesInWords 40 = .ok (.iload 5, 2) := by decide +kernel
theorem dX3_touchesInWords_42 : decode cX3_touchesInWords 42 = .ok (.invokestatic 59, 3) := by decide +kernel
theorem dX3_touchesInWords_45 : decode cX3_touchesInWords 45 = .ok (.iload_n 2, 1) := by decide +kernel
theorem dX3_touchesInWords_46 : decode cX3_touchesInWords 46 = .ok (.iconst 1, 1) := by decide +kernel
theorem dX3_touchesInWords_47 : decode cX3_touchesInWords 47 = .ok (.iadd, 1) := by decide +kernel
theorem dX3_touchesInWords_48 : decode cX3_touchesInWords 48 = .ok (.invokestatic 59, 3) := by decide +kernel
theorem dX3_touchesInWords_51 : decode cX3_touchesInWords 51 = .ok (.isub, 1) := by decide +kernel
theorem dX3_touchesInWords_52 : decode cX3_touchesInWords 52 = .ok (.iconst 1, 1) := by decide +kernel
theorem dX3_touchesInWords_53 : decode cX3_touchesInWords 53 = .ok (.iadd, 1) := by decide +kernel
theorem dX3_touchesInWords_54 : decode cX3_touchesInWords 54 = .ok (.ireturn, 1) := by decide +kernel
theorem dX3_touchesInWords_55 : decode cX3_touchesInWords 55 = .ok (.iload_n 1, 1) := by decide +kernel
theorem dX3_touchesInWords_56 : decode cX3_touchesInWords 56 = .ok (.iconst 4, 1) := by decide +kernel
theorem dX3_touchesInWords_57 : decode cX3_touchesInWords 57 = .ok (.if_icmp .ne 43, 3) := by decide +kernel
theorem dX3_touchesInWords_60 : decode cX3_touchesInWords 60 = .ok (.aload_n 0, 1) := by decide +kernel
theorem dX3_touchesInWords_61 : decode cX3_touchesInWords 61 = .ok (.iload_n 2, 1) := by decide +kernel
theorem dX3_touchesInWords_62 : decode cX3_touchesInWords 62 = .ok (.invokevirtual 41, 3) := by decide +kernel
theorem dX3_touchesInWords_65 : decode cX3_touchesInWords 65 = .ok (.istore 5, 2) := by decide +kernel
theorem dX3_touchesInWords_67 : decode cX3_touchesInWords 67 = .ok (.iload_n 2, 1) := by decide +kernel
theorem dX3_touchesInWords_68 : decode cX3_touchesInWords 68 = .ok (.ifCond .gt 7, 3) := by decide +kernel
theorem dX3_touchesInWords_71 : decode cX3_touchesInWords 71 = .ok (.iconst 0, 1) := by decide +kernel
theorem dX3_touchesInWords_72 : decode cX3_touchesInWords 72 = .ok (.goto 27, 3) := by decide +kernel
theorem dX3_touchesInWords_75 : decode cX3_touchesInWords 75 = .ok (.iload_n 2, 1) := by decide +kernel
theorem dX3_touchesInWords_76 : decode cX3_touchesInWords 76 = .ok (.iconst 1, 1) := by decide +kernel
theorem dX3_touchesInWords_77 : decode cX3_touchesInWords 77 = .ok (.isub, 1) := by decide +kernel
theorem dX3_touchesInWords_78 : decode cX3_touchesInWords 78 = .ok (.invokestatic 59, 3) := by decide +kernel
theorem dX3_touchesInWords_81 : decode cX3_touchesInWords 81 = .ok (.iload 5, 2) := by decide +kernel
theorem dX3_touchesInWords_83 : decode cX3_touchesInWords 83 = .ok (.iconst (-1), 1) := by decide +kernel
theorem dX3_touchesInWords_84 : decode cX3_touchesInWords 84 = .ok (.if_icmp .ne 7, 3) := by decide +kernel
theorem dX3_touchesInWords_87 : decode cX3_touchesInWords 87 = .ok (.iconst 0, 1) := by decide +kernel
theorem dX3_touchesInWords_88 : decode cX3_touchesInWords 88 = .ok (.goto 5, 3) := by decide +kernel
theorem dX3_touchesInWords_91 : decode cX3_touchesInWords 91 = .ok (.iload 5, 2) := by decide +kernel
theorem dX3_touchesInWords_93 : decode cX3_touchesInWords 93 = .ok (.invokestatic 59, 3) := by decide +kernel
theorem dX3_touchesInWords_96 : decode cX3_touchesInWords 96 = .ok (.isub, 1) := by decide +kernel
theorem dX3_touchesInWords_97 : decode cX3_touchesInWords 97 = .ok (.iconst 1, 1) := by decide +kernel
theorem dX3_touchesInWords_98 : decode cX3_touchesInWords 98 = .ok (.iadd, 1) := by decide +kernel
theorem dX3_touchesInWords_99 : decode cX3_touchesInWords 99 = .ok (.ireturn, 1) := by decide +kernel
theorem dX3_touchesInWords_100 : decode cX3_touchesInWords 100 = .ok (.iconst 1, 1) := by decide +kernel
theorem dX3_touchesInWords_101 : decode cX3_touchesInWords 101 = .ok (.ireturn, 1) := by decide +kernel
theorem dX3_touchesInRow_0 : decode cX3_touchesInRow 0 = .ok (.iload_n 1, 1) := by decide +kernel
theorem dX3_touchesInRow_1 : decode cX3_touchesInRow 1 = .ok (.iconst 3, 1) := by decide +kernel
theorem dX3_touchesInRow_2 : decode cX3_touchesInRow 2 = .ok (.if_icmp .ne 9, 3) := by decide +kernel
theorem dX3_touchesInRow_5 : decode cX3_touchesInRow 5 = .ok (.iload_n 2, 1) := by decide +kernel
theorem dX3_touchesInRow_6 : decode cX3_touchesInRow 6 = .ok (.iconst 1, 1) := by decide +kernel
theorem dX3_touchesInRow_7 : decode cX3_touchesInRow 7 = .ok (.iadd, 1) := by decide +kernel
theorem dX3_touchesInRow_8 : decode cX3_touchesInRow 8 = .ok (.goto 4, 3) := by decide +kernel
theorem dX3_touchesInRow_11 : decode cX3_touchesInRow 11 = .ok (.iload_n 2, 1) := by decide +kernel
theorem dX3_touchesInRow_12 : decode cX3_touchesInRow 12 = .ok (.istore_n 3, 1) := by decide +kernel
theorem dX3_touchesInRow_13 : decode cX3_touchesInRow 13 = .ok (.iconst 0, 1) := by decide +kernel
theorem dX3_touchesInRow_14 : decode cX3_touchesInRow 14 = .ok (.istore 4, 2) := by decide +kernel
theorem dX3_touchesInRow_16 : decode cX3_touchesInRow 16 = .ok (.iconst 0, 1) := by decide +kernel
theorem dX3_touchesInRow_17 : decode cX3_touchesInRow 17 = .ok (.istore 5, 2) := by decide +kernel
theorem dX3_touchesInRow_19 : decode cX3_touchesInRow 19 = .ok (.aload_n 0, 1) := by decide +kernel
theorem dX3_touchesInRow_20 : decode cX3_touchesInRow 20 = .ok (.getfield 15, 3) := by decide +kernel
theorem dX3_touchesInRow_23 : decode cX3_touchesInRow 23 = .ok (.istore 6, 2) := by decide +kernel
theorem dX3_touchesInRow_25 : decode cX3_touchesInRow 25 = .ok (.iload 5, 2) := by decide +kernel
theorem dX3_touchesInRow_27 : decode cX3_touchesInRow 27 = .ok (.iload 6, 2) := by decide +kernel
theorem dX3_touchesInRow_29 : decode cX3_touchesInRow 29 = .ok (.if_icmp .ge 42, 3) := by decide +kernel
theorem dX3_touchesInRow_32 : decode cX3_touchesInRow 32 = .ok (.iload 5, 2) := by decide +kernel
theorem dX3_touchesInRow_34 : decode cX3_touchesInRow 34 = .ok (.iload 6, 2) := by decide +kernel
theorem dX3_touchesInRow_36 : decode cX3_touchesInRow 36 = .ok (.iadd, 1) := by decide +kernel
theorem dX3_touchesInRow_37 : decode cX3_touchesInRow 37 = .ok (.iconst 2, 1) := by decide +kernel
theorem dX3_touchesInRow_38 : decode cX3_touchesInRow 38 = .ok (.idiv, 1) := by decide +kernel
theorem dX3_touchesInRow_39 : decode cX3_touchesInRow 39 = .ok (.istore 7, 2) := by decide +kernel
theorem dX3_touchesInRow_41 : decode cX3_touchesInRow 41 = .ok (.iinc 4 1, 3) := by decide +kernel
theorem dX3_touchesInRow_44 : decode cX3_touchesInRow 44 = .ok (.aload_n 0, 1) := by decide +kernel
theorem dX3_touchesInRow_45 : decode cX3_touchesInRow 45 = .ok (.getfield 9, 3) := by decide +kernel
theorem dX3_touchesInRow_48 : decode cX3_touchesInRow 48 = .ok (.iload 7, 2) := by decide +kernel
theorem dX3_touchesInRow_50 : decode cX3_touchesInRow 50 = .ok (.iaload, 1) := by decide +kernel
theorem dX3_touchesInRow_51 : decode cX3_touchesInRow 51 = .ok (.iload_n 3, 1) := by decide +kernel
theorem dX3_touchesInRow_52 : decode cX3_touchesInRow 52 = .ok (.if_icmp .ge 12, 3) := by decide +kernel
theorem dX3_touchesInRow_55 : decode cX3_touchesInRow 55 = .ok (.iload 7, 2) := by decide +kernel
theorem dX3_touchesInRow_57 : decode cX3_touchesInRow 57 = .ok (.iconst 1, 1) := by decide +kernel
theorem dX3_touchesInRow_58 : decode cX3_touchesInRow 58 = .ok (.iadd, 1) := by decide +kernel
theorem dX3_touchesInRow_59 : decode cX3_touchesInRow 59 = .ok (.istore 5, 2) := by decide +kernel
theorem dX3_touchesInRow_61 : decode cX3_touchesInRow 61 = .ok (.goto 7, 3) := by decide +kernel
theorem dX3_touchesInRow_64 : decode cX3_touchesInRow 64 = .ok (.iload 7, 2) := by decide +kernel
theorem dX3_touchesInRow_66 : decode cX3_touchesInRow 66 = .ok (.istore 6, 2) := by decide +kernel
theorem dX3_touchesInRow_68 : decode cX3_touchesInRow 68 = .ok (.goto (-43), 3) := by decide +kernel
theorem dX3_touchesInRow_71 : decode cX3_touchesInRow 71 = .ok (.iload 5, 2) := by decide +kernel
theorem dX3_touchesInRow_73 : decode cX3_touchesInRow 73 = .ok (.aload_n 0, 1) := by decide +kernel
theorem dX3_touchesInRow_74 : decode cX3_touchesInRow 74 = .ok (.getfield 15, 3) := by decide +kernel
theorem dX3_touchesInRow_77 : decode cX3_touchesInRow 77 = .ok (.if_icmp .ge 18, 3) := by decide +kernel
theorem dX3_touchesInRow_80 : decode cX3_touchesInRow 80 = .ok (.aload_n 0, 1) := by decide +kernel
theorem dX3_touchesInRow_81 : decode cX3_touchesInRow 81 = .ok (.getfield 9, 3) := by decide +kernel
theorem dX3_touchesInRow_84 : decode cX3_touchesInRow 84 = .ok (.iload 5, 2) := by decide +kernel
theorem dX3_touchesInRow_86 : decode cX3_touchesInRow 86 = .ok (.iaload, 1) := by decide +kernel
theorem dX3_touchesInRow_87 : decode cX3_touchesInRow 87 = .ok (.iload_n 2, 1) := by decide +kernel
theorem dX3_touchesInRow_88 : decode cX3_touchesInRow 88 = .ok (.if_icmp .ne 7, 3) := by decide +kernel
theorem dX3_touchesInRow_91 : decode cX3_touchesInRow 91 = .ok (.iconst 1, 1) := by decide +kernel
theorem dX3_touchesInRow_92 : decode cX3_touchesInRow 92 = .ok (.goto 4, 3) := by decide +kernel
theorem dX3_touchesInRow_95 : decode cX3_touchesInRow 95 = .ok (.iconst 0, 1) := by decide +kernel
theorem dX3_touchesInRow_96 : decode cX3_touchesInRow 96 = .ok (.istore 7, 2) := by decide +kernel
theorem dX3_touchesInRow_98 : decode cX3_touchesInRow 98 = .ok (.iload_n 1, 1) := by decide +kernel
theorem dX3_touchesInRow_99 : decode cX3_touchesInRow 99 = .ok (.iconst 4, 1) := by decide +kernel
theorem dX3_touchesInRow_100 : decode cX3_touchesInRow 100 = .ok (.if_icmp .ne 11, 3) := by decide +kernel
theorem dX3_touchesInRow_103 : decode cX3_touchesInRow 103 = .ok (.iload 5, 2) := by decide +kernel
theorem dX3_touchesInRow_105 : decode cX3_touchesInRow 105 = .ok (.ifCond .le 18, 3) := by decide +kernel
theorem dX3_touchesInRow_108 : decode cX3_touchesInRow 108 = .ok (.goto 12, 3) := by decide +kernel
theorem dX3_touchesInRow_111 : decode cX3_touchesInRow 111 = .ok (.iload 5, 2) := by decide +kernel
theorem dX3_touchesInRow_113 : decode cX3_touchesInRow 113 = .ok (.aload_n 0, 1) := by decide +kernel
theorem dX3_touchesInRow_114 : decode cX3_touchesInRow 114 = .ok (.getfield 15, 3) := by decide +kernel
theorem dX3_touchesInRow_117 : decode cX3_touchesInRow 117 = .ok (.if_icmp .ge 6, 3) := by decide +kernel
theorem dX3_touchesInRow_120 : decode cX3_touchesInRow 120 = .ok (.iinc 4 1, 3) := by decide +kernel
theorem dX3_touchesInRow_123 : decode cX3_touchesInRow 123 = .ok (.iload_n 1, 1) := by decide +kernel
theorem dX3_touchesInRow_124 : decode cX3_touchesInRow 124 = .ok (.ifCond .ne 22, 3) := by decide +kernel
theorem dX3_touchesInRow_127 : decode cX3_touchesInRow 127 = .ok (.iload 7, 2) := by decide +kernel
theorem dX3_touchesInRow_129 : decode cX3_touchesInRow 129 = .ok (.ifCond .ne 17, 3) := by decide +kernel
theorem dX3_touchesInRow_132 : decode cX3_touchesInRow 132 = .ok (.iload 4, 2) := by decide +kernel
theorem dX3_touchesInRow_134 : decode cX3_touchesInRow 134 = .ok (.aload_n 0, 1) := by decide +kernel
theorem dX3_touchesInRow_135 : decode cX3_touchesInRow 135 = .ok (.getfield 15, 3) := by decide +kernel
theorem dX3_touchesInRow_138 : decode cX3_touchesInRow 138 = .ok (.iload 5, 2) := by decide +kernel
theorem dX3_touchesInRow_140 : decode cX3_touchesInRow 140 = .ok (.isub, 1) := by decide +kernel
theorem dX3_touchesInRow_141 : decode cX3_touchesInRow 141 = .ok (.iconst 1, 1) := by decide +kernel
theorem dX3_touchesInRow_142 : decode cX3_touchesInRow 142 = .ok (.iadd, 1) := by decide +kernel
theorem dX3_touchesInRow_143 : decode cX3_touchesInRow 143 = .ok (.iadd, 1) := by decide +kernel
theorem dX3_touchesInRow_144 : decode cX3_touchesInRow 144 = .ok (.istore 4, 2) := by decide +kernel
theorem dX3_touchesInRow_146 : decode cX3_touchesInRow 146 = .ok (.iload_n 1, 1) := by decide +kernel
theorem dX3_touchesInRow_147 : decode cX3_touchesInRow 147 = .ok (.iconst 1, 1) := by decide +kernel
theorem dX3_touchesInRow_148 : decode cX3_touchesInRow 148 = .ok (.if_icmp .ne 22, 3) := by decide +kernel
theorem dX3_touchesInRow_151 : decode cX3_touchesInRow 151 = .ok (.iload 7, 2) := by decide +kernel
theorem dX3_touchesInRow_153 : decode cX3_touchesInRow 153 = .ok (.ifCond .eq 17, 3) := by decide +kernel
theorem dX3_touchesInRow_156 : decode cX3_touchesInRow 156 = .ok (.iload 4, 2) := by decide +kernel
theorem dX3_touchesInRow_158 : decode cX3_touchesInRow 158 = .ok (.aload_n 0, 1) := by decide +kernel
theorem dX3_touchesInRow_159 : decode cX3_touchesInRow 159 = .ok (.getfield 15, 3) := by decide +kernel
theorem dX3_touchesInRow_162 : decode cX3_touchesInRow 162 = .ok (.iload 5, 2) := by decide +kernel
theorem dX3_touchesInRow_164 : decode cX3_touchesInRow 164 = .ok (.isub, 1) := by decide +kernel
theorem dX3_touchesInRow_165 : decode cX3_touchesInRow 165 = .ok (.iconst 1, 1) := by decide +kernel
theorem dX3_touchesInRow_166 : decode cX3_touchesInRow 166 = .ok (.isub, 1) := by decide +kernel
theorem dX3_touchesInRow_167 : decode cX3_touchesInRow 167 = .ok (.iadd, 1) := by decide +kernel
theorem dX3_touchesInRow_168 : decode cX3_touchesInRow 168 = .ok (.istore 4, 2) := by decide +kernel
theorem dX3_touchesInRow_170 : decode cX3_touchesInRow 170 = .ok (.iload 4, 2) := by decide +kernel
theorem dX3_touchesInRow_172 : decode cX3_touchesInRow 172 = .ok (.ireturn, 1) := by decide +kernel
theorem dX3_beFirstSet_0 : decode cX3_beFirstSet 0 = .ok (.aload_n 0, 1) := by decide +kernel
theorem dX3_beFirstSet_1 : decode cX3_beFirstSet 1 = .ok (.iload_n 1, 1) := by decide +kernel
theorem dX3_beFirstSet_2 : decode cX3_beFirstSet 2 = .ok (.aload_n 0, 1) := by decide +kernel
theorem dX3_beFirstSet_3 : decode cX3_beFirstSet 3 = .ok (.getfield 9, 3) := by decide +kernel
theorem dX3_beFirstSet_6 : decode cX3_beFirstSet 6 = .ok (.arraylength, 1) := by decide +kernel
theorem dX3_beFirstSet_7 : decode cX3_beFirstSet 7 = .ok (.invokestatic 19, 3) := by decide +kernel
theorem dX3_beFirstSet_10 : decode cX3_beFirstSet 10 = .ok (.putfield 15, 3) := by decide +kernel
theorem dX3_beFirstSet_13 : decode cX3_beFirstSet 13 = .ok (.iconst 0, 1) := by decide +kernel
theorem dX3_beFirstSet_14 : decode cX3_beFirstSet 14 = .ok (.istore_n 2, 1) := by decide +kernel
theorem dX3_beFirstSet_15 : decode cX3_beFirstSet 15 = .ok (.iload_n 2, 1) := by decide +kernel
theorem dX3_beFirstSet_16 : decode cX3_beFirstSet 16 = .ok (.aload_n 0, 1) := by decide +kernel
theorem dX3_beFirstSet_17 : decode cX3_beFirstSet 17 = .ok (.getfield 15, 3) := by decide +kernel
theorem dX3_beFirstSet_20 : decode cX3_beFirstSet 20 = .ok (.if_icmp .ge 16, 3) := by decide +kernel
theorem dX3_beFirstSet_23 : decode cX3_beFirstSet 23 = .ok (.aload_n 0, 1) := by decide +kernel
theorem dX3_beFirstSet_24 : decode cX3_beFirstSet 24 = .ok (.getfield 9, 3) := by decide +kernel
theorem dX3_beFirstSet_27 : decode cX3_beFirstSet 27 = .ok (.iload_n 2, 1) := by decide +kernel
theorem dX3_beFirstSet_28 : decode cX3_beFirstSet 28 = .ok (.iload_n 2, 1) := by decide +kernel
theorem dX3_beFirstSet_29 : decode cX3_beFirstSet 29 = .ok (.iastore, 1) := by decide +kernel
theorem dX3_beFirstSet_30 : decode cX3_beFirstSet 30 = .ok (.iinc 2 1, 3) := by decide +kernel
theorem dX3_beFirstSet_33 : decode cX3_beFirstSet 33 = .ok (.goto (-18), 3) := by decide +kernel
theorem dX3_beFirstSet_36 : decode cX3_beFirstSet 36 = .ok (.return_, 1) := by decide +kernel
theorem dX3_beNextSet_0 : decode cX3_beNextSet 0 = .ok (.iconst 0, 1) := by decide +kernel
theorem dX3_beNextSet_1 : decode cX3_beNextSet 1 = .ok (.istore_n 2, 1) := by decide +kernel
theorem dX3_beNextSet_2 : decode cX3_beNextSet 2 = .ok (.iload_n 2, 1) := by decide +kernel
theorem dX3_beNextSet_3 : decode cX3_beNextSet 3 = .ok (.aload_n 0, 1) := by decide +kernel
theorem dX3_beNextSet_4 : decode cX3_beNextSet 4 = .ok (.getfield 15, 3) := by decide +kernel
theorem dX3_beNextSet_7 : decode cX3_beNextSet 7 = .ok (.if_icmp .ge 80, 3) := by decide +kernel
theorem dX3_beNextSet_10 : decode cX3_beNextSet 10 = .ok (.iload_n 2, 1) := by decide +kernel
theorem dX3_beNextSet_11 : decode cX3_beNextSet 11 = .ok (.iconst 1, 1) := by decide +kernel
theorem dX3_beNextSet_12 : decode cX3_beNextSet 12 = .ok (.iadd, 1) := by decide +kernel
theorem dX3_beNextSet_13 : decode cX3_beNextSet 13 = .ok (.aload_n 0, 1) := by decide +kernel
theorem dX3_beNextSet_14 : decode cX3_beNextSet 14 = .ok (.getfield 15, 3) := by decide +kernel
theorem dX3_beNextSet_17 : decode cX3_beNextSet 17 = .ok (.if_icmp .ge 14, 3) := by decide +kernel
theorem dX3_beNextSet_20 : decode cX3_beNextSet 20 = .ok (.aload_n 0, 1) := by decide +kernel
theorem dX3_beNextSet_21 : decode cX3_beNextSet 21 = .ok (.getfield 9, 3) := by decide +kernel
theorem dX3_beNextSet_24 : decode cX3_beNextSet 24 = .ok (.iload_n 2, 1) := by decide +kernel
theorem dX3_beNextSet_25 : decode cX3_beNextSet 25 = .ok (.iconst 1, 1) := by decide +kernel
theorem dX3_beNextSet_26 : decode cX3_beNextSet 26 = .ok (.iadd, 1) := by decide +kernel
theorem dX3_beNextSet_27 : decode cX3_beNextSet 27 = .ok (.iaload, 1) := by decide +kernel
theorem dX3_beNextSet_28 : decode cX3_beNextSet 28 = .ok (.goto 4, 3) := by decide +kernel
theorem dX3_beNextSet_31 : decode cX3_beNextSet 31 = .ok (.iload_n 1, 1) := by decide +kernel
theorem dX3_beNextSet_32 : decode cX3_beNextSet 32 = .ok (.istore_n 3, 1) := by decide +kernel
theorem dX3_beNextSet_33 : decode cX3_beNextSet 33 = .ok (.aload_n 0, 1) := by decide +kernel
theorem dX3_beNextSet_34 : decode cX3_beNextSet 34 = .ok (.getfield 9, 3) := by decide +kernel
theorem dX3_beNextSet_37 : decode cX3_beNextSet 37 = .ok (.iload_n 2, 1) := by decide +kernel
theorem dX3_beNextSet_38 : decode cX3_beNextSet 38 = .ok (.iaload, 1) := by decide +kernel
theorem dX3_beNextSet_39 : decode cX3_beNextSet 39 = .ok (.iconst 1, 1) := by decide +kernel
theorem dX3_beNextSet_40 : decode cX3_beNextSet 40 = .ok (.iadd, 1) := by decide +kernel
theorem dX3_beNextSet_41 : decode cX3_beNextSet 41 = .ok (.iload_n 3, 1) := by decide +kernel
theorem dX3_beNextSet_42 : decode cX3_beNextSet 42 = .ok (.if_icmp .ge 39, 3) := by decide +kernel
theorem dX3_beNextSet_45 : decode cX3_beNextSet 45 = .ok (.aload_n 0, 1) := by decide +kernel
theorem dX3_beNextSet_46 : decode cX3_beNextSet 46 = .ok (.getfield 9, 3) := by decide +kernel
theorem dX3_beNextSet_49 : decode cX3_beNextSet 49 = .ok (.iload_n 2, 1) := by decide +kernel
theorem dX3_beNextSet_50 : decode cX3_beNextSet 50 = .ok (.dup2, 1) := by decide +kernel
theorem dX3_beNextSet_51 : decode cX3_beNextSet 51 = .ok (.iaload, 1) := by decide +kernel
theorem dX3_beNextSet_52 : decode cX3_beNextSet 52 = .ok (.iconst 1, 1) := by decide +kernel
theorem dX3_beNextSet_53 : decode cX3_beNextSet 53 = .ok (.iadd, 1) := by decide +kernel
theorem dX3_beNextSet_54 : decode cX3_beNextSet 54 = .ok (.iastore, 1) := by decide +kernel
theorem dX3_beNextSet_55 : decode cX3_beNextSet 55 = .ok (.iconst 0, 1) := by decide +kernel
theorem dX3_beNextSet_56 : decode cX3_beNextSet 56 = .ok (.istore 4, 2) := by decide +kernel
theorem dX3_beNextSet_58 : decode cX3_beNextSet 58 = .ok (.iload 4, 2) := by decide +kernel
theorem dX3_beNextSet_60 : decode cX3_beNextSet 60 = .ok (.iload_n 2, 1) := by decide +kernel
theorem dX3_beNextSet_61 : decode cX3_beNextSet 61 = .ok (.if_icmp .ge 18, 3) := by decide +kernel
theorem dX3_beNextSet_64 : decode cX3_beNextSet 64 = .ok (.aload_n 0, 1) := by decide +kernel
theorem dX3_beNextSet_65 : decode cX3_beNextSet 65 = .ok (.getfield 9, 3) := by decide +kernel
theorem dX3_beNextSet_68 : decode cX3_beNextSet 68 = .ok (.iload 4, 2) := by decide +kernel
theorem dX3_beNextSet_70 : decode cX3_beNextSet 70 = .ok (.iload 4, 2) := by decide +kernel
theorem dX3_beNextSet_72 : decode cX3_beNextSet 72 = .ok (.iastore, 1) := by decide +kernel
theorem dX3_beNextSet_73 : decode cX3_beNextSet 73 = .ok (.iinc 4 1, 3) := by decide +kernel
theorem dX3_beNextSet_76 : decode cX3_beNextSet 76 = .ok (.goto (-18), 3) := by decide +kernel
theorem dX3_beNextSet_79 : decode cX3_beNextSet 79 = .ok (.iconst 1, 1) := by decide +kernel
theorem dX3_beNextSet_80 : decode cX3_beNextSet 80 = .ok (.ireturn, 1) := by decide +kernel
theorem dX3_beNextSet_81 : decode cX3_beNextSet 81 = .ok (.iinc 2 1, 3) := by decide +kernel
theorem dX3_beNextSet_84 : decode cX3_beNextSet 84 = .ok (.goto (-82), 3) := by decide +kernel
theorem dX3_beNextSet_87 : decode cX3_beNextSet 87 = .ok (.iconst 0, 1) := by decide +kernel
theorem dX3_beNextSet_88 : decode cX3_beNextSet 88 = .ok (.ireturn, 1) := by decide +kernel
def D_X3_clear (N : Nat) (g : gp) (a0 : Nat) (δ : dp) : Option (dp) :=
  bd (s_I δ 3 1 a0 0) fun δ_1 => some δ_1
set_option maxHeartbeats 4000000 in
set_option maxRecDepth 100000 in
theorem c_X3_clear {l : Launch} {D : va_G} {cy : Nat → ClassId} {N d : Nat} {g : gp} (wt : WT g) (hl : l.stackTraces = false) (hd : 1 ≤ d) {a0 : Nat} {δ : dp} (k0 : q_K g a0 = 3) : CalD l D cy m_X3_clear d 0 0 ev g [.ref a0] δ (D_X3_clear N g a0 δ) := by
  refine CalD.of (by decide +kernel) (Nat.le_of_ble_eq_true rfl) hl ?_
  unfold D_X3_clear
  refine w_aload_n 0 0 (μ := m_X3_clear) (pc := 0) dX3_clear_0 rfl rfl ?_
  refine w_iconst (v := 0) (μ := m_X3_clear) (pc := 1) dX3_clear_1 (by decide) ?_
  refine w_putI (μ := m_X3_clear) (pc := 2) dX3_clear_2 fl_X3_15 flw_3_1 ir_3_1 k0 ?_
  refine w_bd (fun δ_1 e_2 => ?_)
  exact w_vret (μ := m_X3_clear) (pc := 5) dX3_clear_5 rfl rfl
def D_X3_copyFrom (N : Nat) (g : gp) (a0 : Nat) (a1 : Nat) (δ : dp) : Option (dp) :=
  (q_O g 3 0 a0).bind fun b_1 => (D_J9_min_7cf53 N g (q_I δ 3 1 a1) (Int32.ofNat (q_N g b_1)) δ).bind fun r_3 => bd (s_I r_3.2 3 1 a0 r_3.1) fun δ_4 => (q_O g 3 0 a1).bind fun b_6 => (q_O g 3 0 a0).bind fun b_8 => if (0 : Int32) < 0 ∨ (0 : Int32) < 0 ∨ (q_I δ_4 3 1 a0) < 0 ∨ q_N g b_6 < (0 : Int32).toNatClampNeg + (q_I δ_4 3 1 a0).toNatClampNeg ∨ q_N g b_8 < (0 : Int32).toNatClampNeg + (q_I δ_4 3 1 a0).toNatClampNeg then none else bd (s_C δ_4 b_6 b_8 (0 : Int32).toNatClampNeg (0 : Int32).toNatClampNeg (q_I δ_4 3 1 a0).toNatClampNeg) fun δ_10 => some δ_10
set_option maxHeartbeats 4000000 in
set_option maxRecDepth 100000 in
theorem c_X3_copyFrom {l : Launch} {D : va_G} {cy : Nat → ClassId} {N d : Nat} {g : gp} (wt : WT g) (hl : l.stackTraces = false) (hd : 2 ≤ d) {a0 : Nat} {a1 : Nat} {δ : dp} (k0 : q_K g a0 = 3) (k1 : q_K g a1 = 3) : CalD l D cy m_X3_copyFrom d 0 0 ev g [.ref a0, .ref a1] δ (D_X3_copyFrom N g a0 a1 δ) := by
  refine CalD.of (by decide +kernel) (Nat.le_of_ble_eq_true rfl) hl ?_
  unfold D_X3_copyFrom
  refine w_aload_n 0 0 (μ := m_X3_copyFrom) (pc := 0) dX3_copyFrom_0 rfl rfl ?_
  refine w_aload_n 1 1 (μ := m_X3_copyFrom) (pc := 1) dX3_copyFrom_1 rfl rfl ?_
  refine w_getI (μ := m_X3_copyFrom) (pc := 2) dX3_copyFrom_2 fl_X3_15 ir_3_1 k1 ?_
  refine w_aload_n 0 0 (μ := m_X3_copyFrom) (pc := 5) dX3_copyFrom_5 rfl rfl ?_
  refine w_getO (μ := m_X3_copyFrom) (pc := 6) dX3_copyFrom_6 fl_X3_9 ir_3_0 id_3_0 k0 (fun b_1 e_2 => ?_)
  refine w_alen 0 (ty := .int) (μ := m_X3_copyFrom) (pc := 9) dX3_copyFrom_9 (wt_3_0 wt k0 e_2) rfl (by decide) ?_
  refine w_callS (As := [.int (q_I δ 3 1 a1), .int (Int32.ofNat (q_N g b_1))]) (rest := [.ref a0]) (μ := m_X3_copyFrom) (pc := 10) dX3_copyFrom_10 cs_X3_19 rfl rfl (Nat.le_of_ble_eq_true rfl) (d' := d - 1) (by omega) he_i (c_J9_min_7cf53 wt hl (d := d - 1) (by omega) ) (fun r_3 => ?_)
  refine w_putI (μ := m_X3_copyFrom) (pc := 13) dX3_copyFrom_13 fl_X3_15 flw_3_1 ir_3_1 k0 ?_
  refine w_bd (fun δ_4 e_5 => ?_)
  refine w_aload_n 1 1 (μ := m_X3_copyFrom) (pc := 16) dX3_copyFrom_16 rfl rfl ?_
  refine w_getO (μ := m_X3_copyFrom) (pc := 17) dX3_copyFrom_17 fl_X3_9 ir_3_0 id_3_0 k1 (fun b_6 e_7 => ?_)
  refine w_iconst (v := 0) (μ := m_X3_copyFrom) (pc := 20) dX3_copyFrom_20 (by decide) ?_
  refine w_aload_n 0 0 (μ := m_X3_copyFrom) (pc := 21) dX3_copyFrom_21 rfl rfl ?_
  refine w_getO (μ := m_X3_copyFrom) (pc := 22) dX3_copyFrom_22 fl_X3_9 ir_3_0 id_3_0 k0 (fun b_8 e_9 => ?_)
  refine w_iconst (v := 0) (μ := m_X3_copyFrom) (pc := 25) dX3_copyFrom_25 (by decide) ?_
  refine w_aload_n 0 0 (μ := m_X3_copyFrom) (pc := 26) dX3_copyFrom_26 rfl rfl ?_
  refine w_getI (μ := m_X3_copyFrom) (pc := 27) dX3_copyFrom_27 fl_X3_15 ir_3_1 k0 ?_
  refine w_copy (μ := m_X3_copyFrom) (pc := 30) dX3_copyFrom_30 cp_X3_25 (wt_3_0 wt k1 e_7) (wt_3_0 wt k0 e_9) (by omega) (Nat.le_of_ble_eq_true rfl) ?_
  refine w_bd (fun δ_10 e_11 => ?_)
  exact w_vret (μ := m_X3_copyFrom) (pc := 33) dX3_copyFrom_33 rfl rfl
def J_X3_firstFrom_41 (N : Nat) (g : gp) (a0 : Nat) (x1 : Int32) (kt7 : Int32 → Int32 → dp → Option (Int32 × dp)) (x2v : Int32) (x3v : Int32) (δ : dp) : Option (Int32 × dp) :=
  kt7 x2v x3v δ
set_option maxHeartbeats 4000000 in
set_option maxRecDepth 100000 in
theorem t_J_X3_firstFrom_41 {l : Launch} {D : va_G} {cy : Nat → ClassId} {N d : Nat} {g : gp} (wt : WT g) (hl : l.stackTraces = false) (hd : 1 ≤ d) {a0 : Nat} {x1 : Int32} (k0 : q_K g a0 = 3) {kt7 : Int32 → Int32 → dp → Option (Int32 × dp)} (hk7 : ∀ (x2v : Int32) (x3v : Int32) (δ : dp), AWD l D cy m_X3_firstFrom d 0 0 ei g 7 [(0, .ref a0), (1, .int x1), (2, .int x2v), (3, .int x3v)] [] δ (kt7 x2v x3v δ)) : ∀ (x2v : Int32) (x3v : Int32) (δ : dp), AWD l D cy m_X3_firstFrom d 0 0 ei g 41 [(0, .ref a0), (1, .int x1), (2, .int x2v), (3, .int x3v)] [] δ (J_X3_firstFrom_41 N g a0 x1 kt7 x2v x3v δ) := by
    intro x2v x3v δ 
    unfold J_X3_firstFrom_41
    refine w_goto 7 (μ := m_X3_firstFrom) (pc := 41) dX3_firstFrom_41 (by decide) ?_
    exact hk7 _ _ _
def L_X3_firstFrom_7 (N : Nat) (g : gp) (a0 : Nat) (x1 : Int32) : Nat → Int32 → Int32 → dp → Option (Int32 × dp)
  | 0, _, _, _ => none
  | n + 1, x2v, x3v, δ => if x3v ≤ x2v then (some (x2v, δ)) else (bi ((x2v + x3v) / 2) fun x_4 => (q_O g 3 0 a0).bind fun b_6 => if x_4 < 0 ∨ q_N g b_6 ≤ x_4.toNatClampNeg then none else if x1 ≤ (q_R δ b_6 x_4.toNatClampNeg) then (J_X3_firstFrom_41 N g a0 x1 (L_X3_firstFrom_7 N g a0 x1 n) x2v x_4 δ) else (bi (x_4 + 1) fun x_9 => J_X3_firstFrom_41 N g a0 x1 (L_X3_firstFrom_7 N g a0 x1 n) x_9 x3v δ))
set_option maxHeartbeats 4000000 in
set_option maxRecDepth 100000 in
theorem t_L_X3_firstFrom_7 {l : Launch} {D : va_G} {cy : Nat → ClassId} {N d : Nat} {g : gp} (wt : WT g) (hl : l.stackTraces = false) (hd : 1 ≤ d) {a0 : Nat} {x1 : Int32} (k0 : q_K g a0 = 3) : ∀ (n : Nat) (x2v : Int32) (x3v : Int32) (δ : dp), AWD l D cy m_X3_firstFrom d 0 0 ei g 7 [(0, .ref a0), (1, .int x1), (2, .int x2v), (3, .int x3v)] [] δ (L_X3_firstFrom_7 N g a0 x1 n x2v x3v δ) := by
  intro n
  induction n with
  | zero => intro x2v x3v δ ; exact w_none
  | succ n ih =>
    intro x2v x3v δ 
    unfold L_X3_firstFrom_7
    refine w_iload_n 2 2 (μ := m_X3_firstFrom) (pc := 7) dX3_firstFrom_7 rfl rfl ?_
    refine w_iload_n 3 3 (μ := m_X3_firstFrom) (pc := 8) dX3_firstFrom_8 rfl rfl ?_
    refine w_icmp_ge 44 (μ := m_X3_firstFrom) (pc := 9) dX3_firstFrom_9 (by decide) (fun c_3 => ?_) (fun c_3 => ?_)
    · refine w_iload_n 2 2 (μ := m_X3_firstFrom) (pc := 44) dX3_firstFrom_44 rfl rfl ?_
      exact w_iret (μ := m_X3_firstFrom) (pc := 45) dX3_firstFrom_45 rfl rfl
    · refine w_iload_n 2 2 (μ := m_X3_firstFrom) (pc := 12) dX3_firstFrom_12 rfl rfl ?_
      refine w_iload_n 3 3 (μ := m_X3_firstFrom) (pc := 13) dX3_firstFrom_13 rfl rfl ?_
      refine w_iadd (μ := m_X3_firstFrom) (pc := 14) dX3_firstFrom_14 ?_
      refine w_iconst (v := 2) (μ := m_X3_firstFrom) (pc := 15) dX3_firstFrom_15 (by decide) ?_
      refine w_idiv (μ := m_X3_firstFrom) (pc := 16) dX3_firstFrom_16 (by decide) ?_
      refine w_bi (fun x_4 e_5 => ?_)
      refine w_istore [(4, .int x_4), (0, .ref a0), (1, .int x1), (2, .int x2v), (3, .int x3v)] (μ := m_X3_firstFrom) (pc := 17) dX3_firstFrom_17 (by decide) rfl ?_
      refine w_aload_n 1 0 (μ := m_X3_firstFrom) (pc := 19) dX3_firstFrom_19 rfl rfl ?_
      refine w_getO (μ := m_X3_firstFrom) (pc := 20) dX3_firstFrom_20 fl_X3_9 ir_3_0 id_3_0 k0 (fun b_6 e_7 => ?_)
      refine w_iload 0 (μ := m_X3_firstFrom) (pc := 23) dX3_firstFrom_23 rfl ?_
      refine w_ald (μ := m_X3_firstFrom) (pc := 25) dX3_firstFrom_25 (wt_3_0 wt k0 e_7) ?_
      refine w_iload_n 2 1 (μ := m_X3_firstFrom) (pc := 26) dX3_firstFrom_26 rfl rfl ?_
      refine w_icmp_ge 38 (μ := m_X3_firstFrom) (pc := 27) dX3_firstFrom_27 (by decide) (fun c_8 => ?_) (fun c_8 => ?_)
      · refine w_iload 0 (μ := m_X3_firstFrom) (pc := 38) dX3_firstFrom_38 rfl ?_
        refine w_istore_n [(3, .int x_4), (4, .int x_4), (0, .ref a0), (1, .int x1), (2, .int x2v)] (μ := m_X3_firstFrom) (pc := 40) dX3_firstFrom_40 rfl (by decide) rfl ?_
        refine w_lv [2, 3, 4, 0] rfl ?_
        exact t_J_X3_firstFrom_41 wt hl (by omega) k0 ih _ _ _
      · refine w_iload 0 (μ := m_X3_firstFrom) (pc := 30) dX3_firstFrom_30 rfl ?_
        refine w_iconst (v := 1) (μ := m_X3_firstFrom) (pc := 32) dX3_firstFrom_32 (by decide) ?_
        refine w_iadd (μ := m_X3_firstFrom) (pc := 33) dX3_firstFrom_33 ?_
        refine w_bi (fun x_9 e_10 => ?_)
        refine w_istore_n [(2, .int x_9), (4, .int x_4), (0, .ref a0), (1, .int x1), (3, .int x3v)] (μ := m_X3_firstFrom) (pc := 34) dX3_firstFrom_34 rfl (by decide) rfl ?_
        refine w_goto 41 (μ := m_X3_firstFrom) (pc := 35) dX3_firstFrom_35 (by decide) ?_
        refine w_lv [2, 3, 0, 4] rfl ?_
        exact t_J_X3_firstFrom_41 wt hl (by omega) k0 ih _ _ _
def D_X3_firstFrom (N : Nat) (g : gp) (a0 : Nat) (x1 : Int32) (δ : dp) : Option (Int32 × dp) :=
  bi (q_I δ 3 1 a0) fun x_1 => L_X3_firstFrom_7 N g a0 x1 N 0 x_1 δ
set_option maxHeartbeats 4000000 in
set_option maxRecDepth 100000 in
theorem c_X3_firstFrom {l : Launch} {D : va_G} {cy : Nat → ClassId} {N d : Nat} {g : gp} (wt : WT g) (hl : l.stackTraces = false) (hd : 1 ≤ d) {a0 : Nat} {x1 : Int32} {δ : dp} (k0 : q_K g a0 = 3) : CalD l D cy m_X3_firstFrom d 0 0 ei g [.ref a0, .int x1] δ (D_X3_firstFrom N g a0 x1 δ) := by
  refine CalD.of (by decide +kernel) (Nat.le_of_ble_eq_true rfl) hl ?_
  unfold D_X3_firstFrom
  refine w_iconst (v := 0) (μ := m_X3_firstFrom) (pc := 0) dX3_firstFrom_0 (by decide) ?_
  refine w_istore_n [(2, .int 0), (0, .ref a0), (1, .int x1)] (μ := m_X3_firstFrom) (pc := 1) dX3_firstFrom_1 rfl (by decide) rfl ?_
  refine w_aload_n 1 0 (μ := m_X3_firstFrom) (pc := 2) dX3_firstFrom_2 rfl rfl ?_
  refine w_getI (μ := m_X3_firstFrom) (pc := 3) dX3_firstFrom_3 fl_X3_15 ir_3_1 k0 ?_
  refine w_bi (fun x_1 e_2 => ?_)
  refine w_istore_n [(3, .int x_1), (2, .int 0), (0, .ref a0), (1, .int x1)] (μ := m_X3_firstFrom) (pc := 6) dX3_firstFrom_6 rfl (by decide) rfl ?_
  refine w_lv [2, 3, 1, 0] rfl ?_
  exact t_L_X3_firstFrom_7 wt hl (by omega) k0 N _ _ _
def J_X3_at_22 (N : Nat) (g : gp) (a0 : Nat) (x1 : Int32) (xs0 : Int32) (δ : dp) : Option (Int32 × dp) :=
  some (xs0, δ)
set_option maxHeartbeats 4000000 in
set_option maxRecDepth 100000 in
theorem t_J_X3_at_22 {l : Launch} {D : va_G} {cy : Nat → ClassId} {N d : Nat} {g : gp} (wt : WT g) (hl : l.stackTraces = false) (hd : 1 ≤ d) {a0 : Nat} {x1 : Int32} (k0 : q_K g a0 = 3) : ∀ (xs0 : Int32) (δ : dp), AWD l D cy m_X3_at d 0 0 ei g 22 [] [.int xs0] δ (J_X3_at_22 N g a0 x1 xs0 δ) := by
    intro xs0 δ 
    unfold J_X3_at_22
    exact w_iret (μ := m_X3_at) (pc := 22) dX3_at_22 rfl rfl
def J_X3_at_12 (N : Nat) (g : gp) (a0 : Nat) (x1 : Int32) (δ : dp) : Option (Int32 × dp) :=
  J_X3_at_22 N g a0 x1 ((-1)) δ
set_option maxHeartbeats 4000000 in
set_option maxRecDepth 100000 in
theorem t_J_X3_at_12 {l : Launch} {D : va_G} {cy : Nat → ClassId} {N d : Nat} {g : gp} (wt : WT g) (hl : l.stackTraces = false) (hd : 1 ≤ d) {a0 : Nat} {x1 : Int32} (k0 : q_K g a0 = 3) : ∀ (δ : dp), AWD l D cy m_X3_at d 0 0 ei g 12 [] [] δ (J_X3_at_12 N g a0 x1 δ) := by
    intro  δ 
    unfold J_X3_at_12
    refine w_iconst (v := (-1)) (μ := m_X3_at) (pc := 12) dX3_at_12 (by decide) ?_
    refine w_goto 22 (μ := m_X3_at) (pc := 13) dX3_at_13 (by decide) ?_
    exact t_J_X3_at_22 wt hl (by omega) k0 _ _
def D_X3_at (N : Nat) (g : gp) (a0 : Nat) (x1 : Int32) (δ : dp) : Option (Int32 × dp) :=
  if x1 < 0 then (J_X3_at_12 N g a0 x1 δ) else (if x1 < (q_I δ 3 1 a0) then ((q_O g 3 0 a0).bind fun b_3 => if x1 < 0 ∨ q_N g b_3 ≤ x1.toNatClampNeg then none else J_X3_at_22 N g a0 x1 (q_R δ b_3 x1.toNatClampNeg) δ) else (J_X3_at_12 N g a0 x1 δ))
set_option maxHeartbeats 4000000 in
set_option maxRecDepth 100000 in
theorem c_X3_at {l : Launch} {D : va_G} {cy : Nat → ClassId} {N d : Nat} {g : gp} (wt : WT g) (hl : l.stackTraces = false) (hd : 1 ≤ d) {a0 : Nat} {x1 : Int32} {δ : dp} (k0 : q_K g a0 = 3) : CalD l D cy m_X3_at d 0 0 ei g [.ref a0, .int x1] δ (D_X3_at N g a0 x1 δ) := by
  refine CalD.of (by decide +kernel) (Nat.le_of_ble_eq_true rfl) hl ?_
  unfold D_X3_at
  refine w_iload_n 1 1 (μ := m_X3_at) (pc := 0) dX3_at_0 rfl rfl ?_
  refine w_if_lt 12 (μ := m_X3_at) (pc := 1) dX3_at_1 (by decide) (fun c_1 => ?_) (fun c_1 => ?_)
  · refine w_lv [] rfl ?_
    exact t_J_X3_at_12 wt hl (by omega) k0 _
  · refine w_iload_n 1 1 (μ := m_X3_at) (pc := 4) dX3_at_4 rfl rfl ?_
    refine w_aload_n 0 0 (μ := m_X3_at) (pc := 5) dX3_at_5 rfl rfl ?_
    refine w_getI (μ := m_X3_at) (pc := 6) dX3_at_6 fl_X3_15 ir_3_1 k0 ?_
    refine w_icmp_lt 16 (μ := m_X3_at) (pc := 9) dX3_at_9 (by decide) (fun c_2 => ?_) (fun c_2 => ?_)
    · refine w_aload_n 0 0 (μ := m_X3_at) (pc := 16) dX3_at_16 rfl rfl ?_
      refine w_getO (μ := m_X3_at) (pc := 17) dX3_at_17 fl_X3_9 ir_3_0 id_3_0 k0 (fun b_3 e_4 => ?_)
      refine w_iload_n 1 1 (μ := m_X3_at) (pc := 20) dX3_at_20 rfl rfl ?_
      refine w_ald (μ := m_X3_at) (pc := 21) dX3_at_21 (wt_3_0 wt k0 e_4) ?_
      refine w_lv [] rfl ?_
      exact t_J_X3_at_22 wt hl (by omega) k0 _ _
    · refine w_lv [] rfl ?_
      exact t_J_X3_at_12 wt hl (by omega) k0 _
def J_X3_holds_29 (N : Nat) (g : gp) (a0 : Nat) (x1 : Int32) (xs0 : Int32) (δ : dp) : Option (Int32 × dp) :=
  if xs0 = 0 ∨ xs0 = 1 then some (xs0, δ) else none
set_option maxHeartbeats 4000000 in
set_option maxRecDepth 100000 in
theorem t_J_X3_holds_29 {l : Launch} {D : va_G} {cy : Nat → ClassId} {N d : Nat} {g : gp} (wt : WT g) (hl : l.stackTraces = false) (hd : 2 ≤ d) {a0 : Nat} {x1 : Int32} (k0 : q_K g a0 = 3) : ∀ (xs0 : Int32) (δ : dp), AWD l D cy m_X3_holds d 0 0 ei g 29 [] [.int xs0] δ (J_X3_holds_29 N g a0 x1 xs0 δ) := by
    intro xs0 δ 
    unfold J_X3_holds_29
    exact w_zret (μ := m_X3_holds) (pc := 29) dX3_holds_29 rfl rfl
def J_X3_holds_28 (N : Nat) (g : gp) (a0 : Nat) (x1 : Int32) (δ : dp) : Option (Int32 × dp) :=
  J_X3_holds_29 N g a0 x1 0 δ
set_option maxHeartbeats 4000000 in
set_option maxRecDepth 100000 in
theorem t_J_X3_holds_28 {l : Launch} {D : va_G} {cy : Nat → ClassId} {N d : Nat} {g : gp} (wt : WT g) (hl : l.stackTraces = false) (hd : 2 ≤ d) {a0 : Nat} {x1 : Int32} (k0 : q_K g a0 = 3) : ∀ (δ : dp), AWD l D cy m_X3_holds d 0 0 ei g 28 [] [] δ (J_X3_holds_28 N g a0 x1 δ) := by
    intro  δ 
    unfold J_X3_holds_28
    refine w_iconst (v := 0) (μ := m_X3_holds) (pc := 28) dX3_holds_28 (by decide) ?_
    exact t_J_X3_holds_29 wt hl (by omega) k0 _ _
def D_X3_holds (N : Nat) (g : gp) (a0 : Nat) (x1 : Int32) (δ : dp) : Option (Int32 × dp) :=
  (D_X3_firstFrom N g a0 x1 δ).bind fun r_1 => if (q_I r_1.2 3 1 a0) ≤ r_1.1 then (J_X3_holds_28 N g a0 x1 r_1.2) else ((q_O g 3 0 a0).bind fun b_3 => if r_1.1 < 0 ∨ q_N g b_3 ≤ r_1.1.toNatClampNeg then none else if (q_R r_1.2 b_3 r_1.1.toNatClampNeg) = x1 then (J_X3_holds_29 N g a0 x1 1 r_1.2) else (J_X3_holds_28 N g a0 x1 r_1.2))
set_option maxHeartbeats 4000000 in
set_option maxRecDepth 100000 in
theorem c_X3_holds {l : Launch} {D : va_G} {cy : Nat → ClassId} {N d : Nat} {g : gp} (wt : WT g) (hl : l.stackTraces = false) (hd : 2 ≤ d) {a0 : Nat} {x1 : Int32} {δ : dp} (k0 : q_K g a0 = 3) : CalD l D cy m_X3_holds d 0 0 ei g [.ref a0, .int x1] δ (D_X3_holds N g a0 x1 δ) := by
  refine CalD.of (by decide +kernel) (Nat.le_of_ble_eq_true rfl) hl ?_
  unfold D_X3_holds
  refine w_aload_n 0 0 (μ := m_X3_holds) (pc := 0) dX3_holds_0 rfl rfl ?_
  refine w_iload_n 1 1 (μ := m_X3_holds) (pc := 1) dX3_holds_1 rfl rfl ?_
  refine w_callV (As := [.int x1]) (rest := []) (μ := m_X3_holds) (pc := 2) dX3_holds_2 cv_X3_31 rfl rfl k0 (by decide) rfl (Nat.le_of_ble_eq_true rfl) (d' := d - 1) (by omega) he_i (c_X3_firstFrom wt hl (d := d - 1) (by omega) k0) (fun r_1 => ?_)
  refine w_istore_n [(2, .int r_1.1), (0, .ref a0), (1, .int x1)] (μ := m_X3_holds) (pc := 5) dX3_holds_5 rfl (by decide) rfl ?_
  refine w_iload_n 0 2 (μ := m_X3_holds) (pc := 6) dX3_holds_6 rfl rfl ?_
  refine w_aload_n 1 0 (μ := m_X3_holds) (pc := 7) dX3_holds_7 rfl rfl ?_
  refine w_getI (μ := m_X3_holds) (pc := 8) dX3_holds_8 fl_X3_15 ir_3_1 k0 ?_
  refine w_icmp_ge 28 (μ := m_X3_holds) (pc := 11) dX3_holds_11 (by decide) (fun c_2 => ?_) (fun c_2 => ?_)
  · refine w_lv [] rfl ?_
    exact t_J_X3_holds_28 wt hl (by omega) k0 _
  · refine w_aload_n 1 0 (μ := m_X3_holds) (pc := 14) dX3_holds_14 rfl rfl ?_
    refine w_getO (μ := m_X3_holds) (pc := 15) dX3_holds_15 fl_X3_9 ir_3_0 id_3_0 k0 (fun b_3 e_4 => ?_)
    refine w_iload_n 0 2 (μ := m_X3_holds) (pc := 18) dX3_holds_18 rfl rfl ?_
    refine w_ald (μ := m_X3_holds) (pc := 19) dX3_holds_19 (wt_3_0 wt k0 e_4) ?_
    refine w_iload_n 2 1 (μ := m_X3_holds) (pc := 20) dX3_holds_20 rfl rfl ?_
    refine w_icmp_ne 28 (μ := m_X3_holds) (pc := 21) dX3_holds_21 (by decide) (fun c_5 => ?_) (fun c_5 => ?_)
    · refine w_lv [] rfl ?_
      exact t_J_X3_holds_28 wt hl (by omega) k0 _
    · refine w_iconst (v := 1) (μ := m_X3_holds) (pc := 24) dX3_holds_24 (by decide) ?_
      refine w_goto 29 (μ := m_X3_holds) (pc := 25) dX3_holds_25 (by decide) ?_
      refine w_lv [] rfl ?_
      exact t_J_X3_holds_29 wt hl (by omega) k0 _ _
def D_X3_above (N : Nat) (g : gp) (a0 : Nat) (x1 : Int32) (δ : dp) : Option (Int32 × dp) :=
  (D_X3_firstFrom N g a0 (x1 + 1) δ).bind fun r_1 => (D_X3_at N g a0 r_1.1 r_1.2).bind fun r_2 => some (r_2.1, r_2.2)
set_option maxHeartbeats 4000000 in
set_option maxRecDepth 100000 in
theorem c_X3_above {l : Launch} {D : va_G} {cy : Nat → ClassId} {N d : Nat} {g : gp} (wt : WT g) (hl : l.stackTraces = false) (hd : 2 ≤ d) {a0 : Nat} {x1 : Int32} {δ : dp} (k0 : q_K g a0 = 3) : CalD l D cy m_X3_above d 0 0 ei g [.ref a0, .int x1] δ (D_X3_above N g a0 x1 δ) := by
  refine CalD.of (by decide +kernel) (Nat.le_of_ble_eq_true rfl) hl ?_
  unfold D_X3_above
  refine w_aload_n 0 0 (μ := m_X3_above) (pc := 0) dX3_above_0 rfl rfl ?_
  refine w_aload_n 0 0 (μ := m_X3_above) (pc := 1) dX3_above_1 rfl rfl ?_
  refine w_iload_n 1 1 (μ := m_X3_above) (pc := 2) dX3_above_2 rfl rfl ?_
  refine w_iconst (v := 1) (μ := m_X3_above) (pc := 3) dX3_above_3 (by decide) ?_
  refine w_iadd (μ := m_X3_above) (pc := 4) dX3_above_4 ?_
  refine w_callV (As := [.int (x1 + 1)]) (rest := [.ref a0]) (μ := m_X3_above) (pc := 5) dX3_above_5 cv_X3_31 rfl rfl k0 (by decide) rfl (Nat.le_of_ble_eq_true rfl) (d' := d - 1) (by omega) he_i (c_X3_firstFrom wt hl (d := d - 1) (by omega) k0) (fun r_1 => ?_)
  refine w_callV (As := [.int r_1.1]) (rest := []) (μ := m_X3_above) (pc := 8) dX3_above_8 cv_X3_35 rfl rfl k0 (by decide) rfl (Nat.le_of_ble_eq_true rfl) (d' := d - 1) (by omega) he_i (c_X3_at wt hl (d := d - 1) (by omega) k0) (fun r_2 => ?_)
  exact w_iret (μ := m_X3_above) (pc := 11) dX3_above_11 rfl rfl
def D_X3_below (N : Nat) (g : gp) (a0 : Nat) (x1 : Int32) (δ : dp) : Option (Int32 × dp) :=
  (D_X3_firstFrom N g a0 x1 δ).bind fun r_1 => (D_X3_at N g a0 (r_1.1 - 1) r_1.2).bind fun r_2 => some (r_2.1, r_2.2)
set_option maxHeartbeats 4000000 in
set_option maxRecDepth 100000 in
theorem c_X3_below {l : Launch} {D : va_G} {cy : Nat → ClassId} {N d : Nat} {g : gp} (wt : WT g) (hl : l.stackTraces = false) (hd : 2 ≤ d) {a0 : Nat} {x1 : Int32} {δ : dp} (k0 : q_K g a0 = 3) : CalD l D cy m_X3_below d 0 0 ei g [.ref a0, .int x1] δ (D_X3_below N g a0 x1 δ) := by
  refine CalD.of (by decide +kernel) (Nat.le_of_ble_eq_true rfl) hl ?_
  unfold D_X3_below
  refine w_aload_n 0 0 (μ := m_X3_below) (pc := 0) dX3_below_0 rfl rfl ?_
  refine w_aload_n 0 0 (μ := m_X3_below) (pc := 1) dX3_below_1 rfl rfl ?_
  refine w_iload_n 1 1 (μ := m_X3_below) (pc := 2) dX3_below_2 rfl rfl ?_
  refine w_callV (As := [.int x1]) (rest := [.ref a0]) (μ := m_X3_below) (pc := 3) dX3_below_3 cv_X3_31 rfl rfl k0 (by decide) rfl (Nat.le_of_ble_eq_true rfl) (d' := d - 1) (by omega) he_i (c_X3_firstFrom wt hl (d := d - 1) (by omega) k0) (fun r_1 => ?_)
  refine w_iconst (v := 1) (μ := m_X3_below) (pc := 6) dX3_below_6 (by decide) ?_
  refine w_isub (μ := m_X3_below) (pc := 7) dX3_below_7 ?_
  refine w_callV (As := [.int (r_1.1 - 1)]) (rest := []) (μ := m_X3_below) (pc := 8) dX3_below_8 cv_X3_35 rfl rfl k0 (by decide) rfl (Nat.le_of_ble_eq_true rfl) (d' := d - 1) (by omega) he_i (c_X3_at wt hl (d := d - 1) (by omega) k0) (fun r_2 => ?_)
  exact w_iret (μ := m_X3_below) (pc := 11) dX3_below_11 rfl rfl
def J_X3_tell_34 (N : Nat) (g : gp) (a0 : Nat) (x1 : Int32) (xs0 : Int32) (δ : dp) : Option (Int32 × dp) :=
  some (xs0, δ)
set_option maxHeartbeats 4000000 in
set_option maxRecDepth 100000 in
theorem t_J_X3_tell_34 {l : Launch} {D : va_G} {cy : Nat → ClassId} {N d : Nat} {g : gp} (wt : WT g) (hl : l.stackTraces = false) (hd : 2 ≤ d) {a0 : Nat} {x1 : Int32} (k0 : q_K g a0 = 3) : ∀ (xs0 : Int32) (δ : dp), AWD l D cy m_X3_tell d 0 0 ei g 34 [] [.int xs0] δ (J_X3_tell_34 N g a0 x1 xs0 δ) := by
    intro xs0 δ 
    unfold J_X3_tell_34
    exact w_iret (μ := m_X3_tell) (pc := 34) dX3_tell_34 rfl rfl
def D_X3_tell (N : Nat) (g : gp) (a0 : Nat) (x1 : Int32) (δ : dp) : Option (Int32 × dp) :=
  if x1 = 0 then (J_X3_tell_34 N g a0 x1 (q_I δ 3 1 a0) δ) else (if x1 = (1 : Int32) then ((D_X3_at N g a0 0 δ).bind fun r_4 => J_X3_tell_34 N g a0 x1 r_4.1 r_4.2) else ((D_X3_at N g a0 ((q_I δ 3 1 a0) - 1) δ).bind fun r_3 => J_X3_tell_34 N g a0 x1 r_3.1 r_3.2))
set_option maxHeartbeats 4000000 in
set_option maxRecDepth 100000 in
theorem c_X3_tell {l : Launch} {D : va_G} {cy : Nat → ClassId} {N d : Nat} {g : gp} (wt : WT g) (hl : l.stackTraces = false) (hd : 2 ≤ d) {a0 : Nat} {x1 : Int32} {δ : dp} (k0 : q_K g a0 = 3) : CalD l D cy m_X3_tell d 0 0 ei g [.ref a0, .int x1] δ (D_X3_tell N g a0 x1 δ) := by
  refine CalD.of (by decide +kernel) (Nat.le_of_ble_eq_true rfl) hl ?_
  unfold D_X3_tell
  refine w_iload_n 1 1 (μ := m_X3_tell) (pc := 0) dX3_tell_0 rfl rfl ?_
  refine w_if_ne 11 (μ := m_X3_tell) (pc := 1) dX3_tell_1 (by decide) (fun c_1 => ?_) (fun c_1 => ?_)
  · refine w_iload_n 1 1 (μ := m_X3_tell) (pc := 11) dX3_tell_11 rfl rfl ?_
    refine w_iconst (v := 1) (μ := m_X3_tell) (pc := 12) dX3_tell_12 (by decide) ?_
    refine w_icmp_ne 24 (μ := m_X3_tell) (pc := 13) dX3_tell_13 (by decide) (fun c_2 => ?_) (fun c_2 => ?_)
    · refine w_aload_n 0 0 (μ := m_X3_tell) (pc := 24) dX3_tell_24 rfl rfl ?_
      refine w_aload_n 0 0 (μ := m_X3_tell) (pc := 25) dX3_tell_25 rfl rfl ?_
      refine w_getI (μ := m_X3_tell) (pc := 26) dX3_tell_26 fl_X3_15 ir_3_1 k0 ?_
      refine w_iconst (v := 1) (μ := m_X3_tell) (pc := 29) dX3_tell_29 (by decide) ?_
      refine w_isub (μ := m_X3_tell) (pc := 30) dX3_tell_30 ?_
      refine w_callV (As := [.int ((q_I δ 3 1 a0) - 1)]) (rest := []) (μ := m_X3_tell) (pc := 31) dX3_tell_31 cv_X3_35 rfl rfl k0 (by decide) rfl (Nat.le_of_ble_eq_true rfl) (d' := d - 1) (by omega) he_i (c_X3_at wt hl (d := d - 1) (by omega) k0) (fun r_3 => ?_)
      refine w_lv [] rfl ?_
      exact t_J_X3_tell_34 wt hl (by omega) k0 _ _
    · refine w_aload_n 0 0 (μ := m_X3_tell) (pc := 16) dX3_tell_16 rfl rfl ?_
      refine w_iconst (v := 0) (μ := m_X3_tell) (pc := 17) dX3_tell_17 (by decide) ?_
      refine w_callV (As := [.int 0]) (rest := []) (μ := m_X3_tell) (pc := 18) dX3_tell_18 cv_X3_35 rfl rfl k0 (by decide) rfl (Nat.le_of_ble_eq_true rfl) (d' := d - 1) (by omega) he_i (c_X3_at wt hl (d := d - 1) (by omega) k0) (fun r_4 => ?_)
      refine w_goto 34 (μ := m_X3_tell) (pc := 21) dX3_tell_21 (by decide) ?_
      refine w_lv [] rfl ?_
      exact t_J_X3_tell_34 wt hl (by omega) k0 _ _
  · refine w_aload_n 0 0 (μ := m_X3_tell) (pc := 4) dX3_tell_4 rfl rfl ?_
    refine w_getI (μ := m_X3_tell) (pc := 5) dX3_tell_5 fl_X3_15 ir_3_1 k0 ?_
    refine w_goto 34 (μ := m_X3_tell) (pc := 8) dX3_tell_8 (by decide) ?_
    refine w_lv [] rfl ?_
    exact t_J_X3_tell_34 wt hl (by omega) k0 _ _
def J_X3_add_36 (N : Nat) (g : gp) (a0 : Nat) (x1 : Int32) (δ : dp) : Option (Int32 × dp) :=
  if (0 : Int32) = 0 ∨ (0 : Int32) = 1 then some (0, δ) else none
set_option maxHeartbeats 4000000 in
set_option maxRecDepth 100000 in
theorem t_J_X3_add_36 {l : Launch} {D : va_G} {cy : Nat → ClassId} {N d : Nat} {g : gp} (wt : WT g) (hl : l.stackTraces = false) (hd : 2 ≤ d) {a0 : Nat} {x1 : Int32} (k0 : q_K g a0 = 3) : ∀ (δ : dp), AWD l D cy m_X3_add d 0 0 ei g 36 [] [] δ (J_X3_add_36 N g a0 x1 δ) := by
    intro  δ 
    unfold J_X3_add_36
    refine w_iconst (v := 0) (μ := m_X3_add) (pc := 36) dX3_add_36 (by decide) ?_
    exact w_zret (μ := m_X3_add) (pc := 37) dX3_add_37 rfl rfl
def J_X3_add_24 (N : Nat) (g : gp) (a0 : Nat) (x1 : Int32) (x2v : Int32) (δ : dp) : Option (Int32 × dp) :=
  (q_O g 3 0 a0).bind fun b_3 => if (q_I δ 3 1 a0) < (Int32.ofNat (q_N g b_3)) then ((q_O g 3 0 a0).bind fun b_6 => (q_O g 3 0 a0).bind fun b_8 => if x2v < 0 ∨ (x2v + 1) < 0 ∨ ((q_I δ 3 1 a0) - x2v) < 0 ∨ q_N g b_6 < x2v.toNatClampNeg + ((q_I δ 3 1 a0) - x2v).toNatClampNeg ∨ q_N g b_8 < (x2v + 1).toNatClampNeg + ((q_I δ 3 1 a0) - x2v).toNatClampNeg then none else bd (s_C δ b_6 b_8 x2v.toNatClampNeg (x2v + 1).toNatClampNeg ((q_I δ 3 1 a0) - x2v).toNatClampNeg) fun δ_10 => (q_O g 3 0 a0).bind fun b_12 => if x2v < 0 ∨ q_N g b_12 ≤ x2v.toNatClampNeg then none else bd (s_R δ_10 b_12 x2v.toNatClampNeg x1) fun δ_14 => bd (s_I δ_14 3 1 a0 ((q_I δ_14 3 1 a0) + 1)) fun δ_16 => if (1 : Int32) = 0 ∨ (1 : Int32) = 1 then some (1, δ_16) else none) else (J_X3_add_36 N g a0 x1 δ)
set_option maxHeartbeats 4000000 in
set_option maxRecDepth 100000 in
theorem t_J_X3_add_24 {l : Launch} {D : va_G} {cy : Nat → ClassId} {N d : Nat} {g : gp} (wt : WT g) (hl : l.stackTraces = false) (hd : 2 ≤ d) {a0 : Nat} {x1 : Int32} (k0 : q_K g a0 = 3) : ∀ (x2v : Int32) (δ : dp), AWD l D cy m_X3_add d 0 0 ei g 24 [(0, .ref a0), (1, .int x1), (2, .int x2v)] [] δ (J_X3_add_24 N g a0 x1 x2v δ) := by
    intro x2v δ 
    unfold J_X3_add_24
    refine w_aload_n 0 0 (μ := m_X3_add) (pc := 24) dX3_add_24 rfl rfl ?_
    refine w_getI (μ := m_X3_add) (pc := 25) dX3_add_25 fl_X3_15 ir_3_1 k0 ?_
    refine w_aload_n 0 0 (μ := m_X3_add) (pc := 28) dX3_add_28 rfl rfl ?_
    refine w_getO (μ := m_X3_add) (pc := 29) dX3_add_29 fl_X3_9 ir_3_0 id_3_0 k0 (fun b_3 e_4 => ?_)
    refine w_alen 0 (ty := .int) (μ := m_X3_add) (pc := 32) dX3_add_32 (wt_3_0 wt k0 e_4) rfl (by decide) ?_
    refine w_icmp_lt 38 (μ := m_X3_add) (pc := 33) dX3_add_33 (by decide) (fun c_5 => ?_) (fun c_5 => ?_)
    · refine w_aload_n 0 0 (μ := m_X3_add) (pc := 38) dX3_add_38 rfl rfl ?_
      refine w_getO (μ := m_X3_add) (pc := 39) dX3_add_39 fl_X3_9 ir_3_0 id_3_0 k0 (fun b_6 e_7 => ?_)
      refine w_iload_n 2 2 (μ := m_X3_add) (pc := 42) dX3_add_42 rfl rfl ?_
      refine w_aload_n 0 0 (μ := m_X3_add) (pc := 43) dX3_add_43 rfl rfl ?_
      refine w_getO (μ := m_X3_add) (pc := 44) dX3_add_44 fl_X3_9 ir_3_0 id_3_0 k0 (fun b_8 e_9 => ?_)
      refine w_iload_n 2 2 (μ := m_X3_add) (pc := 47) dX3_add_47 rfl rfl ?_
      refine w_iconst (v := 1) (μ := m_X3_add) (pc := 48) dX3_add_48 (by decide) ?_
      refine w_iadd (μ := m_X3_add) (pc := 49) dX3_add_49 ?_
      refine w_aload_n 0 0 (μ := m_X3_add) (pc := 50) dX3_add_50 rfl rfl ?_
      refine w_getI (μ := m_X3_add) (pc := 51) dX3_add_51 fl_X3_15 ir_3_1 k0 ?_
      refine w_iload_n 2 2 (μ := m_X3_add) (pc := 54) dX3_add_54 rfl rfl ?_
      refine w_isub (μ := m_X3_add) (pc := 55) dX3_add_55 ?_
      refine w_copy (μ := m_X3_add) (pc := 56) dX3_add_56 cp_X3_25 (wt_3_0 wt k0 e_7) (wt_3_0 wt k0 e_9) (by omega) (Nat.le_of_ble_eq_true rfl) ?_
      refine w_bd (fun δ_10 e_11 => ?_)
      refine w_aload_n 0 0 (μ := m_X3_add) (pc := 59) dX3_add_59 rfl rfl ?_
      refine w_getO (μ := m_X3_add) (pc := 60) dX3_add_60 fl_X3_9 ir_3_0 id_3_0 k0 (fun b_12 e_13 => ?_)
      refine w_iload_n 2 2 (μ := m_X3_add) (pc := 63) dX3_add_63 rfl rfl ?_
      refine w_iload_n 1 1 (μ := m_X3_add) (pc := 64) dX3_add_64 rfl rfl ?_
      refine w_ast (μ := m_X3_add) (pc := 65) dX3_add_65 (wt_3_0 wt k0 e_13) ?_
      refine w_bd (fun δ_14 e_15 => ?_)
      refine w_aload_n 0 0 (μ := m_X3_add) (pc := 66) dX3_add_66 rfl rfl ?_
      refine w_dup (μ := m_X3_add) (pc := 67) dX3_add_67 rfl ?_
      refine w_getI (μ := m_X3_add) (pc := 68) dX3_add_68 fl_X3_15 ir_3_1 k0 ?_
      refine w_iconst (v := 1) (μ := m_X3_add) (pc := 71) dX3_add_71 (by decide) ?_
      refine w_iadd (μ := m_X3_add) (pc := 72) dX3_add_72 ?_
      refine w_putI (μ := m_X3_add) (pc := 73) dX3_add_73 fl_X3_15 flw_3_1 ir_3_1 k0 ?_
      refine w_bd (fun δ_16 e_17 => ?_)
      refine w_iconst (v := 1) (μ := m_X3_add) (pc := 76) dX3_add_76 (by decide) ?_
      exact w_zret (μ := m_X3_add) (pc := 77) dX3_add_77 rfl rfl
    · refine w_lv [] rfl ?_
      exact t_J_X3_add_36 wt hl (by omega) k0 _
def D_X3_add (N : Nat) (g : gp) (a0 : Nat) (x1 : Int32) (δ : dp) : Option (Int32 × dp) :=
  (D_X3_firstFrom N g a0 x1 δ).bind fun r_1 => if (q_I r_1.2 3 1 a0) ≤ r_1.1 then (J_X3_add_24 N g a0 x1 r_1.1 r_1.2) else ((q_O g 3 0 a0).bind fun b_18 => if r_1.1 < 0 ∨ q_N g b_18 ≤ r_1.1.toNatClampNeg then none else if (q_R r_1.2 b_18 r_1.1.toNatClampNeg) = x1 then (J_X3_add_36 N g a0 x1 r_1.2) else (J_X3_add_24 N g a0 x1 r_1.1 r_1.2))
set_option maxHeartbeats 4000000 in
set_option maxRecDepth 100000 in
theorem c_X3_add {l : Launch} {D : va_G} {cy : Nat → ClassId} {N d : Nat} {g : gp} (wt : WT g) (hl : l.stackTraces = false) (hd : 2 ≤ d) {a0 : Nat} {x1 : Int32} {δ : dp} (k0 : q_K g a0 = 3) : CalD l D cy m_X3_add d 0 0 ei g [.ref a0, .int x1] δ (D_X3_add N g a0 x1 δ) := by
  refine CalD.of (by decide +kernel) (Nat.le_of_ble_eq_true rfl) hl ?_
  unfold D_X3_add
  refine w_aload_n 0 0 (μ := m_X3_add) (pc := 0) dX3_add_0 rfl rfl ?_
  refine w_iload_n 1 1 (μ := m_X3_add) (pc := 1) dX3_add_1 rfl rfl ?_
  refine w_callV (As := [.int x1]) (rest := []) (μ := m_X3_add) (pc := 2) dX3_add_2 cv_X3_31 rfl rfl k0 (by decide) rfl (Nat.le_of_ble_eq_true rfl) (d' := d - 1) (by omega) he_i (c_X3_firstFrom wt hl (d := d - 1) (by omega) k0) (fun r_1 => ?_)
  refine w_istore_n [(2, .int r_1.1), (0, .ref a0), (1, .int x1)] (μ := m_X3_add) (pc := 5) dX3_add_5 rfl (by decide) rfl ?_
  refine w_iload_n 0 2 (μ := m_X3_add) (pc := 6) dX3_add_6 rfl rfl ?_
  refine w_aload_n 1 0 (μ := m_X3_add) (pc := 7) dX3_add_7 rfl rfl ?_
  refine w_getI (μ := m_X3_add) (pc := 8) dX3_add_8 fl_X3_15 ir_3_1 k0 ?_
  refine w_icmp_ge 24 (μ := m_X3_add) (pc := 11) dX3_add_11 (by decide) (fun c_2 => ?_) (fun c_2 => ?_)
  · refine w_lv [1, 2, 0] rfl ?_
    exact t_J_X3_add_24 wt hl (by omega) k0 _ _
  · refine w_aload_n 1 0 (μ := m_X3_add) (pc := 14) dX3_add_14 rfl rfl ?_
    refine w_getO (μ := m_X3_add) (pc := 15) dX3_add_15 fl_X3_9 ir_3_0 id_3_0 k0 (fun b_18 e_19 => ?_)
    refine w_iload_n 0 2 (μ := m_X3_add) (pc := 18) dX3_add_18 rfl rfl ?_
    refine w_ald (μ := m_X3_add) (pc := 19) dX3_add_19 (wt_3_0 wt k0 e_19) ?_
    refine w_iload_n 2 1 (μ := m_X3_add) (pc := 20) dX3_add_20 rfl rfl ?_
    refine w_icmp_eq 36 (μ := m_X3_add) (pc := 21) dX3_add_21 (by decide) (fun c_20 => ?_) (fun c_20 => ?_)
    · refine w_lv [] rfl ?_
      exact t_J_X3_add_36 wt hl (by omega) k0 _
    · refine w_lv [1, 2, 0] rfl ?_
      exact t_J_X3_add_24 wt hl (by omega) k0 _ _
def J_X3_remove_24 (N : Nat) (g : gp) (a0 : Nat) (x1 : Int32) (δ : dp) : Option (Int32 × dp) :=
  if (0 : Int32) = 0 ∨ (0 : Int32) = 1 then some (0, δ) else none
set_option maxHeartbeats 4000000 in
set_option maxRecDepth 100000 in
theorem t_J_X3_remove_24 {l : Launch} {D : va_G} {cy : Nat → ClassId} {N d : Nat} {g : gp} (wt : WT g) (hl : l.stackTraces = false) (hd : 2 ≤ d) {a0 : Nat} {x1 : Int32} (k0 : q_K g a0 = 3) : ∀ (δ : dp), AWD l D cy m_X3_remove d 0 0 ei g 24 [] [] δ (J_X3_remove_24 N g a0 x1 δ) := by
    intro  δ 
    unfold J_X3_remove_24
    refine w_iconst (v := 0) (μ := m_X3_remove) (pc := 24) dX3_remove_24 (by decide) ?_
    exact w_zret (μ := m_X3_remove) (pc := 25) dX3_remove_25 rfl rfl
def D_X3_remove (N : Nat) (g : gp) (a0 : Nat) (x1 : Int32) (δ : dp) : Option (Int32 × dp) :=
  (D_X3_firstFrom N g a0 x1 δ).bind fun r_1 => if (q_I r_1.2 3 1 a0) ≤ r_1.1 then (J_X3_remove_24 N g a0 x1 r_1.2) else ((q_O g 3 0 a0).bind fun b_3 => if r_1.1 < 0 ∨ q_N g b_3 ≤ r_1.1.toNatClampNeg then none else if (q_R r_1.2 b_3 r_1.1.toNatClampNeg) = x1 then (bd (s_I r_1.2 3 1 a0 ((q_I r_1.2 3 1 a0) - 1)) fun δ_6 => (q_O g 3 0 a0).bind fun b_8 => (q_O g 3 0 a0).bind fun b_10 => if (r_1.1 + 1) < 0 ∨ r_1.1 < 0 ∨ ((q_I δ_6 3 1 a0) - r_1.1) < 0 ∨ q_N g b_8 < (r_1.1 + 1).toNatClampNeg + ((q_I δ_6 3 1 a0) - r_1.1).toNatClampNeg ∨ q_N g b_10 < r_1.1.toNatClampNeg + ((q_I δ_6 3 1 a0) - r_1.1).toNatClampNeg then none else bd (s_C δ_6 b_8 b_10 (r_1.1 + 1).toNatClampNeg r_1.1.toNatClampNeg ((q_I δ_6 3 1 a0) - r_1.1).toNatClampNeg) fun δ_12 => if (1 : Int32) = 0 ∨ (1 : Int32) = 1 then some (1, δ_12) else none) else (J_X3_remove_24 N g a0 x1 r_1.2))
set_option maxHeartbeats 4000000 in
set_option maxRecDepth 100000 in
theorem c_X3_remove {l : Launch} {D : va_G} {cy : Nat → ClassId} {N d : Nat} {g : gp} (wt : WT g) (hl : l.stackTraces = false) (hd : 2 ≤ d) {a0 : Nat} {x1 : Int32} {δ : dp} (k0 : q_K g a0 = 3) : CalD l D cy m_X3_remove d 0 0 ei g [.ref a0, .int x1] δ (D_X3_remove N g a0 x1 δ) := by
  refine CalD.of (by decide +kernel) (Nat.le_of_ble_eq_true rfl) hl ?_
  unfold D_X3_remove
  refine w_aload_n 0 0 (μ := m_X3_remove) (pc := 0) dX3_remove_0 rfl rfl ?_
  refine w_iload_n 1 1 (μ := m_X3_remove) (pc := 1) dX3_remove_1 rfl rfl ?_
  refine w_callV (As := [.int x1]) (rest := []) (μ := m_X3_remove) (pc := 2) dX3_remove_2 cv_X3_31 rfl rfl k0 (by decide) rfl (Nat.le_of_ble_eq_true rfl) (d' := d - 1) (by omega) he_i (c_X3_firstFrom wt hl (d := d - 1) (by omega) k0) (fun r_1 => ?_)
  refine w_istore_n [(2, .int r_1.1), (0, .ref a0), (1, .int x1)] (μ := m_X3_remove) (pc := 5) dX3_remove_5 rfl (by decide) rfl ?_
  refine w_iload_n 0 2 (μ := m_X3_remove) (pc := 6) dX3_remove_6 rfl rfl ?_
  refine w_aload_n 1 0 (μ := m_X3_remove) (pc := 7) dX3_remove_7 rfl rfl ?_
  refine w_getI (μ := m_X3_remove) (pc := 8) dX3_remove_8 fl_X3_15 ir_3_1 k0 ?_
  refine w_icmp_ge 24 (μ := m_X3_remove) (pc := 11) dX3_remove_11 (by decide) (fun c_2 => ?_) (fun c_2 => ?_)
  · refine w_lv [] rfl ?_
    exact t_J_X3_remove_24 wt hl (by omega) k0 _
  · refine w_aload_n 1 0 (μ := m_X3_remove) (pc := 14) dX3_remove_14 rfl rfl ?_
    refine w_getO (μ := m_X3_remove) (pc := 15) dX3_remove_15 fl_X3_9 ir_3_0 id_3_0 k0 (fun b_3 e_4 => ?_)
    refine w_iload_n 0 2 (μ := m_X3_remove) (pc := 18) dX3_remove_18 rfl rfl ?_
    refine w_ald (μ := m_X3_remove) (pc := 19) dX3_remove_19 (wt_3_0 wt k0 e_4) ?_
    refine w_iload_n 2 1 (μ := m_X3_remove) (pc := 20) dX3_remove_20 rfl rfl ?_
    refine w_icmp_eq 26 (μ := m_X3_remove) (pc := 21) dX3_remove_21 (by decide) (fun c_5 => ?_) (fun c_5 => ?_)
    · refine w_aload_n 1 0 (μ := m_X3_remove) (pc := 26) dX3_remove_26 rfl rfl ?_
      refine w_dup (μ := m_X3_remove) (pc := 27) dX3_remove_27 rfl ?_
      refine w_getI (μ := m_X3_remove) (pc := 28) dX3_remove_28 fl_X3_15 ir_3_1 k0 ?_
      refine w_iconst (v := 1) (μ := m_X3_remove) (pc := 31) dX3_remove_31 (by decide) ?_
      refine w_isub (μ := m_X3_remove) (pc := 32) dX3_remove_32 ?_
      refine w_putI (μ := m_X3_remove) (pc := 33) dX3_remove_33 fl_X3_15 flw_3_1 ir_3_1 k0 ?_
      refine w_bd (fun δ_6 e_7 => ?_)
      refine w_aload_n 1 0 (μ := m_X3_remove) (pc := 36) dX3_remove_36 rfl rfl ?_
      refine w_getO (μ := m_X3_remove) (pc := 37) dX3_remove_37 fl_X3_9 ir_3_0 id_3_0 k0 (fun b_8 e_9 => ?_)
      refine w_iload_n 0 2 (μ := m_X3_remove) (pc := 40) dX3_remove_40 rfl rfl ?_
      refine w_iconst (v := 1) (μ := m_X3_remove) (pc := 41) dX3_remove_41 (by decide) ?_
      refine w_iadd (μ := m_X3_remove) (pc := 42) dX3_remove_42 ?_
      refine w_aload_n 1 0 (μ := m_X3_remove) (pc := 43) dX3_remove_43 rfl rfl ?_
      refine w_getO (μ := m_X3_remove) (pc := 44) dX3_remove_44 fl_X3_9 ir_3_0 id_3_0 k0 (fun b_10 e_11 => ?_)
      refine w_iload_n 0 2 (μ := m_X3_remove) (pc := 47) dX3_remove_47 rfl rfl ?_
      refine w_aload_n 1 0 (μ := m_X3_remove) (pc := 48) dX3_remove_48 rfl rfl ?_
      refine w_getI (μ := m_X3_remove) (pc := 49) dX3_remove_49 fl_X3_15 ir_3_1 k0 ?_
      refine w_iload_n 0 2 (μ := m_X3_remove) (pc := 52) dX3_remove_52 rfl rfl ?_
      refine w_isub (μ := m_X3_remove) (pc := 53) dX3_remove_53 ?_
      refine w_copy (μ := m_X3_remove) (pc := 54) dX3_remove_54 cp_X3_25 (wt_3_0 wt k0 e_9) (wt_3_0 wt k0 e_11) (by omega) (Nat.le_of_ble_eq_true rfl) ?_
      refine w_bd (fun δ_12 e_13 => ?_)
      refine w_iconst (v := 1) (μ := m_X3_remove) (pc := 57) dX3_remove_57 (by decide) ?_
      exact w_zret (μ := m_X3_remove) (pc := 58) dX3_remove_58 rfl rfl
    · refine w_lv [] rfl ?_
      exact t_J_X3_remove_24 wt hl (by omega) k0 _
def J_X3_answer_62 (N : Nat) (g : gp) (a0 : Nat) (x1 : Int32) (x2 : Int32) (xs0 : Int32) (δ : dp) : Option (Int32 × dp) :=
  some (xs0, δ)
set_option maxHeartbeats 4000000 in
set_option maxRecDepth 100000 in
theorem t_J_X3_answer_62 {l : Launch} {D : va_G} {cy : Nat → ClassId} {N d : Nat} {g : gp} (wt : WT g) (hl : l.stackTraces = false) (hd : 3 ≤ d) {a0 : Nat} {x1 : Int32} {x2 : Int32} (k0 : q_K g a0 = 3) : ∀ (xs0 : Int32) (δ : dp), AWD l D cy m_X3_answer d 0 0 ei g 62 [] [.int xs0] δ (J_X3_answer_62 N g a0 x1 x2 xs0 δ) := by
    intro xs0 δ 
    unfold J_X3_answer_62
    exact w_iret (μ := m_X3_answer) (pc := 62) dX3_answer_62 rfl rfl
def J_X3_answer_52 (N : Nat) (g : gp) (a0 : Nat) (x1 : Int32) (x2 : Int32) (xs0 : Int32) (δ : dp) : Option (Int32 × dp) :=
  if xs0 = 0 then (J_X3_answer_62 N g a0 x1 x2 0 δ) else (J_X3_answer_62 N g a0 x1 x2 1 δ)
set_option maxHeartbeats 4000000 in
set_option maxRecDepth 100000 in
theorem t_J_X3_answer_52 {l : Launch} {D : va_G} {cy : Nat → ClassId} {N d : Nat} {g : gp} (wt : WT g) (hl : l.stackTraces = false) (hd : 3 ≤ d) {a0 : Nat} {x1 : Int32} {x2 : Int32} (k0 : q_K g a0 = 3) : ∀ (xs0 : Int32) (δ : dp), AWD l D cy m_X3_answer d 0 0 ei g 52 [] [.int xs0] δ (J_X3_answer_52 N g a0 x1 x2 xs0 δ) := by
    intro xs0 δ 
    unfold J_X3_answer_52
    refine w_istore_n [(3, .int xs0)] (μ := m_X3_answer) (pc := 52) dX3_answer_52 rfl (by decide) rfl ?_
    refine w_iload_n 0 3 (μ := m_X3_answer) (pc := 53) dX3_answer_53 rfl rfl ?_
    refine w_if_eq 61 (μ := m_X3_answer) (pc := 54) dX3_answer_54 (by decide) (fun c_6 => ?_) (fun c_6 => ?_)
    · refine w_iconst (v := 0) (μ := m_X3_answer) (pc := 61) dX3_answer_61 (by decide) ?_
      refine w_lv [] rfl ?_
      exact t_J_X3_answer_62 wt hl (by omega) k0 _ _
    · refine w_iconst (v := 1) (μ := m_X3_answer) (pc := 57) dX3_answer_57 (by decide) ?_
      refine w_goto 62 (μ := m_X3_answer) (pc := 58) dX3_answer_58 (by decide) ?_
      refine w_lv [] rfl ?_
      exact t_J_X3_answer_62 wt hl (by omega) k0 _ _
def D_X3_answer (N : Nat) (g : gp) (a0 : Nat) (x1 : Int32) (x2 : Int32) (δ : dp) : Option (Int32 × dp) :=
  if x1 = (3 : Int32) then ((D_X3_above N g a0 x2 δ).bind fun r_10 => some (r_10.1, r_10.2)) else (if x1 = (4 : Int32) then ((D_X3_below N g a0 x2 δ).bind fun r_9 => some (r_9.1, r_9.2)) else (if x1 = 0 then ((D_X3_add N g a0 x2 δ).bind fun r_8 => J_X3_answer_52 N g a0 x1 x2 r_8.1 r_8.2) else (if x1 = (1 : Int32) then ((D_X3_remove N g a0 x2 δ).bind fun r_7 => J_X3_answer_52 N g a0 x1 x2 r_7.1 r_7.2) else ((D_X3_holds N g a0 x2 δ).bind fun r_5 => J_X3_answer_52 N g a0 x1 x2 r_5.1 r_5.2))))
set_option maxHeartbeats 4000000 in
set_option maxRecDepth 100000 in
theorem c_X3_answer {l : Launch} {D : va_G} {cy : Nat → ClassId} {N d : Nat} {g : gp} (wt : WT g) (hl : l.stackTraces = false) (hd : 3 ≤ d) {a0 : Nat} {x1 : Int32} {x2 : Int32} {δ : dp} (k0 : q_K g a0 = 3) : CalD l D cy m_X3_answer d 0 0 ei g [.ref a0, .int x1, .int x2] δ (D_X3_answer N g a0 x1 x2 δ) := by
  refine CalD.of (by decide +kernel) (Nat.le_of_ble_eq_true rfl) hl ?_
  unfold D_X3_answer
  refine w_iload_n 1 1 (μ := m_X3_answer) (pc := 0) dX3_answer_0 rfl rfl ?_
  refine w_iconst (v := 3) (μ := m_X3_answer) (pc := 1) dX3_answer_1 (by decide) ?_
  refine w_icmp_ne 11 (μ := m_X3_answer) (pc := 2) dX3_answer_2 (by decide) (fun c_1 => ?_) (fun c_1 => ?_)
  · refine w_iload_n 1 1 (μ := m_X3_answer) (pc := 11) dX3_answer_11 rfl rfl ?_
    refine w_iconst (v := 4) (μ := m_X3_answer) (pc := 12) dX3_answer_12 (by decide) ?_
    refine w_icmp_ne 22 (μ := m_X3_answer) (pc := 13) dX3_answer_13 (by decide) (fun c_2 => ?_) (fun c_2 => ?_)
    · refine w_iload_n 1 1 (μ := m_X3_answer) (pc := 22) dX3_answer_22 rfl rfl ?_
      refine w_if_ne 34 (μ := m_X3_answer) (pc := 23) dX3_answer_23 (by decide) (fun c_3 => ?_) (fun c_3 => ?_)
      · refine w_iload_n 1 1 (μ := m_X3_answer) (pc := 34) dX3_answer_34 rfl rfl ?_
        refine w_iconst (v := 1) (μ := m_X3_answer) (pc := 35) dX3_answer_35 (by decide) ?_
        refine w_icmp_ne 47 (μ := m_X3_answer) (pc := 36) dX3_answer_36 (by decide) (fun c_4 => ?_) (fun c_4 => ?_)
        · refine w_aload_n 0 0 (μ := m_X3_answer) (pc := 47) dX3_answer_47 rfl rfl ?_
          refine w_iload_n 2 2 (μ := m_X3_answer) (pc := 48) dX3_answer_48 rfl rfl ?_
          refine w_callV (As := [.int x2]) (rest := []) (μ := m_X3_answer) (pc := 49) dX3_answer_49 cv_X3_51 rfl rfl k0 (by decide) rfl (Nat.le_of_ble_eq_true rfl) (d' := d - 1) (by omega) he_i (c_X3_holds wt hl (d := d - 1) (by omega) k0) (fun r_5 => ?_)
          refine w_lv [] rfl ?_
          exact t_J_X3_answer_52 wt hl (by omega) k0 _ _
        · refine w_aload_n 0 0 (μ := m_X3_answer) (pc := 39) dX3_answer_39 rfl rfl ?_
          refine w_iload_n 2 2 (μ := m_X3_answer) (pc := 40) dX3_answer_40 rfl rfl ?_
          refine w_callV (As := [.int x2]) (rest := []) (μ := m_X3_answer) (pc := 41) dX3_answer_41 cv_X3_48 rfl rfl k0 (by decide) rfl (Nat.le_of_ble_eq_true rfl) (d' := d - 1) (by omega) he_i (c_X3_remove wt hl (d := d - 1) (by omega) k0) (fun r_7 => ?_)
          refine w_goto 52 (μ := m_X3_answer) (pc := 44) dX3_answer_44 (by decide) ?_
          refine w_lv [] rfl ?_
          exact t_J_X3_answer_52 wt hl (by omega) k0 _ _
      · refine w_aload_n 0 0 (μ := m_X3_answer) (pc := 26) dX3_answer_26 rfl rfl ?_
        refine w_iload_n 2 2 (μ := m_X3_answer) (pc := 27) dX3_answer_27 rfl rfl ?_
        refine w_callV (As := [.int x2]) (rest := []) (μ := m_X3_answer) (pc := 28) dX3_answer_28 cv_X3_44 rfl rfl k0 (by decide) rfl (Nat.le_of_ble_eq_true rfl) (d' := d - 1) (by omega) he_i (c_X3_add wt hl (d := d - 1) (by omega) k0) (fun r_8 => ?_)
        refine w_goto 52 (μ := m_X3_answer) (pc := 31) dX3_answer_31 (by decide) ?_
        refine w_lv [] rfl ?_
        exact t_J_X3_answer_52 wt hl (by omega) k0 _ _
    · refine w_aload_n 0 0 (μ := m_X3_answer) (pc := 16) dX3_answer_16 rfl rfl ?_
      refine w_iload_n 2 2 (μ := m_X3_answer) (pc := 17) dX3_answer_17 rfl rfl ?_
      refine w_callV (As := [.int x2]) (rest := []) (μ := m_X3_answer) (pc := 18) dX3_answer_18 cv_X3_41 rfl rfl k0 (by decide) rfl (Nat.le_of_ble_eq_true rfl) (d' := d - 1) (by omega) he_i (c_X3_below wt hl (d := d - 1) (by omega) k0) (fun r_9 => ?_)
      exact w_iret (μ := m_X3_answer) (pc := 21) dX3_answer_21 rfl rfl
  · refine w_aload_n 0 0 (μ := m_X3_answer) (pc := 5) dX3_answer_5 rfl rfl ?_
    refine w_iload_n 2 2 (μ := m_X3_answer) (pc := 6) dX3_answer_6 rfl rfl ?_
    refine w_callV (As := [.int x2]) (rest := []) (μ := m_X3_answer) (pc := 7) dX3_answer_7 cv_X3_38 rfl rfl k0 (by decide) rfl (Nat.le_of_ble_eq_true rfl) (d' := d - 1) (by omega) he_i (c_X3_above wt hl (d := d - 1) (by omega) k0) (fun r_10 => ?_)
    exact w_iret (μ := m_X3_answer) (pc := 10) dX3_answer_10 rfl rfl
def J_X3_commonFrom_31 (N : Nat) (g : gp) (a0 : Nat) (x1 : Int32) (a2 : Nat) (kt5 : Int32 → Int32 → dp → Option (Int32 × dp)) (x3v : Int32) (x4v : Int32) (δ : dp) : Option (Int32 × dp) :=
  bi (x4v + 1) fun x_6 => kt5 x3v x_6 δ
set_option maxHeartbeats 4000000 in
set_option maxRecDepth 100000 in
theorem t_J_X3_commonFrom_31 {l : Launch} {D : va_G} {cy : Nat → ClassId} {N d : Nat} {g : gp} (wt : WT g) (hl : l.stackTraces = false) (hd : 3 ≤ d) {a0 : Nat} {x1 : Int32} {a2 : Nat} (k0 : q_K g a0 = 3) (k2 : q_K g a2 = 3) {kt5 : Int32 → Int32 → dp → Option (Int32 × dp)} (hk5 : ∀ (x3v : Int32) (x4v : Int32) (δ : dp), AWD l D cy m_X3_commonFrom d 0 0 ei g 5 [(0, .ref a0), (2, .ref a2), (3, .int x3v), (4, .int x4v)] [] δ (kt5 x3v x4v δ)) : ∀ (x3v : Int32) (x4v : Int32) (δ : dp), AWD l D cy m_X3_commonFrom d 0 0 ei g 31 [(0, .ref a0), (2, .ref a2), (3, .int x3v), (4, .int x4v)] [] δ (J_X3_commonFrom_31 N g a0 x1 a2 kt5 x3v x4v δ) := by
    intro x3v x4v δ 
    unfold J_X3_commonFrom_31
    refine w_inb (fun x_6 e_7 => ?_)
    refine w_iinc 3 [(4, .int x_6), (0, .ref a0), (2, .ref a2), (3, .int x3v)] (μ := m_X3_commonFrom) (pc := 31) dX3_commonFrom_31 rfl (by rw [e_7]; rfl) (by decide) rfl ?_
    refine w_goto 5 (μ := m_X3_commonFrom) (pc := 34) dX3_commonFrom_34 (by decide) ?_
    refine w_lv [1, 2, 3, 0] rfl ?_
    exact hk5 _ _ _
def L_X3_commonFrom_5 (N : Nat) (g : gp) (a0 : Nat) (x1 : Int32) (a2 : Nat) : Nat → Int32 → Int32 → dp → Option (Int32 × dp)
  | 0, _, _, _ => none
  | n + 1, x3v, x4v, δ => if (q_I δ 3 1 a0) ≤ x4v then (some (x3v, δ)) else ((q_O g 3 0 a0).bind fun b_2 => if x4v < 0 ∨ q_N g b_2 ≤ x4v.toNatClampNeg then none else (D_X3_holds N g a2 (q_R δ b_2 x4v.toNatClampNeg) δ).bind fun r_4 => if r_4.1 = 0 then (J_X3_commonFrom_31 N g a0 x1 a2 (L_X3_commonFrom_5 N g a0 x1 a2 n) x3v x4v r_4.2) else (bi (x3v + 1) fun x_8 => J_X3_commonFrom_31 N g a0 x1 a2 (L_X3_commonFrom_5 N g a0 x1 a2 n) x_8 x4v r_4.2))
set_option maxHeartbeats 4000000 in
set_option maxRecDepth 100000 in
theorem t_L_X3_commonFrom_5 {l : Launch} {D : va_G} {cy : Nat → ClassId} {N d : Nat} {g : gp} (wt : WT g) (hl : l.stackTraces = false) (hd : 3 ≤ d) {a0 : Nat} {x1 : Int32} {a2 : Nat} (k0 : q_K g a0 = 3) (k2 : q_K g a2 = 3) : ∀ (n : Nat) (x3v : Int32) (x4v : Int32) (δ : dp), AWD l D cy m_X3_commonFrom d 0 0 ei g 5 [(0, .ref a0), (2, .ref a2), (3, .int x3v), (4, .int x4v)] [] δ (L_X3_commonFrom_5 N g a0 x1 a2 n x3v x4v δ) := by
  intro n
  induction n with
  | zero => intro x3v x4v δ ; exact w_none
  | succ n ih =>
    intro x3v x4v δ 
    unfold L_X3_commonFrom_5
    refine w_iload 3 (μ := m_X3_commonFrom) (pc := 5) dX3_commonFrom_5 rfl ?_
    refine w_aload_n 0 0 (μ := m_X3_commonFrom) (pc := 7) dX3_commonFrom_7 rfl rfl ?_
    refine w_getI (μ := m_X3_commonFrom) (pc := 8) dX3_commonFrom_8 fl_X3_15 ir_3_1 k0 ?_
    refine w_icmp_ge 37 (μ := m_X3_commonFrom) (pc := 11) dX3_commonFrom_11 (by decide) (fun c_1 => ?_) (fun c_1 => ?_)
    · refine w_iload_n 2 3 (μ := m_X3_commonFrom) (pc := 37) dX3_commonFrom_37 rfl rfl ?_
      exact w_iret (μ := m_X3_commonFrom) (pc := 38) dX3_commonFrom_38 rfl rfl
    · refine w_aload_n 1 2 (μ := m_X3_commonFrom) (pc := 14) dX3_commonFrom_14 rfl rfl ?_
      refine w_aload_n 0 0 (μ := m_X3_commonFrom) (pc := 15) dX3_commonFrom_15 rfl rfl ?_
      refine w_getO (μ := m_X3_commonFrom) (pc := 16) dX3_commonFrom_16 fl_X3_9 ir_3_0 id_3_0 k0 (fun b_2 e_3 => ?_)
      refine w_iload 3 (μ := m_X3_commonFrom) (pc := 19) dX3_commonFrom_19 rfl ?_
      refine w_ald (μ := m_X3_commonFrom) (pc := 21) dX3_commonFrom_21 (wt_3_0 wt k0 e_3) ?_
      refine w_callV (As := [.int (q_R δ b_2 x4v.toNatClampNeg)]) (rest := []) (μ := m_X3_commonFrom) (pc := 22) dX3_commonFrom_22 cv_X3_51 rfl rfl k2 (by decide) rfl (Nat.le_of_ble_eq_true rfl) (d' := d - 1) (by omega) he_i (c_X3_holds wt hl (d := d - 1) (by omega) k2) (fun r_4 => ?_)
      refine w_if_eq 31 (μ := m_X3_commonFrom) (pc := 25) dX3_commonFrom_25 (by decide) (fun c_5 => ?_) (fun c_5 => ?_)
      · exact t_J_X3_commonFrom_31 wt hl (by omega) k0 k2 ih _ _ _
      · refine w_inb (fun x_8 e_9 => ?_)
        refine w_iinc 2 [(3, .int x_8), (0, .ref a0), (2, .ref a2), (4, .int x4v)] (μ := m_X3_commonFrom) (pc := 28) dX3_commonFrom_28 rfl (by rw [e_9]; rfl) (by decide) rfl ?_
        refine w_lv [1, 2, 0, 3] rfl ?_
        exact t_J_X3_commonFrom_31 wt hl (by omega) k0 k2 ih _ _ _
def D_X3_commonFrom (N : Nat) (g : gp) (a0 : Nat) (x1 : Int32) (a2 : Nat) (δ : dp) : Option (Int32 × dp) :=
  L_X3_commonFrom_5 N g a0 x1 a2 N 0 x1 δ
set_option maxHeartbeats 4000000 in
set_option maxRecDepth 100000 in
theorem c_X3_commonFrom {l : Launch} {D : va_G} {cy : Nat → ClassId} {N d : Nat} {g : gp} (wt : WT g) (hl : l.stackTraces = false) (hd : 3 ≤ d) {a0 : Nat} {x1 : Int32} {a2 : Nat} {δ : dp} (k0 : q_K g a0 = 3) (k2 : q_K g a2 = 3) : CalD l D cy m_X3_commonFrom d 0 0 ei g [.ref a0, .int x1, .ref a2] δ (D_X3_commonFrom N g a0 x1 a2 δ) := by
  refine CalD.of (by decide +kernel) (Nat.le_of_ble_eq_true rfl) hl ?_
  unfold D_X3_commonFrom
  refine w_iconst (v := 0) (μ := m_X3_commonFrom) (pc := 0) dX3_commonFrom_0 (by decide) ?_
  refine w_istore_n [(3, .int 0), (0, .ref a0), (1, .int x1), (2, .ref a2)] (μ := m_X3_commonFrom) (pc := 1) dX3_commonFrom_1 rfl (by decide) rfl ?_
  refine w_iload_n 2 1 (μ := m_X3_commonFrom) (pc := 2) dX3_commonFrom_2 rfl rfl ?_
  refine w_istore [(4, .int x1), (3, .int 0), (0, .ref a0), (1, .int x1), (2, .ref a2)] (μ := m_X3_commonFrom) (pc := 3) dX3_commonFrom_3 (by decide) rfl ?_
  refine w_lv [2, 4, 1, 0] rfl ?_
  exact t_L_X3_commonFrom_5 wt hl (by omega) k0 k2 N _ _ _
def J_X3_runsWith_106 (N : Nat) (g : gp) (a0 : Nat) (a1 : Nat) (kt10 : Int32 → Int32 → Int32 → Int32 → dp → Option (Int32 × dp)) (x2v : Int32) (x3v : Int32) (x4v : Int32) (x5v : Int32) (δ : dp) : Option (Int32 × dp) :=
  kt10 x2v x3v x4v x5v δ
set_option maxHeartbeats 4000000 in
set_option maxRecDepth 100000 in
theorem t_J_X3_runsWith_106 {l : Launch} {D : va_G} {cy : Nat → ClassId} {N d : Nat} {g : gp} (wt : WT g) (hl : l.stackTraces = false) (hd : 2 ≤ d) {a0 : Nat} {a1 : Nat} (k0 : q_K g a0 = 3) (k1 : q_K g a1 = 3) {kt10 : Int32 → Int32 → Int32 → Int32 → dp → Option (Int32 × dp)} (hk10 : ∀ (x2v : Int32) (x3v : Int32) (x4v : Int32) (x5v : Int32) (δ : dp), AWD l D cy m_X3_runsWith d 0 0 ei g 10 [(0, .ref a0), (1, .ref a1), (2, .int x2v), (3, .int x3v), (4, .int x4v), (5, .int x5v)] [] δ (kt10 x2v x3v x4v x5v δ)) : ∀ (x2v : Int32) (x3v : Int32) (x4v : Int32) (x5v : Int32) (δ : dp), AWD l D cy m_X3_runsWith d 0 0 ei g 106 [(0, .ref a0), (1, .ref a1), (2, .int x2v), (3, .int x3v), (4, .int x4v), (5, .int x5v)] [] δ (J_X3_runsWith_106 N g a0 a1 kt10 x2v x3v x4v x5v δ) := by
    intro x2v x3v x4v x5v δ 
    unfold J_X3_runsWith_106
    refine w_goto 10 (μ := m_X3_runsWith) (pc := 106) dX3_runsWith_106 (by decide) ?_
    exact hk10 _ _ _ _ _
def J_X3_runsWith_98 (N : Nat) (g : gp) (a0 : Nat) (a1 : Nat) (kt10 : Int32 → Int32 → Int32 → Int32 → dp → Option (Int32 × dp)) (x2v : Int32) (x3v : Int32) (x4v : Int32) (x5v : Int32) (x6v : Int32) (δ : dp) : Option (Int32 × dp) :=
  if x6v < 0 then (J_X3_runsWith_106 N g a0 a1 kt10 x2v x3v x4v x5v δ) else (bi (x5v + 1) fun x_12 => J_X3_runsWith_106 N g a0 a1 kt10 x2v x3v x4v x_12 δ)
set_option maxHeartbeats 4000000 in
set_option maxRecDepth 100000 in
theorem t_J_X3_runsWith_98 {l : Launch} {D : va_G} {cy : Nat → ClassId} {N d : Nat} {g : gp} (wt : WT g) (hl : l.stackTraces = false) (hd : 2 ≤ d) {a0 : Nat} {a1 : Nat} (k0 : q_K g a0 = 3) (k1 : q_K g a1 = 3) {kt10 : Int32 → Int32 → Int32 → Int32 → dp → Option (Int32 × dp)} (hk10 : ∀ (x2v : Int32) (x3v : Int32) (x4v : Int32) (x5v : Int32) (δ : dp), AWD l D cy m_X3_runsWith d 0 0 ei g 10 [(0, .ref a0), (1, .ref a1), (2, .int x2v), (3, .int x3v), (4, .int x4v), (5, .int x5v)] [] δ (kt10 x2v x3v x4v x5v δ)) : ∀ (x2v : Int32) (x3v : Int32) (x4v : Int32) (x5v : Int32) (x6v : Int32) (δ : dp), AWD l D cy m_X3_runsWith d 0 0 ei g 98 [(0, .ref a0), (1, .ref a1), (2, .int x2v), (3, .int x3v), (4, .int x4v), (5, .int x5v), (6, .int x6v)] [] δ (J_X3_runsWith_98 N g a0 a1 kt10 x2v x3v x4v x5v x6v δ) := by
    intro x2v x3v x4v x5v x6v δ 
    unfold J_X3_runsWith_98
    refine w_iload 6 (μ := m_X3_runsWith) (pc := 98) dX3_runsWith_98 rfl ?_
    refine w_if_lt 106 (μ := m_X3_runsWith) (pc := 100) dX3_runsWith_100 (by decide) (fun c_11 => ?_) (fun c_11 => ?_)
    · refine w_lv [0, 1, 2, 3, 4, 5] rfl ?_
      exact t_J_X3_runsWith_106 wt hl (by omega) k0 k1 hk10 _ _ _ _ _
    · refine w_inb (fun x_12 e_13 => ?_)
      refine w_iinc 5 [(5, .int x_12), (0, .ref a0), (1, .ref a1), (2, .int x2v), (3, .int x3v), (4, .int x4v), (6, .int x6v)] (μ := m_X3_runsWith) (pc := 103) dX3_runsWith_103 rfl (by rw [e_13]; rfl) (by decide) rfl ?_
      refine w_lv [1, 2, 3, 4, 5, 0] rfl ?_
      exact t_J_X3_runsWith_106 wt hl (by omega) k0 k1 hk10 _ _ _ _ _
def J_X3_runsWith_90 (N : Nat) (g : gp) (a0 : Nat) (a1 : Nat) (kt10 : Int32 → Int32 → Int32 → Int32 → dp → Option (Int32 × dp)) (x2v : Int32) (x3v : Int32) (x4v : Int32) (x5v : Int32) (x6v : Int32) (δ : dp) : Option (Int32 × dp) :=
  if 0 < x6v then (J_X3_runsWith_98 N g a0 a1 kt10 x2v x3v x4v x5v x6v δ) else (bi (x4v + 1) fun x_14 => J_X3_runsWith_98 N g a0 a1 kt10 x2v x3v x_14 x5v x6v δ)
set_option maxHeartbeats 4000000 in
set_option maxRecDepth 100000 in
theorem t_J_X3_runsWith_90 {l : Launch} {D : va_G} {cy : Nat → ClassId} {N d : Nat} {g : gp} (wt : WT g) (hl : l.stackTraces = false) (hd : 2 ≤ d) {a0 : Nat} {a1 : Nat} (k0 : q_K g a0 = 3) (k1 : q_K g a1 = 3) {kt10 : Int32 → Int32 → Int32 → Int32 → dp → Option (Int32 × dp)} (hk10 : ∀ (x2v : Int32) (x3v : Int32) (x4v : Int32) (x5v : Int32) (δ : dp), AWD l D cy m_X3_runsWith d 0 0 ei g 10 [(0, .ref a0), (1, .ref a1), (2, .int x2v), (3, .int x3v), (4, .int x4v), (5, .int x5v)] [] δ (kt10 x2v x3v x4v x5v δ)) : ∀ (x2v : Int32) (x3v : Int32) (x4v : Int32) (x5v : Int32) (x6v : Int32) (δ : dp), AWD l D cy m_X3_runsWith d 0 0 ei g 90 [(0, .ref a0), (1, .ref a1), (2, .int x2v), (3, .int x3v), (4, .int x4v), (5, .int x5v), (6, .int x6v)] [] δ (J_X3_runsWith_90 N g a0 a1 kt10 x2v x3v x4v x5v x6v δ) := by
    intro x2v x3v x4v x5v x6v δ 
    unfold J_X3_runsWith_90
    refine w_iload 6 (μ := m_X3_runsWith) (pc := 90) dX3_runsWith_90 rfl ?_
    refine w_if_gt 98 (μ := m_X3_runsWith) (pc := 92) dX3_runsWith_92 (by decide) (fun c_10 => ?_) (fun c_10 => ?_)
    · exact t_J_X3_runsWith_98 wt hl (by omega) k0 k1 hk10 _ _ _ _ _ _
    · refine w_inb (fun x_14 e_15 => ?_)
      refine w_iinc 4 [(4, .int x_14), (0, .ref a0), (1, .ref a1), (2, .int x2v), (3, .int x3v), (5, .int x5v), (6, .int x6v)] (μ := m_X3_runsWith) (pc := 95) dX3_runsWith_95 rfl (by rw [e_15]; rfl) (by decide) rfl ?_
      refine w_lv [1, 2, 3, 4, 0, 5, 6] rfl ?_
      exact t_J_X3_runsWith_98 wt hl (by omega) k0 k1 hk10 _ _ _ _ _ _
def J_X3_runsWith_71 (N : Nat) (g : gp) (a0 : Nat) (a1 : Nat) (kt10 : Int32 → Int32 → Int32 → Int32 → dp → Option (Int32 × dp)) (xs0 : Int32) (x2v : Int32) (x3v : Int32) (x4v : Int32) (x5v : Int32) (δ : dp) : Option (Int32 × dp) :=
  if xs0 = 0 then (J_X3_runsWith_90 N g a0 a1 kt10 x2v x3v x4v x5v xs0 δ) else (if xs0 = x3v then (J_X3_runsWith_90 N g a0 a1 kt10 x2v x3v x4v x5v xs0 δ) else (bi (x2v + 1) fun x_17 => J_X3_runsWith_90 N g a0 a1 kt10 x_17 xs0 x4v x5v xs0 δ))
set_option maxHeartbeats 4000000 in
set_option maxRecDepth 100000 in
theorem t_J_X3_runsWith_71 {l : Launch} {D : va_G} {cy : Nat → ClassId} {N d : Nat} {g : gp} (wt : WT g) (hl : l.stackTraces = false) (hd : 2 ≤ d) {a0 : Nat} {a1 : Nat} (k0 : q_K g a0 = 3) (k1 : q_K g a1 = 3) {kt10 : Int32 → Int32 → Int32 → Int32 → dp → Option (Int32 × dp)} (hk10 : ∀ (x2v : Int32) (x3v : Int32) (x4v : Int32) (x5v : Int32) (δ : dp), AWD l D cy m_X3_runsWith d 0 0 ei g 10 [(0, .ref a0), (1, .ref a1), (2, .int x2v), (3, .int x3v), (4, .int x4v), (5, .int x5v)] [] δ (kt10 x2v x3v x4v x5v δ)) : ∀ (xs0 : Int32) (x2v : Int32) (x3v : Int32) (x4v : Int32) (x5v : Int32) (δ : dp), AWD l D cy m_X3_runsWith d 0 0 ei g 71 [(0, .ref a0), (1, .ref a1), (2, .int x2v), (3, .int x3v), (4, .int x4v), (5, .int x5v)] [.int xs0] δ (J_X3_runsWith_71 N g a0 a1 kt10 xs0 x2v x3v x4v x5v δ) := by
    intro xs0 x2v x3v x4v x5v δ 
    unfold J_X3_runsWith_71
    refine w_istore [(6, .int xs0), (0, .ref a0), (1, .ref a1), (2, .int x2v), (3, .int x3v), (4, .int x4v), (5, .int x5v)] (μ := m_X3_runsWith) (pc := 71) dX3_runsWith_71 (by decide) rfl ?_
    refine w_iload 0 (μ := m_X3_runsWith) (pc := 73) dX3_runsWith_73 rfl ?_
    refine w_if_eq 90 (μ := m_X3_runsWith) (pc := 75) dX3_runsWith_75 (by decide) (fun c_9 => ?_) (fun c_9 => ?_)
    · refine w_lv [1, 2, 3, 4, 5, 6, 0] rfl ?_
      exact t_J_X3_runsWith_90 wt hl (by omega) k0 k1 hk10 _ _ _ _ _ _
    · refine w_iload 0 (μ := m_X3_runsWith) (pc := 78) dX3_runsWith_78 rfl ?_
      refine w_iload_n 4 3 (μ := m_X3_runsWith) (pc := 80) dX3_runsWith_80 rfl rfl ?_
      refine w_icmp_eq 90 (μ := m_X3_runsWith) (pc := 81) dX3_runsWith_81 (by decide) (fun c_16 => ?_) (fun c_16 => ?_)
      · refine w_lv [1, 2, 3, 4, 5, 6, 0] rfl ?_
        exact t_J_X3_runsWith_90 wt hl (by omega) k0 k1 hk10 _ _ _ _ _ _
      · refine w_iload 0 (μ := m_X3_runsWith) (pc := 84) dX3_runsWith_84 rfl ?_
        refine w_istore_n [(3, .int xs0), (6, .int xs0), (0, .ref a0), (1, .ref a1), (2, .int x2v), (4, .int x4v), (5, .int x5v)] (μ := m_X3_runsWith) (pc := 86) dX3_runsWith_86 rfl (by decide) rfl ?_
        refine w_inb (fun x_17 e_18 => ?_)
        refine w_iinc 4 [(2, .int x_17), (3, .int xs0), (6, .int xs0), (0, .ref a0), (1, .ref a1), (4, .int x4v), (5, .int x5v)] (μ := m_X3_runsWith) (pc := 87) dX3_runsWith_87 rfl (by rw [e_18]; rfl) (by decide) rfl ?_
        refine w_lv [3, 4, 0, 1, 5, 6, 2] rfl ?_
        exact t_J_X3_runsWith_90 wt hl (by omega) k0 k1 hk10 _ _ _ _ _ _
def J_X3_runsWith_28 (N : Nat) (g : gp) (a0 : Nat) (a1 : Nat) (kt10 : Int32 → Int32 → Int32 → Int32 → dp → Option (Int32 × dp)) (x2v : Int32) (x3v : Int32) (x4v : Int32) (x5v : Int32) (δ : dp) : Option (Int32 × dp) :=
  if x4v < (q_I δ 3 1 a0) then (if x5v < (q_I δ 3 1 a1) then ((q_O g 3 0 a0).bind fun b_4 => if x4v < 0 ∨ q_N g b_4 ≤ x4v.toNatClampNeg then none else (q_O g 3 0 a1).bind fun b_6 => if x5v < 0 ∨ q_N g b_6 ≤ x5v.toNatClampNeg then none else (D_J6_compare_7cf53 N g (q_R δ b_4 x4v.toNatClampNeg) (q_R δ b_6 x5v.toNatClampNeg) δ).bind fun r_8 => J_X3_runsWith_71 N g a0 a1 kt10 r_8.1 x2v x3v x4v x5v r_8.2) else (J_X3_runsWith_71 N g a0 a1 kt10 ((-1)) x2v x3v x4v x5v δ)) else (J_X3_runsWith_71 N g a0 a1 kt10 1 x2v x3v x4v x5v δ)
set_option maxHeartbeats 4000000 in
set_option maxRecDepth 100000 in
theorem t_J_X3_runsWith_28 {l : Launch} {D : va_G} {cy : Nat → ClassId} {N d : Nat} {g : gp} (wt : WT g) (hl : l.stackTraces = false) (hd : 2 ≤ d) {a0 : Nat} {a1 : Nat} (k0 : q_K g a0 = 3) (k1 : q_K g a1 = 3) {kt10 : Int32 → Int32 → Int32 → Int32 → dp → Option (Int32 × dp)} (hk10 : ∀ (x2v : Int32) (x3v : Int32) (x4v : Int32) (x5v : Int32) (δ : dp), AWD l D cy m_X3_runsWith d 0 0 ei g 10 [(0, .ref a0), (1, .ref a1), (2, .int x2v), (3, .int x3v), (4, .int x4v), (5, .int x5v)] [] δ (kt10 x2v x3v x4v x5v δ)) : ∀ (x2v : Int32) (x3v : Int32) (x4v : Int32) (x5v : Int32) (δ : dp), AWD l D cy m_X3_runsWith d 0 0 ei g 28 [(0, .ref a0), (1, .ref a1), (2, .int x2v), (3, .int x3v), (4, .int x4v), (5, .int x5v)] [] δ (J_X3_runsWith_28 N g a0 a1 kt10 x2v x3v x4v x5v δ) := by
    intro x2v x3v x4v x5v δ 
    unfold J_X3_runsWith_28
    refine w_iload 4 (μ := m_X3_runsWith) (pc := 28) dX3_runsWith_28 rfl ?_
    refine w_aload_n 0 0 (μ := m_X3_runsWith) (pc := 30) dX3_runsWith_30 rfl rfl ?_
    refine w_getI (μ := m_X3_runsWith) (pc := 31) dX3_runsWith_31 fl_X3_15 ir_3_1 k0 ?_
    refine w_icmp_lt 41 (μ := m_X3_runsWith) (pc := 34) dX3_runsWith_34 (by decide) (fun c_2 => ?_) (fun c_2 => ?_)
    · refine w_iload 5 (μ := m_X3_runsWith) (pc := 41) dX3_runsWith_41 rfl ?_
      refine w_aload_n 1 1 (μ := m_X3_runsWith) (pc := 43) dX3_runsWith_43 rfl rfl ?_
      refine w_getI (μ := m_X3_runsWith) (pc := 44) dX3_runsWith_44 fl_X3_15 ir_3_1 k1 ?_
      refine w_icmp_lt 54 (μ := m_X3_runsWith) (pc := 47) dX3_runsWith_47 (by decide) (fun c_3 => ?_) (fun c_3 => ?_)
      · refine w_aload_n 0 0 (μ := m_X3_runsWith) (pc := 54) dX3_runsWith_54 rfl rfl ?_
        refine w_getO (μ := m_X3_runsWith) (pc := 55) dX3_runsWith_55 fl_X3_9 ir_3_0 id_3_0 k0 (fun b_4 e_5 => ?_)
        refine w_iload 4 (μ := m_X3_runsWith) (pc := 58) dX3_runsWith_58 rfl ?_
        refine w_ald (μ := m_X3_runsWith) (pc := 60) dX3_runsWith_60 (wt_3_0 wt k0 e_5) ?_
        refine w_aload_n 1 1 (μ := m_X3_runsWith) (pc := 61) dX3_runsWith_61 rfl rfl ?_
        refine w_getO (μ := m_X3_runsWith) (pc := 62) dX3_runsWith_62 fl_X3_9 ir_3_0 id_3_0 k1 (fun b_6 e_7 => ?_)
        refine w_iload 5 (μ := m_X3_runsWith) (pc := 65) dX3_runsWith_65 rfl ?_
        refine w_ald (μ := m_X3_runsWith) (pc := 67) dX3_runsWith_67 (wt_3_0 wt k1 e_7) ?_
        refine w_callS (As := [.int (q_R δ b_4 x4v.toNatClampNeg), .int (q_R δ b_6 x5v.toNatClampNeg)]) (rest := []) (μ := m_X3_runsWith) (pc := 68) dX3_runsWith_68 cs_X3_54 rfl rfl (Nat.le_of_ble_eq_true rfl) (d' := d - 1) (by omega) he_i (c_J6_compare_7cf53 wt hl (d := d - 1) (by omega) ) (fun r_8 => ?_)
        exact t_J_X3_runsWith_71 wt hl (by omega) k0 k1 hk10 _ _ _ _ _ _
      · refine w_iconst (v := (-1)) (μ := m_X3_runsWith) (pc := 50) dX3_runsWith_50 (by decide) ?_
        refine w_goto 71 (μ := m_X3_runsWith) (pc := 51) dX3_runsWith_51 (by decide) ?_
        exact t_J_X3_runsWith_71 wt hl (by omega) k0 k1 hk10 _ _ _ _ _ _
    · refine w_iconst (v := 1) (μ := m_X3_runsWith) (pc := 37) dX3_runsWith_37 (by decide) ?_
      refine w_goto 71 (μ := m_X3_runsWith) (pc := 38) dX3_runsWith_38 (by decide) ?_
      exact t_J_X3_runsWith_71 wt hl (by omega) k0 k1 hk10 _ _ _ _ _ _
def L_X3_runsWith_10 (N : Nat) (g : gp) (a0 : Nat) (a1 : Nat) : Nat → Int32 → Int32 → Int32 → Int32 → dp → Option (Int32 × dp)
  | 0, _, _, _, _, _ => none
  | n + 1, x2v, x3v, x4v, x5v, δ => if x4v < (q_I δ 3 1 a0) then (J_X3_runsWith_28 N g a0 a1 (L_X3_runsWith_10 N g a0 a1 n) x2v x3v x4v x5v δ) else (if (q_I δ 3 1 a1) ≤ x5v then (some (x2v, δ)) else (J_X3_runsWith_28 N g a0 a1 (L_X3_runsWith_10 N g a0 a1 n) x2v x3v x4v x5v δ))
set_option maxHeartbeats 4000000 in
set_option maxRecDepth 100000 in
theorem t_L_X3_runsWith_10 {l : Launch} {D : va_G} {cy : Nat → ClassId} {N d : Nat} {g : gp} (wt : WT g) (hl : l.stackTraces = false) (hd : 2 ≤ d) {a0 : Nat} {a1 : Nat} (k0 : q_K g a0 = 3) (k1 : q_K g a1 = 3) : ∀ (n : Nat) (x2v : Int32) (x3v : Int32) (x4v : Int32) (x5v : Int32) (δ : dp), AWD l D cy m_X3_runsWith d 0 0 ei g 10 [(0, .ref a0), (1, .ref a1), (2, .int x2v), (3, .int x3v), (4, .int x4v), (5, .int x5v)] [] δ (L_X3_runsWith_10 N g a0 a1 n x2v x3v x4v x5v δ) := by
  intro n
  induction n with
  | zero => intro x2v x3v x4v x5v δ ; exact w_none
  | succ n ih =>
    intro x2v x3v x4v x5v δ 
    unfold L_X3_runsWith_10
    refine w_iload 4 (μ := m_X3_runsWith) (pc := 10) dX3_runsWith_10 rfl ?_
    refine w_aload_n 0 0 (μ := m_X3_runsWith) (pc := 12) dX3_runsWith_12 rfl rfl ?_
    refine w_getI (μ := m_X3_runsWith) (pc := 13) dX3_runsWith_13 fl_X3_15 ir_3_1 k0 ?_
    refine w_icmp_lt 28 (μ := m_X3_runsWith) (pc := 16) dX3_runsWith_16 (by decide) (fun c_1 => ?_) (fun c_1 => ?_)
    · exact t_J_X3_runsWith_28 wt hl (by omega) k0 k1 ih _ _ _ _ _
    · refine w_iload 5 (μ := m_X3_runsWith) (pc := 19) dX3_runsWith_19 rfl ?_
      refine w_aload_n 1 1 (μ := m_X3_runsWith) (pc := 21) dX3_runsWith_21 rfl rfl ?_
      refine w_getI (μ := m_X3_runsWith) (pc := 22) dX3_runsWith_22 fl_X3_15 ir_3_1 k1 ?_
      refine w_icmp_ge 109 (μ := m_X3_runsWith) (pc := 25) dX3_runsWith_25 (by decide) (fun c_19 => ?_) (fun c_19 => ?_)
      · refine w_iload_n 2 2 (μ := m_X3_runsWith) (pc := 109) dX3_runsWith_109 rfl rfl ?_
        exact w_iret (μ := m_X3_runsWith) (pc := 110) dX3_runsWith_110 rfl rfl
      · exact t_J_X3_runsWith_28 wt hl (by omega) k0 k1 ih _ _ _ _ _
def D_X3_runsWith (N : Nat) (g : gp) (a0 : Nat) (a1 : Nat) (δ : dp) : Option (Int32 × dp) :=
  L_X3_runsWith_10 N g a0 a1 N 0 0 0 0 δ
set_option maxHeartbeats 4000000 in
set_option maxRecDepth 100000 in
theorem c_X3_runsWith {l : Launch} {D : va_G} {cy : Nat → ClassId} {N d : Nat} {g : gp} (wt : WT g) (hl : l.stackTraces = false) (hd : 2 ≤ d) {a0 : Nat} {a1 : Nat} {δ : dp} (k0 : q_K g a0 = 3) (k1 : q_K g a1 = 3) : CalD l D cy m_X3_runsWith d 0 0 ei g [.ref a0, .ref a1] δ (D_X3_runsWith N g a0 a1 δ) := by
  refine CalD.of (by decide +kernel) (Nat.le_of_ble_eq_true rfl) hl ?_
  unfold D_X3_runsWith
  refine w_iconst (v := 0) (μ := m_X3_runsWith) (pc := 0) dX3_runsWith_0 (by decide) ?_
  refine w_istore_n [(2, .int 0), (0, .ref a0), (1, .ref a1)] (μ := m_X3_runsWith) (pc := 1) dX3_runsWith_1 rfl (by decide) rfl ?_
  refine w_iconst (v := 0) (μ := m_X3_runsWith) (pc := 2) dX3_runsWith_2 (by decide) ?_
  refine w_istore_n [(3, .int 0), (2, .int 0), (0, .ref a0), (1, .ref a1)] (μ := m_X3_runsWith) (pc := 3) dX3_runsWith_3 rfl (by decide) rfl ?_
  refine w_iconst (v := 0) (μ := m_X3_runsWith) (pc := 4) dX3_runsWith_4 (by decide) ?_
  refine w_istore [(4, .int 0), (3, .int 0), (2, .int 0), (0, .ref a0), (1, .ref a1)] (μ := m_X3_runsWith) (pc := 5) dX3_runsWith_5 (by decide) rfl ?_
  refine w_iconst (v := 0) (μ := m_X3_runsWith) (pc := 7) dX3_runsWith_7 (by decide) ?_
  refine w_istore [(5, .int 0), (4, .int 0), (3, .int 0), (2, .int 0), (0, .ref a0), (1, .ref a1)] (μ := m_X3_runsWith) (pc := 8) dX3_runsWith_8 (by decide) rfl ?_
  refine w_lv [4, 5, 3, 2, 1, 0] rfl ?_
  exact t_L_X3_runsWith_10 wt hl (by omega) k0 k1 N _ _ _ _ _
def J_X3_widestGap_44 (N : Nat) (g : gp) (a0 : Nat) (kt6 : Int32 → Int32 → Int32 → dp → Option (Int32 × dp)) (x1v : Int32) (x2v : Int32) (x3v : Int32) (δ : dp) : Option (Int32 × dp) :=
  bi (x3v + 1) fun x_9 => kt6 x1v x2v x_9 δ
set_option maxHeartbeats 4000000 in
set_option maxRecDepth 100000 in
theorem t_J_X3_widestGap_44 {l : Launch} {D : va_G} {cy : Nat → ClassId} {N d : Nat} {g : gp} (wt : WT g) (hl : l.stackTraces = false) (hd : 1 ≤ d) {a0 : Nat} (k0 : q_K g a0 = 3) {kt6 : Int32 → Int32 → Int32 → dp → Option (Int32 × dp)} (hk6 : ∀ (x1v : Int32) (x2v : Int32) (x3v : Int32) (δ : dp), AWD l D cy m_X3_widestGap d 0 0 ei g 6 [(0, .ref a0), (1, .int x1v), (2, .int x2v), (3, .int x3v)] [] δ (kt6 x1v x2v x3v δ)) : ∀ (x1v : Int32) (x2v : Int32) (x3v : Int32) (δ : dp), AWD l D cy m_X3_widestGap d 0 0 ei g 44 [(0, .ref a0), (1, .int x1v), (2, .int x2v), (3, .int x3v)] [] δ (J_X3_widestGap_44 N g a0 kt6 x1v x2v x3v δ) := by
    intro x1v x2v x3v δ 
    unfold J_X3_widestGap_44
    refine w_inb (fun x_9 e_10 => ?_)
    refine w_iinc 3 [(3, .int x_9), (0, .ref a0), (1, .int x1v), (2, .int x2v)] (μ := m_X3_widestGap) (pc := 44) dX3_widestGap_44 rfl (by rw [e_10]; rfl) (by decide) rfl ?_
    refine w_goto 6 (μ := m_X3_widestGap) (pc := 47) dX3_widestGap_47 (by decide) ?_
    refine w_lv [1, 2, 3, 0] rfl ?_
    exact hk6 _ _ _ _
def L_X3_widestGap_6 (N : Nat) (g : gp) (a0 : Nat) : Nat → Int32 → Int32 → Int32 → dp → Option (Int32 × dp)
  | 0, _, _, _, _ => none
  | n + 1, x1v, x2v, x3v, δ => if (q_I δ 3 1 a0) ≤ (x3v + 1) then (some (x1v, δ)) else ((q_O g 3 0 a0).bind fun b_2 => if (x3v + 1) < 0 ∨ q_N g b_2 ≤ (x3v + 1).toNatClampNeg then none else (q_O g 3 0 a0).bind fun b_4 => if x3v < 0 ∨ q_N g b_4 ≤ x3v.toNatClampNeg then none else bi ((q_R δ b_2 (x3v + 1).toNatClampNeg) - (q_R δ b_4 x3v.toNatClampNeg)) fun x_6 => if x_6 ≤ x2v then (J_X3_widestGap_44 N g a0 (L_X3_widestGap_6 N g a0 n) x1v x2v x3v δ) else (J_X3_widestGap_44 N g a0 (L_X3_widestGap_6 N g a0 n) x3v x_6 x3v δ))
set_option maxHeartbeats 4000000 in
set_option maxRecDepth 100000 in
theorem t_L_X3_widestGap_6 {l : Launch} {D : va_G} {cy : Nat → ClassId} {N d : Nat} {g : gp} (wt : WT g) (hl : l.stackTraces = false) (hd : 1 ≤ d) {a0 : Nat} (k0 : q_K g a0 = 3) : ∀ (n : Nat) (x1v : Int32) (x2v : Int32) (x3v : Int32) (δ : dp), AWD l D cy m_X3_widestGap d 0 0 ei g 6 [(0, .ref a0), (1, .int x1v), (2, .int x2v), (3, .int x3v)] [] δ (L_X3_widestGap_6 N g a0 n x1v x2v x3v δ) := by
  intro n
  induction n with
  | zero => intro x1v x2v x3v δ ; exact w_none
  | succ n ih =>
    intro x1v x2v x3v δ 
    unfold L_X3_widestGap_6
    refine w_iload_n 3 3 (μ := m_X3_widestGap) (pc := 6) dX3_widestGap_6 rfl rfl ?_
    refine w_iconst (v := 1) (μ := m_X3_widestGap) (pc := 7) dX3_widestGap_7 (by decide) ?_
    refine w_iadd (μ := m_X3_widestGap) (pc := 8) dX3_widestGap_8 ?_
    refine w_aload_n 0 0 (μ := m_X3_widestGap) (pc := 9) dX3_widestGap_9 rfl rfl ?_
    refine w_getI (μ := m_X3_widestGap) (pc := 10) dX3_widestGap_10 fl_X3_15 ir_3_1 k0 ?_
    refine w_icmp_ge 50 (μ := m_X3_widestGap) (pc := 13) dX3_widestGap_13 (by decide) (fun c_1 => ?_) (fun c_1 => ?_)
    · refine w_iload_n 1 1 (μ := m_X3_widestGap) (pc := 50) dX3_widestGap_50 rfl rfl ?_
      exact w_iret (μ := m_X3_widestGap) (pc := 51) dX3_widestGap_51 rfl rfl
    · refine w_aload_n 0 0 (μ := m_X3_widestGap) (pc := 16) dX3_widestGap_16 rfl rfl ?_
      refine w_getO (μ := m_X3_widestGap) (pc := 17) dX3_widestGap_17 fl_X3_9 ir_3_0 id_3_0 k0 (fun b_2 e_3 => ?_)
      refine w_iload_n 3 3 (μ := m_X3_widestGap) (pc := 20) dX3_widestGap_20 rfl rfl ?_
      refine w_iconst (v := 1) (μ := m_X3_widestGap) (pc := 21) dX3_widestGap_21 (by decide) ?_
      refine w_iadd (μ := m_X3_widestGap) (pc := 22) dX3_widestGap_22 ?_
      refine w_ald (μ := m_X3_widestGap) (pc := 23) dX3_widestGap_23 (wt_3_0 wt k0 e_3) ?_
      refine w_aload_n 0 0 (μ := m_X3_widestGap) (pc := 24) dX3_widestGap_24 rfl rfl ?_
      refine w_getO (μ := m_X3_widestGap) (pc := 25) dX3_widestGap_25 fl_X3_9 ir_3_0 id_3_0 k0 (fun b_4 e_5 => ?_)
      refine w_iload_n 3 3 (μ := m_X3_widestGap) (pc := 28) dX3_widestGap_28 rfl rfl ?_
      refine w_ald (μ := m_X3_widestGap) (pc := 29) dX3_widestGap_29 (wt_3_0 wt k0 e_5) ?_
      refine w_isub (μ := m_X3_widestGap) (pc := 30) dX3_widestGap_30 ?_
      refine w_bi (fun x_6 e_7 => ?_)
      refine w_istore [(4, .int x_6), (0, .ref a0), (1, .int x1v), (2, .int x2v), (3, .int x3v)] (μ := m_X3_widestGap) (pc := 31) dX3_widestGap_31 (by decide) rfl ?_
      refine w_iload 0 (μ := m_X3_widestGap) (pc := 33) dX3_widestGap_33 rfl ?_
      refine w_iload_n 3 2 (μ := m_X3_widestGap) (pc := 35) dX3_widestGap_35 rfl rfl ?_
      refine w_icmp_le 44 (μ := m_X3_widestGap) (pc := 36) dX3_widestGap_36 (by decide) (fun c_8 => ?_) (fun c_8 => ?_)
      · refine w_lv [1, 2, 3, 4] rfl ?_
        exact t_J_X3_widestGap_44 wt hl (by omega) k0 ih _ _ _ _
      · refine w_iload 0 (μ := m_X3_widestGap) (pc := 39) dX3_widestGap_39 rfl ?_
        refine w_istore_n [(2, .int x_6), (4, .int x_6), (0, .ref a0), (1, .int x1v), (3, .int x3v)] (μ := m_X3_widestGap) (pc := 41) dX3_widestGap_41 rfl (by decide) rfl ?_
        refine w_iload_n 4 3 (μ := m_X3_widestGap) (pc := 42) dX3_widestGap_42 rfl rfl ?_
        refine w_istore_n [(1, .int x3v), (2, .int x_6), (4, .int x_6), (0, .ref a0), (3, .int x3v)] (μ := m_X3_widestGap) (pc := 43) dX3_widestGap_43 rfl (by decide) rfl ?_
        refine w_lv [3, 0, 1, 4] rfl ?_
        exact t_J_X3_widestGap_44 wt hl (by omega) k0 ih _ _ _ _
def D_X3_widestGap (N : Nat) (g : gp) (a0 : Nat) (δ : dp) : Option (Int32 × dp) :=
  L_X3_widestGap_6 N g a0 N ((-1)) 0 0 δ
set_option maxHeartbeats 4000000 in
set_option maxRecDepth 100000 in
theorem c_X3_widestGap {l : Launch} {D : va_G} {cy : Nat → ClassId} {N d : Nat} {g : gp} (wt : WT g) (hl : l.stackTraces = false) (hd : 1 ≤ d) {a0 : Nat} {δ : dp} (k0 : q_K g a0 = 3) : CalD l D cy m_X3_widestGap d 0 0 ei g [.ref a0] δ (D_X3_widestGap N g a0 δ) := by
  refine CalD.of (by decide +kernel) (Nat.le_of_ble_eq_true rfl) hl ?_
  unfold D_X3_widestGap
  refine w_iconst (v := (-1)) (μ := m_X3_widestGap) (pc := 0) dX3_widestGap_0 (by decide) ?_
  refine w_istore_n [(1, .int ((-1))), (0, .ref a0)] (μ := m_X3_widestGap) (pc := 1) dX3_widestGap_1 rfl (by decide) rfl ?_
  refine w_iconst (v := 0) (μ := m_X3_widestGap) (pc := 2) dX3_widestGap_2 (by decide) ?_
  refine w_istore_n [(2, .int 0), (1, .int ((-1))), (0, .ref a0)] (μ := m_X3_widestGap) (pc := 3) dX3_widestGap_3 rfl (by decide) rfl ?_
  refine w_iconst (v := 0) (μ := m_X3_widestGap) (pc := 4) dX3_widestGap_4 (by decide) ?_
  refine w_istore_n [(3, .int 0), (2, .int 0), (1, .int ((-1))), (0, .ref a0)] (μ := m_X3_widestGap) (pc := 5) dX3_widestGap_5 rfl (by decide) rfl ?_
  refine w_lv [3, 2, 1, 0] rfl ?_
  exact t_L_X3_widestGap_6 wt hl (by omega) k0 N _ _ _ _
def D_X3_wordOf (N : Nat) (g : gp) (x0 : Int32) (δ : dp) : Option (Int32 × dp) :=
  some (x0 >>> (5 &&& 31), δ)
set_option maxHeartbeats 4000000 in
set_option maxRecDepth 100000 in
theorem c_X3_wordOf {l : Launch} {D : va_G} {cy : Nat → ClassId} {N d : Nat} {g : gp} (wt : WT g) (hl : l.stackTraces = false) (hd : 1 ≤ d) {x0 : Int32} {δ : dp} : CalD l D cy m_X3_wordOf d 0 0 ei g [.int x0] δ (D_X3_wordOf N g x0 δ) := by
  refine CalD.of (by decide +kernel) (Nat.le_of_ble_eq_true rfl) hl ?_
  unfold D_X3_wordOf
  refine w_iload_n 0 0 (μ := m_X3_wordOf) (pc := 0) dX3_wordOf_0 rfl rfl ?_
  refine w_iconst (v := 5) (μ := m_X3_wordOf) (pc := 1) dX3_wordOf_1 (by decide) ?_
  refine w_ishr (μ := m_X3_wordOf) (pc := 2) dX3_wordOf_2 ?_
  exact w_iret (μ := m_X3_wordOf) (pc := 3) dX3_wordOf_3 rfl rfl
def J_X3_touchesInWords_99 (N : Nat) (g : gp) (a0 : Nat) (x1 : Int32) (x2 : Int32) (x3 : Int32) (xs0 : Int32) (δ : dp) : Option (Int32 × dp) :=
  some (xs0, δ)
set_option maxHeartbeats 4000000 in
set_option maxRecDepth 100000 in
theorem t_J_X3_touchesInWords_99 {l : Launch} {D : va_G} {cy : Nat → ClassId} {N d : Nat} {g : gp} (wt : WT g) (hl : l.stackTraces = false) (hd : 3 ≤ d) {a0 : Nat} {x1 : Int32} {x2 : Int32} {x3 : Int32} (k0 : q_K g a0 = 3) : ∀ (xs0 : Int32) (δ : dp), AWD l D cy m_X3_touchesInWords d 0 0 ei g 99 [] [.int xs0] δ (J_X3_touchesInWords_99 N g a0 x1 x2 x3 xs0 δ) := by
    intro xs0 δ 
    unfold J_X3_touchesInWords_99
    exact w_iret (μ := m_X3_touchesInWords) (pc := 99) dX3_touchesInWords_99 rfl rfl
def J_X3_touchesInWords_93 (N : Nat) (g : gp) (a0 : Nat) (x1 : Int32) (x2 : Int32) (x3 : Int32) (xs0 : Int32) (xs1 : Int32) (δ : dp) : Option (Int32 × dp) :=
  (D_X3_wordOf N g xs0 δ).bind fun r_9 => J_X3_touchesInWords_99 N g a0 x1 x2 x3 ((xs1 - r_9.1) + 1) r_9.2
set_option maxHeartbeats 4000000 in
set_option maxRecDepth 100000 in
theorem t_J_X3_touchesInWords_93 {l : Launch} {D : va_G} {cy : Nat → ClassId} {N d : Nat} {g : gp} (wt : WT g) (hl : l.stackTraces = false) (hd : 3 ≤ d) {a0 : Nat} {x1 : Int32} {x2 : Int32} {x3 : Int32} (k0 : q_K g a0 = 3) : ∀ (xs0 : Int32) (xs1 : Int32) (δ : dp), AWD l D cy m_X3_touchesInWords d 0 0 ei g 93 [] [.int xs0, .int xs1] δ (J_X3_touchesInWords_93 N g a0 x1 x2 x3 xs0 xs1 δ) := by
    intro xs0 xs1 δ 
    unfold J_X3_touchesInWords_93
    refine w_callS (As := [.int xs0]) (rest := [.int xs1]) (μ := m_X3_touchesInWords) (pc := 93) dX3_touchesInWords_93 cs_X3_59 rfl rfl (Nat.le_of_ble_eq_true rfl) (d' := d - 1) (by omega) he_i (c_X3_wordOf wt hl (d := d - 1) (by omega) ) (fun r_9 => ?_)
    refine w_isub (μ := m_X3_touchesInWords) (pc := 96) dX3_touchesInWords_96 ?_
    refine w_iconst (v := 1) (μ := m_X3_touchesInWords) (pc := 97) dX3_touchesInWords_97 (by decide) ?_
    refine w_iadd (μ := m_X3_touchesInWords) (pc := 98) dX3_touchesInWords_98 ?_
    exact t_J_X3_touchesInWords_99 wt hl (by omega) k0 _ _
def J_X3_touchesInWords_54 (N : Nat) (g : gp) (a0 : Nat) (x1 : Int32) (x2 : Int32) (x3 : Int32) (xs0 : Int32) (δ : dp) : Option (Int32 × dp) :=
  some (xs0, δ)
set_option maxHeartbeats 4000000 in
set_option maxRecDepth 100000 in
theorem t_J_X3_touchesInWords_54 {l : Launch} {D : va_G} {cy : Nat → ClassId} {N d : Nat} {g : gp} (wt : WT g) (hl : l.stackTraces = false) (hd : 3 ≤ d) {a0 : Nat} {x1 : Int32} {x2 : Int32} {x3 : Int32} (k0 : q_K g a0 = 3) : ∀ (xs0 : Int32) (δ : dp), AWD l D cy m_X3_touchesInWords d 0 0 ei g 54 [] [.int xs0] δ (J_X3_touchesInWords_54 N g a0 x1 x2 x3 xs0 δ) := by
    intro xs0 δ 
    unfold J_X3_touchesInWords_54
    exact w_iret (μ := m_X3_touchesInWords) (pc := 54) dX3_touchesInWords_54 rfl rfl
def J_X3_touchesInWords_42 (N : Nat) (g : gp) (a0 : Nat) (x1 : Int32) (x2 : Int32) (x3 : Int32) (xs0 : Int32) (δ : dp) : Option (Int32 × dp) :=
  (D_X3_wordOf N g xs0 δ).bind fun r_13 => (D_X3_wordOf N g (x2 + 1) r_13.2).bind fun r_14 => J_X3_touchesInWords_54 N g a0 x1 x2 x3 ((r_13.1 - r_14.1) + 1) r_14.2
set_option maxHeartbeats 4000000 in
set_option maxRecDepth 100000 in
theorem t_J_X3_touchesInWords_42 {l : Launch} {D : va_G} {cy : Nat → ClassId} {N d : Nat} {g : gp} (wt : WT g) (hl : l.stackTraces = false) (hd : 3 ≤ d) {a0 : Nat} {x1 : Int32} {x2 : Int32} {x3 : Int32} (k0 : q_K g a0 = 3) : ∀ (xs0 : Int32) (δ : dp), AWD l D cy m_X3_touchesInWords d 0 0 ei g 42 [(2, .int x2)] [.int xs0] δ (J_X3_touchesInWords_42 N g a0 x1 x2 x3 xs0 δ) := by
    intro xs0 δ 
    unfold J_X3_touchesInWords_42
    refine w_callS (As := [.int xs0]) (rest := []) (μ := m_X3_touchesInWords) (pc := 42) dX3_touchesInWords_42 cs_X3_59 rfl rfl (Nat.le_of_ble_eq_true rfl) (d' := d - 1) (by omega) he_i (c_X3_wordOf wt hl (d := d - 1) (by omega) ) (fun r_13 => ?_)
    refine w_iload_n 0 2 (μ := m_X3_touchesInWords) (pc := 45) dX3_touchesInWords_45 rfl rfl ?_
    refine w_iconst (v := 1) (μ := m_X3_touchesInWords) (pc := 46) dX3_touchesInWords_46 (by decide) ?_
    refine w_iadd (μ := m_X3_touchesInWords) (pc := 47) dX3_touchesInWords_47 ?_
    refine w_callS (As := [.int (x2 + 1)]) (rest := [.int r_13.1]) (μ := m_X3_touchesInWords) (pc := 48) dX3_touchesInWords_48 cs_X3_59 rfl rfl (Nat.le_of_ble_eq_true rfl) (d' := d - 1) (by omega) he_i (c_X3_wordOf wt hl (d := d - 1) (by omega) ) (fun r_14 => ?_)
    refine w_isub (μ := m_X3_touchesInWords) (pc := 51) dX3_touchesInWords_51 ?_
    refine w_iconst (v := 1) (μ := m_X3_touchesInWords) (pc := 52) dX3_touchesInWords_52 (by decide) ?_
    refine w_iadd (μ := m_X3_touchesInWords) (pc := 53) dX3_touchesInWords_53 ?_
    refine w_lv [] rfl ?_
    exact t_J_X3_touchesInWords_54 wt hl (by omega) k0 _ _
def D_X3_touchesInWords (N : Nat) (g : gp) (a0 : Nat) (x1 : Int32) (x2 : Int32) (x3 : Int32) (δ : dp) : Option (Int32 × dp) :=
  bi ((1 <<< (x3 &&& 31)) - 1) fun x_1 => if x1 = (3 : Int32) then ((D_X3_above N g a0 x2 δ).bind fun r_10 => if x2 < x_1 then (if r_10.1 = ((-1) : Int32) then (J_X3_touchesInWords_42 N g a0 x1 x2 x3 x_1 r_10.2) else (J_X3_touchesInWords_42 N g a0 x1 x2 x3 r_10.1 r_10.2)) else (J_X3_touchesInWords_54 N g a0 x1 x2 x3 0 r_10.2)) else (if x1 = (4 : Int32) then ((D_X3_below N g a0 x2 δ).bind fun r_5 => if 0 < x2 then ((D_X3_wordOf N g (x2 - 1) r_5.2).bind fun r_7 => if r_5.1 = ((-1) : Int32) then (J_X3_touchesInWords_93 N g a0 x1 x2 x3 0 r_7.1 r_7.2) else (J_X3_touchesInWords_93 N g a0 x1 x2 x3 r_5.1 r_7.1 r_7.2)) else (J_X3_touchesInWords_99 N g a0 x1 x2 x3 0 r_5.2)) else (some (1, δ)))
set_option maxHeartbeats 4000000 in
set_option maxRecDepth 100000 in
theorem c_X3_touchesInWords {l : Launch} {D : va_G} {cy : Nat → ClassId} {N d : Nat} {g : gp} (wt : WT g) (hl : l.stackTraces = false) (hd : 3 ≤ d) {a0 : Nat} {x1 : Int32} {x2 : Int32} {x3 : Int32} {δ : dp} (k0 : q_K g a0 = 3) : CalD l D cy m_X3_touchesInWords d 0 0 ei g [.ref a0, .int x1, .int x2, .int x3] δ (D_X3_touchesInWords N g a0 x1 x2 x3 δ) := by
  refine CalD.of (by decide +kernel) (Nat.le_of_ble_eq_true rfl) hl ?_
  unfold D_X3_touchesInWords
  refine w_iconst (v := 1) (μ := m_X3_touchesInWords) (pc := 0) dX3_touchesInWords_0 (by decide) ?_
  refine w_iload_n 3 3 (μ := m_X3_touchesInWords) (pc := 1) dX3_touchesInWords_1 rfl rfl ?_
  refine w_ishl (μ := m_X3_touchesInWords) (pc := 2) dX3_touchesInWords_2 ?_
  refine w_iconst (v := 1) (μ := m_X3_touchesInWords) (pc := 3) dX3_touchesInWords_3 (by decide) ?_
  refine w_isub (μ := m_X3_touchesInWords) (pc := 4) dX3_touchesInWords_4 ?_
  refine w_bi (fun x_1 e_2 => ?_)
  refine w_istore [(4, .int x_1), (0, .ref a0), (1, .int x1), (2, .int x2), (3, .int x3)] (μ := m_X3_touchesInWords) (pc := 5) dX3_touchesInWords_5 (by decide) rfl ?_
  refine w_iload_n 2 1 (μ := m_X3_touchesInWords) (pc := 7) dX3_touchesInWords_7 rfl rfl ?_
  refine w_iconst (v := 3) (μ := m_X3_touchesInWords) (pc := 8) dX3_touchesInWords_8 (by decide) ?_
  refine w_icmp_ne 55 (μ := m_X3_touchesInWords) (pc := 9) dX3_touchesInWords_9 (by decide) (fun c_3 => ?_) (fun c_3 => ?_)
  · refine w_iload_n 2 1 (μ := m_X3_touchesInWords) (pc := 55) dX3_touchesInWords_55 rfl rfl ?_
    refine w_iconst (v := 4) (μ := m_X3_touchesInWords) (pc := 56) dX3_touchesInWords_56 (by decide) ?_
    refine w_icmp_ne 100 (μ := m_X3_touchesInWords) (pc := 57) dX3_touchesInWords_57 (by decide) (fun c_4 => ?_) (fun c_4 => ?_)
    · refine w_iconst (v := 1) (μ := m_X3_touchesInWords) (pc := 100) dX3_touchesInWords_100 (by decide) ?_
      exact w_iret (μ := m_X3_touchesInWords) (pc := 101) dX3_touchesInWords_101 rfl rfl
    · refine w_aload_n 1 0 (μ := m_X3_touchesInWords) (pc := 60) dX3_touchesInWords_60 rfl rfl ?_
      refine w_iload_n 3 2 (μ := m_X3_touchesInWords) (pc := 61) dX3_touchesInWords_61 rfl rfl ?_
      refine w_callV (As := [.int x2]) (rest := []) (μ := m_X3_touchesInWords) (pc := 62) dX3_touchesInWords_62 cv_X3_41 rfl rfl k0 (by decide) rfl (Nat.le_of_ble_eq_true rfl) (d' := d - 1) (by omega) he_i (c_X3_below wt hl (d := d - 1) (by omega) k0) (fun r_5 => ?_)
      refine w_istore [(5, .int r_5.1), (4, .int x_1), (0, .ref a0), (1, .int x1), (2, .int x2), (3, .int x3)] (μ := m_X3_touchesInWords) (pc := 65) dX3_touchesInWords_65 (by decide) rfl ?_
      refine w_iload_n 4 2 (μ := m_X3_touchesInWords) (pc := 67) dX3_touchesInWords_67 rfl rfl ?_
      refine w_if_gt 75 (μ := m_X3_touchesInWords) (pc := 68) dX3_touchesInWords_68 (by decide) (fun c_6 => ?_) (fun c_6 => ?_)
      · refine w_iload_n 4 2 (μ := m_X3_touchesInWords) (pc := 75) dX3_touchesInWords_75 rfl rfl ?_
        refine w_iconst (v := 1) (μ := m_X3_touchesInWords) (pc := 76) dX3_touchesInWords_76 (by decide) ?_
        refine w_isub (μ := m_X3_touchesInWords) (pc := 77) dX3_touchesInWords_77 ?_
        refine w_callS (As := [.int (x2 - 1)]) (rest := []) (μ := m_X3_touchesInWords) (pc := 78) dX3_touchesInWords_78 cs_X3_59 rfl rfl (Nat.le_of_ble_eq_true rfl) (d' := d - 1) (by omega) he_i (c_X3_wordOf wt hl (d := d - 1) (by omega) ) (fun r_7 => ?_)
        refine w_iload 0 (μ := m_X3_touchesInWords) (pc := 81) dX3_touchesInWords_81 rfl ?_
        refine w_iconst (v := (-1)) (μ := m_X3_touchesInWords) (pc := 83) dX3_touchesInWords_83 (by decide) ?_
        refine w_icmp_ne 91 (μ := m_X3_touchesInWords) (pc := 84) dX3_touchesInWords_84 (by decide) (fun c_8 => ?_) (fun c_8 => ?_)
        · refine w_iload 0 (μ := m_X3_touchesInWords) (pc := 91) dX3_touchesInWords_91 rfl ?_
          refine w_lv [] rfl ?_
          exact t_J_X3_touchesInWords_93 wt hl (by omega) k0 _ _ _
        · refine w_iconst (v := 0) (μ := m_X3_touchesInWords) (pc := 87) dX3_touchesInWords_87 (by decide) ?_
          refine w_goto 93 (μ := m_X3_touchesInWords) (pc := 88) dX3_touchesInWords_88 (by decide) ?_
          refine w_lv [] rfl ?_
          exact t_J_X3_touchesInWords_93 wt hl (by omega) k0 _ _ _
      · refine w_iconst (v := 0) (μ := m_X3_touchesInWords) (pc := 71) dX3_touchesInWords_71 (by decide) ?_
        refine w_goto 99 (μ := m_X3_touchesInWords) (pc := 72) dX3_touchesInWords_72 (by decide) ?_
        refine w_lv [] rfl ?_
        exact t_J_X3_touchesInWords_99 wt hl (by omega) k0 _ _
  · refine w_aload_n 1 0 (μ := m_X3_touchesInWords) (pc := 12) dX3_touchesInWords_12 rfl rfl ?_
    refine w_iload_n 3 2 (μ := m_X3_touchesInWords) (pc := 13) dX3_touchesInWords_13 rfl rfl ?_
    refine w_callV (As := [.int x2]) (rest := []) (μ := m_X3_touchesInWords) (pc := 14) dX3_touchesInWords_14 cv_X3_38 rfl rfl k0 (by decide) rfl (Nat.le_of_ble_eq_true rfl) (d' := d - 1) (by omega) he_i (c_X3_above wt hl (d := d - 1) (by omega) k0) (fun r_10 => ?_)
    refine w_istore [(5, .int r_10.1), (4, .int x_1), (0, .ref a0), (1, .int x1), (2, .int x2), (3, .int x3)] (μ := m_X3_touchesInWords) (pc := 17) dX3_touchesInWords_17 (by decide) rfl ?_
    refine w_iload_n 4 2 (μ := m_X3_touchesInWords) (pc := 19) dX3_touchesInWords_19 rfl rfl ?_
    refine w_iload 1 (μ := m_X3_touchesInWords) (pc := 20) dX3_touchesInWords_20 rfl ?_
    refine w_icmp_lt 29 (μ := m_X3_touchesInWords) (pc := 22) dX3_touchesInWords_22 (by decide) (fun c_11 => ?_) (fun c_11 => ?_)
    · refine w_iload 0 (μ := m_X3_touchesInWords) (pc := 29) dX3_touchesInWords_29 rfl ?_
      refine w_iconst (v := (-1)) (μ := m_X3_touchesInWords) (pc := 31) dX3_touchesInWords_31 (by decide) ?_
      refine w_icmp_ne 40 (μ := m_X3_touchesInWords) (pc := 32) dX3_touchesInWords_32 (by decide) (fun c_12 => ?_) (fun c_12 => ?_)
      · refine w_iload 0 (μ := m_X3_touchesInWords) (pc := 40) dX3_touchesInWords_40 rfl ?_
        refine w_lv [4] rfl ?_
        exact t_J_X3_touchesInWords_42 wt hl (by omega) k0 _ _
      · refine w_iload 1 (μ := m_X3_touchesInWords) (pc := 35) dX3_touchesInWords_35 rfl ?_
        refine w_goto 42 (μ := m_X3_touchesInWords) (pc := 37) dX3_touchesInWords_37 (by decide) ?_
        refine w_lv [4] rfl ?_
        exact t_J_X3_touchesInWords_42 wt hl (by omega) k0 _ _
    · refine w_iconst (v := 0) (μ := m_X3_touchesInWords) (pc := 25) dX3_touchesInWords_25 (by decide) ?_
      refine w_goto 54 (μ := m_X3_touchesInWords) (pc := 26) dX3_touchesInWords_26 (by decide) ?_
      refine w_lv [] rfl ?_
      exact t_J_X3_touchesInWords_54 wt hl (by omega) k0 _ _
def J_X3_touchesInRow_170 (N : Nat) (g : gp) (a0 : Nat) (x1 : Int32) (x2 : Int32) (x4v : Int32) (δ : dp) : Option (Int32 × dp) :=
  some (x4v, δ)
set_option maxHeartbeats 4000000 in
set_option maxRecDepth 100000 in
theorem t_J_X3_touchesInRow_170 {l : Launch} {D : va_G} {cy : Nat → ClassId} {N d : Nat} {g : gp} (wt : WT g) (hl : l.stackTraces = false) (hd : 1 ≤ d) {a0 : Nat} {x1 : Int32} {x2 : Int32} (k0 : q_K g a0 = 3) : ∀ (x4v : Int32) (δ : dp), AWD l D cy m_X3_touchesInRow d 0 0 ei g 170 [(4, .int x4v)] [] δ (J_X3_touchesInRow_170 N g a0 x1 x2 x4v δ) := by
    intro x4v δ 
    unfold J_X3_touchesInRow_170
    refine w_iload 0 (μ := m_X3_touchesInRow) (pc := 170) dX3_touchesInRow_170 rfl ?_
    exact w_iret (μ := m_X3_touchesInRow) (pc := 172) dX3_touchesInRow_172 rfl rfl
def J_X3_touchesInRow_146 (N : Nat) (g : gp) (a0 : Nat) (x1 : Int32) (x2 : Int32) (x4v : Int32) (x5v : Int32) (x7v : Int32) (δ : dp) : Option (Int32 × dp) :=
  if x1 = (1 : Int32) then (if x7v = 0 then (J_X3_touchesInRow_170 N g a0 x1 x2 x4v δ) else (bi (x4v + (((q_I δ 3 1 a0) - x5v) - 1)) fun x_11 => J_X3_touchesInRow_170 N g a0 x1 x2 x_11 δ)) else (J_X3_touchesInRow_170 N g a0 x1 x2 x4v δ)
set_option maxHeartbeats 4000000 in
set_option maxRecDepth 100000 in
theorem t_J_X3_touchesInRow_146 {l : Launch} {D : va_G} {cy : Nat → ClassId} {N d : Nat} {g : gp} (wt : WT g) (hl : l.stackTraces = false) (hd : 1 ≤ d) {a0 : Nat} {x1 : Int32} {x2 : Int32} (k0 : q_K g a0 = 3) : ∀ (x4v : Int32) (x5v : Int32) (x7v : Int32) (δ : dp), AWD l D cy m_X3_touchesInRow d 0 0 ei g 146 [(0, .ref a0), (1, .int x1), (4, .int x4v), (5, .int x5v), (7, .int x7v)] [] δ (J_X3_touchesInRow_146 N g a0 x1 x2 x4v x5v x7v δ) := by
    intro x4v x5v x7v δ 
    unfold J_X3_touchesInRow_146
    refine w_iload_n 1 1 (μ := m_X3_touchesInRow) (pc := 146) dX3_touchesInRow_146 rfl rfl ?_
    refine w_iconst (v := 1) (μ := m_X3_touchesInRow) (pc := 147) dX3_touchesInRow_147 (by decide) ?_
    refine w_icmp_ne 170 (μ := m_X3_touchesInRow) (pc := 148) dX3_touchesInRow_148 (by decide) (fun c_9 => ?_) (fun c_9 => ?_)
    · refine w_lv [2] rfl ?_
      exact t_J_X3_touchesInRow_170 wt hl (by omega) k0 _ _
    · refine w_iload 4 (μ := m_X3_touchesInRow) (pc := 151) dX3_touchesInRow_151 rfl ?_
      refine w_if_eq 170 (μ := m_X3_touchesInRow) (pc := 153) dX3_touchesInRow_153 (by decide) (fun c_10 => ?_) (fun c_10 => ?_)
      · refine w_lv [2] rfl ?_
        exact t_J_X3_touchesInRow_170 wt hl (by omega) k0 _ _
      · refine w_iload 2 (μ := m_X3_touchesInRow) (pc := 156) dX3_touchesInRow_156 rfl ?_
        refine w_aload_n 0 0 (μ := m_X3_touchesInRow) (pc := 158) dX3_touchesInRow_158 rfl rfl ?_
        refine w_getI (μ := m_X3_touchesInRow) (pc := 159) dX3_touchesInRow_159 fl_X3_15 ir_3_1 k0 ?_
        refine w_iload 3 (μ := m_X3_touchesInRow) (pc := 162) dX3_touchesInRow_162 rfl ?_
        refine w_isub (μ := m_X3_touchesInRow) (pc := 164) dX3_touchesInRow_164 ?_
        refine w_iconst (v := 1) (μ := m_X3_touchesInRow) (pc := 165) dX3_touchesInRow_165 (by decide) ?_
        refine w_isub (μ := m_X3_touchesInRow) (pc := 166) dX3_touchesInRow_166 ?_
        refine w_iadd (μ := m_X3_touchesInRow) (pc := 167) dX3_touchesInRow_167 ?_
        refine w_bi (fun x_11 e_12 => ?_)
        refine w_istore [(4, .int x_11), (0, .ref a0), (1, .int x1), (5, .int x5v), (7, .int x7v)] (μ := m_X3_touchesInRow) (pc := 168) dX3_touchesInRow_168 (by decide) rfl ?_
        refine w_lv [0] rfl ?_
        exact t_J_X3_touchesInRow_170 wt hl (by omega) k0 _ _
def J_X3_touchesInRow_123 (N : Nat) (g : gp) (a0 : Nat) (x1 : Int32) (x2 : Int32) (x4v : Int32) (x5v : Int32) (x7v : Int32) (δ : dp) : Option (Int32 × dp) :=
  if x1 = 0 then (if x7v = 0 then (bi (x4v + (((q_I δ 3 1 a0) - x5v) + 1)) fun x_14 => J_X3_touchesInRow_146 N g a0 x1 x2 x_14 x5v x7v δ) else (J_X3_touchesInRow_146 N g a0 x1 x2 x4v x5v x7v δ)) else (J_X3_touchesInRow_146 N g a0 x1 x2 x4v x5v x7v δ)
set_option maxHeartbeats 4000000 in
set_option maxRecDepth 100000 in
theorem t_J_X3_touchesInRow_123 {l : Launch} {D : va_G} {cy : Nat → ClassId} {N d : Nat} {g : gp} (wt : WT g) (hl : l.stackTraces = false) (hd : 1 ≤ d) {a0 : Nat} {x1 : Int32} {x2 : Int32} (k0 : q_K g a0 = 3) : ∀ (x4v : Int32) (x5v : Int32) (x7v : Int32) (δ : dp), AWD l D cy m_X3_touchesInRow d 0 0 ei g 123 [(0, .ref a0), (1, .int x1), (4, .int x4v), (5, .int x5v), (7, .int x7v)] [] δ (J_X3_touchesInRow_123 N g a0 x1 x2 x4v x5v x7v δ) := by
    intro x4v x5v x7v δ 
    unfold J_X3_touchesInRow_123
    refine w_iload_n 1 1 (μ := m_X3_touchesInRow) (pc := 123) dX3_touchesInRow_123 rfl rfl ?_
    refine w_if_ne 146 (μ := m_X3_touchesInRow) (pc := 124) dX3_touchesInRow_124 (by decide) (fun c_8 => ?_) (fun c_8 => ?_)
    · exact t_J_X3_touchesInRow_146 wt hl (by omega) k0 _ _ _ _
    · refine w_iload 4 (μ := m_X3_touchesInRow) (pc := 127) dX3_touchesInRow_127 rfl ?_
      refine w_if_ne 146 (μ := m_X3_touchesInRow) (pc := 129) dX3_touchesInRow_129 (by decide) (fun c_13 => ?_) (fun c_13 => ?_)
      · exact t_J_X3_touchesInRow_146 wt hl (by omega) k0 _ _ _ _
      · refine w_iload 2 (μ := m_X3_touchesInRow) (pc := 132) dX3_touchesInRow_132 rfl ?_
        refine w_aload_n 0 0 (μ := m_X3_touchesInRow) (pc := 134) dX3_touchesInRow_134 rfl rfl ?_
        refine w_getI (μ := m_X3_touchesInRow) (pc := 135) dX3_touchesInRow_135 fl_X3_15 ir_3_1 k0 ?_
        refine w_iload 3 (μ := m_X3_touchesInRow) (pc := 138) dX3_touchesInRow_138 rfl ?_
        refine w_isub (μ := m_X3_touchesInRow) (pc := 140) dX3_touchesInRow_140 ?_
        refine w_iconst (v := 1) (μ := m_X3_touchesInRow) (pc := 141) dX3_touchesInRow_141 (by decide) ?_
        refine w_iadd (μ := m_X3_touchesInRow) (pc := 142) dX3_touchesInRow_142 ?_
        refine w_iadd (μ := m_X3_touchesInRow) (pc := 143) dX3_touchesInRow_143 ?_
        refine w_bi (fun x_14 e_15 => ?_)
        refine w_istore [(4, .int x_14), (0, .ref a0), (1, .int x1), (5, .int x5v), (7, .int x7v)] (μ := m_X3_touchesInRow) (pc := 144) dX3_touchesInRow_144 (by decide) rfl ?_
        refine w_lv [1, 2, 0, 3, 4] rfl ?_
        exact t_J_X3_touchesInRow_146 wt hl (by omega) k0 _ _ _ _
def J_X3_touchesInRow_120 (N : Nat) (g : gp) (a0 : Nat) (x1 : Int32) (x2 : Int32) (x4v : Int32) (x5v : Int32) (x7v : Int32) (δ : dp) : Option (Int32 × dp) :=
  bi (x4v + 1) fun x_16 => J_X3_touchesInRow_123 N g a0 x1 x2 x_16 x5v x7v δ
set_option maxHeartbeats 4000000 in
set_option maxRecDepth 100000 in
theorem t_J_X3_touchesInRow_120 {l : Launch} {D : va_G} {cy : Nat → ClassId} {N d : Nat} {g : gp} (wt : WT g) (hl : l.stackTraces = false) (hd : 1 ≤ d) {a0 : Nat} {x1 : Int32} {x2 : Int32} (k0 : q_K g a0 = 3) : ∀ (x4v : Int32) (x5v : Int32) (x7v : Int32) (δ : dp), AWD l D cy m_X3_touchesInRow d 0 0 ei g 120 [(0, .ref a0), (1, .int x1), (4, .int x4v), (5, .int x5v), (7, .int x7v)] [] δ (J_X3_touchesInRow_120 N g a0 x1 x2 x4v x5v x7v δ) := by
    intro x4v x5v x7v δ 
    unfold J_X3_touchesInRow_120
    refine w_inb (fun x_16 e_17 => ?_)
    refine w_iinc 2 [(4, .int x_16), (0, .ref a0), (1, .int x1), (5, .int x5v), (7, .int x7v)] (μ := m_X3_touchesInRow) (pc := 120) dX3_touchesInRow_120 rfl (by rw [e_17]; rfl) (by decide) rfl ?_
    refine w_lv [1, 2, 0, 3, 4] rfl ?_
    exact t_J_X3_touchesInRow_123 wt hl (by omega) k0 _ _ _ _
def J_X3_touchesInRow_96 (N : Nat) (g : gp) (a0 : Nat) (x1 : Int32) (x2 : Int32) (xs0 : Int32) (x4v : Int32) (x5v : Int32) (δ : dp) : Option (Int32 × dp) :=
  if x1 = (4 : Int32) then (if x5v ≤ 0 then (J_X3_touchesInRow_123 N g a0 x1 x2 x4v x5v xs0 δ) else (J_X3_touchesInRow_120 N g a0 x1 x2 x4v x5v xs0 δ)) else (if (q_I δ 3 1 a0) ≤ x5v then (J_X3_touchesInRow_123 N g a0 x1 x2 x4v x5v xs0 δ) else (J_X3_touchesInRow_120 N g a0 x1 x2 x4v x5v xs0 δ))
set_option maxHeartbeats 4000000 in
set_option maxRecDepth 100000 in
theorem t_J_X3_touchesInRow_96 {l : Launch} {D : va_G} {cy : Nat → ClassId} {N d : Nat} {g : gp} (wt : WT g) (hl : l.stackTraces = false) (hd : 1 ≤ d) {a0 : Nat} {x1 : Int32} {x2 : Int32} (k0 : q_K g a0 = 3) : ∀ (xs0 : Int32) (x4v : Int32) (x5v : Int32) (δ : dp), AWD l D cy m_X3_touchesInRow d 0 0 ei g 96 [(0, .ref a0), (1, .int x1), (4, .int x4v), (5, .int x5v)] [.int xs0] δ (J_X3_touchesInRow_96 N g a0 x1 x2 xs0 x4v x5v δ) := by
    intro xs0 x4v x5v δ 
    unfold J_X3_touchesInRow_96
    refine w_istore [(7, .int xs0), (0, .ref a0), (1, .int x1), (4, .int x4v), (5, .int x5v)] (μ := m_X3_touchesInRow) (pc := 96) dX3_touchesInRow_96 (by decide) rfl ?_
    refine w_iload_n 2 1 (μ := m_X3_touchesInRow) (pc := 98) dX3_touchesInRow_98 rfl rfl ?_
    refine w_iconst (v := 4) (μ := m_X3_touchesInRow) (pc := 99) dX3_touchesInRow_99 (by decide) ?_
    refine w_icmp_ne 111 (μ := m_X3_touchesInRow) (pc := 100) dX3_touchesInRow_100 (by decide) (fun c_6 => ?_) (fun c_6 => ?_)
    · refine w_iload 4 (μ := m_X3_touchesInRow) (pc := 111) dX3_touchesInRow_111 rfl ?_
      refine w_aload_n 1 0 (μ := m_X3_touchesInRow) (pc := 113) dX3_touchesInRow_113 rfl rfl ?_
      refine w_getI (μ := m_X3_touchesInRow) (pc := 114) dX3_touchesInRow_114 fl_X3_15 ir_3_1 k0 ?_
      refine w_icmp_ge 123 (μ := m_X3_touchesInRow) (pc := 117) dX3_touchesInRow_117 (by decide) (fun c_7 => ?_) (fun c_7 => ?_)
      · refine w_lv [1, 2, 3, 4, 0] rfl ?_
        exact t_J_X3_touchesInRow_123 wt hl (by omega) k0 _ _ _ _
      · refine w_lv [1, 2, 3, 4, 0] rfl ?_
        exact t_J_X3_touchesInRow_120 wt hl (by omega) k0 _ _ _ _
    · refine w_iload 4 (μ := m_X3_touchesInRow) (pc := 103) dX3_touchesInRow_103 rfl ?_
      refine w_if_le 123 (μ := m_X3_touchesInRow) (pc := 105) dX3_touchesInRow_105 (by decide) (fun c_18 => ?_) (fun c_18 => ?_)
      · refine w_lv [1, 2, 3, 4, 0] rfl ?_
        exact t_J_X3_touchesInRow_123 wt hl (by omega) k0 _ _ _ _
      · refine w_goto 120 (μ := m_X3_touchesInRow) (pc := 108) dX3_touchesInRow_108 (by decide) ?_
        refine w_lv [1, 2, 3, 4, 0] rfl ?_
        exact t_J_X3_touchesInRow_120 wt hl (by omega) k0 _ _ _ _
def J_X3_touchesInRow_95 (N : Nat) (g : gp) (a0 : Nat) (x1 : Int32) (x2 : Int32) (x4v : Int32) (x5v : Int32) (δ : dp) : Option (Int32 × dp) :=
  J_X3_touchesInRow_96 N g a0 x1 x2 0 x4v x5v δ
set_option maxHeartbeats 4000000 in
set_option maxRecDepth 100000 in
theorem t_J_X3_touchesInRow_95 {l : Launch} {D : va_G} {cy : Nat → ClassId} {N d : Nat} {g : gp} (wt : WT g) (hl : l.stackTraces = false) (hd : 1 ≤ d) {a0 : Nat} {x1 : Int32} {x2 : Int32} (k0 : q_K g a0 = 3) : ∀ (x4v : Int32) (x5v : Int32) (δ : dp), AWD l D cy m_X3_touchesInRow d 0 0 ei g 95 [(0, .ref a0), (1, .int x1), (4, .int x4v), (5, .int x5v)] [] δ (J_X3_touchesInRow_95 N g a0 x1 x2 x4v x5v δ) := by
    intro x4v x5v δ 
    unfold J_X3_touchesInRow_95
    refine w_iconst (v := 0) (μ := m_X3_touchesInRow) (pc := 95) dX3_touchesInRow_95 (by decide) ?_
    exact t_J_X3_touchesInRow_96 wt hl (by omega) k0 _ _ _ _
def J_X3_touchesInRow_68 (N : Nat) (g : gp) (a0 : Nat) (x1 : Int32) (x2 : Int32) (kt25 : Int32 → Int32 → Int32 → Int32 → dp → Option (Int32 × dp)) (x3v : Int32) (x4v : Int32) (x5v : Int32) (x6v : Int32) (δ : dp) : Option (Int32 × dp) :=
  kt25 x3v x4v x5v x6v δ
set_option maxHeartbeats 4000000 in
set_option maxRecDepth 100000 in
theorem t_J_X3_touchesInRow_68 {l : Launch} {D : va_G} {cy : Nat → ClassId} {N d : Nat} {g : gp} (wt : WT g) (hl : l.stackTraces = false) (hd : 1 ≤ d) {a0 : Nat} {x1 : Int32} {x2 : Int32} (k0 : q_K g a0 = 3) {kt25 : Int32 → Int32 → Int32 → Int32 → dp → Option (Int32 × dp)} (hk25 : ∀ (x3v : Int32) (x4v : Int32) (x5v : Int32) (x6v : Int32) (δ : dp), AWD l D cy m_X3_touchesInRow d 0 0 ei g 25 [(0, .ref a0), (1, .int x1), (2, .int x2), (3, .int x3v), (4, .int x4v), (5, .int x5v), (6, .int x6v)] [] δ (kt25 x3v x4v x5v x6v δ)) : ∀ (x3v : Int32) (x4v : Int32) (x5v : Int32) (x6v : Int32) (δ : dp), AWD l D cy m_X3_touchesInRow d 0 0 ei g 68 [(0, .ref a0), (1, .int x1), (2, .int x2), (3, .int x3v), (4, .int x4v), (5, .int x5v), (6, .int x6v)] [] δ (J_X3_touchesInRow_68 N g a0 x1 x2 kt25 x3v x4v x5v x6v δ) := by
    intro x3v x4v x5v x6v δ 
    unfold J_X3_touchesInRow_68
    refine w_goto 25 (μ := m_X3_touchesInRow) (pc := 68) dX3_touchesInRow_68 (by decide) ?_
    exact hk25 _ _ _ _ _
def L_X3_touchesInRow_25 (N : Nat) (g : gp) (a0 : Nat) (x1 : Int32) (x2 : Int32) : Nat → Int32 → Int32 → Int32 → Int32 → dp → Option (Int32 × dp)
  | 0, _, _, _, _, _ => none
  | n + 1, x3v, x4v, x5v, x6v, δ => if x6v ≤ x5v then (if (q_I δ 3 1 a0) ≤ x5v then (J_X3_touchesInRow_95 N g a0 x1 x2 x4v x5v δ) else ((q_O g 3 0 a0).bind fun b_19 => if x5v < 0 ∨ q_N g b_19 ≤ x5v.toNatClampNeg then none else if (q_R δ b_19 x5v.toNatClampNeg) = x2 then (J_X3_touchesInRow_96 N g a0 x1 x2 1 x4v x5v δ) else (J_X3_touchesInRow_95 N g a0 x1 x2 x4v x5v δ))) else (bi ((x5v + x6v) / 2) fun x_22 => bi (x4v + 1) fun x_24 => (q_O g 3 0 a0).bind fun b_26 => if x_22 < 0 ∨ q_N g b_26 ≤ x_22.toNatClampNeg then none else if x3v ≤ (q_R δ b_26 x_22.toNatClampNeg) then (J_X3_touchesInRow_68 N g a0 x1 x2 (L_X3_touchesInRow_25 N g a0 x1 x2 n) x3v x_24 x5v x_22 δ) else (bi (x_22 + 1) fun x_29 => J_X3_touchesInRow_68 N g a0 x1 x2 (L_X3_touchesInRow_25 N g a0 x1 x2 n) x3v x_24 x_29 x6v δ))
set_option maxHeartbeats 4000000 in
set_option maxRecDepth 100000 in
theorem t_L_X3_touchesInRow_25 {l : Launch} {D : va_G} {cy : Nat → ClassId} {N d : Nat} {g : gp} (wt : WT g) (hl : l.stackTraces = false) (hd : 1 ≤ d) {a0 : Nat} {x1 : Int32} {x2 : Int32} (k0 : q_K g a0 = 3) : ∀ (n : Nat) (x3v : Int32) (x4v : Int32) (x5v : Int32) (x6v : Int32) (δ : dp), AWD l D cy m_X3_touchesInRow d 0 0 ei g 25 [(0, .ref a0), (1, .int x1), (2, .int x2), (3, .int x3v), (4, .int x4v), (5, .int x5v), (6, .int x6v)] [] δ (L_X3_touchesInRow_25 N g a0 x1 x2 n x3v x4v x5v x6v δ) := by
  intro n
  induction n with
  | zero => intro x3v x4v x5v x6v δ ; exact w_none
  | succ n ih =>
    intro x3v x4v x5v x6v δ 
    unfold L_X3_touchesInRow_25
    refine w_iload 5 (μ := m_X3_touchesInRow) (pc := 25) dX3_touchesInRow_25 rfl ?_
    refine w_iload 6 (μ := m_X3_touchesInRow) (pc := 27) dX3_touchesInRow_27 rfl ?_
    refine w_icmp_ge 71 (μ := m_X3_touchesInRow) (pc := 29) dX3_touchesInRow_29 (by decide) (fun c_4 => ?_) (fun c_4 => ?_)
    · refine w_iload 5 (μ := m_X3_touchesInRow) (pc := 71) dX3_touchesInRow_71 rfl ?_
      refine w_aload_n 0 0 (μ := m_X3_touchesInRow) (pc := 73) dX3_touchesInRow_73 rfl rfl ?_
      refine w_getI (μ := m_X3_touchesInRow) (pc := 74) dX3_touchesInRow_74 fl_X3_15 ir_3_1 k0 ?_
      refine w_icmp_ge 95 (μ := m_X3_touchesInRow) (pc := 77) dX3_touchesInRow_77 (by decide) (fun c_5 => ?_) (fun c_5 => ?_)
      · refine w_lv [0, 1, 4, 5] rfl ?_
        exact t_J_X3_touchesInRow_95 wt hl (by omega) k0 _ _ _
      · refine w_aload_n 0 0 (μ := m_X3_touchesInRow) (pc := 80) dX3_touchesInRow_80 rfl rfl ?_
        refine w_getO (μ := m_X3_touchesInRow) (pc := 81) dX3_touchesInRow_81 fl_X3_9 ir_3_0 id_3_0 k0 (fun b_19 e_20 => ?_)
        refine w_iload 5 (μ := m_X3_touchesInRow) (pc := 84) dX3_touchesInRow_84 rfl ?_
        refine w_ald (μ := m_X3_touchesInRow) (pc := 86) dX3_touchesInRow_86 (wt_3_0 wt k0 e_20) ?_
        refine w_iload_n 2 2 (μ := m_X3_touchesInRow) (pc := 87) dX3_touchesInRow_87 rfl rfl ?_
        refine w_icmp_ne 95 (μ := m_X3_touchesInRow) (pc := 88) dX3_touchesInRow_88 (by decide) (fun c_21 => ?_) (fun c_21 => ?_)
        · refine w_lv [0, 1, 4, 5] rfl ?_
          exact t_J_X3_touchesInRow_95 wt hl (by omega) k0 _ _ _
        · refine w_iconst (v := 1) (μ := m_X3_touchesInRow) (pc := 91) dX3_touchesInRow_91 (by decide) ?_
          refine w_goto 96 (μ := m_X3_touchesInRow) (pc := 92) dX3_touchesInRow_92 (by decide) ?_
          refine w_lv [0, 1, 4, 5] rfl ?_
          exact t_J_X3_touchesInRow_96 wt hl (by omega) k0 _ _ _ _
    · refine w_iload 5 (μ := m_X3_touchesInRow) (pc := 32) dX3_touchesInRow_32 rfl ?_
      refine w_iload 6 (μ := m_X3_touchesInRow) (pc := 34) dX3_touchesInRow_34 rfl ?_
      refine w_iadd (μ := m_X3_touchesInRow) (pc := 36) dX3_touchesInRow_36 ?_
      refine w_iconst (v := 2) (μ := m_X3_touchesInRow) (pc := 37) dX3_touchesInRow_37 (by decide) ?_
      refine w_idiv (μ := m_X3_touchesInRow) (pc := 38) dX3_touchesInRow_38 (by decide) ?_
      refine w_bi (fun x_22 e_23 => ?_)
      refine w_istore [(7, .int x_22), (0, .ref a0), (1, .int x1), (2, .int x2), (3, .int x3v), (4, .int x4v), (5, .int x5v), (6, .int x6v)] (μ := m_X3_touchesInRow) (pc := 39) dX3_touchesInRow_39 (by decide) rfl ?_
      refine w_inb (fun x_24 e_25 => ?_)
      refine w_iinc 5 [(4, .int x_24), (7, .int x_22), (0, .ref a0), (1, .int x1), (2, .int x2), (3, .int x3v), (5, .int x5v), (6, .int x6v)] (μ := m_X3_touchesInRow) (pc := 41) dX3_touchesInRow_41 rfl (by rw [e_25]; rfl) (by decide) rfl ?_
      refine w_aload_n 2 0 (μ := m_X3_touchesInRow) (pc := 44) dX3_touchesInRow_44 rfl rfl ?_
      refine w_getO (μ := m_X3_touchesInRow) (pc := 45) dX3_touchesInRow_45 fl_X3_9 ir_3_0 id_3_0 k0 (fun b_26 e_27 => ?_)
      refine w_iload 1 (μ := m_X3_touchesInRow) (pc := 48) dX3_touchesInRow_48 rfl ?_
      refine w_ald (μ := m_X3_touchesInRow) (pc := 50) dX3_touchesInRow_50 (wt_3_0 wt k0 e_27) ?_
      refine w_iload_n 5 3 (μ := m_X3_touchesInRow) (pc := 51) dX3_touchesInRow_51 rfl rfl ?_
      refine w_icmp_ge 64 (μ := m_X3_touchesInRow) (pc := 52) dX3_touchesInRow_52 (by decide) (fun c_28 => ?_) (fun c_28 => ?_)
      · refine w_iload 1 (μ := m_X3_touchesInRow) (pc := 64) dX3_touchesInRow_64 rfl ?_
        refine w_istore [(6, .int x_22), (4, .int x_24), (7, .int x_22), (0, .ref a0), (1, .int x1), (2, .int x2), (3, .int x3v), (5, .int x5v)] (μ := m_X3_touchesInRow) (pc := 66) dX3_touchesInRow_66 (by decide) rfl ?_
        refine w_lv [3, 4, 5, 6, 1, 7, 0] rfl ?_
        exact t_J_X3_touchesInRow_68 wt hl (by omega) k0 ih _ _ _ _ _
      · refine w_iload 1 (μ := m_X3_touchesInRow) (pc := 55) dX3_touchesInRow_55 rfl ?_
        refine w_iconst (v := 1) (μ := m_X3_touchesInRow) (pc := 57) dX3_touchesInRow_57 (by decide) ?_
        refine w_iadd (μ := m_X3_touchesInRow) (pc := 58) dX3_touchesInRow_58 ?_
        refine w_bi (fun x_29 e_30 => ?_)
        refine w_istore [(5, .int x_29), (4, .int x_24), (7, .int x_22), (0, .ref a0), (1, .int x1), (2, .int x2), (3, .int x3v), (6, .int x6v)] (μ := m_X3_touchesInRow) (pc := 59) dX3_touchesInRow_59 (by decide) rfl ?_
        refine w_goto 68 (μ := m_X3_touchesInRow) (pc := 61) dX3_touchesInRow_61 (by decide) ?_
        refine w_lv [3, 4, 5, 6, 1, 0, 7] rfl ?_
        exact t_J_X3_touchesInRow_68 wt hl (by omega) k0 ih _ _ _ _ _
def J_X3_touchesInRow_12 (N : Nat) (g : gp) (a0 : Nat) (x1 : Int32) (x2 : Int32) (xs0 : Int32) (δ : dp) : Option (Int32 × dp) :=
  bi (q_I δ 3 1 a0) fun x_2 => L_X3_touchesInRow_25 N g a0 x1 x2 N xs0 0 0 x_2 δ
set_option maxHeartbeats 4000000 in
set_option maxRecDepth 100000 in
theorem t_J_X3_touchesInRow_12 {l : Launch} {D : va_G} {cy : Nat → ClassId} {N d : Nat} {g : gp} (wt : WT g) (hl : l.stackTraces = false) (hd : 1 ≤ d) {a0 : Nat} {x1 : Int32} {x2 : Int32} (k0 : q_K g a0 = 3) : ∀ (xs0 : Int32) (δ : dp), AWD l D cy m_X3_touchesInRow d 0 0 ei g 12 [(0, .ref a0), (1, .int x1), (2, .int x2)] [.int xs0] δ (J_X3_touchesInRow_12 N g a0 x1 x2 xs0 δ) := by
    intro xs0 δ 
    unfold J_X3_touchesInRow_12
    refine w_istore_n [(3, .int xs0), (0, .ref a0), (1, .int x1), (2, .int x2)] (μ := m_X3_touchesInRow) (pc := 12) dX3_touchesInRow_12 rfl (by decide) rfl ?_
    refine w_iconst (v := 0) (μ := m_X3_touchesInRow) (pc := 13) dX3_touchesInRow_13 (by decide) ?_
    refine w_istore [(4, .int 0), (3, .int xs0), (0, .ref a0), (1, .int x1), (2, .int x2)] (μ := m_X3_touchesInRow) (pc := 14) dX3_touchesInRow_14 (by decide) rfl ?_
    refine w_iconst (v := 0) (μ := m_X3_touchesInRow) (pc := 16) dX3_touchesInRow_16 (by decide) ?_
    refine w_istore [(5, .int 0), (4, .int 0), (3, .int xs0), (0, .ref a0), (1, .int x1), (2, .int x2)] (μ := m_X3_touchesInRow) (pc := 17) dX3_touchesInRow_17 (by decide) rfl ?_
    refine w_aload_n 3 0 (μ := m_X3_touchesInRow) (pc := 19) dX3_touchesInRow_19 rfl rfl ?_
    refine w_getI (μ := m_X3_touchesInRow) (pc := 20) dX3_touchesInRow_20 fl_X3_15 ir_3_1 k0 ?_
    refine w_bi (fun x_2 e_3 => ?_)
    refine w_istore [(6, .int x_2), (5, .int 0), (4, .int 0), (3, .int xs0), (0, .ref a0), (1, .int x1), (2, .int x2)] (μ := m_X3_touchesInRow) (pc := 23) dX3_touchesInRow_23 (by decide) rfl ?_
    refine w_lv [4, 5, 6, 3, 2, 1, 0] rfl ?_
    exact t_L_X3_touchesInRow_25 wt hl (by omega) k0 N _ _ _ _ _
def D_X3_touchesInRow (N : Nat) (g : gp) (a0 : Nat) (x1 : Int32) (x2 : Int32) (δ : dp) : Option (Int32 × dp) :=
  if x1 = (3 : Int32) then (J_X3_touchesInRow_12 N g a0 x1 x2 (x2 + 1) δ) else (J_X3_touchesInRow_12 N g a0 x1 x2 x2 δ)
set_option maxHeartbeats 4000000 in
set_option maxRecDepth 100000 in
theorem c_X3_touchesInRow {l : Launch} {D : va_G} {cy : Nat → ClassId} {N d : Nat} {g : gp} (wt : WT g) (hl : l.stackTraces = false) (hd : 1 ≤ d) {a0 : Nat} {x1 : Int32} {x2 : Int32} {δ : dp} (k0 : q_K g a0 = 3) : CalD l D cy m_X3_touchesInRow d 0 0 ei g [.ref a0, .int x1, .int x2] δ (D_X3_touchesInRow N g a0 x1 x2 δ) := by
  refine CalD.of (by decide +kernel) (Nat.le_of_ble_eq_true rfl) hl ?_
  unfold D_X3_touchesInRow
  refine w_iload_n 1 1 (μ := m_X3_touchesInRow) (pc := 0) dX3_touchesInRow_0 rfl rfl ?_
  refine w_iconst (v := 3) (μ := m_X3_touchesInRow) (pc := 1) dX3_touchesInRow_1 (by decide) ?_
  refine w_icmp_ne 11 (μ := m_X3_touchesInRow) (pc := 2) dX3_touchesInRow_2 (by decide) (fun c_1 => ?_) (fun c_1 => ?_)
  · refine w_iload_n 2 2 (μ := m_X3_touchesInRow) (pc := 11) dX3_touchesInRow_11 rfl rfl ?_
    exact t_J_X3_touchesInRow_12 wt hl (by omega) k0 _ _
  · refine w_iload_n 2 2 (μ := m_X3_touchesInRow) (pc := 5) dX3_touchesInRow_5 rfl rfl ?_
    refine w_iconst (v := 1) (μ := m_X3_touchesInRow) (pc := 6) dX3_touchesInRow_6 (by decide) ?_
    refine w_iadd (μ := m_X3_touchesInRow) (pc := 7) dX3_touchesInRow_7 ?_
    refine w_goto 12 (μ := m_X3_touchesInRow) (pc := 8) dX3_touchesInRow_8 (by decide) ?_
    exact t_J_X3_touchesInRow_12 wt hl (by omega) k0 _ _
def L_X3_beFirstSet_15 (N : Nat) (g : gp) (a0 : Nat) (x1 : Int32) : Nat → Int32 → dp → Option (dp)
  | 0, _, _ => none
  | n + 1, x2v, δ => if (q_I δ 3 1 a0) ≤ x2v then (some δ) else ((q_O g 3 0 a0).bind fun b_7 => if x2v < 0 ∨ q_N g b_7 ≤ x2v.toNatClampNeg then none else bd (s_R δ b_7 x2v.toNatClampNeg x2v) fun δ_9 => bi (x2v + 1) fun x_11 => L_X3_beFirstSet_15 N g a0 x1 n x_11 δ_9)
set_option maxHeartbeats 4000000 in
set_option maxRecDepth 100000 in
theorem t_L_X3_beFirstSet_15 {l : Launch} {D : va_G} {cy : Nat → ClassId} {N d : Nat} {g : gp} (wt : WT g) (hl : l.stackTraces = false) (hd : 2 ≤ d) {a0 : Nat} {x1 : Int32} (k0 : q_K g a0 = 3) : ∀ (n : Nat) (x2v : Int32) (δ : dp), AWD l D cy m_X3_beFirstSet d 0 0 ev g 15 [(0, .ref a0), (2, .int x2v)] [] δ (L_X3_beFirstSet_15 N g a0 x1 n x2v δ) := by
  intro n
  induction n with
  | zero => intro x2v δ ; exact w_none
  | succ n ih =>
    intro x2v δ 
    unfold L_X3_beFirstSet_15
    refine w_iload_n 1 2 (μ := m_X3_beFirstSet) (pc := 15) dX3_beFirstSet_15 rfl rfl ?_
    refine w_aload_n 0 0 (μ := m_X3_beFirstSet) (pc := 16) dX3_beFirstSet_16 rfl rfl ?_
    refine w_getI (μ := m_X3_beFirstSet) (pc := 17) dX3_beFirstSet_17 fl_X3_15 ir_3_1 k0 ?_
    refine w_icmp_ge 36 (μ := m_X3_beFirstSet) (pc := 20) dX3_beFirstSet_20 (by decide) (fun c_6 => ?_) (fun c_6 => ?_)
    · exact w_vret (μ := m_X3_beFirstSet) (pc := 36) dX3_beFirstSet_36 rfl rfl
    · refine w_aload_n 0 0 (μ := m_X3_beFirstSet) (pc := 23) dX3_beFirstSet_23 rfl rfl ?_
      refine w_getO (μ := m_X3_beFirstSet) (pc := 24) dX3_beFirstSet_24 fl_X3_9 ir_3_0 id_3_0 k0 (fun b_7 e_8 => ?_)
      refine w_iload_n 1 2 (μ := m_X3_beFirstSet) (pc := 27) dX3_beFirstSet_27 rfl rfl ?_
      refine w_iload_n 1 2 (μ := m_X3_beFirstSet) (pc := 28) dX3_beFirstSet_28 rfl rfl ?_
      refine w_ast (μ := m_X3_beFirstSet) (pc := 29) dX3_beFirstSet_29 (wt_3_0 wt k0 e_8) ?_
      refine w_bd (fun δ_9 e_10 => ?_)
      refine w_inb (fun x_11 e_12 => ?_)
      refine w_iinc 1 [(2, .int x_11), (0, .ref a0)] (μ := m_X3_beFirstSet) (pc := 30) dX3_beFirstSet_30 rfl (by rw [e_12]; rfl) (by decide) rfl ?_
      refine w_goto 15 (μ := m_X3_beFirstSet) (pc := 33) dX3_beFirstSet_33 (by decide) ?_
      refine w_lv [1, 0] rfl ?_
      exact ih _ _
def D_X3_beFirstSet (N : Nat) (g : gp) (a0 : Nat) (x1 : Int32) (δ : dp) : Option (dp) :=
  (q_O g 3 0 a0).bind fun b_1 => (D_J9_min_7cf53 N g x1 (Int32.ofNat (q_N g b_1)) δ).bind fun r_3 => bd (s_I r_3.2 3 1 a0 r_3.1) fun δ_4 => L_X3_beFirstSet_15 N g a0 x1 N 0 δ_4
set_option maxHeartbeats 4000000 in
set_option maxRecDepth 100000 in
theorem c_X3_beFirstSet {l : Launch} {D : va_G} {cy : Nat → ClassId} {N d : Nat} {g : gp} (wt : WT g) (hl : l.stackTraces = false) (hd : 2 ≤ d) {a0 : Nat} {x1 : Int32} {δ : dp} (k0 : q_K g a0 = 3) : CalD l D cy m_X3_beFirstSet d 0 0 ev g [.ref a0, .int x1] δ (D_X3_beFirstSet N g a0 x1 δ) := by
  refine CalD.of (by decide +kernel) (Nat.le_of_ble_eq_true rfl) hl ?_
  unfold D_X3_beFirstSet
  refine w_aload_n 0 0 (μ := m_X3_beFirstSet) (pc := 0) dX3_beFirstSet_0 rfl rfl ?_
  refine w_iload_n 1 1 (μ := m_X3_beFirstSet) (pc := 1) dX3_beFirstSet_1 rfl rfl ?_
  refine w_aload_n 0 0 (μ := m_X3_beFirstSet) (pc := 2) dX3_beFirstSet_2 rfl rfl ?_
  refine w_getO (μ := m_X3_beFirstSet) (pc := 3) dX3_beFirstSet_3 fl_X3_9 ir_3_0 id_3_0 k0 (fun b_1 e_2 => ?_)
  refine w_alen 0 (ty := .int) (μ := m_X3_beFirstSet) (pc := 6) dX3_beFirstSet_6 (wt_3_0 wt k0 e_2) rfl (by decide) ?_
  refine w_callS (As := [.int x1, .int (Int32.ofNat (q_N g b_1))]) (rest := [.ref a0]) (μ := m_X3_beFirstSet) (pc := 7) dX3_beFirstSet_7 cs_X3_19 rfl rfl (Nat.le_of_ble_eq_true rfl) (d' := d - 1) (by omega) he_i (c_J9_min_7cf53 wt hl (d := d - 1) (by omega) ) (fun r_3 => ?_)
  refine w_putI (μ := m_X3_beFirstSet) (pc := 10) dX3_beFirstSet_10 fl_X3_15 flw_3_1 ir_3_1 k0 ?_
  refine w_bd (fun δ_4 e_5 => ?_)
  refine w_iconst (v := 0) (μ := m_X3_beFirstSet) (pc := 13) dX3_beFirstSet_13 (by decide) ?_
  refine w_istore_n [(2, .int 0), (0, .ref a0), (1, .int x1)] (μ := m_X3_beFirstSet) (pc := 14) dX3_beFirstSet_14 rfl (by decide) rfl ?_
  refine w_lv [1, 0] rfl ?_
  exact t_L_X3_beFirstSet_15 wt hl (by omega) k0 N _ _
def L_X3_beNextSet_58 (N : Nat) (g : gp) (a0 : Nat) (x1 : Int32) : Nat → Int32 → Int32 → dp → Option (Int32 × dp)
  | 0, _, _, _ => none
  | n + 1, x2v, x4v, δ => if x2v ≤ x4v then (if (1 : Int32) = 0 ∨ (1 : Int32) = 1 then some (1, δ) else none) else ((q_O g 3 0 a0).bind fun b_13 => if x4v < 0 ∨ q_N g b_13 ≤ x4v.toNatClampNeg then none else bd (s_R δ b_13 x4v.toNatClampNeg x4v) fun δ_15 => bi (x4v + 1) fun x_17 => L_X3_beNextSet_58 N g a0 x1 n x2v x_17 δ_15)
set_option maxHeartbeats 4000000 in
set_option maxRecDepth 100000 in
theorem t_L_X3_beNextSet_58 {l : Launch} {D : va_G} {cy : Nat → ClassId} {N d : Nat} {g : gp} (wt : WT g) (hl : l.stackTraces = false) (hd : 1 ≤ d) {a0 : Nat} {x1 : Int32} (k0 : q_K g a0 = 3) : ∀ (n : Nat) (x2v : Int32) (x4v : Int32) (δ : dp), AWD l D cy m_X3_beNextSet d 0 0 ei g 58 [(0, .ref a0), (2, .int x2v), (4, .int x4v)] [] δ (L_X3_beNextSet_58 N g a0 x1 n x2v x4v δ) := by
  intro n
  induction n with
  | zero => intro x2v x4v δ ; exact w_none
  | succ n ih =>
    intro x2v x4v δ 
    unfold L_X3_beNextSet_58
    refine w_iload 2 (μ := m_X3_beNextSet) (pc := 58) dX3_beNextSet_58 rfl ?_
    refine w_iload_n 1 2 (μ := m_X3_beNextSet) (pc := 60) dX3_beNextSet_60 rfl rfl ?_
    refine w_icmp_ge 79 (μ := m_X3_beNextSet) (pc := 61) dX3_beNextSet_61 (by decide) (fun c_12 => ?_) (fun c_12 => ?_)
    · refine w_iconst (v := 1) (μ := m_X3_beNextSet) (pc := 79) dX3_beNextSet_79 (by decide) ?_
      exact w_zret (μ := m_X3_beNextSet) (pc := 80) dX3_beNextSet_80 rfl rfl
    · refine w_aload_n 0 0 (μ := m_X3_beNextSet) (pc := 64) dX3_beNextSet_64 rfl rfl ?_
      refine w_getO (μ := m_X3_beNextSet) (pc := 65) dX3_beNextSet_65 fl_X3_9 ir_3_0 id_3_0 k0 (fun b_13 e_14 => ?_)
      refine w_iload 2 (μ := m_X3_beNextSet) (pc := 68) dX3_beNextSet_68 rfl ?_
      refine w_iload 2 (μ := m_X3_beNextSet) (pc := 70) dX3_beNextSet_70 rfl ?_
      refine w_ast (μ := m_X3_beNextSet) (pc := 72) dX3_beNextSet_72 (wt_3_0 wt k0 e_14) ?_
      refine w_bd (fun δ_15 e_16 => ?_)
      refine w_inb (fun x_17 e_18 => ?_)
      refine w_iinc 2 [(4, .int x_17), (0, .ref a0), (2, .int x2v)] (μ := m_X3_beNextSet) (pc := 73) dX3_beNextSet_73 rfl (by rw [e_18]; rfl) (by decide) rfl ?_
      refine w_goto 58 (μ := m_X3_beNextSet) (pc := 76) dX3_beNextSet_76 (by decide) ?_
      refine w_lv [1, 2, 0] rfl ?_
      exact ih _ _ _
def J_X3_beNextSet_32 (N : Nat) (g : gp) (a0 : Nat) (x1 : Int32) (kt2 : Int32 → dp → Option (Int32 × dp)) (xs0 : Int32) (x2v : Int32) (δ : dp) : Option (Int32 × dp) :=
  (q_O g 3 0 a0).bind fun b_3 => if x2v < 0 ∨ q_N g b_3 ≤ x2v.toNatClampNeg then none else if xs0 ≤ ((q_R δ b_3 x2v.toNatClampNeg) + 1) then (bi (x2v + 1) fun x_6 => kt2 x_6 δ) else ((q_O g 3 0 a0).bind fun b_8 => if x2v < 0 ∨ q_N g b_8 ≤ x2v.toNatClampNeg then none else if x2v < 0 ∨ q_N g b_8 ≤ x2v.toNatClampNeg then none else bd (s_R δ b_8 x2v.toNatClampNeg ((q_R δ b_8 x2v.toNatClampNeg) + 1)) fun δ_10 => L_X3_beNextSet_58 N g a0 x1 N x2v 0 δ_10)
set_option maxHeartbeats 4000000 in
set_option maxRecDepth 100000 in
theorem t_J_X3_beNextSet_32 {l : Launch} {D : va_G} {cy : Nat → ClassId} {N d : Nat} {g : gp} (wt : WT g) (hl : l.stackTraces = false) (hd : 1 ≤ d) {a0 : Nat} {x1 : Int32} (k0 : q_K g a0 = 3) {kt2 : Int32 → dp → Option (Int32 × dp)} (hk2 : ∀ (x2v : Int32) (δ : dp), AWD l D cy m_X3_beNextSet d 0 0 ei g 2 [(0, .ref a0), (1, .int x1), (2, .int x2v)] [] δ (kt2 x2v δ)) : ∀ (xs0 : Int32) (x2v : Int32) (δ : dp), AWD l D cy m_X3_beNextSet d 0 0 ei g 32 [(0, .ref a0), (1, .int x1), (2, .int x2v)] [.int xs0] δ (J_X3_beNextSet_32 N g a0 x1 kt2 xs0 x2v δ) := by
    intro xs0 x2v δ 
    unfold J_X3_beNextSet_32
    refine w_istore_n [(3, .int xs0), (0, .ref a0), (1, .int x1), (2, .int x2v)] (μ := m_X3_beNextSet) (pc := 32) dX3_beNextSet_32 rfl (by decide) rfl ?_
    refine w_aload_n 1 0 (μ := m_X3_beNextSet) (pc := 33) dX3_beNextSet_33 rfl rfl ?_
    refine w_getO (μ := m_X3_beNextSet) (pc := 34) dX3_beNextSet_34 fl_X3_9 ir_3_0 id_3_0 k0 (fun b_3 e_4 => ?_)
    refine w_iload_n 3 2 (μ := m_X3_beNextSet) (pc := 37) dX3_beNextSet_37 rfl rfl ?_
    refine w_ald (μ := m_X3_beNextSet) (pc := 38) dX3_beNextSet_38 (wt_3_0 wt k0 e_4) ?_
    refine w_iconst (v := 1) (μ := m_X3_beNextSet) (pc := 39) dX3_beNextSet_39 (by decide) ?_
    refine w_iadd (μ := m_X3_beNextSet) (pc := 40) dX3_beNextSet_40 ?_
    refine w_iload_n 0 3 (μ := m_X3_beNextSet) (pc := 41) dX3_beNextSet_41 rfl rfl ?_
    refine w_icmp_ge 81 (μ := m_X3_beNextSet) (pc := 42) dX3_beNextSet_42 (by decide) (fun c_5 => ?_) (fun c_5 => ?_)
    · refine w_inb (fun x_6 e_7 => ?_)
      refine w_iinc 3 [(2, .int x_6), (3, .int xs0), (0, .ref a0), (1, .int x1)] (μ := m_X3_beNextSet) (pc := 81) dX3_beNextSet_81 rfl (by rw [e_7]; rfl) (by decide) rfl ?_
      refine w_goto 2 (μ := m_X3_beNextSet) (pc := 84) dX3_beNextSet_84 (by decide) ?_
      refine w_lv [2, 3, 0] rfl ?_
      exact hk2 _ _
    · refine w_aload_n 1 0 (μ := m_X3_beNextSet) (pc := 45) dX3_beNextSet_45 rfl rfl ?_
      refine w_getO (μ := m_X3_beNextSet) (pc := 46) dX3_beNextSet_46 fl_X3_9 ir_3_0 id_3_0 k0 (fun b_8 e_9 => ?_)
      refine w_iload_n 3 2 (μ := m_X3_beNextSet) (pc := 49) dX3_beNextSet_49 rfl rfl ?_
      refine w_dup2 (μ := m_X3_beNextSet) (pc := 50) dX3_beNextSet_50 rfl rfl ?_
      refine w_ald (μ := m_X3_beNextSet) (pc := 51) dX3_beNextSet_51 (wt_3_0 wt k0 e_9) ?_
      refine w_iconst (v := 1) (μ := m_X3_beNextSet) (pc := 52) dX3_beNextSet_52 (by decide) ?_
      refine w_iadd (μ := m_X3_beNextSet) (pc := 53) dX3_beNextSet_53 ?_
      refine w_ast (μ := m_X3_beNextSet) (pc := 54) dX3_beNextSet_54 (wt_3_0 wt k0 e_9) ?_
      refine w_bd (fun δ_10 e_11 => ?_)
      refine w_iconst (v := 0) (μ := m_X3_beNextSet) (pc := 55) dX3_beNextSet_55 (by decide) ?_
      refine w_istore [(4, .int 0), (3, .int xs0), (0, .ref a0), (1, .int x1), (2, .int x2v)] (μ := m_X3_beNextSet) (pc := 56) dX3_beNextSet_56 (by decide) rfl ?_
      refine w_lv [2, 4, 0] rfl ?_
      exact t_L_X3_beNextSet_58 wt hl (by omega) k0 N _ _ _
def L_X3_beNextSet_2 (N : Nat) (g : gp) (a0 : Nat) (x1 : Int32) : Nat → Int32 → dp → Option (Int32 × dp)
  | 0, _, _ => none
  | n + 1, x2v, δ => if (q_I δ 3 1 a0) ≤ x2v then (if (0 : Int32) = 0 ∨ (0 : Int32) = 1 then some (0, δ) else none) else (if (q_I δ 3 1 a0) ≤ (x2v + 1) then (J_X3_beNextSet_32 N g a0 x1 (L_X3_beNextSet_2 N g a0 x1 n) x1 x2v δ) else ((q_O g 3 0 a0).bind fun b_19 => if (x2v + 1) < 0 ∨ q_N g b_19 ≤ (x2v + 1).toNatClampNeg then none else J_X3_beNextSet_32 N g a0 x1 (L_X3_beNextSet_2 N g a0 x1 n) (q_R δ b_19 (x2v + 1).toNatClampNeg) x2v δ))
set_option maxHeartbeats 4000000 in
set_option maxRecDepth 100000 in
theorem t_L_X3_beNextSet_2 {l : Launch} {D : va_G} {cy : Nat → ClassId} {N d : Nat} {g : gp} (wt : WT g) (hl : l.stackTraces = false) (hd : 1 ≤ d) {a0 : Nat} {x1 : Int32} (k0 : q_K g a0 = 3) : ∀ (n : Nat) (x2v : Int32) (δ : dp), AWD l D cy m_X3_beNextSet d 0 0 ei g 2 [(0, .ref a0), (1, .int x1), (2, .int x2v)] [] δ (L_X3_beNextSet_2 N g a0 x1 n x2v δ) := by
  intro n
  induction n with
  | zero => intro x2v δ ; exact w_none
  | succ n ih =>
    intro x2v δ 
    unfold L_X3_beNextSet_2
    refine w_iload_n 2 2 (μ := m_X3_beNextSet) (pc := 2) dX3_beNextSet_2 rfl rfl ?_
    refine w_aload_n 0 0 (μ := m_X3_beNextSet) (pc := 3) dX3_beNextSet_3 rfl rfl ?_
    refine w_getI (μ := m_X3_beNextSet) (pc := 4) dX3_beNextSet_4 fl_X3_15 ir_3_1 k0 ?_
    refine w_icmp_ge 87 (μ := m_X3_beNextSet) (pc := 7) dX3_beNextSet_7 (by decide) (fun c_1 => ?_) (fun c_1 => ?_)
    · refine w_iconst (v := 0) (μ := m_X3_beNextSet) (pc := 87) dX3_beNextSet_87 (by decide) ?_
      exact w_zret (μ := m_X3_beNextSet) (pc := 88) dX3_beNextSet_88 rfl rfl
    · refine w_iload_n 2 2 (μ := m_X3_beNextSet) (pc := 10) dX3_beNextSet_10 rfl rfl ?_
      refine w_iconst (v := 1) (μ := m_X3_beNextSet) (pc := 11) dX3_beNextSet_11 (by decide) ?_
      refine w_iadd (μ := m_X3_beNextSet) (pc := 12) dX3_beNextSet_12 ?_
      refine w_aload_n 0 0 (μ := m_X3_beNextSet) (pc := 13) dX3_beNextSet_13 rfl rfl ?_
      refine w_getI (μ := m_X3_beNextSet) (pc := 14) dX3_beNextSet_14 fl_X3_15 ir_3_1 k0 ?_
      refine w_icmp_ge 31 (μ := m_X3_beNextSet) (pc := 17) dX3_beNextSet_17 (by decide) (fun c_2 => ?_) (fun c_2 => ?_)
      · refine w_iload_n 1 1 (μ := m_X3_beNextSet) (pc := 31) dX3_beNextSet_31 rfl rfl ?_
        exact t_J_X3_beNextSet_32 wt hl (by omega) k0 ih _ _ _
      · refine w_aload_n 0 0 (μ := m_X3_beNextSet) (pc := 20) dX3_beNextSet_20 rfl rfl ?_
        refine w_getO (μ := m_X3_beNextSet) (pc := 21) dX3_beNextSet_21 fl_X3_9 ir_3_0 id_3_0 k0 (fun b_19 e_20 => ?_)
        refine w_iload_n 2 2 (μ := m_X3_beNextSet) (pc := 24) dX3_beNextSet_24 rfl rfl ?_
        refine w_iconst (v := 1) (μ := m_X3_beNextSet) (pc := 25) dX3_beNextSet_25 (by decide) ?_
        refine w_iadd (μ := m_X3_beNextSet) (pc := 26) dX3_beNextSet_26 ?_
        refine w_ald (μ := m_X3_beNextSet) (pc := 27) dX3_beNextSet_27 (wt_3_0 wt k0 e_20) ?_
        refine w_goto 32 (μ := m_X3_beNextSet) (pc := 28) dX3_beNextSet_28 (by decide) ?_
        exact t_J_X3_beNextSet_32 wt hl (by omega) k0 ih _ _ _
def D_X3_beNextSet (N : Nat) (g : gp) (a0 : Nat) (x1 : Int32) (δ : dp) : Option (Int32 × dp) :=
  L_X3_beNextSet_2 N g a0 x1 N 0 δ
set_option maxHeartbeats 4000000 in
set_option maxRecDepth 100000 in
theorem c_X3_beNextSet {l : Launch} {D : va_G} {cy : Nat → ClassId} {N d : Nat} {g : gp} (wt : WT g) (hl : l.stackTraces = false) (hd : 1 ≤ d) {a0 : Nat} {x1 : Int32} {δ : dp} (k0 : q_K g a0 = 3) : CalD l D cy m_X3_beNextSet d 0 0 ei g [.ref a0, .int x1] δ (D_X3_beNextSet N g a0 x1 δ) := by
  refine CalD.of (by decide +kernel) (Nat.le_of_ble_eq_true rfl) hl ?_
  unfold D_X3_beNextSet
  refine w_iconst (v := 0) (μ := m_X3_beNextSet) (pc := 0) dX3_beNextSet_0 (by decide) ?_
  refine w_istore_n [(2, .int 0), (0, .ref a0), (1, .int x1)] (μ := m_X3_beNextSet) (pc := 1) dX3_beNextSet_1 rfl (by decide) rfl ?_
  refine w_lv [1, 2, 0] rfl ?_
  exact t_L_X3_beNextSet_2 wt hl (by omega) k0 N _ _
