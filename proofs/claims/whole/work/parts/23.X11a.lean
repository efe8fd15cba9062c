theorem dX11_feed_0 : decode cX11_feed 0 = .ok (.aload_n 0, 1) := by decide +kernel
theorem dX11_feed_1 : decode cX11_feed 1 = .ok (.getfield 10, 3) := by decide +kernel
theorem dX11_feed_4 : decode cX11_feed 4 = .ok (.invokevirtual 92, 3) := by decide +kernel
theorem dX11_feed_7 : decode cX11_feed 7 = .ok (.ifCond .ne 5, 3) := by decide +kernel
theorem dX11_feed_10 : decode cX11_feed 10 = .ok (.iconst (-1), 1) := by decide +kernel
theorem dX11_feed_11 : decode cX11_feed 11 = .ok (.ireturn, 1) := by decide +kernel
theorem dX11_feed_12 : decode cX11_feed 12 = .ok (.aload_n 0, 1) := by decide +kernel
theorem dX11_feed_13 : decode cX11_feed 13 = .ok (.getfield 10, 3) := by decide +kernel
theorem dX11_feed_16 : decode cX11_feed 16 = .ok (.iload_n 1, 1) := by decide +kernel
theorem dX11_feed_17 : decode cX11_feed 17 = .ok (.invokevirtual 96, 3) := by decide +kernel
theorem dX11_feed_20 : decode cX11_feed 20 = .ok (.aload_n 0, 1) := by decide +kernel
theorem dX11_feed_21 : decode cX11_feed 21 = .ok (.getfield 10, 3) := by decide +kernel
theorem dX11_feed_24 : decode cX11_feed 24 = .ok (.iload_n 2, 1) := by decide +kernel
theorem dX11_feed_25 : decode cX11_feed 25 = .ok (.invokevirtual 96, 3) := by decide +kernel
theorem dX11_feed_28 : decode cX11_feed 28 = .ok (.aload_n 0, 1) := by decide +kernel
theorem dX11_feed_29 : decode cX11_feed 29 = .ok (.getfield 10, 3) := by decide +kernel
theorem dX11_feed_32 : decode cX11_feed 32 = .ok (.iload_n 3, 1) := by decide +kernel
theorem dX11_feed_33 : decode cX11_feed 33 = .ok (.invokevirtual 96, 3) := by decide +kernel
theorem dX11_feed_36 : decode cX11_feed 36 = .ok (.aload_n 0, 1) := by decide +kernel
theorem dX11_feed_37 : decode cX11_feed 37 = .ok (.getfield 10, 3) := by decide +kernel
theorem dX11_feed_40 : decode cX11_feed 40 = .ok (.iload 4, 2) := by decide +kernel
theorem dX11_feed_42 : decode cX11_feed 42 = .ok (.invokevirtual 96, 3) := by decide +kernel
theorem dX11_feed_45 : decode cX11_feed 45 = .ok (.aload_n 0, 1) := by decide +kernel
theorem dX11_feed_46 : decode cX11_feed 46 = .ok (.getfield 10, 3) := by decide +kernel
theorem dX11_feed_49 : decode cX11_feed 49 = .ok (.iload 5, 2) := by decide +kernel
theorem dX11_feed_51 : decode cX11_feed 51 = .ok (.invokevirtual 96, 3) := by decide +kernel
theorem dX11_feed_54 : decode cX11_feed 54 = .ok (.aload_n 0, 1) := by decide +kernel
theorem dX11_feed_55 : decode cX11_feed 55 = .ok (.getfield 10, 3) := by decide +kernel
theorem dX11_feed_58 : decode cX11_feed 58 = .ok (.getfield 99, 3) := by decide +kernel
theorem dX11_feed_61 : decode cX11_feed 61 = .ok (.ireturn, 1) := by decide +kernel
theorem dX11_fault_0 : decode cX11_fault 0 = .ok (.aload_n 0, 1) := by decide +kernel
theorem dX11_fault_1 : decode cX11_fault 1 = .ok (.getfield 10, 3) := by decide +kernel
theorem dX11_fault_4 : decode cX11_fault 4 = .ok (.invokevirtual 114, 3) := by decide +kernel
theorem dX11_fault_7 : decode cX11_fault 7 = .ok (.ifCond .eq 7, 3) := by decide +kernel
theorem dX11_fault_10 : decode cX11_fault 10 = .ok (.iconst (-1), 1) := by decide +kernel
theorem dX11_fault_11 : decode cX11_fault 11 = .ok (.goto 10, 3) := by decide +kernel
theorem dX11_fault_14 : decode cX11_fault 14 = .ok (.aload_n 0, 1) := by decide +kernel
theorem dX11_fault_15 : decode cX11_fault 15 = .ok (.getfield 10, 3) := by decide +kernel
theorem dX11_fault_18 : decode cX11_fault 18 = .ok (.getfield 143, 3) := by decide +kernel
theorem dX11_fault_21 : decode cX11_fault 21 = .ok (.ireturn, 1) := by decide +kernel
theorem dX11_image_0 : decode cX11_image 0 = .ok (.aload_n 0, 1) := by decide +kernel
theorem dX11_image_1 : decode cX11_image 1 = .ok (.getfield 126, 3) := by decide +kernel
theorem dX11_image_4 : decode cX11_image 4 = .ok (.iconst 3, 1) := by decide +kernel
theorem dX11_image_5 : decode cX11_image 5 = .ok (.if_icmp .lt 5, 3) := by decide +kernel
theorem dX11_image_8 : decode cX11_image 8 = .ok (.iconst (-1), 1) := by decide +kernel
theorem dX11_image_9 : decode cX11_image 9 = .ok (.ireturn, 1) := by decide +kernel
theorem dX11_image_10 : decode cX11_image 10 = .ok (.iconst 0, 1) := by decide +kernel
theorem dX11_image_11 : decode cX11_image 11 = .ok (.istore_n 1, 1) := by decide +kernel
theorem dX11_image_12 : decode cX11_image 12 = .ok (.iload_n 1, 1) := by decide +kernel
theorem dX11_image_13 : decode cX11_image 13 = .ok (.iconst 4, 1) := by decide +kernel
theorem dX11_image_14 : decode cX11_image 14 = .ok (.if_icmp .ge 29, 3) := by decide +kernel
theorem dX11_image_17 : decode cX11_image 17 = .ok (.aload_n 0, 1) := by decide +kernel
theorem dX11_image_18 : decode cX11_image 18 = .ok (.getfield 83, 3) := by decide +kernel
theorem dX11_image_21 : decode cX11_image 21 = .ok (.aload_n 0, 1) := by decide +kernel
theorem dX11_image_22 : decode cX11_image 22 = .ok (.getfield 126, 3) := by decide +kernel
theorem dX11_image_25 : decode cX11_image 25 = .ok (.aaload, 1) := by decide +kernel
theorem dX11_image_26 : decode cX11_image 26 = .ok (.iload_n 1, 1) := by decide +kernel
theorem dX11_image_27 : decode cX11_image 27 = .ok (.aload_n 0, 1) := by decide +kernel
theorem dX11_image_28 : decode cX11_image 28 = .ok (.getfield 45, 3) := by decide +kernel
theorem dX11_image_31 : decode cX11_image 31 = .ok (.iload_n 1, 1) := by decide +kernel
theorem dX11_image_32 : decode cX11_image 32 = .ok (.aaload, 1) := by decide +kernel
theorem dX11_image_33 : decode cX11_image 33 = .ok (.getfield 170, 3) := by decide +kernel
theorem dX11_image_36 : decode cX11_image 36 = .ok (.iastore, 1) := by decide +kernel
theorem dX11_image_37 : decode cX11_image 37 = .ok (.iinc 1 1, 3) := by decide +kernel
theorem dX11_image_40 : decode cX11_image 40 = .ok (.goto (-28), 3) := by decide +kernel
theorem dX11_image_43 : decode cX11_image 43 = .ok (.aload_n 0, 1) := by decide +kernel
theorem dX11_image_44 : decode cX11_image 44 = .ok (.dup, 1) := by decide +kernel
theorem dX11_image_45 : decode cX11_image 45 = .ok (.getfield 126, 3) := by decide +kernel
theorem dX11_image_48 : decode cX11_image 48 = .ok (.iconst 1, 1) := by decide +kernel
theorem dX11_image_49 : decode cX11_image 49 = .ok (.iadd, 1) := by decide +kernel
theorem dX11_image_50 : decode cX11_image 50 = .ok (.putfield 126, 3) := by decide +kernel
theorem dX11_image_53 : decode cX11_image 53 = .ok (.aload_n 0, 1) := by decide +kernel
theorem dX11_image_54 : decode cX11_image 54 = .ok (.getfield 126, 3) := by decide +kernel
theorem dX11_image_57 : decode cX11_image 57 = .ok (.ireturn, 1) := by decide +kernel
theorem dX11_restore_0 : decode cX11_restore 0 = .ok (.aload_n 0, 1) := by decide +kernel
theorem dX11_restore_1 : decode cX11_restore 1 = .ok (.getfield 126, 3) := by decide +kernel
theorem dX11_restore_4 : decode cX11_restore 4 = .ok (.ifCond .gt 5, 3) := by decide +kernel
theorem dX11_restore_7 : decode cX11_restore 7 = .ok (.iconst (-1), 1) := by decide +kernel
theorem dX11_restore_8 : decode cX11_restore 8 = .ok (.ireturn, 1) := by decide +kernel
theorem dX11_restore_9 : decode cX11_restore 9 = .ok (.aload_n 0, 1) := by decide +kernel
theorem dX11_restore_10 : decode cX11_restore 10 = .ok (.dup, 1) := by decide +kernel
theorem dX11_restore_11 : decode cX11_restore 11 = .ok (.getfield 126, 3) := by decide +kernel
theorem dX11_restore_14 : decode cX11_restore 14 = .ok (.iconst 1, 1) := by decide +kernel
theorem dX11_restore_15 : decode cX11_restore 15 = .ok (.isub, 1) := by decide +kernel
theorem dX11_restore_16 : decode cX11_restore 16 = .ok (.putfield 126, 3) := by decide +kernel
theorem dX11_restore_19 : decode cX11_restore 19 = .ok (.iconst 0, 1) := by decide +kernel
theorem dX11_restore_20 : decode cX11_restore 20 = .ok (.istore_n 1, 1) := by decide +kernel
theorem dX11_restore_21 : decode cX11_restore 21 = .ok (.iload_n 1, 1) := by decide +kernel
theorem dX11_restore_22 : decode cX11_restore 22 = .ok (.iconst 4, 1) := by decide +kernel
theorem dX11_restore_23 : decode cX11_restore 23 = .ok (.if_icmp .ge 29, 3) := by decide +kernel
theorem dX11_restore_26 : decode cX11_restore 26 = .ok (.aload_n 0, 1) := by decide +kernel
theorem dX11_restore_27 : decode cX11_restore 27 = .ok (.getfield 45, 3) := by decide +kernel
theorem dX11_restore_30 : decode cX11_restore 30 = .ok (.iload_n 1, 1) := by decide +kernel
theorem dX11_restore_31 : decode cX11_restore 31 = .ok (.aaload, 1) := by decide +kernel
theorem dX11_restore_32 : decode cX11_restore 32 = .ok (.aload_n 0, 1) := by decide +kernel
theorem dX11_restore_33 : decode cX11_restore 33 = .ok (.getfield 83, 3) := by decide +kernel
theorem dX11_restore_36 : decode cX11_restore 36 = .ok (.aload_n 0, 1) := by decide +kernel
theorem dX11_restore_37 : decode cX11_restore 37 = .ok (.getfield 126, 3) := by decide +kernel
theorem dX11_restore_40 : decode cX11_restore 40 = .ok (.aaload, 1) := by decide +kernel
theorem dX11_restore_41 : decode cX11_restore 41 = .ok (.iload_n 1, 1) := by decide +kernel
theorem dX11_restore_42 : decode cX11_restore 42 = .ok (.iaload, 1) := by decide +kernel
theorem dX11_restore_43 : decode cX11_restore 43 = .ok (.invokevirtual 321, 3) := by decide +kernel
theorem dX11_restore_46 : decode cX11_restore 46 = .ok (.iinc 1 1, 3) := by decide +kernel
theorem dX11_restore_49 : decode cX11_restore 49 = .ok (.goto (-28), 3) := by decide +kernel
theorem dX11_restore_52 : decode cX11_restore 52 = .ok (.aload_n 0, 1) := by decide +kernel
theorem dX11_restore_53 : decode cX11_restore 53 = .ok (.getfield 63, 3) := by decide +kernel
theorem dX11_restore_56 : decode cX11_restore 56 = .ok (.invokevirtual 129, 3) := by decide +kernel
theorem dX11_restore_59 : decode cX11_restore 59 = .ok (.aload_n 0, 1) := by decide +kernel
theorem dX11_restore_60 : decode cX11_restore 60 = .ok (.getfield 126, 3) := by decide +kernel
theorem dX11_restore_63 : decode cX11_restore 63 = .ok (.ireturn, 1) := by decide +kernel
theorem dX11_status_0 : decode cX11_status 0 = .ok (.iload_n 1, 1) := by decide +kernel
theorem dX11_status_1 : decode cX11_status 1 = .ok (.ifCond .lt 8, 3) := by decide +kernel
theorem dX11_status_4 : decode cX11_status 4 = .ok (.iload_n 1, 1) := by decide +kernel
theorem dX11_status_5 : decode cX11_status 5 = .ok (.iconst 3, 1) := by decide +kernel
theorem dX11_status_6 : decode cX11_status 6 = .ok (.if_icmp .lt 7, 3) := by decide +kernel
theorem dX11_status_9 : decode cX11_status 9 = .ok (.iconst (-1), 1) := by decide +kernel
theorem dX11_status_10 : decode cX11_status 10 = .ok (.goto 9, 3) := by decide +kernel
theorem dX11_status_13 : decode cX11_status 13 = .ok (.aload_n 0, 1) := by decide +kernel
theorem dX11_status_14 : decode cX11_status 14 = .ok (.getfield 86, 3) := by decide +kernel
theorem dX11_status_17 : decode cX11_status 17 = .ok (.iload_n 1, 1) := by decide +kernel
theorem dX11_status_18 : decode cX11_status 18 = .ok (.iaload, 1) := by decide +kernel
theorem dX11_status_19 : decode cX11_status 19 = .ok (.ireturn, 1) := by decide +kernel
theorem dX11_count_0 : decode cX11_count 0 = .ok (.iload_n 1, 1) := by decide +kernel
theorem dX11_count_1 : decode cX11_count 1 = .ok (.ifCond .ne 8, 3) := by decide +kernel
theorem dX11_count_4 : decode cX11_count 4 = .ok (.aload_n 0, 1) := by decide +kernel
theorem dX11_count_5 : decode cX11_count 5 = .ok (.getfield 126, 3) := by decide +kernel
theorem dX11_count_8 : decode cX11_count 8 = .ok (.ireturn, 1) := by decide +kernel
theorem dX11_count_9 : decode cX11_count 9 = .ok (.iload_n 1, 1) := by decide +kernel
theorem dX11_count_10 : decode cX11_count 10 = .ok (.iconst 1, 1) := by decide +kernel
theorem dX11_count_11 : decode cX11_count 11 = .ok (.if_icmp .ne 11, 3) := by decide +kernel
theorem dX11_count_14 : decode cX11_count 14 = .ok (.aload_n 0, 1) := by decide +kernel
theorem dX11_count_15 : decode cX11_count 15 = .ok (.getfield 10, 3) := by decide +kernel
theorem dX11_count_18 : decode cX11_count 18 = .ok (.getfield 99, 3) := by decide +kernel
theorem dX11_count_21 : decode cX11_count 21 = .ok (.ireturn, 1) := by decide +kernel
theorem dX11_count_22 : decode cX11_count 22 = .ok (.iload_n 1, 1) := by decide +kernel
theorem dX11_count_23 : decode cX11_count 23 = .ok (.iconst 2, 1) := by decide +kernel
theorem dX11_count_24 : decode cX11_count 24 = .ok (.if_icmp .eq 5, 3) := by decide +kernel
theorem dX11_count_27 : decode cX11_count 27 = .ok (.iconst (-1), 1) := by decide +kernel
theorem dX11_count_28 : decode cX11_count 28 = .ok (.ireturn, 1) := by decide +kernel
theorem dX11_count_29 : decode cX11_count 29 = .ok (.iconst 0, 1) := by decide +kernel
theorem dX11_count_30 : decode cX11_count 30 = .ok (.istore_n 2, 1) := by decide +kernel
theorem dX11_count_31 : decode cX11_count 31 = .ok (.iconst 0, 1) := by decide +kernel
theorem dX11_count_32 : decode cX11_count 32 = .ok (.istore_n 3, 1) := by decide +kernel
theorem dX11_count_33 : decode cX11_count 33 = .ok (.iload_n 3, 1) := by decide +kernel
theorem dX11_count_34 : decode cX11_count 34 = .ok (.iconst 4, 1) := by decide +kernel
theorem dX11_count_35 : decode cX11_count 35 = .ok (.if_icmp .ge 24, 3) := by decide +kernel
theorem dX11_count_38 : decode cX11_count 38 = .ok (.iload_n 2, 1) := by decide +kernel
theorem dX11_count_39 : decode cX11_count 39 = .ok (.aload_n 0, 1) := by decide +kernel
theorem dX11_count_40 : decode cX11_count 40 = .ok (.getfield 45, 3) := by decide +kernel
theorem dX11_count_43 : decode cX11_count 43 = .ok (.iload_n 3, 1) := by decide +kernel
theorem dX11_count_44 : decode cX11_count 44 = .ok (.aaload, 1) := by decide +kernel
theorem dX11_count_45 : decode cX11_count 45 = .ok (.getfield 163, 3) := by decide +kernel
theorem dX11_count_48 : decode cX11_count 48 = .ok (.getfield 228, 3) := by decide +kernel
theorem dX11_count_51 : decode cX11_count 51 = .ok (.iadd, 1) := by decide +kernel
theorem dX11_count_52 : decode cX11_count 52 = .ok (.istore_n 2, 1) := by decide +kernel
theorem dX11_count_53 : decode cX11_count 53 = .ok (.iinc 3 1, 3) := by decide +kernel
theorem dX11_count_56 : decode cX11_count 56 = .ok (.goto (-23), 3) := by decide +kernel
theorem dX11_count_59 : decode cX11_count 59 = .ok (.iload_n 2, 1) := by decide +kernel
theorem dX11_count_60 : decode cX11_count 60 = .ok (.ireturn, 1) := by decide +kernel
theorem dX11_isNumber_0 : decode cX11_isNumber 0 = .ok (.iload_n 1, 1) := by decide +kernel
theorem dX11_isNumber_1 : decode cX11_isNumber 1 = .ok (.ifCond .lt 18, 3) := by decide +kernel
theorem dX11_isNumber_4 : decode cX11_isNumber 4 = .ok (.iload_n 1, 1) := by decide +kernel
theorem dX11_isNumber_5 : decode cX11_isNumber 5 = .ok (.aload_n 0, 1) := by decide +kernel
theorem dX11_isNumber_6 : decode cX11_isNumber 6 = .ok (.getfield 19, 3) := by decide +kernel
theorem dX11_isNumber_9 : decode cX11_isNumber 9 = .ok (.invokevirtual 222, 3) := by decide +kernel
theorem dX11_isNumber_12 : decode cX11_isNumber 12 = .ok (.if_icmp .gt 7, 3) := by decide +kernel
theorem dX11_isNumber_15 : decode cX11_isNumber 15 = .ok (.iconst 1, 1) := by decide +kernel
theorem dX11_isNumber_16 : decode cX11_isNumber 16 = .ok (.goto 4, 3) := by decide +kernel
theorem dX11_isNumber_19 : decode cX11_isNumber 19 = .ok (.iconst 0, 1) := by decide +kernel
theorem dX11_isNumber_20 : decode cX11_isNumber 20 = .ok (.ireturn, 1) := by decide +kernel
theorem dX11_isCall_0 : decode cX11_isCall 0 = .ok (.iload_n 0, 1) := by decide +kernel
theorem dX11_isCall_1 : decode cX11_isCall 1 = .ok (.ifCond .lt 12, 3) := by decide +kernel
theorem dX11_isCall_4 : decode cX11_isCall 4 = .ok (.iload_n 0, 1) := by decide +kernel
theorem dX11_isCall_5 : decode cX11_isCall 5 = .ok (.iconst 5, 1) := by decide +kernel
theorem dX11_isCall_6 : decode cX11_isCall 6 = .ok (.if_icmp .ge 7, 3) := by decide +kernel
theorem dX11_isCall_9 : decode cX11_isCall 9 = .ok (.iconst 1, 1) := by decide +kernel
theorem dX11_isCall_10 : decode cX11_isCall 10 = .ok (.goto 4, 3) := by decide +kernel
theorem dX11_isCall_13 : decode cX11_isCall 13 = .ok (.iconst 0, 1) := by decide +kernel
theorem dX11_isCall_14 : decode cX11_isCall 14 = .ok (.ireturn, 1) := by decide +kernel
theorem dX11_isKind_0 : decode cX11_isKind 0 = .ok (.iload_n 0, 1) := by decide +kernel
theorem dX11_isKind_1 : decode cX11_isKind 1 = .ok (.ifCond .lt 12, 3) := by decide +kernel
theorem dX11_isKind_4 : decode cX11_isKind 4 = .ok (.iload_n 0, 1) := by decide +kernel
theorem dX11_isKind_5 : decode cX11_isKind 5 = .ok (.iconst 2, 1) := by decide +kernel
theorem dX11_isKind_6 : decode cX11_isKind 6 = .ok (.if_icmp .gt 7, 3) := by decide +kernel
theorem dX11_isKind_9 : decode cX11_isKind 9 = .ok (.iconst 1, 1) := by decide +kernel
theorem dX11_isKind_10 : decode cX11_isKind 10 = .ok (.goto 4, 3) := by decide +kernel
theorem dX11_isKind_13 : decode cX11_isKind 13 = .ok (.iconst 0, 1) := by decide +kernel
theorem dX11_isKind_14 : decode cX11_isKind 14 = .ok (.ireturn, 1) := by decide +kernel
theorem dX11_mayAsk_0 : decode cX11_mayAsk 0 = .ok (.aload_n 0, 1) := by decide +kernel
theorem dX11_mayAsk_1 : decode cX11_mayAsk 1 = .ok (.iload_n 2, 1) := by decide +kernel
theorem dX11_mayAsk_2 : decode cX11_mayAsk 2 = .ok (.invokevirtual 190, 3) := by decide +kernel
theorem dX11_mayAsk_5 : decode cX11_mayAsk 5 = .ok (.ifCond .ne 31, 3) := by decide +kernel
theorem dX11_mayAsk_8 : decode cX11_mayAsk 8 = .ok (.iload_n 1, 1) := by decide +kernel
theorem dX11_mayAsk_9 : decode cX11_mayAsk 9 = .ok (.iconst 3, 1) := by decide +kernel
theorem dX11_mayAsk_10 : decode cX11_mayAsk 10 = .ok (.if_icmp .ne 8, 3) := by decide +kernel
theorem dX11_mayAsk_13 : decode cX11_mayAsk 13 = .ok (.iload_n 2, 1) := by decide +kernel
theorem dX11_mayAsk_14 : decode cX11_mayAsk 14 = .ok (.iconst (-1), 1) := by decide +kernel
theorem dX11_mayAsk_15 : decode cX11_mayAsk 15 = .ok (.if_icmp .eq 21, 3) := by decide +kernel
theorem dX11_mayAsk_18 : decode cX11_mayAsk 18 = .ok (.iload_n 1, 1) := by decide +kernel
theorem dX11_mayAsk_19 : decode cX11_mayAsk 19 = .ok (.iconst 4, 1) := by decide +kernel
theorem dX11_mayAsk_20 : decode cX11_mayAsk 20 = .ok (.if_icmp .ne 20, 3) := by decide +kernel
theorem dX11_mayAsk_23 : decode cX11_mayAsk 23 = .ok (.iload_n 2, 1) := by decide +kernel
theorem dX11_mayAsk_24 : decode cX11_mayAsk 24 = .ok (.aload_n 0, 1) := by decide +kernel
theorem dX11_mayAsk_25 : decode cX11_mayAsk 25 = .ok (.getfield 19, 3) := by decide +kernel
theorem dX11_mayAsk_28 : decode cX11_mayAsk 28 = .ok (.invokevirtual 222, 3) := by decide +kernel
theorem dX11_mayAsk_31 : decode cX11_mayAsk 31 = .ok (.iconst 1, 1) := by decide +kernel
theorem dX11_mayAsk_32 : decode cX11_mayAsk 32 = .ok (.iadd, 1) := by decide +kernel
theorem dX11_mayAsk_33 : decode cX11_mayAsk 33 = .ok (.if_icmp .ne 7, 3) := by decide +kernel
theorem dX11_mayAsk_36 : decode cX11_mayAsk 36 = .ok (.iconst 1, 1) := by decide +kernel
theorem dX11_mayAsk_37 : decode cX11_mayAsk 37 = .ok (.goto 4, 3) := by decide +kernel
theorem dX11_mayAsk_40 : decode cX11_mayAsk 40 = .ok (.iconst 0, 1) := by decide +kernel
theorem dX11_mayAsk_41 : decode cX11_mayAsk 41 = .ok (.ireturn, 1) := by decide +kernel
theorem dX11_mayGoThroughAll_0 : decode cX11_mayGoThroughAll 0 = .ok (.iload_n 1, 1) := by decide +kernel
theorem dX11_mayGoThroughAll_1 : decode cX11_mayGoThroughAll 1 = .ok (.invokestatic 196, 3) := by decide +kernel
theorem dX11_mayGoThroughAll_4 : decode cX11_mayGoThroughAll 4 = .ok (.ifCond .eq 32, 3) := by decide +kernel
theorem dX11_mayGoThroughAll_7 : decode cX11_mayGoThroughAll 7 = .ok (.aload_n 0, 1) := by decide +kernel
theorem dX11_mayGoThroughAll_8 : decode cX11_mayGoThroughAll 8 = .ok (.getfield 19, 3) := by decide +kernel
theorem dX11_mayGoThroughAll_11 : decode cX11_mayGoThroughAll 11 = .ok (.invokevirtual 299, 3) := by decide +kernel
theorem dX11_mayGoThroughAll_14 : decode cX11_mayGoThroughAll 14 = .ok (.ifCond .eq 22, 3) := by decide +kernel
theorem dX11_mayGoThroughAll_17 : decode cX11_mayGoThroughAll 17 = .ok (.iload_n 2, 1) := by decide +kernel
theorem dX11_mayGoThroughAll_18 : decode cX11_mayGoThroughAll 18 = .ok (.ifCond .lt 18, 3) := by decide +kernel
theorem dX11_mayGoThroughAll_21 : decode cX11_mayGoThroughAll 21 = .ok (.iload_n 2, 1) := by decide +kernel
theorem dX11_mayGoThroughAll_22 : decode cX11_mayGoThroughAll 22 = .ok (.aload_n 0, 1) := by decide +kernel
theorem dX11_mayGoThroughAll_23 : decode cX11_mayGoThroughAll 23 = .ok (.getfield 19, 3) := by decide +kernel
theorem dX11_mayGoThroughAll_26 : decode cX11_mayGoThroughAll 26 = .ok (.invokevirtual 296, 3) := by decide +kernel
theorem dX11_mayGoThroughAll_29 : decode cX11_mayGoThroughAll 29 = .ok (.if_icmp .gt 7, 3) := by decide +kernel
theorem dX11_mayGoThroughAll_32 : decode cX11_mayGoThroughAll 32 = .ok (.iconst 1, 1) := by decide +kernel
theorem dX11_mayGoThroughAll_33 : decode cX11_mayGoThroughAll 33 = .ok (.goto 4, 3) := by decide +kernel
theorem dX11_mayGoThroughAll_36 : decode cX11_mayGoThroughAll 36 = .ok (.iconst 0, 1) := by decide +kernel
theorem dX11_mayGoThroughAll_37 : decode cX11_mayGoThroughAll 37 = .ok (.ireturn, 1) := by decide +kernel
def D_X11_feed (N : Nat) (g : gp) (a0 : Nat) (x1 : Int32) (x2 : Int32) (x3 : Int32) (x4 : Int32) (x5 : Int32) (δ : dp) : Option (Int32 × dp) :=
  (q_O g 11 0 a0).bind fun b_1 => (D_X7_hasPlace N g b_1 δ).bind fun r_3 => if r_3.1 = 0 then (some ((-1), r_3.2)) else ((q_O g 11 0 a0).bind fun b_5 => (D_X7_take N g b_5 x1 r_3.2).bind fun r_7 => (q_O g 11 0 a0).bind fun b_8 => (D_X7_take N g b_8 x2 r_7).bind fun r_10 => (q_O g 11 0 a0).bind fun b_11 => (D_X7_take N g b_11 x3 r_10).bind fun r_13 => (q_O g 11 0 a0).bind fun b_14 => (D_X7_take N g b_14 x4 r_13).bind fun r_16 => (q_O g 11 0 a0).bind fun b_17 => (D_X7_take N g b_17 x5 r_16).bind fun r_19 => (q_O g 11 0 a0).bind fun b_20 => some (q_I r_19 7 1 b_20, r_19))
set_option maxHeartbeats 4000000 in
set_option maxRecDepth 100000 in
theorem c_X11_feed {l : Launch} {D : va_G} {cy : Nat → ClassId} {N d : Nat} {g : gp} (wt : WT g) (hl : l.stackTraces = false) (hd : 2 ≤ d) {a0 : Nat} {x1 : Int32} {x2 : Int32} {x3 : Int32} {x4 : Int32} {x5 : Int32} {δ : dp} (k0 : q_K g a0 = 11) : CalD l D cy m_X11_feed d 0 0 ei g [.ref a0, .int x1, .int x2, .int x3, .int x4, .int x5] δ (D_X11_feed N g a0 x1 x2 x3 x4 x5 δ) := by
  refine CalD.of (by decide +kernel) (Nat.le_of_ble_eq_true rfl) hl ?_
  unfold D_X11_feed
  refine w_aload_n 0 0 (μ := m_X11_feed) (pc := 0) dX11_feed_0 rfl rfl ?_
  refine w_getO (μ := m_X11_feed) (pc := 1) dX11_feed_1 fl_X11_10 ir_11_0 id_11_0 k0 (fun b_1 e_2 => ?_)
  refine w_callV (As := []) (rest := []) (μ := m_X11_feed) (pc := 4) dX11_feed_4 cv_X11_92 rfl rfl (wt_11_0 wt k0 e_2) (by decide) rfl (Nat.le_of_ble_eq_true rfl) (d' := d - 1) (by omega) he_i (c_X7_hasPlace wt hl (d := d - 1) (by omega) (wt_11_0 wt k0 e_2)) (fun r_3 => ?_)
  refine w_if_ne 12 (μ := m_X11_feed) (pc := 7) dX11_feed_7 (by decide) (fun c_4 => ?_) (fun c_4 => ?_)
  · refine w_aload_n 0 0 (μ := m_X11_feed) (pc := 12) dX11_feed_12 rfl rfl ?_
    refine w_getO (μ := m_X11_feed) (pc := 13) dX11_feed_13 fl_X11_10 ir_11_0 id_11_0 k0 (fun b_5 e_6 => ?_)
    refine w_iload_n 1 1 (μ := m_X11_feed) (pc := 16) dX11_feed_16 rfl rfl ?_
    refine w_callV (As := [.int x1]) (rest := []) (μ := m_X11_feed) (pc := 17) dX11_feed_17 cv_X11_96 rfl rfl (wt_11_0 wt k0 e_6) (by decide) rfl (Nat.le_of_ble_eq_true rfl) (d' := d - 1) (by omega) he_v (c_X7_take wt hl (d := d - 1) (by omega) (wt_11_0 wt k0 e_6)) (fun r_7 => ?_)
    refine w_aload_n 0 0 (μ := m_X11_feed) (pc := 20) dX11_feed_20 rfl rfl ?_
    refine w_getO (μ := m_X11_feed) (pc := 21) dX11_feed_21 fl_X11_10 ir_11_0 id_11_0 k0 (fun b_8 e_9 => ?_)
    refine w_iload_n 2 2 (μ := m_X11_feed) (pc := 24) dX11_feed_24 rfl rfl ?_
    refine w_callV (As := [.int x2]) (rest := []) (μ := m_X11_feed) (pc := 25) dX11_feed_25 cv_X11_96 rfl rfl (wt_11_0 wt k0 e_9) (by decide) rfl (Nat.le_of_ble_eq_true rfl) (d' := d - 1) (by omega) he_v (c_X7_take wt hl (d := d - 1) (by omega) (wt_11_0 wt k0 e_9)) (fun r_10 => ?_)
    refine w_aload_n 0 0 (μ := m_X11_feed) (pc := 28) dX11_feed_28 rfl rfl ?_
    refine w_getO (μ := m_X11_feed) (pc := 29) dX11_feed_29 fl_X11_10 ir_11_0 id_11_0 k0 (fun b_11 e_12 => ?_)
    refine w_iload_n 3 3 (μ := m_X11_feed) (pc := 32) dX11_feed_32 rfl rfl ?_
    refine w_callV (As := [.int x3]) (rest := []) (μ := m_X11_feed) (pc := 33) dX11_feed_33 cv_X11_96 rfl rfl (wt_11_0 wt k0 e_12) (by decide) rfl (Nat.le_of_ble_eq_true rfl) (d' := d - 1) (by omega) he_v (c_X7_take wt hl (d := d - 1) (by omega) (wt_11_0 wt k0 e_12)) (fun r_13 => ?_)
    refine w_aload_n 0 0 (μ := m_X11_feed) (pc := 36) dX11_feed_36 rfl rfl ?_
    refine w_getO (μ := m_X11_feed) (pc := 37) dX11_feed_37 fl_X11_10 ir_11_0 id_11_0 k0 (fun b_14 e_15 => ?_)
    refine w_iload 4 (μ := m_X11_feed) (pc := 40) dX11_feed_40 rfl ?_
    refine w_callV (As := [.int x4]) (rest := []) (μ := m_X11_feed) (pc := 42) dX11_feed_42 cv_X11_96 rfl rfl (wt_11_0 wt k0 e_15) (by decide) rfl (Nat.le_of_ble_eq_true rfl) (d' := d - 1) (by omega) he_v (c_X7_take wt hl (d := d - 1) (by omega) (wt_11_0 wt k0 e_15)) (fun r_16 => ?_)
    refine w_aload_n 0 0 (μ := m_X11_feed) (pc := 45) dX11_feed_45 rfl rfl ?_
    refine w_getO (μ := m_X11_feed) (pc := 46) dX11_feed_46 fl_X11_10 ir_11_0 id_11_0 k0 (fun b_17 e_18 => ?_)
    refine w_iload 5 (μ := m_X11_feed) (pc := 49) dX11_feed_49 rfl ?_
    refine w_callV (As := [.int x5]) (rest := []) (μ := m_X11_feed) (pc := 51) dX11_feed_51 cv_X11_96 rfl rfl (wt_11_0 wt k0 e_18) (by decide) rfl (Nat.le_of_ble_eq_true rfl) (d' := d - 1) (by omega) he_v (c_X7_take wt hl (d := d - 1) (by omega) (wt_11_0 wt k0 e_18)) (fun r_19 => ?_)
    refine w_aload_n 0 0 (μ := m_X11_feed) (pc := 54) dX11_feed_54 rfl rfl ?_
    refine w_getO (μ := m_X11_feed) (pc := 55) dX11_feed_55 fl_X11_10 ir_11_0 id_11_0 k0 (fun b_20 e_21 => ?_)
    refine w_getI (μ := m_X11_feed) (pc := 58) dX11_feed_58 fl_X11_99 ir_7_1 (wt_11_0 wt k0 e_21) ?_
    exact w_iret (μ := m_X11_feed) (pc := 61) dX11_feed_61 rfl rfl
  · refine w_iconst (v := (-1)) (μ := m_X11_feed) (pc := 10) dX11_feed_10 (by decide) ?_
    exact w_iret (μ := m_X11_feed) (pc := 11) dX11_feed_11 rfl rfl
def J_X11_fault_21 (N : Nat) (g : gp) (a0 : Nat) (xs0 : Int32) (δ : dp) : Option (Int32 × dp) :=
  some (xs0, δ)
set_option maxHeartbeats 4000000 in
set_option maxRecDepth 100000 in
theorem t_J_X11_fault_21 {l : Launch} {D : va_G} {cy : Nat → ClassId} {N d : Nat} {g : gp} (wt : WT g) (hl : l.stackTraces = false) (hd : 2 ≤ d) {a0 : Nat} (k0 : q_K g a0 = 11) : ∀ (xs0 : Int32) (δ : dp), AWD l D cy m_X11_fault d 0 0 ei g 21 [] [.int xs0] δ (J_X11_fault_21 N g a0 xs0 δ) := by
    intro xs0 δ 
    unfold J_X11_fault_21
    exact w_iret (μ := m_X11_fault) (pc := 21) dX11_fault_21 rfl rfl
def D_X11_fault (N : Nat) (g : gp) (a0 : Nat) (δ : dp) : Option (Int32 × dp) :=
  (q_O g 11 0 a0).bind fun b_1 => (D_X7_isSound N g b_1 δ).bind fun r_3 => if r_3.1 = 0 then ((q_O g 11 0 a0).bind fun b_5 => J_X11_fault_21 N g a0 (q_I r_3.2 7 6 b_5) r_3.2) else (J_X11_fault_21 N g a0 ((-1)) r_3.2)
set_option maxHeartbeats 4000000 in
set_option maxRecDepth 100000 in
theorem c_X11_fault {l : Launch} {D : va_G} {cy : Nat → ClassId} {N d : Nat} {g : gp} (wt : WT g) (hl : l.stackTraces = false) (hd : 2 ≤ d) {a0 : Nat} {δ : dp} (k0 : q_K g a0 = 11) : CalD l D cy m_X11_fault d 0 0 ei g [.ref a0] δ (D_X11_fault N g a0 δ) := by
  refine CalD.of (by decide +kernel) (Nat.le_of_ble_eq_true rfl) hl ?_
  unfold D_X11_fault
  refine w_aload_n 0 0 (μ := m_X11_fault) (pc := 0) dX11_fault_0 rfl rfl ?_
  refine w_getO (μ := m_X11_fault) (pc := 1) dX11_fault_1 fl_X11_10 ir_11_0 id_11_0 k0 (fun b_1 e_2 => ?_)
  refine w_callV (As := []) (rest := []) (μ := m_X11_fault) (pc := 4) dX11_fault_4 cv_X11_114 rfl rfl (wt_11_0 wt k0 e_2) (by decide) rfl (Nat.le_of_ble_eq_true rfl) (d' := d - 1) (by omega) he_i (c_X7_isSound wt hl (d := d - 1) (by omega) (wt_11_0 wt k0 e_2)) (fun r_3 => ?_)
  refine w_if_eq 14 (μ := m_X11_fault) (pc := 7) dX11_fault_7 (by decide) (fun c_4 => ?_) (fun c_4 => ?_)
  · refine w_aload_n 0 0 (μ := m_X11_fault) (pc := 14) dX11_fault_14 rfl rfl ?_
    refine w_getO (μ := m_X11_fault) (pc := 15) dX11_fault_15 fl_X11_10 ir_11_0 id_11_0 k0 (fun b_5 e_6 => ?_)
    refine w_getI (μ := m_X11_fault) (pc := 18) dX11_fault_18 fl_X11_143 ir_7_6 (wt_11_0 wt k0 e_6) ?_
    refine w_lv [] rfl ?_
    exact t_J_X11_fault_21 wt hl (by omega) k0 _ _
  · refine w_iconst (v := (-1)) (μ := m_X11_fault) (pc := 10) dX11_fault_10 (by decide) ?_
    refine w_goto 21 (μ := m_X11_fault) (pc := 11) dX11_fault_11 (by decide) ?_
    refine w_lv [] rfl ?_
    exact t_J_X11_fault_21 wt hl (by omega) k0 _ _
def L_X11_image_12 (N : Nat) (g : gp) (a0 : Nat) : Nat → Int32 → dp → Option (Int32 × dp)
  | 0, _, _ => none
  | n + 1, x1v, δ => if (4 : Int32) ≤ x1v then (bd (s_I δ 11 12 a0 ((q_I δ 11 12 a0) + 1)) fun δ_3 => some (q_I δ_3 11 12 a0, δ_3)) else ((q_O g 11 11 a0).bind fun b_5 => if (q_I δ 11 12 a0) < 0 ∨ q_N g b_5 ≤ (q_I δ 11 12 a0).toNatClampNeg then none else (q_E g b_5 (q_I δ 11 12 a0).toNatClampNeg).bind fun b_7 => (q_O g 11 6 a0).bind fun b_9 => if x1v < 0 ∨ q_N g b_9 ≤ x1v.toNatClampNeg then none else (q_E g b_9 x1v.toNatClampNeg).bind fun b_11 => if x1v < 0 ∨ q_N g b_7 ≤ x1v.toNatClampNeg then none else bd (s_R δ b_7 x1v.toNatClampNeg (q_I δ 2 4 b_11)) fun δ_13 => bi (x1v + 1) fun x_15 => L_X11_image_12 N g a0 n x_15 δ_13)
set_option maxHeartbeats 4000000 in
set_option maxRecDepth 100000 in
theorem t_L_X11_image_12 {l : Launch} {D : va_G} {cy : Nat → ClassId} {N d : Nat} {g : gp} (wt : WT g) (hl : l.stackTraces = false) (hd : 1 ≤ d) {a0 : Nat} (k0 : q_K g a0 = 11) : ∀ (n : Nat) (x1v : Int32) (δ : dp), AWD l D cy m_X11_image d 0 0 ei g 12 [(0, .ref a0), (1, .int x1v)] [] δ (L_X11_image_12 N g a0 n x1v δ) := by
  intro n
  induction n with
  | zero => intro x1v δ ; exact w_none
  | succ n ih =>
    intro x1v δ 
    unfold L_X11_image_12
    refine w_iload_n 1 1 (μ := m_X11_image) (pc := 12) dX11_image_12 rfl rfl ?_
    refine w_iconst (v := 4) (μ := m_X11_image) (pc := 13) dX11_image_13 (by decide) ?_
    refine w_icmp_ge 43 (μ := m_X11_image) (pc := 14) dX11_image_14 (by decide) (fun c_2 => ?_) (fun c_2 => ?_)
    · refine w_aload_n 0 0 (μ := m_X11_image) (pc := 43) dX11_image_43 rfl rfl ?_
      refine w_dup (μ := m_X11_image) (pc := 44) dX11_image_44 rfl ?_
      refine w_getI (μ := m_X11_image) (pc := 45) dX11_image_45 fl_X11_126 ir_11_12 k0 ?_
      refine w_iconst (v := 1) (μ := m_X11_image) (pc := 48) dX11_image_48 (by decide) ?_
      refine w_iadd (μ := m_X11_image) (pc := 49) dX11_image_49 ?_
      refine w_putI (μ := m_X11_image) (pc := 50) dX11_image_50 fl_X11_126 flw_11_12 ir_11_12 k0 ?_
      refine w_bd (fun δ_3 e_4 => ?_)
      refine w_aload_n 0 0 (μ := m_X11_image) (pc := 53) dX11_image_53 rfl rfl ?_
      refine w_getI (μ := m_X11_image) (pc := 54) dX11_image_54 fl_X11_126 ir_11_12 k0 ?_
      exact w_iret (μ := m_X11_image) (pc := 57) dX11_image_57 rfl rfl
    · refine w_aload_n 0 0 (μ := m_X11_image) (pc := 17) dX11_image_17 rfl rfl ?_
      refine w_getO (μ := m_X11_image) (pc := 18) dX11_image_18 fl_X11_83 ir_11_11 id_11_11 k0 (fun b_5 e_6 => ?_)
      refine w_aload_n 0 0 (μ := m_X11_image) (pc := 21) dX11_image_21 rfl rfl ?_
      refine w_getI (μ := m_X11_image) (pc := 22) dX11_image_22 fl_X11_126 ir_11_12 k0 ?_
      refine w_aald 5 (ty := (.array .int)) (μ := m_X11_image) (pc := 25) dX11_image_25 (wt_11_11 wt k0 e_6) (by decide) rfl rfl (by decide) (fun b_7 e_8 => ?_)
      refine w_iload_n 1 1 (μ := m_X11_image) (pc := 26) dX11_image_26 rfl rfl ?_
      refine w_aload_n 0 0 (μ := m_X11_image) (pc := 27) dX11_image_27 rfl rfl ?_
      refine w_getO (μ := m_X11_image) (pc := 28) dX11_image_28 fl_X11_45 ir_11_6 id_11_6 k0 (fun b_9 e_10 => ?_)
      refine w_iload_n 1 1 (μ := m_X11_image) (pc := 31) dX11_image_31 rfl rfl ?_
      refine w_aald 3 (ty := (.object RX2)) (μ := m_X11_image) (pc := 32) dX11_image_32 (wt_11_6 wt k0 e_10) (by decide) rfl rfl (by decide) (fun b_11 e_12 => ?_)
      refine w_getI (μ := m_X11_image) (pc := 33) dX11_image_33 fl_X11_170 ir_2_4 (we_16 wt (wt_11_6 wt k0 e_10) e_12) ?_
      refine w_ast (μ := m_X11_image) (pc := 36) dX11_image_36 (we_18 wt (wt_11_11 wt k0 e_6) e_8) ?_
      refine w_bd (fun δ_13 e_14 => ?_)
      refine w_inb (fun x_15 e_16 => ?_)
      refine w_iinc 1 [(1, .int x_15), (0, .ref a0)] (μ := m_X11_image) (pc := 37) dX11_image_37 rfl (by rw [e_16]; rfl) (by decide) rfl ?_
      refine w_goto 12 (μ := m_X11_image) (pc := 40) dX11_image_40 (by decide) ?_
      refine w_lv [1, 0] rfl ?_
      exact ih _ _
def D_X11_image (N : Nat) (g : gp) (a0 : Nat) (δ : dp) : Option (Int32 × dp) :=
  if (q_I δ 11 12 a0) < (3 : Int32) then (L_X11_image_12 N g a0 N 0 δ) else (some ((-1), δ))
set_option maxHeartbeats 4000000 in
set_option maxRecDepth 100000 in
theorem c_X11_image {l : Launch} {D : va_G} {cy : Nat → ClassId} {N d : Nat} {g : gp} (wt : WT g) (hl : l.stackTraces = false) (hd : 1 ≤ d) {a0 : Nat} {δ : dp} (k0 : q_K g a0 = 11) : CalD l D cy m_X11_image d 0 0 ei g [.ref a0] δ (D_X11_image N g a0 δ) := by
  refine CalD.of (by decide +kernel) (Nat.le_of_ble_eq_true rfl) hl ?_
  unfold D_X11_image
  refine w_aload_n 0 0 (μ := m_X11_image) (pc := 0) dX11_image_0 rfl rfl ?_
  refine w_getI (μ := m_X11_image) (pc := 1) dX11_image_1 fl_X11_126 ir_11_12 k0 ?_
  refine w_iconst (v := 3) (μ := m_X11_image) (pc := 4) dX11_image_4 (by decide) ?_
  refine w_icmp_lt 10 (μ := m_X11_image) (pc := 5) dX11_image_5 (by decide) (fun c_1 => ?_) (fun c_1 => ?_)
  · refine w_iconst (v := 0) (μ := m_X11_image) (pc := 10) dX11_image_10 (by decide) ?_
    refine w_istore_n [(1, .int 0), (0, .ref a0)] (μ := m_X11_image) (pc := 11) dX11_image_11 rfl (by decide) rfl ?_
    refine w_lv [1, 0] rfl ?_
    exact t_L_X11_image_12 wt hl (by omega) k0 N _ _
  · refine w_iconst (v := (-1)) (μ := m_X11_image) (pc := 8) dX11_image_8 (by decide) ?_
    exact w_iret (μ := m_X11_image) (pc := 9) dX11_image_9 rfl rfl
def J_X11_status_19 (N : Nat) (g : gp) (a0 : Nat) (x1 : Int32) (xs0 : Int32) (δ : dp) : Option (Int32 × dp) :=
  some (xs0, δ)
set_option maxHeartbeats 4000000 in
set_option maxRecDepth 100000 in
theorem t_J_X11_status_19 {l : Launch} {D : va_G} {cy : Nat → ClassId} {N d : Nat} {g : gp} (wt : WT g) (hl : l.stackTraces = false) (hd : 1 ≤ d) {a0 : Nat} {x1 : Int32} (k0 : q_K g a0 = 11) : ∀ (xs0 : Int32) (δ : dp), AWD l D cy m_X11_status d 0 0 ei g 19 [] [.int xs0] δ (J_X11_status_19 N g a0 x1 xs0 δ) := by
    intro xs0 δ 
    unfold J_X11_status_19
    exact w_iret (μ := m_X11_status) (pc := 19) dX11_status_19 rfl rfl
def J_X11_status_9 (N : Nat) (g : gp) (a0 : Nat) (x1 : Int32) (δ : dp) : Option (Int32 × dp) :=
  J_X11_status_19 N g a0 x1 ((-1)) δ
set_option maxHeartbeats 4000000 in
set_option maxRecDepth 100000 in
theorem t_J_X11_status_9 {l : Launch} {D : va_G} {cy : Nat → ClassId} {N d : Nat} {g : gp} (wt : WT g) (hl : l.stackTraces = false) (hd : 1 ≤ d) {a0 : Nat} {x1 : Int32} (k0 : q_K g a0 = 11) : ∀ (δ : dp), AWD l D cy m_X11_status d 0 0 ei g 9 [] [] δ (J_X11_status_9 N g a0 x1 δ) := by
    intro  δ 
    unfold J_X11_status_9
    refine w_iconst (v := (-1)) (μ := m_X11_status) (pc := 9) dX11_status_9 (by decide) ?_
    refine w_goto 19 (μ := m_X11_status) (pc := 10) dX11_status_10 (by decide) ?_
    exact t_J_X11_status_19 wt hl (by omega) k0 _ _
def D_X11_status (N : Nat) (g : gp) (a0 : Nat) (x1 : Int32) (δ : dp) : Option (Int32 × dp) :=
  if x1 < 0 then (J_X11_status_9 N g a0 x1 δ) else (if x1 < (3 : Int32) then ((q_O g 11 13 a0).bind fun b_3 => if x1 < 0 ∨ q_N g b_3 ≤ x1.toNatClampNeg then none else J_X11_status_19 N g a0 x1 (q_R δ b_3 x1.toNatClampNeg) δ) else (J_X11_status_9 N g a0 x1 δ))
set_option maxHeartbeats 4000000 in
set_option maxRecDepth 100000 in
theorem c_X11_status {l : Launch} {D : va_G} {cy : Nat → ClassId} {N d : Nat} {g : gp} (wt : WT g) (hl : l.stackTraces = false) (hd : 1 ≤ d) {a0 : Nat} {x1 : Int32} {δ : dp} (k0 : q_K g a0 = 11) : CalD l D cy m_X11_status d 0 0 ei g [.ref a0, .int x1] δ (D_X11_status N g a0 x1 δ) := by
  refine CalD.of (by decide +kernel) (Nat.le_of_ble_eq_true rfl) hl ?_
  unfold D_X11_status
  refine w_iload_n 1 1 (μ := m_X11_status) (pc := 0) dX11_status_0 rfl rfl ?_
  refine w_if_lt 9 (μ := m_X11_status) (pc := 1) dX11_status_1 (by decide) (fun c_1 => ?_) (fun c_1 => ?_)
  · refine w_lv [] rfl ?_
    exact t_J_X11_status_9 wt hl (by omega) k0 _
  · refine w_iload_n 1 1 (μ := m_X11_status) (pc := 4) dX11_status_4 rfl rfl ?_
    refine w_iconst (v := 3) (μ := m_X11_status) (pc := 5) dX11_status_5 (by decide) ?_
    refine w_icmp_lt 13 (μ := m_X11_status) (pc := 6) dX11_status_6 (by decide) (fun c_2 => ?_) (fun c_2 => ?_)
    · refine w_aload_n 0 0 (μ := m_X11_status) (pc := 13) dX11_status_13 rfl rfl ?_
      refine w_getO (μ := m_X11_status) (pc := 14) dX11_status_14 fl_X11_86 ir_11_13 id_11_13 k0 (fun b_3 e_4 => ?_)
      refine w_iload_n 1 1 (μ := m_X11_status) (pc := 17) dX11_status_17 rfl rfl ?_
      refine w_ald (μ := m_X11_status) (pc := 18) dX11_status_18 (wt_11_13 wt k0 e_4) ?_
      refine w_lv [] rfl ?_
      exact t_J_X11_status_19 wt hl (by omega) k0 _ _
    · refine w_lv [] rfl ?_
      exact t_J_X11_status_9 wt hl (by omega) k0 _
def L_X11_count_33 (N : Nat) (g : gp) (a0 : Nat) (x1 : Int32) : Nat → Int32 → Int32 → dp → Option (Int32 × dp)
  | 0, _, _, _ => none
  | n + 1, x2v, x3v, δ => if (4 : Int32) ≤ x3v then (some (x2v, δ)) else ((q_O g 11 6 a0).bind fun b_5 => if x3v < 0 ∨ q_N g b_5 ≤ x3v.toNatClampNeg then none else (q_E g b_5 x3v.toNatClampNeg).bind fun b_7 => (q_O g 2 0 b_7).bind fun b_9 => bi (x2v + (q_I δ 3 1 b_9)) fun x_11 => bi (x3v + 1) fun x_13 => L_X11_count_33 N g a0 x1 n x_11 x_13 δ)
set_option maxHeartbeats 4000000 in
set_option maxRecDepth 100000 in
theorem t_L_X11_count_33 {l : Launch} {D : va_G} {cy : Nat → ClassId} {N d : Nat} {g : gp} (wt : WT g) (hl : l.stackTraces = false) (hd : 1 ≤ d) {a0 : Nat} {x1 : Int32} (k0 : q_K g a0 = 11) : ∀ (n : Nat) (x2v : Int32) (x3v : Int32) (δ : dp), AWD l D cy m_X11_count d 0 0 ei g 33 [(0, .ref a0), (2, .int x2v), (3, .int x3v)] [] δ (L_X11_count_33 N g a0 x1 n x2v x3v δ) := by
  intro n
  induction n with
  | zero => intro x2v x3v δ ; exact w_none
  | succ n ih =>
    intro x2v x3v δ 
    unfold L_X11_count_33
    refine w_iload_n 2 3 (μ := m_X11_count) (pc := 33) dX11_count_33 rfl rfl ?_
    refine w_iconst (v := 4) (μ := m_X11_count) (pc := 34) dX11_count_34 (by decide) ?_
    refine w_icmp_ge 59 (μ := m_X11_count) (pc := 35) dX11_count_35 (by decide) (fun c_4 => ?_) (fun c_4 => ?_)
    · refine w_iload_n 1 2 (μ := m_X11_count) (pc := 59) dX11_count_59 rfl rfl ?_
      exact w_iret (μ := m_X11_count) (pc := 60) dX11_count_60 rfl rfl
    · refine w_iload_n 1 2 (μ := m_X11_count) (pc := 38) dX11_count_38 rfl rfl ?_
      refine w_aload_n 0 0 (μ := m_X11_count) (pc := 39) dX11_count_39 rfl rfl ?_
      refine w_getO (μ := m_X11_count) (pc := 40) dX11_count_40 fl_X11_45 ir_11_6 id_11_6 k0 (fun b_5 e_6 => ?_)
      refine w_iload_n 2 3 (μ := m_X11_count) (pc := 43) dX11_count_43 rfl rfl ?_
      refine w_aald 3 (ty := (.object RX2)) (μ := m_X11_count) (pc := 44) dX11_count_44 (wt_11_6 wt k0 e_6) (by decide) rfl rfl (by decide) (fun b_7 e_8 => ?_)
      refine w_getO (μ := m_X11_count) (pc := 45) dX11_count_45 fl_X11_163 ir_2_0 id_2_0 (we_16 wt (wt_11_6 wt k0 e_6) e_8) (fun b_9 e_10 => ?_)
      refine w_getI (μ := m_X11_count) (pc := 48) dX11_count_48 fl_X11_228 ir_3_1 (wt_2_0 wt (we_16 wt (wt_11_6 wt k0 e_6) e_8) e_10) ?_
      refine w_iadd (μ := m_X11_count) (pc := 51) dX11_count_51 ?_
      refine w_bi (fun x_11 e_12 => ?_)
      refine w_istore_n [(2, .int x_11), (0, .ref a0), (3, .int x3v)] (μ := m_X11_count) (pc := 52) dX11_count_52 rfl (by decide) rfl ?_
      refine w_inb (fun x_13 e_14 => ?_)
      refine w_iinc 2 [(3, .int x_13), (2, .int x_11), (0, .ref a0)] (μ := m_X11_count) (pc := 53) dX11_count_53 rfl (by rw [e_14]; rfl) (by decide) rfl ?_
      refine w_goto 33 (μ := m_X11_count) (pc := 56) dX11_count_56 (by decide) ?_
      refine w_lv [2, 1, 0] rfl ?_
      exact ih _ _ _
def D_X11_count (N : Nat) (g : gp) (a0 : Nat) (x1 : Int32) (δ : dp) : Option (Int32 × dp) :=
  if x1 = 0 then (some (q_I δ 11 12 a0, δ)) else (if x1 = (1 : Int32) then ((q_O g 11 0 a0).bind fun b_15 => some (q_I δ 7 1 b_15, δ)) else (if x1 = (2 : Int32) then (L_X11_count_33 N g a0 x1 N 0 0 δ) else (some ((-1), δ))))
set_option maxHeartbeats 4000000 in
set_option maxRecDepth 100000 in
theorem c_X11_count {l : Launch} {D : va_G} {cy : Nat → ClassId} {N d : Nat} {g : gp} (wt : WT g) (hl : l.stackTraces = false) (hd : 1 ≤ d) {a0 : Nat} {x1 : Int32} {δ : dp} (k0 : q_K g a0 = 11) : CalD l D cy m_X11_count d 0 0 ei g [.ref a0, .int x1] δ (D_X11_count N g a0 x1 δ) := by
  refine CalD.of (by decide +kernel) (Nat.le_of_ble_eq_true rfl) hl ?_
  unfold D_X11_count
  refine w_iload_n 1 1 (μ := m_X11_count) (pc := 0) dX11_count_0 rfl rfl ?_
  refine w_if_ne 9 (μ := m_X11_count) (pc := 1) dX11_count_1 (by decide) (fun c_1 => ?_) (fun c_1 => ?_)
  · refine w_iload_n 1 1 (μ := m_X11_count) (pc := 9) dX11_count_9 rfl rfl ?_
    refine w_iconst (v := 1) (μ := m_X11_count) (pc := 10) dX11_count_10 (by decide) ?_
    refine w_icmp_ne 22 (μ := m_X11_count) (pc := 11) dX11_count_11 (by decide) (fun c_2 => ?_) (fun c_2 => ?_)
    · refine w_iload_n 1 1 (μ := m_X11_count) (pc := 22) dX11_count_22 rfl rfl ?_
      refine w_iconst (v := 2) (μ := m_X11_count) (pc := 23) dX11_count_23 (by decide) ?_
      refine w_icmp_eq 29 (μ := m_X11_count) (pc := 24) dX11_count_24 (by decide) (fun c_3 => ?_) (fun c_3 => ?_)
      · refine w_iconst (v := 0) (μ := m_X11_count) (pc := 29) dX11_count_29 (by decide) ?_
        refine w_istore_n [(2, .int 0), (0, .ref a0), (1, .int x1)] (μ := m_X11_count) (pc := 30) dX11_count_30 rfl (by decide) rfl ?_
        refine w_iconst (v := 0) (μ := m_X11_count) (pc := 31) dX11_count_31 (by decide) ?_
        refine w_istore_n [(3, .int 0), (2, .int 0), (0, .ref a0), (1, .int x1)] (μ := m_X11_count) (pc := 32) dX11_count_32 rfl (by decide) rfl ?_
        refine w_lv [2, 1, 0] rfl ?_
        exact t_L_X11_count_33 wt hl (by omega) k0 N _ _ _
      · refine w_iconst (v := (-1)) (μ := m_X11_count) (pc := 27) dX11_count_27 (by decide) ?_
        exact w_iret (μ := m_X11_count) (pc := 28) dX11_count_28 rfl rfl
    · refine w_aload_n 0 0 (μ := m_X11_count) (pc := 14) dX11_count_14 rfl rfl ?_
      refine w_getO (μ := m_X11_count) (pc := 15) dX11_count_15 fl_X11_10 ir_11_0 id_11_0 k0 (fun b_15 e_16 => ?_)
      refine w_getI (μ := m_X11_count) (pc := 18) dX11_count_18 fl_X11_99 ir_7_1 (wt_11_0 wt k0 e_16) ?_
      exact w_iret (μ := m_X11_count) (pc := 21) dX11_count_21 rfl rfl
  · refine w_aload_n 0 0 (μ := m_X11_count) (pc := 4) dX11_count_4 rfl rfl ?_
    refine w_getI (μ := m_X11_count) (pc := 5) dX11_count_5 fl_X11_126 ir_11_12 k0 ?_
    exact w_iret (μ := m_X11_count) (pc := 8) dX11_count_8 rfl rfl
def J_X11_isNumber_20 (N : Nat) (g : gp) (a0 : Nat) (x1 : Int32) (xs0 : Int32) (δ : dp) : Option (Int32 × dp) :=
  if xs0 = 0 ∨ xs0 = 1 then some (xs0, δ) else none
set_option maxHeartbeats 4000000 in
set_option maxRecDepth 100000 in
theorem t_J_X11_isNumber_20 {l : Launch} {D : va_G} {cy : Nat → ClassId} {N d : Nat} {g : gp} (wt : WT g) (hl : l.stackTraces = false) (hd : 2 ≤ d) {a0 : Nat} {x1 : Int32} (k0 : q_K g a0 = 11) : ∀ (xs0 : Int32) (δ : dp), AWD l D cy m_X11_isNumber d 0 0 ei g 20 [] [.int xs0] δ (J_X11_isNumber_20 N g a0 x1 xs0 δ) := by
    intro xs0 δ 
    unfold J_X11_isNumber_20
    exact w_zret (μ := m_X11_isNumber) (pc := 20) dX11_isNumber_20 rfl rfl
def J_X11_isNumber_19 (N : Nat) (g : gp) (a0 : Nat) (x1 : Int32) (δ : dp) : Option (Int32 × dp) :=
  J_X11_isNumber_20 N g a0 x1 0 δ
set_option maxHeartbeats 4000000 in
set_option maxRecDepth 100000 in
theorem t_J_X11_isNumber_19 {l : Launch} {D : va_G} {cy : Nat → ClassId} {N d : Nat} {g : gp} (wt : WT g) (hl : l.stackTraces = false) (hd : 2 ≤ d) {a0 : Nat} {x1 : Int32} (k0 : q_K g a0 = 11) : ∀ (δ : dp), AWD l D cy m_X11_isNumber d 0 0 ei g 19 [] [] δ (J_X11_isNumber_19 N g a0 x1 δ) := by
    intro  δ 
    unfold J_X11_isNumber_19
    refine w_iconst (v := 0) (μ := m_X11_isNumber) (pc := 19) dX11_isNumber_19 (by decide) ?_
    exact t_J_X11_isNumber_20 wt hl (by omega) k0 _ _
def D_X11_isNumber (N : Nat) (g : gp) (a0 : Nat) (x1 : Int32) (δ : dp) : Option (Int32 × dp) :=
  if x1 < 0 then (J_X11_isNumber_19 N g a0 x1 δ) else ((q_O g 11 1 a0).bind fun b_2 => (D_X5_greatest N g b_2 δ).bind fun r_4 => if r_4.1 < x1 then (J_X11_isNumber_19 N g a0 x1 r_4.2) else (J_X11_isNumber_20 N g a0 x1 1 r_4.2))
set_option maxHeartbeats 4000000 in
set_option maxRecDepth 100000 in
theorem c_X11_isNumber {l : Launch} {D : va_G} {cy : Nat → ClassId} {N d : Nat} {g : gp} (wt : WT g) (hl : l.stackTraces = false) (hd : 2 ≤ d) {a0 : Nat} {x1 : Int32} {δ : dp} (k0 : q_K g a0 = 11) : CalD l D cy m_X11_isNumber d 0 0 ei g [.ref a0, .int x1] δ (D_X11_isNumber N g a0 x1 δ) := by
  refine CalD.of (by decide +kernel) (Nat.le_of_ble_eq_true rfl) hl ?_
  unfold D_X11_isNumber
  refine w_iload_n 1 1 (μ := m_X11_isNumber) (pc := 0) dX11_isNumber_0 rfl rfl ?_
  refine w_if_lt 19 (μ := m_X11_isNumber) (pc := 1) dX11_isNumber_1 (by decide) (fun c_1 => ?_) (fun c_1 => ?_)
  · refine w_lv [] rfl ?_
    exact t_J_X11_isNumber_19 wt hl (by omega) k0 _
  · refine w_iload_n 1 1 (μ := m_X11_isNumber) (pc := 4) dX11_isNumber_4 rfl rfl ?_
    refine w_aload_n 0 0 (μ := m_X11_isNumber) (pc := 5) dX11_isNumber_5 rfl rfl ?_
    refine w_getO (μ := m_X11_isNumber) (pc := 6) dX11_isNumber_6 fl_X11_19 ir_11_1 id_11_1 k0 (fun b_2 e_3 => ?_)
    refine w_callV (As := []) (rest := [.int x1]) (μ := m_X11_isNumber) (pc := 9) dX11_isNumber_9 cv_X11_222 rfl rfl (wt_11_1 wt k0 e_3) (by decide) rfl (Nat.le_of_ble_eq_true rfl) (d' := d - 1) (by omega) he_i (c_X5_greatest wt hl (d := d - 1) (by omega) (wt_11_1 wt k0 e_3)) (fun r_4 => ?_)
    refine w_icmp_gt 19 (μ := m_X11_isNumber) (pc := 12) dX11_isNumber_12 (by decide) (fun c_5 => ?_) (fun c_5 => ?_)
    · refine w_lv [] rfl ?_
      exact t_J_X11_isNumber_19 wt hl (by omega) k0 _
    · refine w_iconst (v := 1) (μ := m_X11_isNumber) (pc := 15) dX11_isNumber_15 (by decide) ?_
      refine w_goto 20 (μ := m_X11_isNumber) (pc := 16) dX11_isNumber_16 (by decide) ?_
      refine w_lv [] rfl ?_
      exact t_J_X11_isNumber_20 wt hl (by omega) k0 _ _
def J_X11_isCall_14 (N : Nat) (g : gp) (x0 : Int32) (xs0 : Int32) (δ : dp) : Option (Int32 × dp) :=
  if xs0 = 0 ∨ xs0 = 1 then some (xs0, δ) else none
set_option maxHeartbeats 4000000 in
set_option maxRecDepth 100000 in
theorem t_J_X11_isCall_14 {l : Launch} {D : va_G} {cy : Nat → ClassId} {N d : Nat} {g : gp} (wt : WT g) (hl : l.stackTraces = false) (hd : 1 ≤ d) {x0 : Int32} : ∀ (xs0 : Int32) (δ : dp), AWD l D cy m_X11_isCall d 0 0 ei g 14 [] [.int xs0] δ (J_X11_isCall_14 N g x0 xs0 δ) := by
    intro xs0 δ 
    unfold J_X11_isCall_14
    exact w_zret (μ := m_X11_isCall) (pc := 14) dX11_isCall_14 rfl rfl
def J_X11_isCall_13 (N : Nat) (g : gp) (x0 : Int32) (δ : dp) : Option (Int32 × dp) :=
  J_X11_isCall_14 N g x0 0 δ
set_option maxHeartbeats 4000000 in
set_option maxRecDepth 100000 in
theorem t_J_X11_isCall_13 {l : Launch} {D : va_G} {cy : Nat → ClassId} {N d : Nat} {g : gp} (wt : WT g) (hl : l.stackTraces = false) (hd : 1 ≤ d) {x0 : Int32} : ∀ (δ : dp), AWD l D cy m_X11_isCall d 0 0 ei g 13 [] [] δ (J_X11_isCall_13 N g x0 δ) := by
    intro  δ 
    unfold J_X11_isCall_13
    refine w_iconst (v := 0) (μ := m_X11_isCall) (pc := 13) dX11_isCall_13 (by decide) ?_
    exact t_J_X11_isCall_14 wt hl (by omega) _ _
def D_X11_isCall (N : Nat) (g : gp) (x0 : Int32) (δ : dp) : Option (Int32 × dp) :=
  if x0 < 0 then (J_X11_isCall_13 N g x0 δ) else (if (5 : Int32) ≤ x0 then (J_X11_isCall_13 N g x0 δ) else (J_X11_isCall_14 N g x0 1 δ))
set_option maxHeartbeats 4000000 in
set_option maxRecDepth 100000 in
theorem c_X11_isCall {l : Launch} {D : va_G} {cy : Nat → ClassId} {N d : Nat} {g : gp} (wt : WT g) (hl : l.stackTraces = false) (hd : 1 ≤ d) {x0 : Int32} {δ : dp} : CalD l D cy m_X11_isCall d 0 0 ei g [.int x0] δ (D_X11_isCall N g x0 δ) := by
  refine CalD.of (by decide +kernel) (Nat.le_of_ble_eq_true rfl) hl ?_
  unfold D_X11_isCall
  refine w_iload_n 0 0 (μ := m_X11_isCall) (pc := 0) dX11_isCall_0 rfl rfl ?_
  refine w_if_lt 13 (μ := m_X11_isCall) (pc := 1) dX11_isCall_1 (by decide) (fun c_1 => ?_) (fun c_1 => ?_)
  · refine w_lv [] rfl ?_
    exact t_J_X11_isCall_13 wt hl (by omega) _
  · refine w_iload_n 0 0 (μ := m_X11_isCall) (pc := 4) dX11_isCall_4 rfl rfl ?_
    refine w_iconst (v := 5) (μ := m_X11_isCall) (pc := 5) dX11_isCall_5 (by decide) ?_
    refine w_icmp_ge 13 (μ := m_X11_isCall) (pc := 6) dX11_isCall_6 (by decide) (fun c_2 => ?_) (fun c_2 => ?_)
    · refine w_lv [] rfl ?_
      exact t_J_X11_isCall_13 wt hl (by omega) _
    · refine w_iconst (v := 1) (μ := m_X11_isCall) (pc := 9) dX11_isCall_9 (by decide) ?_
      refine w_goto 14 (μ := m_X11_isCall) (pc := 10) dX11_isCall_10 (by decide) ?_
      refine w_lv [] rfl ?_
      exact t_J_X11_isCall_14 wt hl (by omega) _ _
def J_X11_isKind_14 (N : Nat) (g : gp) (x0 : Int32) (xs0 : Int32) (δ : dp) : Option (Int32 × dp) :=
  if xs0 = 0 ∨ xs0 = 1 then some (xs0, δ) else none
set_option maxHeartbeats 4000000 in
set_option maxRecDepth 100000 in
theorem t_J_X11_isKind_14 {l : Launch} {D : va_G} {cy : Nat → ClassId} {N d : Nat} {g : gp} (wt : WT g) (hl : l.stackTraces = false) (hd : 1 ≤ d) {x0 : Int32} : ∀ (xs0 : Int32) (δ : dp), AWD l D cy m_X11_isKind d 0 0 ei g 14 [] [.int xs0] δ (J_X11_isKind_14 N g x0 xs0 δ) := by
    intro xs0 δ 
    unfold J_X11_isKind_14
    exact w_zret (μ := m_X11_isKind) (pc := 14) dX11_isKind_14 rfl rfl
def J_X11_isKind_13 (N : Nat) (g : gp) (x0 : Int32) (δ : dp) : Option (Int32 × dp) :=
  J_X11_isKind_14 N g x0 0 δ
set_option maxHeartbeats 4000000 in
set_option maxRecDepth 100000 in
theorem t_J_X11_isKind_13 {l : Launch} {D : va_G} {cy : Nat → ClassId} {N d : Nat} {g : gp} (wt : WT g) (hl : l.stackTraces = false) (hd : 1 ≤ d) {x0 : Int32} : ∀ (δ : dp), AWD l D cy m_X11_isKind d 0 0 ei g 13 [] [] δ (J_X11_isKind_13 N g x0 δ) := by
    intro  δ 
    unfold J_X11_isKind_13
    refine w_iconst (v := 0) (μ := m_X11_isKind) (pc := 13) dX11_isKind_13 (by decide) ?_
    exact t_J_X11_isKind_14 wt hl (by omega) _ _
def D_X11_isKind (N : Nat) (g : gp) (x0 : Int32) (δ : dp) : Option (Int32 × dp) :=
  if x0 < 0 then (J_X11_isKind_13 N g x0 δ) else (if (2 : Int32) < x0 then (J_X11_isKind_13 N g x0 δ) else (J_X11_isKind_14 N g x0 1 δ))
set_option maxHeartbeats 4000000 in
set_option maxRecDepth 100000 in
theorem c_X11_isKind {l : Launch} {D : va_G} {cy : Nat → ClassId} {N d : Nat} {g : gp} (wt : WT g) (hl : l.stackTraces = false) (hd : 1 ≤ d) {x0 : Int32} {δ : dp} : CalD l D cy m_X11_isKind d 0 0 ei g [.int x0] δ (D_X11_isKind N g x0 δ) := by
  refine CalD.of (by decide +kernel) (Nat.le_of_ble_eq_true rfl) hl ?_
  unfold D_X11_isKind
  refine w_iload_n 0 0 (μ := m_X11_isKind) (pc := 0) dX11_isKind_0 rfl rfl ?_
  refine w_if_lt 13 (μ := m_X11_isKind) (pc := 1) dX11_isKind_1 (by decide) (fun c_1 => ?_) (fun c_1 => ?_)
  · refine w_lv [] rfl ?_
    exact t_J_X11_isKind_13 wt hl (by omega) _
  · refine w_iload_n 0 0 (μ := m_X11_isKind) (pc := 4) dX11_isKind_4 rfl rfl ?_
    refine w_iconst (v := 2) (μ := m_X11_isKind) (pc := 5) dX11_isKind_5 (by decide) ?_
    refine w_icmp_gt 13 (μ := m_X11_isKind) (pc := 6) dX11_isKind_6 (by decide) (fun c_2 => ?_) (fun c_2 => ?_)
    · refine w_lv [] rfl ?_
      exact t_J_X11_isKind_13 wt hl (by omega) _
    · refine w_iconst (v := 1) (μ := m_X11_isKind) (pc := 9) dX11_isKind_9 (by decide) ?_
      refine w_goto 14 (μ := m_X11_isKind) (pc := 10) dX11_isKind_10 (by decide) ?_
      refine w_lv [] rfl ?_
      exact t_J_X11_isKind_14 wt hl (by omega) _ _
def J_X11_mayAsk_41 (N : Nat) (g : gp) (a0 : Nat) (x1 : Int32) (x2 : Int32) (xs0 : Int32) (δ : dp) : Option (Int32 × dp) :=
  if xs0 = 0 ∨ xs0 = 1 then some (xs0, δ) else none
set_option maxHeartbeats 4000000 in
set_option maxRecDepth 100000 in
theorem t_J_X11_mayAsk_41 {l : Launch} {D : va_G} {cy : Nat → ClassId} {N d : Nat} {g : gp} (wt : WT g) (hl : l.stackTraces = false) (hd : 3 ≤ d) {a0 : Nat} {x1 : Int32} {x2 : Int32} (k0 : q_K g a0 = 11) : ∀ (xs0 : Int32) (δ : dp), AWD l D cy m_X11_mayAsk d 0 0 ei g 41 [] [.int xs0] δ (J_X11_mayAsk_41 N g a0 x1 x2 xs0 δ) := by
    intro xs0 δ 
    unfold J_X11_mayAsk_41
    exact w_zret (μ := m_X11_mayAsk) (pc := 41) dX11_mayAsk_41 rfl rfl
def J_X11_mayAsk_36 (N : Nat) (g : gp) (a0 : Nat) (x1 : Int32) (x2 : Int32) (δ : dp) : Option (Int32 × dp) :=
  J_X11_mayAsk_41 N g a0 x1 x2 1 δ
set_option maxHeartbeats 4000000 in
set_option maxRecDepth 100000 in
theorem t_J_X11_mayAsk_36 {l : Launch} {D : va_G} {cy : Nat → ClassId} {N d : Nat} {g : gp} (wt : WT g) (hl : l.stackTraces = false) (hd : 3 ≤ d) {a0 : Nat} {x1 : Int32} {x2 : Int32} (k0 : q_K g a0 = 11) : ∀ (δ : dp), AWD l D cy m_X11_mayAsk d 0 0 ei g 36 [] [] δ (J_X11_mayAsk_36 N g a0 x1 x2 δ) := by
    intro  δ 
    unfold J_X11_mayAsk_36
    refine w_iconst (v := 1) (μ := m_X11_mayAsk) (pc := 36) dX11_mayAsk_36 (by decide) ?_
    refine w_goto 41 (μ := m_X11_mayAsk) (pc := 37) dX11_mayAsk_37 (by decide) ?_
    exact t_J_X11_mayAsk_41 wt hl (by omega) k0 _ _
def J_X11_mayAsk_40 (N : Nat) (g : gp) (a0 : Nat) (x1 : Int32) (x2 : Int32) (δ : dp) : Option (Int32 × dp) :=
  J_X11_mayAsk_41 N g a0 x1 x2 0 δ
set_option maxHeartbeats 4000000 in
set_option maxRecDepth 100000 in
theorem t_J_X11_mayAsk_40 {l : Launch} {D : va_G} {cy : Nat → ClassId} {N d : Nat} {g : gp} (wt : WT g) (hl : l.stackTraces = false) (hd : 3 ≤ d) {a0 : Nat} {x1 : Int32} {x2 : Int32} (k0 : q_K g a0 = 11) : ∀ (δ : dp), AWD l D cy m_X11_mayAsk d 0 0 ei g 40 [] [] δ (J_X11_mayAsk_40 N g a0 x1 x2 δ) := by
    intro  δ 
    unfold J_X11_mayAsk_40
    refine w_iconst (v := 0) (μ := m_X11_mayAsk) (pc := 40) dX11_mayAsk_40 (by decide) ?_
    exact t_J_X11_mayAsk_41 wt hl (by omega) k0 _ _
def J_X11_mayAsk_18 (N : Nat) (g : gp) (a0 : Nat) (x1 : Int32) (x2 : Int32) (δ : dp) : Option (Int32 × dp) :=
  if x1 = (4 : Int32) then ((q_O g 11 1 a0).bind fun b_5 => (D_X5_greatest N g b_5 δ).bind fun r_7 => if x2 = (r_7.1 + 1) then (J_X11_mayAsk_36 N g a0 x1 x2 r_7.2) else (J_X11_mayAsk_40 N g a0 x1 x2 r_7.2)) else (J_X11_mayAsk_40 N g a0 x1 x2 δ)
set_option maxHeartbeats 4000000 in
set_option maxRecDepth 100000 in
theorem t_J_X11_mayAsk_18 {l : Launch} {D : va_G} {cy : Nat → ClassId} {N d : Nat} {g : gp} (wt : WT g) (hl : l.stackTraces = false) (hd : 3 ≤ d) {a0 : Nat} {x1 : Int32} {x2 : Int32} (k0 : q_K g a0 = 11) : ∀ (δ : dp), AWD l D cy m_X11_mayAsk d 0 0 ei g 18 [(0, .ref a0), (1, .int x1), (2, .int x2)] [] δ (J_X11_mayAsk_18 N g a0 x1 x2 δ) := by
    intro  δ 
    unfold J_X11_mayAsk_18
    refine w_iload_n 1 1 (μ := m_X11_mayAsk) (pc := 18) dX11_mayAsk_18 rfl rfl ?_
    refine w_iconst (v := 4) (μ := m_X11_mayAsk) (pc := 19) dX11_mayAsk_19 (by decide) ?_
    refine w_icmp_ne 40 (μ := m_X11_mayAsk) (pc := 20) dX11_mayAsk_20 (by decide) (fun c_4 => ?_) (fun c_4 => ?_)
    · refine w_lv [] rfl ?_
      exact t_J_X11_mayAsk_40 wt hl (by omega) k0 _
    · refine w_iload_n 2 2 (μ := m_X11_mayAsk) (pc := 23) dX11_mayAsk_23 rfl rfl ?_
      refine w_aload_n 0 0 (μ := m_X11_mayAsk) (pc := 24) dX11_mayAsk_24 rfl rfl ?_
      refine w_getO (μ := m_X11_mayAsk) (pc := 25) dX11_mayAsk_25 fl_X11_19 ir_11_1 id_11_1 k0 (fun b_5 e_6 => ?_)
      refine w_callV (As := []) (rest := [.int x2]) (μ := m_X11_mayAsk) (pc := 28) dX11_mayAsk_28 cv_X11_222 rfl rfl (wt_11_1 wt k0 e_6) (by decide) rfl (Nat.le_of_ble_eq_true rfl) (d' := d - 1) (by omega) he_i (c_X5_greatest wt hl (d := d - 1) (by omega) (wt_11_1 wt k0 e_6)) (fun r_7 => ?_)
      refine w_iconst (v := 1) (μ := m_X11_mayAsk) (pc := 31) dX11_mayAsk_31 (by decide) ?_
      refine w_iadd (μ := m_X11_mayAsk) (pc := 32) dX11_mayAsk_32 ?_
      refine w_icmp_ne 40 (μ := m_X11_mayAsk) (pc := 33) dX11_mayAsk_33 (by decide) (fun c_8 => ?_) (fun c_8 => ?_)
      · refine w_lv [] rfl ?_
        exact t_J_X11_mayAsk_40 wt hl (by omega) k0 _
      · refine w_lv [] rfl ?_
        exact t_J_X11_mayAsk_36 wt hl (by omega) k0 _
def D_X11_mayAsk (N : Nat) (g : gp) (a0 : Nat) (x1 : Int32) (x2 : Int32) (δ : dp) : Option (Int32 × dp) :=
  (D_X11_isNumber N g a0 x2 δ).bind fun r_1 => if r_1.1 = 0 then (if x1 = (3 : Int32) then (if x2 = ((-1) : Int32) then (J_X11_mayAsk_36 N g a0 x1 x2 r_1.2) else (J_X11_mayAsk_18 N g a0 x1 x2 r_1.2)) else (J_X11_mayAsk_18 N g a0 x1 x2 r_1.2)) else (J_X11_mayAsk_36 N g a0 x1 x2 r_1.2)
set_option maxHeartbeats 4000000 in
set_option maxRecDepth 100000 in
theorem c_X11_mayAsk {l : Launch} {D : va_G} {cy : Nat → ClassId} {N d : Nat} {g : gp} (wt : WT g) (hl : l.stackTraces = false) (hd : 3 ≤ d) {a0 : Nat} {x1 : Int32} {x2 : Int32} {δ : dp} (k0 : q_K g a0 = 11) : CalD l D cy m_X11_mayAsk d 0 0 ei g [.ref a0, .int x1, .int x2] δ (D_X11_mayAsk N g a0 x1 x2 δ) := by
  refine CalD.of (by decide +kernel) (Nat.le_of_ble_eq_true rfl) hl ?_
  unfold D_X11_mayAsk
  refine w_aload_n 0 0 (μ := m_X11_mayAsk) (pc := 0) dX11_mayAsk_0 rfl rfl ?_
  refine w_iload_n 2 2 (μ := m_X11_mayAsk) (pc := 1) dX11_mayAsk_1 rfl rfl ?_
  refine w_callV (As := [.int x2]) (rest := []) (μ := m_X11_mayAsk) (pc := 2) dX11_mayAsk_2 cv_X11_190 rfl rfl k0 (by decide) rfl (Nat.le_of_ble_eq_true rfl) (d' := d - 1) (by omega) he_i (c_X11_isNumber wt hl (d := d - 1) (by omega) k0) (fun r_1 => ?_)
  refine w_if_ne 36 (μ := m_X11_mayAsk) (pc := 5) dX11_mayAsk_5 (by decide) (fun c_2 => ?_) (fun c_2 => ?_)
  · refine w_lv [] rfl ?_
    exact t_J_X11_mayAsk_36 wt hl (by omega) k0 _
  · refine w_iload_n 1 1 (μ := m_X11_mayAsk) (pc := 8) dX11_mayAsk_8 rfl rfl ?_
    refine w_iconst (v := 3) (μ := m_X11_mayAsk) (pc := 9) dX11_mayAsk_9 (by decide) ?_
    refine w_icmp_ne 18 (μ := m_X11_mayAsk) (pc := 10) dX11_mayAsk_10 (by decide) (fun c_3 => ?_) (fun c_3 => ?_)
    · exact t_J_X11_mayAsk_18 wt hl (by omega) k0 _
    · refine w_iload_n 2 2 (μ := m_X11_mayAsk) (pc := 13) dX11_mayAsk_13 rfl rfl ?_
      refine w_iconst (v := (-1)) (μ := m_X11_mayAsk) (pc := 14) dX11_mayAsk_14 (by decide) ?_
      refine w_icmp_eq 36 (μ := m_X11_mayAsk) (pc := 15) dX11_mayAsk_15 (by decide) (fun c_9 => ?_) (fun c_9 => ?_)
      · refine w_lv [] rfl ?_
        exact t_J_X11_mayAsk_36 wt hl (by omega) k0 _
      · exact t_J_X11_mayAsk_18 wt hl (by omega) k0 _
def J_X11_mayGoThroughAll_37 (N : Nat) (g : gp) (a0 : Nat) (x1 : Int32) (x2 : Int32) (xs0 : Int32) (δ : dp) : Option (Int32 × dp) :=
  if xs0 = 0 ∨ xs0 = 1 then some (xs0, δ) else none
set_option maxHeartbeats 4000000 in
set_option maxRecDepth 100000 in
theorem t_J_X11_mayGoThroughAll_37 {l : Launch} {D : va_G} {cy : Nat → ClassId} {N d : Nat} {g : gp} (wt : WT g) (hl : l.stackTraces = false) (hd : 2 ≤ d) {a0 : Nat} {x1 : Int32} {x2 : Int32} (k0 : q_K g a0 = 11) : ∀ (xs0 : Int32) (δ : dp), AWD l D cy m_X11_mayGoThroughAll d 0 0 ei g 37 [] [.int xs0] δ (J_X11_mayGoThroughAll_37 N g a0 x1 x2 xs0 δ) := by
    intro xs0 δ 
    unfold J_X11_mayGoThroughAll_37
    exact w_zret (μ := m_X11_mayGoThroughAll) (pc := 37) dX11_mayGoThroughAll_37 rfl rfl
def J_X11_mayGoThroughAll_36 (N : Nat) (g : gp) (a0 : Nat) (x1 : Int32) (x2 : Int32) (δ : dp) : Option (Int32 × dp) :=
  J_X11_mayGoThroughAll_37 N g a0 x1 x2 0 δ
set_option maxHeartbeats 4000000 in
set_option maxRecDepth 100000 in
theorem t_J_X11_mayGoThroughAll_36 {l : Launch} {D : va_G} {cy : Nat → ClassId} {N d : Nat} {g : gp} (wt : WT g) (hl : l.stackTraces = false) (hd : 2 ≤ d) {a0 : Nat} {x1 : Int32} {x2 : Int32} (k0 : q_K g a0 = 11) : ∀ (δ : dp), AWD l D cy m_X11_mayGoThroughAll d 0 0 ei g 36 [] [] δ (J_X11_mayGoThroughAll_36 N g a0 x1 x2 δ) := by
    intro  δ 
    unfold J_X11_mayGoThroughAll_36
    refine w_iconst (v := 0) (μ := m_X11_mayGoThroughAll) (pc := 36) dX11_mayGoThroughAll_36 (by decide) ?_
    exact t_J_X11_mayGoThroughAll_37 wt hl (by omega) k0 _ _
def D_X11_mayGoThroughAll (N : Nat) (g : gp) (a0 : Nat) (x1 : Int32) (x2 : Int32) (δ : dp) : Option (Int32 × dp) :=
  (D_X11_isCall N g x1 δ).bind fun r_1 => if r_1.1 = 0 then (J_X11_mayGoThroughAll_36 N g a0 x1 x2 r_1.2) else ((q_O g 11 1 a0).bind fun b_3 => (D_X5_isSmall N g b_3 r_1.2).bind fun r_5 => if r_5.1 = 0 then (J_X11_mayGoThroughAll_36 N g a0 x1 x2 r_5.2) else (if x2 < 0 then (J_X11_mayGoThroughAll_36 N g a0 x1 x2 r_5.2) else ((q_O g 11 1 a0).bind fun b_8 => (D_X5_mostInSets N g b_8 r_5.2).bind fun r_10 => if r_10.1 < x2 then (J_X11_mayGoThroughAll_36 N g a0 x1 x2 r_10.2) else (J_X11_mayGoThroughAll_37 N g a0 x1 x2 1 r_10.2))))
set_option maxHeartbeats 4000000 in
set_option maxRecDepth 100000 in
theorem c_X11_mayGoThroughAll {l : Launch} {D : va_G} {cy : Nat → ClassId} {N d : Nat} {g : gp} (wt : WT g) (hl : l.stackTraces = false) (hd : 2 ≤ d) {a0 : Nat} {x1 : Int32} {x2 : Int32} {δ : dp} (k0 : q_K g a0 = 11) : CalD l D cy m_X11_mayGoThroughAll d 0 0 ei g [.ref a0, .int x1, .int x2] δ (D_X11_mayGoThroughAll N g a0 x1 x2 δ) := by
  refine CalD.of (by decide +kernel) (Nat.le_of_ble_eq_true rfl) hl ?_
  unfold D_X11_mayGoThroughAll
  refine w_iload_n 1 1 (μ := m_X11_mayGoThroughAll) (pc := 0) dX11_mayGoThroughAll_0 rfl rfl ?_
  refine w_callS (As := [.int x1]) (rest := []) (μ := m_X11_mayGoThroughAll) (pc := 1) dX11_mayGoThroughAll_1 cs_X11_196 rfl rfl (Nat.le_of_ble_eq_true rfl) (d' := d - 1) (by omega) he_i (c_X11_isCall wt hl (d := d - 1) (by omega) ) (fun r_1 => ?_)
  refine w_if_eq 36 (μ := m_X11_mayGoThroughAll) (pc := 4) dX11_mayGoThroughAll_4 (by decide) (fun c_2 => ?_) (fun c_2 => ?_)
  · refine w_lv [] rfl ?_
    exact t_J_X11_mayGoThroughAll_36 wt hl (by omega) k0 _
  · refine w_aload_n 0 0 (μ := m_X11_mayGoThroughAll) (pc := 7) dX11_mayGoThroughAll_7 rfl rfl ?_
    refine w_getO (μ := m_X11_mayGoThroughAll) (pc := 8) dX11_mayGoThroughAll_8 fl_X11_19 ir_11_1 id_11_1 k0 (fun b_3 e_4 => ?_)
    refine w_callV (As := []) (rest := []) (μ := m_X11_mayGoThroughAll) (pc := 11) dX11_mayGoThroughAll_11 cv_X11_299 rfl rfl (wt_11_1 wt k0 e_4) (by decide) rfl (Nat.le_of_ble_eq_true rfl) (d' := d - 1) (by omega) he_i (c_X5_isSmall wt hl (d := d - 1) (by omega) (wt_11_1 wt k0 e_4)) (fun r_5 => ?_)
    refine w_if_eq 36 (μ := m_X11_mayGoThroughAll) (pc := 14) dX11_mayGoThroughAll_14 (by decide) (fun c_6 => ?_) (fun c_6 => ?_)
    · refine w_lv [] rfl ?_
      exact t_J_X11_mayGoThroughAll_36 wt hl (by omega) k0 _
    · refine w_iload_n 2 2 (μ := m_X11_mayGoThroughAll) (pc := 17) dX11_mayGoThroughAll_17 rfl rfl ?_
      refine w_if_lt 36 (μ := m_X11_mayGoThroughAll) (pc := 18) dX11_mayGoThroughAll_18 (by decide) (fun c_7 => ?_) (fun c_7 => ?_)
      · refine w_lv [] rfl ?_
        exact t_J_X11_mayGoThroughAll_36 wt hl (by omega) k0 _
      · refine w_iload_n 2 2 (μ := m_X11_mayGoThroughAll) (pc := 21) dX11_mayGoThroughAll_21 rfl rfl ?_
        refine w_aload_n 0 0 (μ := m_X11_mayGoThroughAll) (pc := 22) dX11_mayGoThroughAll_22 rfl rfl ?_
        refine w_getO (μ := m_X11_mayGoThroughAll) (pc := 23) dX11_mayGoThroughAll_23 fl_X11_19 ir_11_1 id_11_1 k0 (fun b_8 e_9 => ?_)
        refine w_callV (As := []) (rest := [.int x2]) (μ := m_X11_mayGoThroughAll) (pc := 26) dX11_mayGoThroughAll_26 cv_X11_296 rfl rfl (wt_11_1 wt k0 e_9) (by decide) rfl (Nat.le_of_ble_eq_true rfl) (d' := d - 1) (by omega) he_i (c_X5_mostInSets wt hl (d := d - 1) (by omega) (wt_11_1 wt k0 e_9)) (fun r_10 => ?_)
        refine w_icmp_gt 36 (μ := m_X11_mayGoThroughAll) (pc := 29) dX11_mayGoThroughAll_29 (by decide) (fun c_11 => ?_) (fun c_11 => ?_)
        · refine w_lv [] rfl ?_
          exact t_J_X11_mayGoThroughAll_36 wt hl (by omega) k0 _
        · refine w_iconst (v := 1) (μ := m_X11_mayGoThroughAll) (pc := 32) dX11_mayGoThroughAll_32 (by decide) ?_
          refine w_goto 37 (μ := m_X11_mayGoThroughAll) (pc := 33) dX11_mayGoThroughAll_33 (by decide) ?_
          refine w_lv [] rfl ?_
          exact t_J_X11_mayGoThroughAll_37 wt hl (by omega) k0 _ _
def L_X11_restore_21 (N : Nat) (g : gp) (a0 : Nat) : Nat → Int32 → dp → Option (Int32 × dp)
  | 0, _, _ => none
  | n + 1, x1v, δ => if (4 : Int32) ≤ x1v then ((q_O g 11 8 a0).bind fun b_5 => (D_X4_forget N g b_5 δ).bind fun r_7 => some (q_I r_7 11 12 a0, r_7)) else ((q_O g 11 6 a0).bind fun b_8 => if x1v < 0 ∨ q_N g b_8 ≤ x1v.toNatClampNeg then none else (q_E g b_8 x1v.toNatClampNeg).bind fun b_10 => (q_O g 11 11 a0).bind fun b_12 => if (q_I δ 11 12 a0) < 0 ∨ q_N g b_12 ≤ (q_I δ 11 12 a0).toNatClampNeg then none else (q_E g b_12 (q_I δ 11 12 a0).toNatClampNeg).bind fun b_14 => if x1v < 0 ∨ q_N g b_14 ≤ x1v.toNatClampNeg then none else (D_X2_goBack N g b_10 (q_R δ b_14 x1v.toNatClampNeg) δ).bind fun r_16 => bi (x1v + 1) fun x_17 => L_X11_restore_21 N g a0 n x_17 r_16)
set_option maxHeartbeats 4000000 in
set_option maxRecDepth 100000 in
theorem t_L_X11_restore_21 {l : Launch} {D : va_G} {cy : Nat → ClassId} {N d : Nat} {g : gp} (wt : WT g) (hl : l.stackTraces = false) (hd : 5 ≤ d) {a0 : Nat} (k0 : q_K g a0 = 11) : ∀ (n : Nat) (x1v : Int32) (δ : dp), AWD l D cy m_X11_restore d 0 0 ei g 21 [(0, .ref a0), (1, .int x1v)] [] δ (L_X11_restore_21 N g a0 n x1v δ) := by
  intro n
  induction n with
  | zero => intro x1v δ ; exact w_none
  | succ n ih =>
    intro x1v δ 
    unfold L_X11_restore_21
    refine w_iload_n 1 1 (μ := m_X11_restore) (pc := 21) dX11_restore_21 rfl rfl ?_
    refine w_iconst (v := 4) (μ := m_X11_restore) (pc := 22) dX11_restore_22 (by decide) ?_
    refine w_icmp_ge 52 (μ := m_X11_restore) (pc := 23) dX11_restore_23 (by decide) (fun c_4 => ?_) (fun c_4 => ?_)
    · refine w_aload_n 0 0 (μ := m_X11_restore) (pc := 52) dX11_restore_52 rfl rfl ?_
      refine w_getO (μ := m_X11_restore) (pc := 53) dX11_restore_53 fl_X11_63 ir_11_8 id_11_8 k0 (fun b_5 e_6 => ?_)
      refine w_callV (As := []) (rest := []) (μ := m_X11_restore) (pc := 56) dX11_restore_56 cv_X11_129 rfl rfl (wt_11_8 wt k0 e_6) (by decide) rfl (Nat.le_of_ble_eq_true rfl) (d' := d - 1) (by omega) he_v (c_X4_forget wt hl (d := d - 1) (by omega) (wt_11_8 wt k0 e_6)) (fun r_7 => ?_)
      refine w_aload_n 0 0 (μ := m_X11_restore) (pc := 59) dX11_restore_59 rfl rfl ?_
      refine w_getI (μ := m_X11_restore) (pc := 60) dX11_restore_60 fl_X11_126 ir_11_12 k0 ?_
      exact w_iret (μ := m_X11_restore) (pc := 63) dX11_restore_63 rfl rfl
    · refine w_aload_n 0 0 (μ := m_X11_restore) (pc := 26) dX11_restore_26 rfl rfl ?_
      refine w_getO (μ := m_X11_restore) (pc := 27) dX11_restore_27 fl_X11_45 ir_11_6 id_11_6 k0 (fun b_8 e_9 => ?_)
      refine w_iload_n 1 1 (μ := m_X11_restore) (pc := 30) dX11_restore_30 rfl rfl ?_
      refine w_aald 3 (ty := (.object RX2)) (μ := m_X11_restore) (pc := 31) dX11_restore_31 (wt_11_6 wt k0 e_9) (by decide) rfl rfl (by decide) (fun b_10 e_11 => ?_)
      refine w_aload_n 0 0 (μ := m_X11_restore) (pc := 32) dX11_restore_32 rfl rfl ?_
      refine w_getO (μ := m_X11_restore) (pc := 33) dX11_restore_33 fl_X11_83 ir_11_11 id_11_11 k0 (fun b_12 e_13 => ?_)
      refine w_aload_n 0 0 (μ := m_X11_restore) (pc := 36) dX11_restore_36 rfl rfl ?_
      refine w_getI (μ := m_X11_restore) (pc := 37) dX11_restore_37 fl_X11_126 ir_11_12 k0 ?_
      refine w_aald 5 (ty := (.array .int)) (μ := m_X11_restore) (pc := 40) dX11_restore_40 (wt_11_11 wt k0 e_13) (by decide) rfl rfl (by decide) (fun b_14 e_15 => ?_)
      refine w_iload_n 1 1 (μ := m_X11_restore) (pc := 41) dX11_restore_41 rfl rfl ?_
      refine w_ald (μ := m_X11_restore) (pc := 42) dX11_restore_42 (we_18 wt (wt_11_11 wt k0 e_13) e_15) ?_
      refine w_callV (As := [.int (q_R δ b_14 x1v.toNatClampNeg)]) (rest := []) (μ := m_X11_restore) (pc := 43) dX11_restore_43 cv_X11_321 rfl rfl (we_16 wt (wt_11_6 wt k0 e_9) e_11) (by decide) rfl (Nat.le_of_ble_eq_true rfl) (d' := d - 1) (by omega) he_v (c_X2_goBack wt hl (d := d - 1) (by omega) (we_16 wt (wt_11_6 wt k0 e_9) e_11)) (fun r_16 => ?_)
      refine w_inb (fun x_17 e_18 => ?_)
      refine w_iinc 1 [(1, .int x_17), (0, .ref a0)] (μ := m_X11_restore) (pc := 46) dX11_restore_46 rfl (by rw [e_18]; rfl) (by decide) rfl ?_
      refine w_goto 21 (μ := m_X11_restore) (pc := 49) dX11_restore_49 (by decide) ?_
      refine w_lv [1, 0] rfl ?_
      exact ih _ _
def D_X11_restore (N : Nat) (g : gp) (a0 : Nat) (δ : dp) : Option (Int32 × dp) :=
  if 0 < (q_I δ 11 12 a0) then (bd (s_I δ 11 12 a0 ((q_I δ 11 12 a0) - 1)) fun δ_2 => L_X11_restore_21 N g a0 N 0 δ_2) else (some ((-1), δ))
set_option maxHeartbeats 4000000 in
set_option maxRecDepth 100000 in
theorem c_X11_restore {l : Launch} {D : va_G} {cy : Nat → ClassId} {N d : Nat} {g : gp} (wt : WT g) (hl : l.stackTraces = false) (hd : 5 ≤ d) {a0 : Nat} {δ : dp} (k0 : q_K g a0 = 11) : CalD l D cy m_X11_restore d 0 0 ei g [.ref a0] δ (D_X11_restore N g a0 δ) := by
  refine CalD.of (by decide +kernel) (Nat.le_of_ble_eq_true rfl) hl ?_
  unfold D_X11_restore
  refine w_aload_n 0 0 (μ := m_X11_restore) (pc := 0) dX11_restore_0 rfl rfl ?_
  refine w_getI (μ := m_X11_restore) (pc := 1) dX11_restore_1 fl_X11_126 ir_11_12 k0 ?_
  refine w_if_gt 9 (μ := m_X11_restore) (pc := 4) dX11_restore_4 (by decide) (fun c_1 => ?_) (fun c_1 => ?_)
  · refine w_aload_n 0 0 (μ := m_X11_restore) (pc := 9) dX11_restore_9 rfl rfl ?_
    refine w_dup (μ := m_X11_restore) (pc := 10) dX11_restore_10 rfl ?_
    refine w_getI (μ := m_X11_restore) (pc := 11) dX11_restore_11 fl_X11_126 ir_11_12 k0 ?_
    refine w_iconst (v := 1) (μ := m_X11_restore) (pc := 14) dX11_restore_14 (by decide) ?_
    refine w_isub (μ := m_X11_restore) (pc := 15) dX11_restore_15 ?_
    refine w_putI (μ := m_X11_restore) (pc := 16) dX11_restore_16 fl_X11_126 flw_11_12 ir_11_12 k0 ?_
    refine w_bd (fun δ_2 e_3 => ?_)
    refine w_iconst (v := 0) (μ := m_X11_restore) (pc := 19) dX11_restore_19 (by decide) ?_
    refine w_istore_n [(1, .int 0), (0, .ref a0)] (μ := m_X11_restore) (pc := 20) dX11_restore_20 rfl (by decide) rfl ?_
    refine w_lv [1, 0] rfl ?_
    exact t_L_X11_restore_21 wt hl (by omega) k0 N _ _
  · refine w_iconst (v := (-1)) (μ := m_X11_restore) (pc := 7) dX11_restore_7 (by decide) ?_
    exact w_iret (μ := m_X11_restore) (pc := 8) dX11_restore_8 rfl rfl
