theorem dX9_read_0 : decode cX9_read 0 = .ok (.aload_n 0, 1) := by decide +kernel
theorem dX9_read_1 : decode cX9_read 1 = .ok (.aload_n 1, 1) := by decide +kernel
theorem dX9_read_2 : decode cX9_read 2 = .ok (.putfield 20, 3) := by decide +kernel
theorem dX9_read_5 : decode cX9_read 5 = .ok (.aload_n 0, 1) := by decide +kernel
theorem dX9_read_6 : decode cX9_read 6 = .ok (.aload_n 2, 1) := by decide +kernel
theorem dX9_read_7 : decode cX9_read 7 = .ok (.putfield 24, 3) := by decide +kernel
theorem dX9_read_10 : decode cX9_read 10 = .ok (.aload_n 0, 1) := by decide +kernel
theorem dX9_read_11 : decode cX9_read 11 = .ok (.getfield 24, 3) := by decide +kernel
theorem dX9_read_14 : decode cX9_read 14 = .ok (.invokevirtual 28, 3) := by decide +kernel
theorem dX9_read_17 : decode cX9_read 17 = .ok (.aload_n 0, 1) := by decide +kernel
theorem dX9_read_18 : decode cX9_read 18 = .ok (.iconst 0, 1) := by decide +kernel
theorem dX9_read_19 : decode cX9_read 19 = .ok (.putfield 31, 3) := by decide +kernel
theorem dX9_read_22 : decode cX9_read 22 = .ok (.aload_n 0, 1) := by decide +kernel
theorem dX9_read_23 : decode cX9_read 23 = .ok (.iconst 0, 1) := by decide +kernel
theorem dX9_read_24 : decode cX9_read 24 = .ok (.putfield 35, 3) := by decide +kernel
theorem dX9_read_27 : decode cX9_read 27 = .ok (.aload_n 0, 1) := by decide +kernel
theorem dX9_read_28 : decode cX9_read 28 = .ok (.iconst 0, 1) := by decide +kernel
theorem dX9_read_29 : decode cX9_read 29 = .ok (.putfield 38, 3) := by decide +kernel
theorem dX9_read_32 : decode cX9_read 32 = .ok (.iconst 0, 1) := by decide +kernel
theorem dX9_read_33 : decode cX9_read 33 = .ok (.istore_n 3, 1) := by decide +kernel
theorem dX9_read_34 : decode cX9_read 34 = .ok (.iload_n 3, 1) := by decide +kernel
theorem dX9_read_35 : decode cX9_read 35 = .ok (.sipush 500, 3) := by decide +kernel
theorem dX9_read_38 : decode cX9_read 38 = .ok (.if_icmp .ge 30, 3) := by decide +kernel
theorem dX9_read_41 : decode cX9_read 41 = .ok (.aload_n 0, 1) := by decide +kernel
theorem dX9_read_42 : decode cX9_read 42 = .ok (.getfield 20, 3) := by decide +kernel
theorem dX9_read_45 : decode cX9_read 45 = .ok (.invokevirtual 41, 3) := by decide +kernel
theorem dX9_read_48 : decode cX9_read 48 = .ok (.ifCond .eq 20, 3) := by decide +kernel
theorem dX9_read_51 : decode cX9_read 51 = .ok (.aload_n 0, 1) := by decide +kernel
theorem dX9_read_52 : decode cX9_read 52 = .ok (.invokevirtual 47, 3) := by decide +kernel
theorem dX9_read_55 : decode cX9_read 55 = .ok (.ifCond .ne 13, 3) := by decide +kernel
theorem dX9_read_58 : decode cX9_read 58 = .ok (.aload_n 0, 1) := by decide +kernel
theorem dX9_read_59 : decode cX9_read 59 = .ok (.invokevirtual 50, 3) := by decide +kernel
theorem dX9_read_62 : decode cX9_read 62 = .ok (.iinc 3 1, 3) := by decide +kernel
theorem dX9_read_65 : decode cX9_read 65 = .ok (.goto (-31), 3) := by decide +kernel
theorem dX9_read_68 : decode cX9_read 68 = .ok (.aload_n 0, 1) := by decide +kernel
theorem dX9_read_69 : decode cX9_read 69 = .ok (.getfield 31, 3) := by decide +kernel
theorem dX9_read_72 : decode cX9_read 72 = .ok (.ifCond .ne 11, 3) := by decide +kernel
theorem dX9_read_75 : decode cX9_read 75 = .ok (.aload_n 0, 1) := by decide +kernel
theorem dX9_read_76 : decode cX9_read 76 = .ok (.getfield 20, 3) := by decide +kernel
theorem dX9_read_79 : decode cX9_read 79 = .ok (.iconst 1, 1) := by decide +kernel
theorem dX9_read_80 : decode cX9_read 80 = .ok (.invokevirtual 53, 3) := by decide +kernel
theorem dX9_read_83 : decode cX9_read 83 = .ok (.return_, 1) := by decide +kernel
theorem dX9_isOver_0 : decode cX9_isOver 0 = .ok (.aload_n 0, 1) := by decide +kernel
theorem dX9_isOver_1 : decode cX9_isOver 1 = .ok (.getfield 38, 3) := by decide +kernel
theorem dX9_isOver_4 : decode cX9_isOver 4 = .ok (.ifCond .ne 18, 3) := by decide +kernel
theorem dX9_isOver_7 : decode cX9_isOver 7 = .ok (.aload_n 0, 1) := by decide +kernel
theorem dX9_isOver_8 : decode cX9_isOver 8 = .ok (.getfield 20, 3) := by decide +kernel
theorem dX9_isOver_11 : decode cX9_isOver 11 = .ok (.invokevirtual 57, 3) := by decide +kernel
theorem dX9_isOver_14 : decode cX9_isOver 14 = .ok (.iconst (-1), 1) := by decide +kernel
theorem dX9_isOver_15 : decode cX9_isOver 15 = .ok (.if_icmp .ne 7, 3) := by decide +kernel
theorem dX9_isOver_18 : decode cX9_isOver 18 = .ok (.iconst 1, 1) := by decide +kernel
theorem dX9_isOver_19 : decode cX9_isOver 19 = .ok (.goto 4, 3) := by decide +kernel
theorem dX9_isOver_22 : decode cX9_isOver 22 = .ok (.iconst 0, 1) := by decide +kernel
theorem dX9_isOver_23 : decode cX9_isOver 23 = .ok (.ireturn, 1) := by decide +kernel
theorem dX9_readStep_0 : decode cX9_readStep 0 = .ok (.aload_n 0, 1) := by decide +kernel
theorem dX9_readStep_1 : decode cX9_readStep 1 = .ok (.getfield 38, 3) := by decide +kernel
theorem dX9_readStep_4 : decode cX9_readStep 4 = .ok (.ifCond .le 20, 3) := by decide +kernel
theorem dX9_readStep_7 : decode cX9_readStep 7 = .ok (.aload_n 0, 1) := by decide +kernel
theorem dX9_readStep_8 : decode cX9_readStep 8 = .ok (.getfield 20, 3) := by decide +kernel
theorem dX9_readStep_11 : decode cX9_readStep 11 = .ok (.bipush 93, 2) := by decide +kernel
theorem dX9_readStep_13 : decode cX9_readStep 13 = .ok (.invokevirtual 61, 3) := by decide +kernel
theorem dX9_readStep_16 : decode cX9_readStep 16 = .ok (.ifCond .eq 8, 3) := by decide +kernel
theorem dX9_readStep_19 : decode cX9_readStep 19 = .ok (.aload_n 0, 1) := by decide +kernel
theorem dX9_readStep_20 : decode cX9_readStep 20 = .ok (.invokevirtual 65, 3) := by decide +kernel
theorem dX9_readStep_23 : decode cX9_readStep 23 = .ok (.return_, 1) := by decide +kernel
theorem dX9_readStep_24 : decode cX9_readStep 24 = .ok (.aload_n 0, 1) := by decide +kernel
theorem dX9_readStep_25 : decode cX9_readStep 25 = .ok (.getfield 20, 3) := by decide +kernel
theorem dX9_readStep_28 : decode cX9_readStep 28 = .ok (.invokevirtual 68, 3) := by decide +kernel
theorem dX9_readStep_31 : decode cX9_readStep 31 = .ok (.aload_n 0, 1) := by decide +kernel
theorem dX9_readStep_32 : decode cX9_readStep 32 = .ok (.invokevirtual 71, 3) := by decide +kernel
theorem dX9_readStep_35 : decode cX9_readStep 35 = .ok (.istore_n 1, 1) := by decide +kernel
theorem dX9_readStep_36 : decode cX9_readStep 36 = .ok (.aload_n 0, 1) := by decide +kernel
theorem dX9_readStep_37 : decode cX9_readStep 37 = .ok (.getfield 20, 3) := by decide +kernel
theorem dX9_readStep_40 : decode cX9_readStep 40 = .ok (.ldc 74, 2) := by decide +kernel
theorem dX9_readStep_42 : decode cX9_readStep 42 = .ok (.invokevirtual 76, 3) := by decide +kernel
theorem dX9_readStep_45 : decode cX9_readStep 45 = .ok (.istore_n 2, 1) := by decide +kernel
theorem dX9_readStep_46 : decode cX9_readStep 46 = .ok (.iload_n 1, 1) := by decide +kernel
theorem dX9_readStep_47 : decode cX9_readStep 47 = .ok (.iconst (-1), 1) := by decide +kernel
theorem dX9_readStep_48 : decode cX9_readStep 48 = .ok (.if_icmp .ne 18, 3) := by decide +kernel
theorem dX9_readStep_51 : decode cX9_readStep 51 = .ok (.iload_n 2, 1) := by decide +kernel
theorem dX9_readStep_52 : decode cX9_readStep 52 = .ok (.ifCond .ne 14, 3) := by decide +kernel
theorem dX9_readStep_55 : decode cX9_readStep 55 = .ok (.aload_n 0, 1) := by decide +kernel
theorem dX9_readStep_56 : decode cX9_readStep 56 = .ok (.getfield 20, 3) := by decide +kernel
theorem dX9_readStep_59 : decode cX9_readStep 59 = .ok (.iconst 1, 1) := by decide +kernel
theorem dX9_readStep_60 : decode cX9_readStep 60 = .ok (.invokevirtual 53, 3) := by decide +kernel
theorem dX9_readStep_63 : decode cX9_readStep 63 = .ok (.goto 100, 3) := by decide +kernel
theorem dX9_readStep_66 : decode cX9_readStep 66 = .ok (.aload_n 0, 1) := by decide +kernel
theorem dX9_readStep_67 : decode cX9_readStep 67 = .ok (.getfield 31, 3) := by decide +kernel
theorem dX9_readStep_70 : decode cX9_readStep 70 = .ok (.bipush 60, 2) := by decide +kernel
theorem dX9_readStep_72 : decode cX9_readStep 72 = .ok (.if_icmp .ge 15, 3) := by decide +kernel
theorem dX9_readStep_75 : decode cX9_readStep 75 = .ok (.iload_n 2, 1) := by decide +kernel
theorem dX9_readStep_76 : decode cX9_readStep 76 = .ok (.ifCond .eq 22, 3) := by decide +kernel
theorem dX9_readStep_79 : decode cX9_readStep 79 = .ok (.aload_n 0, 1) := by decide +kernel
theorem dX9_readStep_80 : decode cX9_readStep 80 = .ok (.getfield 38, 3) := by decide +kernel
theorem dX9_readStep_83 : decode cX9_readStep 83 = .ok (.iconst 3, 1) := by decide +kernel
theorem dX9_readStep_84 : decode cX9_readStep 84 = .ok (.if_icmp .lt 14, 3) := by decide +kernel
theorem dX9_readStep_87 : decode cX9_readStep 87 = .ok (.aload_n 0, 1) := by decide +kernel
theorem dX9_readStep_88 : decode cX9_readStep 88 = .ok (.getfield 20, 3) := by decide +kernel
theorem dX9_readStep_91 : decode cX9_readStep 91 = .ok (.iconst 3, 1) := by decide +kernel
theorem dX9_readStep_92 : decode cX9_readStep 92 = .ok (.invokevirtual 53, 3) := by decide +kernel
theorem dX9_readStep_95 : decode cX9_readStep 95 = .ok (.goto 68, 3) := by decide +kernel
theorem dX9_readStep_98 : decode cX9_readStep 98 = .ok (.iload_n 2, 1) := by decide +kernel
theorem dX9_readStep_99 : decode cX9_readStep 99 = .ok (.ifCond .eq 20, 3) := by decide +kernel
theorem dX9_readStep_102 : decode cX9_readStep 102 = .ok (.aload_n 0, 1) := by decide +kernel
theorem dX9_readStep_103 : decode cX9_readStep 103 = .ok (.dup, 1) := by decide +kernel
theorem dX9_readStep_104 : decode cX9_readStep 104 = .ok (.getfield 31, 3) := by decide +kernel
theorem dX9_readStep_107 : decode cX9_readStep 107 = .ok (.iconst 1, 1) := by decide +kernel
theorem dX9_readStep_108 : decode cX9_readStep 108 = .ok (.iadd, 1) := by decide +kernel
theorem dX9_readStep_109 : decode cX9_readStep 109 = .ok (.putfield 31, 3) := by decide +kernel
theorem dX9_readStep_112 : decode cX9_readStep 112 = .ok (.aload_n 0, 1) := by decide +kernel
theorem dX9_readStep_113 : decode cX9_readStep 113 = .ok (.invokevirtual 80, 3) := by decide +kernel
theorem dX9_readStep_116 : decode cX9_readStep 116 = .ok (.goto 47, 3) := by decide +kernel
theorem dX9_readStep_119 : decode cX9_readStep 119 = .ok (.aload_n 0, 1) := by decide +kernel
theorem dX9_readStep_120 : decode cX9_readStep 120 = .ok (.dup, 1) := by decide +kernel
theorem dX9_readStep_121 : decode cX9_readStep 121 = .ok (.getfield 31, 3) := by decide +kernel
theorem dX9_readStep_124 : decode cX9_readStep 124 = .ok (.iconst 1, 1) := by decide +kernel
theorem dX9_readStep_125 : decode cX9_readStep 125 = .ok (.iadd, 1) := by decide +kernel
theorem dX9_readStep_126 : decode cX9_readStep 126 = .ok (.putfield 31, 3) := by decide +kernel
theorem dX9_readStep_129 : decode cX9_readStep 129 = .ok (.aload_n 0, 1) := by decide +kernel
theorem dX9_readStep_130 : decode cX9_readStep 130 = .ok (.dup, 1) := by decide +kernel
theorem dX9_readStep_131 : decode cX9_readStep 131 = .ok (.getfield 35, 3) := by decide +kernel
theorem dX9_readStep_134 : decode cX9_readStep 134 = .ok (.iconst 1, 1) := by decide +kernel
theorem dX9_readStep_135 : decode cX9_readStep 135 = .ok (.iadd, 1) := by decide +kernel
theorem dX9_readStep_136 : decode cX9_readStep 136 = .ok (.putfield 35, 3) := by decide +kernel
theorem dX9_readStep_139 : decode cX9_readStep 139 = .ok (.aload_n 0, 1) := by decide +kernel
theorem dX9_readStep_140 : decode cX9_readStep 140 = .ok (.iconst 0, 1) := by decide +kernel
theorem dX9_readStep_141 : decode cX9_readStep 141 = .ok (.invokevirtual 83, 3) := by decide +kernel
theorem dX9_readStep_144 : decode cX9_readStep 144 = .ok (.aload_n 0, 1) := by decide +kernel
theorem dX9_readStep_145 : decode cX9_readStep 145 = .ok (.getfield 20, 3) := by decide +kernel
theorem dX9_readStep_148 : decode cX9_readStep 148 = .ok (.bipush 59, 2) := by decide +kernel
theorem dX9_readStep_150 : decode cX9_readStep 150 = .ok (.invokevirtual 86, 3) := by decide +kernel
theorem dX9_readStep_153 : decode cX9_readStep 153 = .ok (.aload_n 0, 1) := by decide +kernel
theorem dX9_readStep_154 : decode cX9_readStep 154 = .ok (.getfield 24, 3) := by decide +kernel
theorem dX9_readStep_157 : decode cX9_readStep 157 = .ok (.bipush 9, 2) := by decide +kernel
theorem dX9_readStep_159 : decode cX9_readStep 159 = .ok (.iload_n 1, 1) := by decide +kernel
theorem dX9_readStep_160 : decode cX9_readStep 160 = .ok (.invokevirtual 89, 3) := by decide +kernel
theorem dX9_readStep_163 : decode cX9_readStep 163 = .ok (.return_, 1) := by decide +kernel
theorem dX9_callOfWord_0 : decode cX9_callOfWord 0 = .ok (.aload_n 0, 1) := by decide +kernel
theorem dX9_callOfWord_1 : decode cX9_callOfWord 1 = .ok (.getfield 20, 3) := by decide +kernel
theorem dX9_callOfWord_4 : decode cX9_callOfWord 4 = .ok (.ldc 93, 2) := by decide +kernel
theorem dX9_callOfWord_6 : decode cX9_callOfWord 6 = .ok (.invokevirtual 76, 3) := by decide +kernel
theorem dX9_callOfWord_9 : decode cX9_callOfWord 9 = .ok (.ifCond .eq 5, 3) := by decide +kernel
theorem dX9_callOfWord_12 : decode cX9_callOfWord 12 = .ok (.iconst 0, 1) := by decide +kernel
theorem dX9_callOfWord_13 : decode cX9_callOfWord 13 = .ok (.ireturn, 1) := by decide +kernel
theorem dX9_callOfWord_14 : decode cX9_callOfWord 14 = .ok (.aload_n 0, 1) := by decide +kernel
theorem dX9_callOfWord_15 : decode cX9_callOfWord 15 = .ok (.getfield 20, 3) := by decide +kernel
theorem dX9_callOfWord_18 : decode cX9_callOfWord 18 = .ok (.ldc 95, 2) := by decide +kernel
theorem dX9_callOfWord_20 : decode cX9_callOfWord 20 = .ok (.invokevirtual 76, 3) := by decide +kernel
theorem dX9_callOfWord_23 : decode cX9_callOfWord 23 = .ok (.ifCond .eq 5, 3) := by decide +kernel
theorem dX9_callOfWord_26 : decode cX9_callOfWord 26 = .ok (.iconst 1, 1) := by decide +kernel
theorem dX9_callOfWord_27 : decode cX9_callOfWord 27 = .ok (.ireturn, 1) := by decide +kernel
theorem dX9_callOfWord_28 : decode cX9_callOfWord 28 = .ok (.aload_n 0, 1) := by decide +kernel
theorem dX9_callOfWord_29 : decode cX9_callOfWord 29 = .ok (.getfield 20, 3) := by decide +kernel
theorem dX9_callOfWord_32 : decode cX9_callOfWord 32 = .ok (.ldc 97, 2) := by decide +kernel
theorem dX9_callOfWord_34 : decode cX9_callOfWord 34 = .ok (.invokevirtual 76, 3) := by decide +kernel
theorem dX9_callOfWord_37 : decode cX9_callOfWord 37 = .ok (.ifCond .eq 5, 3) := by decide +kernel
theorem dX9_callOfWord_40 : decode cX9_callOfWord 40 = .ok (.iconst 2, 1) := by decide +kernel
theorem dX9_callOfWord_41 : decode cX9_callOfWord 41 = .ok (.ireturn, 1) := by decide +kernel
theorem dX9_callOfWord_42 : decode cX9_callOfWord 42 = .ok (.aload_n 0, 1) := by decide +kernel
theorem dX9_callOfWord_43 : decode cX9_callOfWord 43 = .ok (.getfield 20, 3) := by decide +kernel
theorem dX9_callOfWord_46 : decode cX9_callOfWord 46 = .ok (.ldc 99, 2) := by decide +kernel
theorem dX9_callOfWord_48 : decode cX9_callOfWord 48 = .ok (.invokevirtual 76, 3) := by decide +kernel
theorem dX9_callOfWord_51 : decode cX9_callOfWord 51 = .ok (.ifCond .eq 5, 3) := by decide +kernel
theorem dX9_callOfWord_54 : decode cX9_callOfWord 54 = .ok (.iconst 3, 1) := by decide +kernel
theorem dX9_callOfWord_55 : decode cX9_callOfWord 55 = .ok (.ireturn, 1) := by decide +kernel
theorem dX9_callOfWord_56 : decode cX9_callOfWord 56 = .ok (.aload_n 0, 1) := by decide +kernel
theorem dX9_callOfWord_57 : decode cX9_callOfWord 57 = .ok (.getfield 20, 3) := by decide +kernel
theorem dX9_callOfWord_60 : decode cX9_callOfWord 60 = .ok (.ldc 101, 2) := by decide +kernel
theorem dX9_callOfWord_62 : decode cX9_callOfWord 62 = .ok (.invokevirtual 76, 3) := by decide +kernel
theorem dX9_callOfWord_65 : decode cX9_callOfWord 65 = .ok (.ifCond .eq 7, 3) := by decide +kernel
theorem dX9_callOfWord_68 : decode cX9_callOfWord 68 = .ok (.iconst 4, 1) := by decide +kernel
theorem dX9_callOfWord_69 : decode cX9_callOfWord 69 = .ok (.goto 4, 3) := by decide +kernel
theorem dX9_callOfWord_72 : decode cX9_callOfWord 72 = .ok (.iconst (-1), 1) := by decide +kernel
theorem dX9_callOfWord_73 : decode cX9_callOfWord 73 = .ok (.ireturn, 1) := by decide +kernel
theorem dX9_openLoop_0 : decode cX9_openLoop 0 = .ok (.aload_n 0, 1) := by decide +kernel
theorem dX9_openLoop_1 : decode cX9_openLoop 1 = .ok (.getfield 20, 3) := by decide +kernel
theorem dX9_openLoop_4 : decode cX9_openLoop 4 = .ok (.iconst 1, 1) := by decide +kernel
theorem dX9_openLoop_5 : decode cX9_openLoop 5 = .ok (.bipush 99, 2) := by decide +kernel
theorem dX9_openLoop_7 : decode cX9_openLoop 7 = .ok (.invokevirtual 103, 3) := by decide +kernel
theorem dX9_openLoop_10 : decode cX9_openLoop 10 = .ok (.istore_n 1, 1) := by decide +kernel
theorem dX9_openLoop_11 : decode cX9_openLoop 11 = .ok (.aload_n 0, 1) := by decide +kernel
theorem dX9_openLoop_12 : decode cX9_openLoop 12 = .ok (.getfield 20, 3) := by decide +kernel
theorem dX9_openLoop_15 : decode cX9_openLoop 15 = .ok (.bipush 91, 2) := by decide +kernel
theorem dX9_openLoop_17 : decode cX9_openLoop 17 = .ok (.invokevirtual 86, 3) := by decide +kernel
theorem dX9_openLoop_20 : decode cX9_openLoop 20 = .ok (.aload_n 0, 1) := by decide +kernel
theorem dX9_openLoop_21 : decode cX9_openLoop 21 = .ok (.getfield 11, 3) := by decide +kernel
theorem dX9_openLoop_24 : decode cX9_openLoop 24 = .ok (.aload_n 0, 1) := by decide +kernel
theorem dX9_openLoop_25 : decode cX9_openLoop 25 = .ok (.getfield 38, 3) := by decide +kernel
theorem dX9_openLoop_28 : decode cX9_openLoop 28 = .ok (.aload_n 0, 1) := by decide +kernel
theorem dX9_openLoop_29 : decode cX9_openLoop 29 = .ok (.getfield 24, 3) := by decide +kernel
theorem dX9_openLoop_32 : decode cX9_openLoop 32 = .ok (.getfield 107, 3) := by decide +kernel
theorem dX9_openLoop_35 : decode cX9_openLoop 35 = .ok (.iastore, 1) := by decide +kernel
theorem dX9_openLoop_36 : decode cX9_openLoop 36 = .ok (.aload_n 0, 1) := by decide +kernel
theorem dX9_openLoop_37 : decode cX9_openLoop 37 = .ok (.getfield 17, 3) := by decide +kernel
theorem dX9_openLoop_40 : decode cX9_openLoop 40 = .ok (.aload_n 0, 1) := by decide +kernel
theorem dX9_openLoop_41 : decode cX9_openLoop 41 = .ok (.getfield 38, 3) := by decide +kernel
theorem dX9_openLoop_44 : decode cX9_openLoop 44 = .ok (.aload_n 0, 1) := by decide +kernel
theorem dX9_openLoop_45 : decode cX9_openLoop 45 = .ok (.getfield 35, 3) := by decide +kernel
theorem dX9_openLoop_48 : decode cX9_openLoop 48 = .ok (.iastore, 1) := by decide +kernel
theorem dX9_openLoop_49 : decode cX9_openLoop 49 = .ok (.aload_n 0, 1) := by decide +kernel
theorem dX9_openLoop_50 : decode cX9_openLoop 50 = .ok (.getfield 24, 3) := by decide +kernel
theorem dX9_openLoop_53 : decode cX9_openLoop 53 = .ok (.bipush 10, 2) := by decide +kernel
theorem dX9_openLoop_55 : decode cX9_openLoop 55 = .ok (.iload_n 1, 1) := by decide +kernel
theorem dX9_openLoop_56 : decode cX9_openLoop 56 = .ok (.iconst 4, 1) := by decide +kernel
theorem dX9_openLoop_57 : decode cX9_openLoop 57 = .ok (.imul, 1) := by decide +kernel
theorem dX9_openLoop_58 : decode cX9_openLoop 58 = .ok (.aload_n 0, 1) := by decide +kernel
theorem dX9_openLoop_59 : decode cX9_openLoop 59 = .ok (.getfield 38, 3) := by decide +kernel
theorem dX9_openLoop_62 : decode cX9_openLoop 62 = .ok (.iadd, 1) := by decide +kernel
theorem dX9_openLoop_63 : decode cX9_openLoop 63 = .ok (.invokevirtual 89, 3) := by decide +kernel
theorem dX9_openLoop_66 : decode cX9_openLoop 66 = .ok (.aload_n 0, 1) := by decide +kernel
theorem dX9_openLoop_67 : decode cX9_openLoop 67 = .ok (.dup, 1) := by decide +kernel
theorem dX9_openLoop_68 : decode cX9_openLoop 68 = .ok (.getfield 38, 3) := by decide +kernel
theorem dX9_openLoop_71 : decode cX9_openLoop 71 = .ok (.iconst 1, 1) := by decide +kernel
theorem dX9_openLoop_72 : decode cX9_openLoop 72 = .ok (.iadd, 1) := by decide +kernel
theorem dX9_openLoop_73 : decode cX9_openLoop 73 = .ok (.putfield 38, 3) := by decide +kernel
theorem dX9_openLoop_76 : decode cX9_openLoop 76 = .ok (.return_, 1) := by decide +kernel
theorem dX9_closeLoop_0 : decode cX9_closeLoop 0 = .ok (.aload_n 0, 1) := by decide +kernel
theorem dX9_closeLoop_1 : decode cX9_closeLoop 1 = .ok (.dup, 1) := by decide +kernel
theorem dX9_closeLoop_2 : decode cX9_closeLoop 2 = .ok (.getfield 38, 3) := by decide +kernel
theorem dX9_closeLoop_5 : decode cX9_closeLoop 5 = .ok (.iconst 1, 1) := by decide +kernel
theorem dX9_closeLoop_6 : decode cX9_closeLoop 6 = .ok (.isub, 1) := by decide +kernel
theorem dX9_closeLoop_7 : decode cX9_closeLoop 7 = .ok (.putfield 38, 3) := by decide +kernel
theorem dX9_closeLoop_10 : decode cX9_closeLoop 10 = .ok (.aload_n 0, 1) := by decide +kernel
theorem dX9_closeLoop_11 : decode cX9_closeLoop 11 = .ok (.getfield 17, 3) := by decide +kernel
theorem dX9_closeLoop_14 : decode cX9_closeLoop 14 = .ok (.aload_n 0, 1) := by decide +kernel
theorem dX9_closeLoop_15 : decode cX9_closeLoop 15 = .ok (.getfield 38, 3) := by decide +kernel
theorem dX9_closeLoop_18 : decode cX9_closeLoop 18 = .ok (.iaload, 1) := by decide +kernel
theorem dX9_closeLoop_19 : decode cX9_closeLoop 19 = .ok (.aload_n 0, 1) := by decide +kernel
theorem dX9_closeLoop_20 : decode cX9_closeLoop 20 = .ok (.getfield 35, 3) := by decide +kernel
theorem dX9_closeLoop_23 : decode cX9_closeLoop 23 = .ok (.if_icmp .ne 22, 3) := by decide +kernel
theorem dX9_closeLoop_26 : decode cX9_closeLoop 26 = .ok (.aload_n 0, 1) := by decide +kernel
theorem dX9_closeLoop_27 : decode cX9_closeLoop 27 = .ok (.getfield 24, 3) := by decide +kernel
theorem dX9_closeLoop_30 : decode cX9_closeLoop 30 = .ok (.aload_n 0, 1) := by decide +kernel
theorem dX9_closeLoop_31 : decode cX9_closeLoop 31 = .ok (.getfield 11, 3) := by decide +kernel
theorem dX9_closeLoop_34 : decode cX9_closeLoop 34 = .ok (.aload_n 0, 1) := by decide +kernel
theorem dX9_closeLoop_35 : decode cX9_closeLoop 35 = .ok (.getfield 38, 3) := by decide +kernel
theorem dX9_closeLoop_38 : decode cX9_closeLoop 38 = .ok (.iaload, 1) := by decide +kernel
theorem dX9_closeLoop_39 : decode cX9_closeLoop 39 = .ok (.putfield 107, 3) := by decide +kernel
theorem dX9_closeLoop_42 : decode cX9_closeLoop 42 = .ok (.goto 21, 3) := by decide +kernel
theorem dX9_closeLoop_45 : decode cX9_closeLoop 45 = .ok (.aload_n 0, 1) := by decide +kernel
theorem dX9_closeLoop_46 : decode cX9_closeLoop 46 = .ok (.getfield 24, 3) := by decide +kernel
theorem dX9_closeLoop_49 : decode cX9_closeLoop 49 = .ok (.bipush 11, 2) := by decide +kernel
theorem dX9_closeLoop_51 : decode cX9_closeLoop 51 = .ok (.aload_n 0, 1) := by decide +kernel
theorem dX9_closeLoop_52 : decode cX9_closeLoop 52 = .ok (.getfield 11, 3) := by decide +kernel
theorem dX9_closeLoop_55 : decode cX9_closeLoop 55 = .ok (.aload_n 0, 1) := by decide +kernel
theorem dX9_closeLoop_56 : decode cX9_closeLoop 56 = .ok (.getfield 38, 3) := by decide +kernel
theorem dX9_closeLoop_59 : decode cX9_closeLoop 59 = .ok (.iaload, 1) := by decide +kernel
theorem dX9_closeLoop_60 : decode cX9_closeLoop 60 = .ok (.invokevirtual 89, 3) := by decide +kernel
theorem dX9_closeLoop_63 : decode cX9_closeLoop 63 = .ok (.return_, 1) := by decide +kernel
theorem dX9_readSum_0 : decode cX9_readSum 0 = .ok (.aload_n 0, 1) := by decide +kernel
theorem dX9_readSum_1 : decode cX9_readSum 1 = .ok (.iload_n 1, 1) := by decide +kernel
theorem dX9_readSum_2 : decode cX9_readSum 2 = .ok (.invokevirtual 110, 3) := by decide +kernel
theorem dX9_readSum_5 : decode cX9_readSum 5 = .ok (.iconst 0, 1) := by decide +kernel
theorem dX9_readSum_6 : decode cX9_readSum 6 = .ok (.istore_n 2, 1) := by decide +kernel
theorem dX9_readSum_7 : decode cX9_readSum 7 = .ok (.iload_n 2, 1) := by decide +kernel
theorem dX9_readSum_8 : decode cX9_readSum 8 = .ok (.sipush 500, 3) := by decide +kernel
theorem dX9_readSum_11 : decode cX9_readSum 11 = .ok (.if_icmp .ge 73, 3) := by decide +kernel
theorem dX9_readSum_14 : decode cX9_readSum 14 = .ok (.aload_n 0, 1) := by decide +kernel
theorem dX9_readSum_15 : decode cX9_readSum 15 = .ok (.getfield 20, 3) := by decide +kernel
theorem dX9_readSum_18 : decode cX9_readSum 18 = .ok (.invokevirtual 41, 3) := by decide +kernel
theorem dX9_readSum_21 : decode cX9_readSum 21 = .ok (.ifCond .eq 63, 3) := by decide +kernel
theorem dX9_readSum_24 : decode cX9_readSum 24 = .ok (.aload_n 0, 1) := by decide +kernel
theorem dX9_readSum_25 : decode cX9_readSum 25 = .ok (.getfield 20, 3) := by decide +kernel
theorem dX9_readSum_28 : decode cX9_readSum 28 = .ok (.invokevirtual 57, 3) := by decide +kernel
theorem dX9_readSum_31 : decode cX9_readSum 31 = .ok (.istore_n 3, 1) := by decide +kernel
theorem dX9_readSum_32 : decode cX9_readSum 32 = .ok (.iload_n 3, 1) := by decide +kernel
theorem dX9_readSum_33 : decode cX9_readSum 33 = .ok (.bipush 43, 2) := by decide +kernel
theorem dX9_readSum_35 : decode cX9_readSum 35 = .ok (.if_icmp .eq 10, 3) := by decide +kernel
theorem dX9_readSum_38 : decode cX9_readSum 38 = .ok (.iload_n 3, 1) := by decide +kernel
theorem dX9_readSum_39 : decode cX9_readSum 39 = .ok (.bipush 45, 2) := by decide +kernel
theorem dX9_readSum_41 : decode cX9_readSum 41 = .ok (.if_icmp .eq 4, 3) := by decide +kernel
theorem dX9_readSum_44 : decode cX9_readSum 44 = .ok (.return_, 1) := by decide +kernel
theorem dX9_readSum_45 : decode cX9_readSum 45 = .ok (.aload_n 0, 1) := by decide +kernel
theorem dX9_readSum_46 : decode cX9_readSum 46 = .ok (.getfield 20, 3) := by decide +kernel
theorem dX9_readSum_49 : decode cX9_readSum 49 = .ok (.iload_n 3, 1) := by decide +kernel
theorem dX9_readSum_50 : decode cX9_readSum 50 = .ok (.invokevirtual 86, 3) := by decide +kernel
theorem dX9_readSum_53 : decode cX9_readSum 53 = .ok (.aload_n 0, 1) := by decide +kernel
theorem dX9_readSum_54 : decode cX9_readSum 54 = .ok (.iload_n 1, 1) := by decide +kernel
theorem dX9_readSum_55 : decode cX9_readSum 55 = .ok (.invokevirtual 110, 3) := by decide +kernel
theorem dX9_readSum_58 : decode cX9_readSum 58 = .ok (.aload_n 0, 1) := by decide +kernel
theorem dX9_readSum_59 : decode cX9_readSum 59 = .ok (.getfield 24, 3) := by decide +kernel
theorem dX9_readSum_62 : decode cX9_readSum 62 = .ok (.iload_n 3, 1) := by decide +kernel
theorem dX9_readSum_63 : decode cX9_readSum 63 = .ok (.bipush 43, 2) := by decide +kernel
theorem dX9_readSum_65 : decode cX9_readSum 65 = .ok (.if_icmp .ne 7, 3) := by decide +kernel
theorem dX9_readSum_68 : decode cX9_readSum 68 = .ok (.iconst 5, 1) := by decide +kernel
theorem dX9_readSum_69 : decode cX9_readSum 69 = .ok (.goto 5, 3) := by decide +kernel
theorem dX9_readSum_72 : decode cX9_readSum 72 = .ok (.bipush 6, 2) := by decide +kernel
theorem dX9_readSum_74 : decode cX9_readSum 74 = .ok (.iconst 0, 1) := by decide +kernel
theorem dX9_readSum_75 : decode cX9_readSum 75 = .ok (.invokevirtual 89, 3) := by decide +kernel
theorem dX9_readSum_78 : decode cX9_readSum 78 = .ok (.iinc 2 1, 3) := by decide +kernel
theorem dX9_readSum_81 : decode cX9_readSum 81 = .ok (.goto (-74), 3) := by decide +kernel
theorem dX9_readSum_84 : decode cX9_readSum 84 = .ok (.return_, 1) := by decide +kernel
theorem dX9_readProduct_0 : decode cX9_readProduct 0 = .ok (.aload_n 0, 1) := by decide +kernel
theorem dX9_readProduct_1 : decode cX9_readProduct 1 = .ok (.iload_n 1, 1) := by decide +kernel
theorem dX9_readProduct_2 : decode cX9_readProduct 2 = .ok (.invokevirtual 113, 3) := by decide +kernel
theorem dX9_readProduct_5 : decode cX9_readProduct 5 = .ok (.iconst 0, 1) := by decide +kernel
theorem dX9_readProduct_6 : decode cX9_readProduct 6 = .ok (.istore_n 2, 1) := by decide +kernel
theorem dX9_readProduct_7 : decode cX9_readProduct 7 = .ok (.iload_n 2, 1) := by decide +kernel
theorem dX9_readProduct_8 : decode cX9_readProduct 8 = .ok (.sipush 500, 3) := by decide +kernel
theorem dX9_readProduct_11 : decode cX9_readProduct 11 = .ok (.if_icmp .ge 74, 3) := by decide +kernel
theorem dX9_readProduct_14 : decode cX9_readProduct 14 = .ok (.aload_n 0, 1) := by decide +kernel
theorem dX9_readProduct_15 : decode cX9_readProduct 15 = .ok (.getfield 20, 3) := by decide +kernel
theorem dX9_readProduct_18 : decode cX9_readProduct 18 = .ok (.invokevirtual 41, 3) := by decide +kernel
theorem dX9_readProduct_21 : decode cX9_readProduct 21 = .ok (.ifCond .eq 64, 3) := by decide +kernel
theorem dX9_readProduct_24 : decode cX9_readProduct 24 = .ok (.aload_n 0, 1) := by decide +kernel
theorem dX9_readProduct_25 : decode cX9_readProduct 25 = .ok (.getfield 20, 3) := by decide +kernel
theorem dX9_readProduct_28 : decode cX9_readProduct 28 = .ok (.invokevirtual 57, 3) := by decide +kernel
theorem dX9_readProduct_31 : decode cX9_readProduct 31 = .ok (.istore_n 3, 1) := by decide +kernel
theorem dX9_readProduct_32 : decode cX9_readProduct 32 = .ok (.iload_n 3, 1) := by decide +kernel
theorem dX9_readProduct_33 : decode cX9_readProduct 33 = .ok (.bipush 42, 2) := by decide +kernel
theorem dX9_readProduct_35 : decode cX9_readProduct 35 = .ok (.if_icmp .eq 10, 3) := by decide +kernel
theorem dX9_readProduct_38 : decode cX9_readProduct 38 = .ok (.iload_n 3, 1) := by decide +kernel
theorem dX9_readProduct_39 : decode cX9_readProduct 39 = .ok (.bipush 37, 2) := by decide +kernel
theorem dX9_readProduct_41 : decode cX9_readProduct 41 = .ok (.if_icmp .eq 4, 3) := by decide +kernel
theorem dX9_readProduct_44 : decode cX9_readProduct 44 = .ok (.return_, 1) := by decide +kernel
theorem dX9_readProduct_45 : decode cX9_readProduct 45 = .ok (.aload_n 0, 1) := by decide +kernel
theorem dX9_readProduct_46 : decode cX9_readProduct 46 = .ok (.getfield 20, 3) := by decide +kernel
theorem dX9_readProduct_49 : decode cX9_readProduct 49 = .ok (.iload_n 3, 1) := by decide +kernel
theorem dX9_readProduct_50 : decode cX9_readProduct 50 = .ok (.invokevirtual 86, 3) := by decide +kernel
theorem dX9_readProduct_53 : decode cX9_readProduct 53 = .ok (.aload_n 0, 1) := by decide +kernel
theorem dX9_readProduct_54 : decode cX9_readProduct 54 = .ok (.iload_n 1, 1) := by decide +kernel
theorem dX9_readProduct_55 : decode cX9_readProduct 55 = .ok (.invokevirtual 113, 3) := by decide +kernel
theorem dX9_readProduct_58 : decode cX9_readProduct 58 = .ok (.aload_n 0, 1) := by decide +kernel
theorem dX9_readProduct_59 : decode cX9_readProduct 59 = .ok (.getfield 24, 3) := by decide +kernel
theorem dX9_readProduct_62 : decode cX9_readProduct 62 = .ok (.iload_n 3, 1) := by decide +kernel
theorem dX9_readProduct_63 : decode cX9_readProduct 63 = .ok (.bipush 42, 2) := by decide +kernel
theorem dX9_readProduct_65 : decode cX9_readProduct 65 = .ok (.if_icmp .ne 8, 3) := by decide +kernel
theorem dX9_readProduct_68 : decode cX9_readProduct 68 = .ok (.bipush 7, 2) := by decide +kernel
theorem dX9_readProduct_70 : decode cX9_readProduct 70 = .ok (.goto 5, 3) := by decide +kernel
theorem dX9_readProduct_73 : decode cX9_readProduct 73 = .ok (.bipush 8, 2) := by decide +kernel
theorem dX9_readProduct_75 : decode cX9_readProduct 75 = .ok (.iconst 0, 1) := by decide +kernel
theorem dX9_readProduct_76 : decode cX9_readProduct 76 = .ok (.invokevirtual 89, 3) := by decide +kernel
theorem dX9_readProduct_79 : decode cX9_readProduct 79 = .ok (.iinc 2 1, 3) := by decide +kernel
theorem dX9_readProduct_82 : decode cX9_readProduct 82 = .ok (.goto (-75), 3) := by decide +kernel
theorem dX9_readProduct_85 : decode cX9_readProduct 85 = .ok (.return_, 1) := by decide +kernel
theorem dX9_readUnit_0 : decode cX9_readUnit 0 = .ok (.aload_n 0, 1) := by decide +kernel
theorem dX9_readUnit_1 : decode cX9_readUnit 1 = .ok (.getfield 20, 3) := by decide +kernel
theorem dX9_readUnit_4 : decode cX9_readUnit 4 = .ok (.invokevirtual 57, 3) := by decide +kernel
theorem dX9_readUnit_7 : decode cX9_readUnit 7 = .ok (.istore_n 2, 1) := by decide +kernel
theorem dX9_readUnit_8 : decode cX9_readUnit 8 = .ok (.iload_n 2, 1) := by decide +kernel
theorem dX9_readUnit_9 : decode cX9_readUnit 9 = .ok (.bipush 40, 2) := by decide +kernel
theorem dX9_readUnit_11 : decode cX9_readUnit 11 = .ok (.if_icmp .ne 46, 3) := by decide +kernel
theorem dX9_readUnit_14 : decode cX9_readUnit 14 = .ok (.iload_n 1, 1) := by decide +kernel
theorem dX9_readUnit_15 : decode cX9_readUnit 15 = .ok (.bipush 6, 2) := by decide +kernel
theorem dX9_readUnit_17 : decode cX9_readUnit 17 = .ok (.if_icmp .lt 12, 3) := by decide +kernel
theorem dX9_readUnit_20 : decode cX9_readUnit 20 = .ok (.aload_n 0, 1) := by decide +kernel
theorem dX9_readUnit_21 : decode cX9_readUnit 21 = .ok (.getfield 20, 3) := by decide +kernel
theorem dX9_readUnit_24 : decode cX9_readUnit 24 = .ok (.iconst 3, 1) := by decide +kernel
theorem dX9_readUnit_25 : decode cX9_readUnit 25 = .ok (.invokevirtual 53, 3) := by decide +kernel
theorem dX9_readUnit_28 : decode cX9_readUnit 28 = .ok (.return_, 1) := by decide +kernel
theorem dX9_readUnit_29 : decode cX9_readUnit 29 = .ok (.aload_n 0, 1) := by decide +kernel
theorem dX9_readUnit_30 : decode cX9_readUnit 30 = .ok (.getfield 20, 3) := by decide +kernel
theorem dX9_readUnit_33 : decode cX9_readUnit 33 = .ok (.bipush 40, 2) := by decide +kernel
theorem dX9_readUnit_35 : decode cX9_readUnit 35 = .ok (.invokevirtual 86, 3) := by decide +kernel
theorem dX9_readUnit_38 : decode cX9_readUnit 38 = .ok (.aload_n 0, 1) := by decide +kernel
theorem dX9_readUnit_39 : decode cX9_readUnit 39 = .ok (.iload_n 1, 1) := by decide +kernel
theorem dX9_readUnit_40 : decode cX9_readUnit 40 = .ok (.iconst 1, 1) := by decide +kernel
theorem dX9_readUnit_41 : decode cX9_readUnit 41 = .ok (.iadd, 1) := by decide +kernel
theorem dX9_readUnit_42 : decode cX9_readUnit 42 = .ok (.invokevirtual 83, 3) := by decide +kernel
theorem dX9_readUnit_45 : decode cX9_readUnit 45 = .ok (.aload_n 0, 1) := by decide +kernel
theorem dX9_readUnit_46 : decode cX9_readUnit 46 = .ok (.getfield 20, 3) := by decide +kernel
theorem dX9_readUnit_49 : decode cX9_readUnit 49 = .ok (.bipush 41, 2) := by decide +kernel
theorem dX9_readUnit_51 : decode cX9_readUnit 51 = .ok (.invokevirtual 86, 3) := by decide +kernel
theorem dX9_readUnit_54 : decode cX9_readUnit 54 = .ok (.goto 47, 3) := by decide +kernel
theorem dX9_readUnit_57 : decode cX9_readUnit 57 = .ok (.iload_n 2, 1) := by decide +kernel
theorem dX9_readUnit_58 : decode cX9_readUnit 58 = .ok (.bipush 48, 2) := by decide +kernel
theorem dX9_readUnit_60 : decode cX9_readUnit 60 = .ok (.if_icmp .lt 30, 3) := by decide +kernel
theorem dX9_readUnit_63 : decode cX9_readUnit 63 = .ok (.iload_n 2, 1) := by decide +kernel
theorem dX9_readUnit_64 : decode cX9_readUnit 64 = .ok (.bipush 57, 2) := by decide +kernel
theorem dX9_readUnit_66 : decode cX9_readUnit 66 = .ok (.if_icmp .gt 24, 3) := by decide +kernel
theorem dX9_readUnit_69 : decode cX9_readUnit 69 = .ok (.aload_n 0, 1) := by decide +kernel
theorem dX9_readUnit_70 : decode cX9_readUnit 70 = .ok (.getfield 24, 3) := by decide +kernel
theorem dX9_readUnit_73 : decode cX9_readUnit 73 = .ok (.iconst 0, 1) := by decide +kernel
theorem dX9_readUnit_74 : decode cX9_readUnit 74 = .ok (.aload_n 0, 1) := by decide +kernel
theorem dX9_readUnit_75 : decode cX9_readUnit 75 = .ok (.getfield 20, 3) := by decide +kernel
theorem dX9_readUnit_78 : decode cX9_readUnit 78 = .ok (.iconst 0, 1) := by decide +kernel
theorem dX9_readUnit_79 : decode cX9_readUnit 79 = .ok (.ldc 116, 2) := by decide +kernel
theorem dX9_readUnit_81 : decode cX9_readUnit 81 = .ok (.invokevirtual 103, 3) := by decide +kernel
theorem dX9_readUnit_84 : decode cX9_readUnit 84 = .ok (.invokevirtual 89, 3) := by decide +kernel
theorem dX9_readUnit_87 : decode cX9_readUnit 87 = .ok (.goto 14, 3) := by decide +kernel
theorem dX9_readUnit_90 : decode cX9_readUnit 90 = .ok (.aload_n 0, 1) := by decide +kernel
theorem dX9_readUnit_91 : decode cX9_readUnit 91 = .ok (.getfield 20, 3) := by decide +kernel
theorem dX9_readUnit_94 : decode cX9_readUnit 94 = .ok (.invokevirtual 68, 3) := by decide +kernel
theorem dX9_readUnit_97 : decode cX9_readUnit 97 = .ok (.aload_n 0, 1) := by decide +kernel
theorem dX9_readUnit_98 : decode cX9_readUnit 98 = .ok (.invokevirtual 117, 3) := by decide +kernel
theorem dX9_readUnit_101 : decode cX9_readUnit 101 = .ok (.return_, 1) := by decide +kernel
theorem dX9_addName_0 : decode cX9_addName 0 = .ok (.aload_n 0, 1) := by decide +kernel
theorem dX9_addName_1 : decode cX9_addName 1 = .ok (.getfield 20, 3) := by decide +kernel
theorem dX9_addName_4 : decode cX9_addName 4 = .ok (.ldc 120, 2) := by decide +kernel
theorem dX9_addName_6 : decode cX9_addName 6 = .ok (.invokevirtual 76, 3) := by decide +kernel
theorem dX9_addName_9 : decode cX9_addName 9 = .ok (.ifCond .ne 15, 3) := by decide +kernel
theorem dX9_addName_12 : decode cX9_addName 12 = .ok (.aload_n 0, 1) := by decide +kernel
theorem dX9_addName_13 : decode cX9_addName 13 = .ok (.getfield 20, 3) := by decide +kernel
theorem dX9_addName_16 : decode cX9_addName 16 = .ok (.ldc 122, 2) := by decide +kernel
theorem dX9_addName_18 : decode cX9_addName 18 = .ok (.invokevirtual 76, 3) := by decide +kernel
theorem dX9_addName_21 : decode cX9_addName 21 = .ok (.ifCond .eq 50, 3) := by decide +kernel
theorem dX9_addName_24 : decode cX9_addName 24 = .ok (.aload_n 0, 1) := by decide +kernel
theorem dX9_addName_25 : decode cX9_addName 25 = .ok (.getfield 38, 3) := by decide +kernel
theorem dX9_addName_28 : decode cX9_addName 28 = .ok (.aload_n 0, 1) := by decide +kernel
theorem dX9_addName_29 : decode cX9_addName 29 = .ok (.getfield 20, 3) := by decide +kernel
theorem dX9_addName_32 : decode cX9_addName 32 = .ok (.ldc 120, 2) := by decide +kernel
theorem dX9_addName_34 : decode cX9_addName 34 = .ok (.invokevirtual 76, 3) := by decide +kernel
theorem dX9_addName_37 : decode cX9_addName 37 = .ok (.ifCond .eq 7, 3) := by decide +kernel
theorem dX9_addName_40 : decode cX9_addName 40 = .ok (.iconst 1, 1) := by decide +kernel
theorem dX9_addName_41 : decode cX9_addName 41 = .ok (.goto 4, 3) := by decide +kernel
theorem dX9_addName_44 : decode cX9_addName 44 = .ok (.iconst 2, 1) := by decide +kernel
theorem dX9_addName_45 : decode cX9_addName 45 = .ok (.isub, 1) := by decide +kernel
theorem dX9_addName_46 : decode cX9_addName 46 = .ok (.istore_n 1, 1) := by decide +kernel
theorem dX9_addName_47 : decode cX9_addName 47 = .ok (.aload_n 0, 1) := by decide +kernel
theorem dX9_addName_48 : decode cX9_addName 48 = .ok (.getfield 24, 3) := by decide +kernel
theorem dX9_addName_51 : decode cX9_addName 51 = .ok (.iload_n 1, 1) := by decide +kernel
theorem dX9_addName_52 : decode cX9_addName 52 = .ok (.ifCond .ge 7, 3) := by decide +kernel
theorem dX9_addName_55 : decode cX9_addName 55 = .ok (.iconst 0, 1) := by decide +kernel
theorem dX9_addName_56 : decode cX9_addName 56 = .ok (.goto 4, 3) := by decide +kernel
theorem dX9_addName_59 : decode cX9_addName 59 = .ok (.iconst 1, 1) := by decide +kernel
theorem dX9_addName_60 : decode cX9_addName 60 = .ok (.iload_n 1, 1) := by decide +kernel
theorem dX9_addName_61 : decode cX9_addName 61 = .ok (.iconst 0, 1) := by decide +kernel
theorem dX9_addName_62 : decode cX9_addName 62 = .ok (.invokestatic 124, 3) := by decide +kernel
theorem dX9_addName_65 : decode cX9_addName 65 = .ok (.invokevirtual 89, 3) := by decide +kernel
theorem dX9_addName_68 : decode cX9_addName 68 = .ok (.goto 83, 3) := by decide +kernel
theorem dX9_addName_71 : decode cX9_addName 71 = .ok (.aload_n 0, 1) := by decide +kernel
theorem dX9_addName_72 : decode cX9_addName 72 = .ok (.getfield 20, 3) := by decide +kernel
theorem dX9_addName_75 : decode cX9_addName 75 = .ok (.ldc 129, 2) := by decide +kernel
theorem dX9_addName_77 : decode cX9_addName 77 = .ok (.invokevirtual 76, 3) := by decide +kernel
theorem dX9_addName_80 : decode cX9_addName 80 = .ok (.ifCond .eq 15, 3) := by decide +kernel
theorem dX9_addName_83 : decode cX9_addName 83 = .ok (.aload_n 0, 1) := by decide +kernel
theorem dX9_addName_84 : decode cX9_addName 84 = .ok (.getfield 24, 3) := by decide +kernel
theorem dX9_addName_87 : decode cX9_addName 87 = .ok (.iconst 2, 1) := by decide +kernel
theorem dX9_addName_88 : decode cX9_addName 88 = .ok (.iconst 0, 1) := by decide +kernel
theorem dX9_addName_89 : decode cX9_addName 89 = .ok (.invokevirtual 89, 3) := by decide +kernel
theorem dX9_addName_92 : decode cX9_addName 92 = .ok (.goto 59, 3) := by decide +kernel
theorem dX9_addName_95 : decode cX9_addName 95 = .ok (.aload_n 0, 1) := by decide +kernel
theorem dX9_addName_96 : decode cX9_addName 96 = .ok (.getfield 20, 3) := by decide +kernel
theorem dX9_addName_99 : decode cX9_addName 99 = .ok (.ldc 131, 2) := by decide +kernel
theorem dX9_addName_101 : decode cX9_addName 101 = .ok (.invokevirtual 76, 3) := by decide +kernel
theorem dX9_addName_104 : decode cX9_addName 104 = .ok (.ifCond .eq 15, 3) := by decide +kernel
theorem dX9_addName_107 : decode cX9_addName 107 = .ok (.aload_n 0, 1) := by decide +kernel
theorem dX9_addName_108 : decode cX9_addName 108 = .ok (.getfield 24, 3) := by decide +kernel
theorem dX9_addName_111 : decode cX9_addName 111 = .ok (.iconst 3, 1) := by decide +kernel
theorem dX9_addName_112 : decode cX9_addName 112 = .ok (.iconst 0, 1) := by decide +kernel
theorem dX9_addName_113 : decode cX9_addName 113 = .ok (.invokevirtual 89, 3) := by decide +kernel
theorem dX9_addName_116 : decode cX9_addName 116 = .ok (.goto 35, 3) := by decide +kernel
theorem dX9_addName_119 : decode cX9_addName 119 = .ok (.aload_n 0, 1) := by decide +kernel
theorem dX9_addName_120 : decode cX9_addName 120 = .ok (.getfield 20, 3) := by decide +kernel
theorem dX9_addName_123 : decode cX9_addName 123 = .ok (.ldc 133, 2) := by decide +kernel
theorem dX9_addName_125 : decode cX9_addName 125 = .ok (.invokevirtual 76, 3) := by decide +kernel
theorem dX9_addName_128 : decode cX9_addName 128 = .ok (.ifCond .eq 15, 3) := by decide +kernel
theorem dX9_addName_131 : decode cX9_addName 131 = .ok (.aload_n 0, 1) := by decide +kernel
theorem dX9_addName_132 : decode cX9_addName 132 = .ok (.getfield 24, 3) := by decide +kernel
theorem dX9_addName_135 : decode cX9_addName 135 = .ok (.iconst 4, 1) := by decide +kernel
theorem dX9_addName_136 : decode cX9_addName 136 = .ok (.iconst 0, 1) := by decide +kernel
theorem dX9_addName_137 : decode cX9_addName 137 = .ok (.invokevirtual 89, 3) := by decide +kernel
theorem dX9_addName_140 : decode cX9_addName 140 = .ok (.goto 11, 3) := by decide +kernel
theorem dX9_addName_143 : decode cX9_addName 143 = .ok (.aload_n 0, 1) := by decide +kernel
theorem dX9_addName_144 : decode cX9_addName 144 = .ok (.getfield 20, 3) := by decide +kernel
theorem dX9_addName_147 : decode cX9_addName 147 = .ok (.iconst 1, 1) := by decide +kernel
theorem dX9_addName_148 : decode cX9_addName 148 = .ok (.invokevirtual 53, 3) := by decide +kernel
theorem dX9_addName_151 : decode cX9_addName 151 = .ok (.return_, 1) := by decide +kernel
def J_X9_isOver_23 (N : Nat) (g : gp) (a0 : Nat) (xs0 : Int32) (δ : dp) : Option (Int32 × dp) :=
  if xs0 = 0 ∨ xs0 = 1 then some (xs0, δ) else none
set_option maxHeartbeats 4000000 in
set_option maxRecDepth 100000 in
theorem t_J_X9_isOver_23 {l : Launch} {D : va_G} {cy : Nat → ClassId} {N d : Nat} {g : gp} (wt : WT g) (hl : l.stackTraces = false) (hd : 2 ≤ d) {a0 : Nat} (k0 : q_K g a0 = 9) : ∀ (xs0 : Int32) (δ : dp), AWD l D cy m_X9_isOver d 0 0 ei g 23 [] [.int xs0] δ (J_X9_isOver_23 N g a0 xs0 δ) := by
    intro xs0 δ 
    unfold J_X9_isOver_23
    exact w_zret (μ := m_X9_isOver) (pc := 23) dX9_isOver_23 rfl rfl
def J_X9_isOver_22 (N : Nat) (g : gp) (a0 : Nat) (δ : dp) : Option (Int32 × dp) :=
  J_X9_isOver_23 N g a0 0 δ
set_option maxHeartbeats 4000000 in
set_option maxRecDepth 100000 in
theorem t_J_X9_isOver_22 {l : Launch} {D : va_G} {cy : Nat → ClassId} {N d : Nat} {g : gp} (wt : WT g) (hl : l.stackTraces = false) (hd : 2 ≤ d) {a0 : Nat} (k0 : q_K g a0 = 9) : ∀ (δ : dp), AWD l D cy m_X9_isOver d 0 0 ei g 22 [] [] δ (J_X9_isOver_22 N g a0 δ) := by
    intro  δ 
    unfold J_X9_isOver_22
    refine w_iconst (v := 0) (μ := m_X9_isOver) (pc := 22) dX9_isOver_22 (by decide) ?_
    exact t_J_X9_isOver_23 wt hl (by omega) k0 _ _
def D_X9_isOver (N : Nat) (g : gp) (a0 : Nat) (δ : dp) : Option (Int32 × dp) :=
  if (q_I δ 9 4 a0) = 0 then ((q_V δ 9 0 a0).bind fun b_2 => if q_K g b_2 = 7 then (D_X7_ahead N g b_2 δ).bind fun r_5 => if r_5.1 = ((-1) : Int32) then (J_X9_isOver_23 N g a0 1 r_5.2) else (J_X9_isOver_22 N g a0 r_5.2) else none) else (J_X9_isOver_22 N g a0 δ)
set_option maxHeartbeats 4000000 in
set_option maxRecDepth 100000 in
theorem c_X9_isOver {l : Launch} {D : va_G} {cy : Nat → ClassId} {N d : Nat} {g : gp} (wt : WT g) (hl : l.stackTraces = false) (hd : 2 ≤ d) {a0 : Nat} {δ : dp} (k0 : q_K g a0 = 9) : CalD l D cy m_X9_isOver d 0 0 ei g [.ref a0] δ (D_X9_isOver N g a0 δ) := by
  refine CalD.of (by decide +kernel) (Nat.le_of_ble_eq_true rfl) hl ?_
  unfold D_X9_isOver
  refine w_aload_n 0 0 (μ := m_X9_isOver) (pc := 0) dX9_isOver_0 rfl rfl ?_
  refine w_getI (μ := m_X9_isOver) (pc := 1) dX9_isOver_1 fl_X9_38 ir_9_4 k0 ?_
  refine w_if_ne 22 (μ := m_X9_isOver) (pc := 4) dX9_isOver_4 (by decide) (fun c_1 => ?_) (fun c_1 => ?_)
  · refine w_lv [] rfl ?_
    exact t_J_X9_isOver_22 wt hl (by omega) k0 _
  · refine w_aload_n 0 0 (μ := m_X9_isOver) (pc := 7) dX9_isOver_7 rfl rfl ?_
    refine w_getV (μ := m_X9_isOver) (pc := 8) dX9_isOver_8 fl_X9_20 ir_9_0 id_9_0 k0 (fun b_2 e_3 => ?_)
    refine w_gd (fun z_4 => ?_)
    refine w_callV (As := []) (rest := []) (μ := m_X9_isOver) (pc := 11) dX9_isOver_11 cv_X9_57 rfl rfl z_4 (by decide) rfl (Nat.le_of_ble_eq_true rfl) (d' := d - 1) (by omega) he_i (c_X7_ahead wt hl (d := d - 1) (by omega) z_4) (fun r_5 => ?_)
    refine w_iconst (v := (-1)) (μ := m_X9_isOver) (pc := 14) dX9_isOver_14 (by decide) ?_
    refine w_icmp_ne 22 (μ := m_X9_isOver) (pc := 15) dX9_isOver_15 (by decide) (fun c_6 => ?_) (fun c_6 => ?_)
    · refine w_lv [] rfl ?_
      exact t_J_X9_isOver_22 wt hl (by omega) k0 _
    · refine w_iconst (v := 1) (μ := m_X9_isOver) (pc := 18) dX9_isOver_18 (by decide) ?_
      refine w_goto 23 (μ := m_X9_isOver) (pc := 19) dX9_isOver_19 (by decide) ?_
      refine w_lv [] rfl ?_
      exact t_J_X9_isOver_23 wt hl (by omega) k0 _ _
def J_X9_callOfWord_73 (N : Nat) (g : gp) (a0 : Nat) (xs0 : Int32) (δ : dp) : Option (Int32 × dp) :=
  some (xs0, δ)
set_option maxHeartbeats 4000000 in
set_option maxRecDepth 100000 in
theorem t_J_X9_callOfWord_73 {l : Launch} {D : va_G} {cy : Nat → ClassId} {N d : Nat} {g : gp} (wt : WT g) (hl : l.stackTraces = false) (hd : 6 ≤ d) {a0 : Nat} (k0 : q_K g a0 = 9) : ∀ (xs0 : Int32) (δ : dp), AWD l D cy m_X9_callOfWord d 0 0 ei g 73 [] [.int xs0] δ (J_X9_callOfWord_73 N g a0 xs0 δ) := by
    intro xs0 δ 
    unfold J_X9_callOfWord_73
    exact w_iret (μ := m_X9_callOfWord) (pc := 73) dX9_callOfWord_73 rfl rfl
def D_X9_callOfWord (N : Nat) (g : gp) (a0 : Nat) (δ : dp) : Option (Int32 × dp) :=
  (q_V δ 9 0 a0).bind fun b_1 => if q_K g b_1 = 7 then (D_X7_wordIs N g b_1 5 δ).bind fun r_4 => if r_4.1 = 0 then ((q_V r_4.2 9 0 a0).bind fun b_6 => if q_K g b_6 = 7 then (D_X7_wordIs N g b_6 6 r_4.2).bind fun r_9 => if r_9.1 = 0 then ((q_V r_9.2 9 0 a0).bind fun b_11 => if q_K g b_11 = 7 then (D_X7_wordIs N g b_11 7 r_9.2).bind fun r_14 => if r_14.1 = 0 then ((q_V r_14.2 9 0 a0).bind fun b_16 => if q_K g b_16 = 7 then (D_X7_wordIs N g b_16 8 r_14.2).bind fun r_19 => if r_19.1 = 0 then ((q_V r_19.2 9 0 a0).bind fun b_21 => if q_K g b_21 = 7 then (D_X7_wordIs N g b_21 9 r_19.2).bind fun r_24 => if r_24.1 = 0 then (J_X9_callOfWord_73 N g a0 ((-1)) r_24.2) else (J_X9_callOfWord_73 N g a0 4 r_24.2) else none) else (some (3, r_19.2)) else none) else (some (2, r_14.2)) else none) else (some (1, r_9.2)) else none) else (some (0, r_4.2)) else none
set_option maxHeartbeats 4000000 in
set_option maxRecDepth 100000 in
theorem c_X9_callOfWord {l : Launch} {D : va_G} {cy : Nat → ClassId} {N d : Nat} {g : gp} (wt : WT g) (hl : l.stackTraces = false) (hd : 6 ≤ d) {a0 : Nat} {δ : dp} (k0 : q_K g a0 = 9) : CalD l D cy m_X9_callOfWord d 0 0 ei g [.ref a0] δ (D_X9_callOfWord N g a0 δ) := by
  refine CalD.of (by decide +kernel) (Nat.le_of_ble_eq_true rfl) hl ?_
  unfold D_X9_callOfWord
  refine w_aload_n 0 0 (μ := m_X9_callOfWord) (pc := 0) dX9_callOfWord_0 rfl rfl ?_
  refine w_getV (μ := m_X9_callOfWord) (pc := 1) dX9_callOfWord_1 fl_X9_20 ir_9_0 id_9_0 k0 (fun b_1 e_2 => ?_)
  refine w_gd (fun z_3 => ?_)
  refine w_ldcS 5 (tx := "put") (μ := m_X9_callOfWord) (pc := 4) dX9_callOfWord_4 (by decide +kernel) ?_
  refine w_callV (As := [.ref (D.2 100 5)]) (rest := []) (μ := m_X9_callOfWord) (pc := 6) dX9_callOfWord_6 cv_X9_76 rfl rfl z_3 (by decide) rfl (Nat.le_of_ble_eq_true rfl) (d' := d - 1) (by omega) he_i (c_X7_wordIs wt hl (d := d - 1) (by omega) z_3 (by decide)) (fun r_4 => ?_)
  refine w_if_eq 14 (μ := m_X9_callOfWord) (pc := 9) dX9_callOfWord_9 (by decide) (fun c_5 => ?_) (fun c_5 => ?_)
  · refine w_aload_n 0 0 (μ := m_X9_callOfWord) (pc := 14) dX9_callOfWord_14 rfl rfl ?_
    refine w_getV (μ := m_X9_callOfWord) (pc := 15) dX9_callOfWord_15 fl_X9_20 ir_9_0 id_9_0 k0 (fun b_6 e_7 => ?_)
    refine w_gd (fun z_8 => ?_)
    refine w_ldcS 6 (tx := "drop") (μ := m_X9_callOfWord) (pc := 18) dX9_callOfWord_18 (by decide +kernel) ?_
    refine w_callV (As := [.ref (D.2 100 6)]) (rest := []) (μ := m_X9_callOfWord) (pc := 20) dX9_callOfWord_20 cv_X9_76 rfl rfl z_8 (by decide) rfl (Nat.le_of_ble_eq_true rfl) (d' := d - 1) (by omega) he_i (c_X7_wordIs wt hl (d := d - 1) (by omega) z_8 (by decide)) (fun r_9 => ?_)
    refine w_if_eq 28 (μ := m_X9_callOfWord) (pc := 23) dX9_callOfWord_23 (by decide) (fun c_10 => ?_) (fun c_10 => ?_)
    · refine w_aload_n 0 0 (μ := m_X9_callOfWord) (pc := 28) dX9_callOfWord_28 rfl rfl ?_
      refine w_getV (μ := m_X9_callOfWord) (pc := 29) dX9_callOfWord_29 fl_X9_20 ir_9_0 id_9_0 k0 (fun b_11 e_12 => ?_)
      refine w_gd (fun z_13 => ?_)
      refine w_ldcS 7 (tx := "has") (μ := m_X9_callOfWord) (pc := 32) dX9_callOfWord_32 (by decide +kernel) ?_
      refine w_callV (As := [.ref (D.2 100 7)]) (rest := []) (μ := m_X9_callOfWord) (pc := 34) dX9_callOfWord_34 cv_X9_76 rfl rfl z_13 (by decide) rfl (Nat.le_of_ble_eq_true rfl) (d' := d - 1) (by omega) he_i (c_X7_wordIs wt hl (d := d - 1) (by omega) z_13 (by decide)) (fun r_14 => ?_)
      refine w_if_eq 42 (μ := m_X9_callOfWord) (pc := 37) dX9_callOfWord_37 (by decide) (fun c_15 => ?_) (fun c_15 => ?_)
      · refine w_aload_n 0 0 (μ := m_X9_callOfWord) (pc := 42) dX9_callOfWord_42 rfl rfl ?_
        refine w_getV (μ := m_X9_callOfWord) (pc := 43) dX9_callOfWord_43 fl_X9_20 ir_9_0 id_9_0 k0 (fun b_16 e_17 => ?_)
        refine w_gd (fun z_18 => ?_)
        refine w_ldcS 8 (tx := "next") (μ := m_X9_callOfWord) (pc := 46) dX9_callOfWord_46 (by decide +kernel) ?_
        refine w_callV (As := [.ref (D.2 100 8)]) (rest := []) (μ := m_X9_callOfWord) (pc := 48) dX9_callOfWord_48 cv_X9_76 rfl rfl z_18 (by decide) rfl (Nat.le_of_ble_eq_true rfl) (d' := d - 1) (by omega) he_i (c_X7_wordIs wt hl (d := d - 1) (by omega) z_18 (by decide)) (fun r_19 => ?_)
        refine w_if_eq 56 (μ := m_X9_callOfWord) (pc := 51) dX9_callOfWord_51 (by decide) (fun c_20 => ?_) (fun c_20 => ?_)
        · refine w_aload_n 0 0 (μ := m_X9_callOfWord) (pc := 56) dX9_callOfWord_56 rfl rfl ?_
          refine w_getV (μ := m_X9_callOfWord) (pc := 57) dX9_callOfWord_57 fl_X9_20 ir_9_0 id_9_0 k0 (fun b_21 e_22 => ?_)
          refine w_gd (fun z_23 => ?_)
          refine w_ldcS 9 (tx := "before") (μ := m_X9_callOfWord) (pc := 60) dX9_callOfWord_60 (by decide +kernel) ?_
          refine w_callV (As := [.ref (D.2 100 9)]) (rest := []) (μ := m_X9_callOfWord) (pc := 62) dX9_callOfWord_62 cv_X9_76 rfl rfl z_23 (by decide) rfl (Nat.le_of_ble_eq_true rfl) (d' := d - 1) (by omega) he_i (c_X7_wordIs wt hl (d := d - 1) (by omega) z_23 (by decide)) (fun r_24 => ?_)
          refine w_if_eq 72 (μ := m_X9_callOfWord) (pc := 65) dX9_callOfWord_65 (by decide) (fun c_25 => ?_) (fun c_25 => ?_)
          · refine w_iconst (v := (-1)) (μ := m_X9_callOfWord) (pc := 72) dX9_callOfWord_72 (by decide) ?_
            refine w_lv [] rfl ?_
            exact t_J_X9_callOfWord_73 wt hl (by omega) k0 _ _
          · refine w_iconst (v := 4) (μ := m_X9_callOfWord) (pc := 68) dX9_callOfWord_68 (by decide) ?_
            refine w_goto 73 (μ := m_X9_callOfWord) (pc := 69) dX9_callOfWord_69 (by decide) ?_
            refine w_lv [] rfl ?_
            exact t_J_X9_callOfWord_73 wt hl (by omega) k0 _ _
        · refine w_iconst (v := 3) (μ := m_X9_callOfWord) (pc := 54) dX9_callOfWord_54 (by decide) ?_
          exact w_iret (μ := m_X9_callOfWord) (pc := 55) dX9_callOfWord_55 rfl rfl
      · refine w_iconst (v := 2) (μ := m_X9_callOfWord) (pc := 40) dX9_callOfWord_40 (by decide) ?_
        exact w_iret (μ := m_X9_callOfWord) (pc := 41) dX9_callOfWord_41 rfl rfl
    · refine w_iconst (v := 1) (μ := m_X9_callOfWord) (pc := 26) dX9_callOfWord_26 (by decide) ?_
      exact w_iret (μ := m_X9_callOfWord) (pc := 27) dX9_callOfWord_27 rfl rfl
  · refine w_iconst (v := 0) (μ := m_X9_callOfWord) (pc := 12) dX9_callOfWord_12 (by decide) ?_
    exact w_iret (μ := m_X9_callOfWord) (pc := 13) dX9_callOfWord_13 rfl rfl
def D_X9_openLoop (N : Nat) (g : gp) (a0 : Nat) (δ : dp) : Option (dp) :=
  (q_V δ 9 0 a0).bind fun b_1 => if q_K g b_1 = 7 then (D_X7_readNumber N g b_1 1 99 δ).bind fun r_4 => (q_V r_4.2 9 0 a0).bind fun b_5 => if q_K g b_5 = 7 then (D_X7_needSign N g b_5 91 r_4.2).bind fun r_8 => (q_O g 9 5 a0).bind fun b_9 => (q_V r_8 9 1 a0).bind fun b_11 => if q_K g b_11 = 8 then if (q_I r_8 9 4 a0) < 0 ∨ q_N g b_9 ≤ (q_I r_8 9 4 a0).toNatClampNeg then none else bd (s_R r_8 b_9 (q_I r_8 9 4 a0).toNatClampNeg (q_I r_8 8 2 b_11)) fun δ_14 => (q_O g 9 6 a0).bind fun b_16 => if (q_I δ_14 9 4 a0) < 0 ∨ q_N g b_16 ≤ (q_I δ_14 9 4 a0).toNatClampNeg then none else bd (s_R δ_14 b_16 (q_I δ_14 9 4 a0).toNatClampNeg (q_I δ_14 9 3 a0)) fun δ_18 => (q_V δ_18 9 1 a0).bind fun b_20 => if q_K g b_20 = 8 then (D_X8_add N g b_20 10 ((r_4.1 * 4) + (q_I δ_18 9 4 a0)) δ_18).bind fun r_23 => bd (s_I r_23 9 4 a0 ((q_I r_23 9 4 a0) + 1)) fun δ_24 => some δ_24 else none else none else none else none
set_option maxHeartbeats 4000000 in
set_option maxRecDepth 100000 in
theorem c_X9_openLoop {l : Launch} {D : va_G} {cy : Nat → ClassId} {N d : Nat} {g : gp} (wt : WT g) (hl : l.stackTraces = false) (hd : 3 ≤ d) {a0 : Nat} {δ : dp} (k0 : q_K g a0 = 9) : CalD l D cy m_X9_openLoop d 0 0 ev g [.ref a0] δ (D_X9_openLoop N g a0 δ) := by
  refine CalD.of (by decide +kernel) (Nat.le_of_ble_eq_true rfl) hl ?_
  unfold D_X9_openLoop
  refine w_aload_n 0 0 (μ := m_X9_openLoop) (pc := 0) dX9_openLoop_0 rfl rfl ?_
  refine w_getV (μ := m_X9_openLoop) (pc := 1) dX9_openLoop_1 fl_X9_20 ir_9_0 id_9_0 k0 (fun b_1 e_2 => ?_)
  refine w_gd (fun z_3 => ?_)
  refine w_iconst (v := 1) (μ := m_X9_openLoop) (pc := 4) dX9_openLoop_4 (by decide) ?_
  refine w_bipush (v := 99) (μ := m_X9_openLoop) (pc := 5) dX9_openLoop_5 (by decide) ?_
  refine w_callV (As := [.int 1, .int 99]) (rest := []) (μ := m_X9_openLoop) (pc := 7) dX9_openLoop_7 cv_X9_103 rfl rfl z_3 (by decide) rfl (Nat.le_of_ble_eq_true rfl) (d' := d - 1) (by omega) he_i (c_X7_readNumber wt hl (d := d - 1) (by omega) z_3) (fun r_4 => ?_)
  refine w_istore_n [(1, .int r_4.1), (0, .ref a0)] (μ := m_X9_openLoop) (pc := 10) dX9_openLoop_10 rfl (by decide) rfl ?_
  refine w_aload_n 1 0 (μ := m_X9_openLoop) (pc := 11) dX9_openLoop_11 rfl rfl ?_
  refine w_getV (μ := m_X9_openLoop) (pc := 12) dX9_openLoop_12 fl_X9_20 ir_9_0 id_9_0 k0 (fun b_5 e_6 => ?_)
  refine w_gd (fun z_7 => ?_)
  refine w_bipush (v := 91) (μ := m_X9_openLoop) (pc := 15) dX9_openLoop_15 (by decide) ?_
  refine w_callV (As := [.int 91]) (rest := []) (μ := m_X9_openLoop) (pc := 17) dX9_openLoop_17 cv_X9_86 rfl rfl z_7 (by decide) rfl (Nat.le_of_ble_eq_true rfl) (d' := d - 1) (by omega) he_v (c_X7_needSign wt hl (d := d - 1) (by omega) z_7) (fun r_8 => ?_)
  refine w_aload_n 1 0 (μ := m_X9_openLoop) (pc := 20) dX9_openLoop_20 rfl rfl ?_
  refine w_getO (μ := m_X9_openLoop) (pc := 21) dX9_openLoop_21 fl_X9_11 ir_9_5 id_9_5 k0 (fun b_9 e_10 => ?_)
  refine w_aload_n 1 0 (μ := m_X9_openLoop) (pc := 24) dX9_openLoop_24 rfl rfl ?_
  refine w_getI (μ := m_X9_openLoop) (pc := 25) dX9_openLoop_25 fl_X9_38 ir_9_4 k0 ?_
  refine w_aload_n 1 0 (μ := m_X9_openLoop) (pc := 28) dX9_openLoop_28 rfl rfl ?_
  refine w_getV (μ := m_X9_openLoop) (pc := 29) dX9_openLoop_29 fl_X9_24 ir_9_1 id_9_1 k0 (fun b_11 e_12 => ?_)
  refine w_gd (fun z_13 => ?_)
  refine w_getI (μ := m_X9_openLoop) (pc := 32) dX9_openLoop_32 fl_X9_107 ir_8_2 z_13 ?_
  refine w_ast (μ := m_X9_openLoop) (pc := 35) dX9_openLoop_35 (wt_9_5 wt k0 e_10) ?_
  refine w_bd (fun δ_14 e_15 => ?_)
  refine w_aload_n 1 0 (μ := m_X9_openLoop) (pc := 36) dX9_openLoop_36 rfl rfl ?_
  refine w_getO (μ := m_X9_openLoop) (pc := 37) dX9_openLoop_37 fl_X9_17 ir_9_6 id_9_6 k0 (fun b_16 e_17 => ?_)
  refine w_aload_n 1 0 (μ := m_X9_openLoop) (pc := 40) dX9_openLoop_40 rfl rfl ?_
  refine w_getI (μ := m_X9_openLoop) (pc := 41) dX9_openLoop_41 fl_X9_38 ir_9_4 k0 ?_
  refine w_aload_n 1 0 (μ := m_X9_openLoop) (pc := 44) dX9_openLoop_44 rfl rfl ?_
  refine w_getI (μ := m_X9_openLoop) (pc := 45) dX9_openLoop_45 fl_X9_35 ir_9_3 k0 ?_
  refine w_ast (μ := m_X9_openLoop) (pc := 48) dX9_openLoop_48 (wt_9_6 wt k0 e_17) ?_
  refine w_bd (fun δ_18 e_19 => ?_)
  refine w_aload_n 1 0 (μ := m_X9_openLoop) (pc := 49) dX9_openLoop_49 rfl rfl ?_
  refine w_getV (μ := m_X9_openLoop) (pc := 50) dX9_openLoop_50 fl_X9_24 ir_9_1 id_9_1 k0 (fun b_20 e_21 => ?_)
  refine w_gd (fun z_22 => ?_)
  refine w_bipush (v := 10) (μ := m_X9_openLoop) (pc := 53) dX9_openLoop_53 (by decide) ?_
  refine w_iload_n 0 1 (μ := m_X9_openLoop) (pc := 55) dX9_openLoop_55 rfl rfl ?_
  refine w_iconst (v := 4) (μ := m_X9_openLoop) (pc := 56) dX9_openLoop_56 (by decide) ?_
  refine w_imul (μ := m_X9_openLoop) (pc := 57) dX9_openLoop_57 ?_
  refine w_aload_n 1 0 (μ := m_X9_openLoop) (pc := 58) dX9_openLoop_58 rfl rfl ?_
  refine w_getI (μ := m_X9_openLoop) (pc := 59) dX9_openLoop_59 fl_X9_38 ir_9_4 k0 ?_
  refine w_iadd (μ := m_X9_openLoop) (pc := 62) dX9_openLoop_62 ?_
  refine w_callV (As := [.int 10, .int ((r_4.1 * 4) + (q_I δ_18 9 4 a0))]) (rest := []) (μ := m_X9_openLoop) (pc := 63) dX9_openLoop_63 cv_X9_89 rfl rfl z_22 (by decide) rfl (Nat.le_of_ble_eq_true rfl) (d' := d - 1) (by omega) he_v (c_X8_add wt hl (d := d - 1) (by omega) z_22) (fun r_23 => ?_)
  refine w_aload_n 1 0 (μ := m_X9_openLoop) (pc := 66) dX9_openLoop_66 rfl rfl ?_
  refine w_dup (μ := m_X9_openLoop) (pc := 67) dX9_openLoop_67 rfl ?_
  refine w_getI (μ := m_X9_openLoop) (pc := 68) dX9_openLoop_68 fl_X9_38 ir_9_4 k0 ?_
  refine w_iconst (v := 1) (μ := m_X9_openLoop) (pc := 71) dX9_openLoop_71 (by decide) ?_
  refine w_iadd (μ := m_X9_openLoop) (pc := 72) dX9_openLoop_72 ?_
  refine w_putI (μ := m_X9_openLoop) (pc := 73) dX9_openLoop_73 fl_X9_38 flw_9_4 ir_9_4 k0 ?_
  refine w_bd (fun δ_24 e_25 => ?_)
  exact w_vret (μ := m_X9_openLoop) (pc := 76) dX9_openLoop_76 rfl rfl
def J_X9_closeLoop_63 (N : Nat) (g : gp) (a0 : Nat) (δ : dp) : Option (dp) :=
  some δ
set_option maxHeartbeats 4000000 in
set_option maxRecDepth 100000 in
theorem t_J_X9_closeLoop_63 {l : Launch} {D : va_G} {cy : Nat → ClassId} {N d : Nat} {g : gp} (wt : WT g) (hl : l.stackTraces = false) (hd : 2 ≤ d) {a0 : Nat} (k0 : q_K g a0 = 9) : ∀ (δ : dp), AWD l D cy m_X9_closeLoop d 0 0 ev g 63 [] [] δ (J_X9_closeLoop_63 N g a0 δ) := by
    intro  δ 
    unfold J_X9_closeLoop_63
    exact w_vret (μ := m_X9_closeLoop) (pc := 63) dX9_closeLoop_63 rfl rfl
def D_X9_closeLoop (N : Nat) (g : gp) (a0 : Nat) (δ : dp) : Option (dp) :=
  bd (s_I δ 9 4 a0 ((q_I δ 9 4 a0) - 1)) fun δ_1 => (q_O g 9 6 a0).bind fun b_3 => if (q_I δ_1 9 4 a0) < 0 ∨ q_N g b_3 ≤ (q_I δ_1 9 4 a0).toNatClampNeg then none else if (q_R δ_1 b_3 (q_I δ_1 9 4 a0).toNatClampNeg) = (q_I δ_1 9 3 a0) then ((q_V δ_1 9 1 a0).bind fun b_12 => if q_K g b_12 = 8 then (q_O g 9 5 a0).bind fun b_15 => if (q_I δ_1 9 4 a0) < 0 ∨ q_N g b_15 ≤ (q_I δ_1 9 4 a0).toNatClampNeg then none else bd (s_I δ_1 8 2 b_12 (q_R δ_1 b_15 (q_I δ_1 9 4 a0).toNatClampNeg)) fun δ_17 => J_X9_closeLoop_63 N g a0 δ_17 else none) else ((q_V δ_1 9 1 a0).bind fun b_6 => if q_K g b_6 = 8 then (q_O g 9 5 a0).bind fun b_9 => if (q_I δ_1 9 4 a0) < 0 ∨ q_N g b_9 ≤ (q_I δ_1 9 4 a0).toNatClampNeg then none else (D_X8_add N g b_6 11 (q_R δ_1 b_9 (q_I δ_1 9 4 a0).toNatClampNeg) δ_1).bind fun r_11 => J_X9_closeLoop_63 N g a0 r_11 else none)
set_option maxHeartbeats 4000000 in
set_option maxRecDepth 100000 in
theorem c_X9_closeLoop {l : Launch} {D : va_G} {cy : Nat → ClassId} {N d : Nat} {g : gp} (wt : WT g) (hl : l.stackTraces = false) (hd : 2 ≤ d) {a0 : Nat} {δ : dp} (k0 : q_K g a0 = 9) : CalD l D cy m_X9_closeLoop d 0 0 ev g [.ref a0] δ (D_X9_closeLoop N g a0 δ) := by
  refine CalD.of (by decide +kernel) (Nat.le_of_ble_eq_true rfl) hl ?_
  unfold D_X9_closeLoop
  refine w_aload_n 0 0 (μ := m_X9_closeLoop) (pc := 0) dX9_closeLoop_0 rfl rfl ?_
  refine w_dup (μ := m_X9_closeLoop) (pc := 1) dX9_closeLoop_1 rfl ?_
  refine w_getI (μ := m_X9_closeLoop) (pc := 2) dX9_closeLoop_2 fl_X9_38 ir_9_4 k0 ?_
  refine w_iconst (v := 1) (μ := m_X9_closeLoop) (pc := 5) dX9_closeLoop_5 (by decide) ?_
  refine w_isub (μ := m_X9_closeLoop) (pc := 6) dX9_closeLoop_6 ?_
  refine w_putI (μ := m_X9_closeLoop) (pc := 7) dX9_closeLoop_7 fl_X9_38 flw_9_4 ir_9_4 k0 ?_
  refine w_bd (fun δ_1 e_2 => ?_)
  refine w_aload_n 0 0 (μ := m_X9_closeLoop) (pc := 10) dX9_closeLoop_10 rfl rfl ?_
  refine w_getO (μ := m_X9_closeLoop) (pc := 11) dX9_closeLoop_11 fl_X9_17 ir_9_6 id_9_6 k0 (fun b_3 e_4 => ?_)
  refine w_aload_n 0 0 (μ := m_X9_closeLoop) (pc := 14) dX9_closeLoop_14 rfl rfl ?_
  refine w_getI (μ := m_X9_closeLoop) (pc := 15) dX9_closeLoop_15 fl_X9_38 ir_9_4 k0 ?_
  refine w_ald (μ := m_X9_closeLoop) (pc := 18) dX9_closeLoop_18 (wt_9_6 wt k0 e_4) ?_
  refine w_aload_n 0 0 (μ := m_X9_closeLoop) (pc := 19) dX9_closeLoop_19 rfl rfl ?_
  refine w_getI (μ := m_X9_closeLoop) (pc := 20) dX9_closeLoop_20 fl_X9_35 ir_9_3 k0 ?_
  refine w_icmp_ne 45 (μ := m_X9_closeLoop) (pc := 23) dX9_closeLoop_23 (by decide) (fun c_5 => ?_) (fun c_5 => ?_)
  · refine w_aload_n 0 0 (μ := m_X9_closeLoop) (pc := 45) dX9_closeLoop_45 rfl rfl ?_
    refine w_getV (μ := m_X9_closeLoop) (pc := 46) dX9_closeLoop_46 fl_X9_24 ir_9_1 id_9_1 k0 (fun b_6 e_7 => ?_)
    refine w_gd (fun z_8 => ?_)
    refine w_bipush (v := 11) (μ := m_X9_closeLoop) (pc := 49) dX9_closeLoop_49 (by decide) ?_
    refine w_aload_n 0 0 (μ := m_X9_closeLoop) (pc := 51) dX9_closeLoop_51 rfl rfl ?_
    refine w_getO (μ := m_X9_closeLoop) (pc := 52) dX9_closeLoop_52 fl_X9_11 ir_9_5 id_9_5 k0 (fun b_9 e_10 => ?_)
    refine w_aload_n 0 0 (μ := m_X9_closeLoop) (pc := 55) dX9_closeLoop_55 rfl rfl ?_
    refine w_getI (μ := m_X9_closeLoop) (pc := 56) dX9_closeLoop_56 fl_X9_38 ir_9_4 k0 ?_
    refine w_ald (μ := m_X9_closeLoop) (pc := 59) dX9_closeLoop_59 (wt_9_5 wt k0 e_10) ?_
    refine w_callV (As := [.int 11, .int (q_R δ_1 b_9 (q_I δ_1 9 4 a0).toNatClampNeg)]) (rest := []) (μ := m_X9_closeLoop) (pc := 60) dX9_closeLoop_60 cv_X9_89 rfl rfl z_8 (by decide) rfl (Nat.le_of_ble_eq_true rfl) (d' := d - 1) (by omega) he_v (c_X8_add wt hl (d := d - 1) (by omega) z_8) (fun r_11 => ?_)
    refine w_lv [] rfl ?_
    exact t_J_X9_closeLoop_63 wt hl (by omega) k0 _
  · refine w_aload_n 0 0 (μ := m_X9_closeLoop) (pc := 26) dX9_closeLoop_26 rfl rfl ?_
    refine w_getV (μ := m_X9_closeLoop) (pc := 27) dX9_closeLoop_27 fl_X9_24 ir_9_1 id_9_1 k0 (fun b_12 e_13 => ?_)
    refine w_gd (fun z_14 => ?_)
    refine w_aload_n 0 0 (μ := m_X9_closeLoop) (pc := 30) dX9_closeLoop_30 rfl rfl ?_
    refine w_getO (μ := m_X9_closeLoop) (pc := 31) dX9_closeLoop_31 fl_X9_11 ir_9_5 id_9_5 k0 (fun b_15 e_16 => ?_)
    refine w_aload_n 0 0 (μ := m_X9_closeLoop) (pc := 34) dX9_closeLoop_34 rfl rfl ?_
    refine w_getI (μ := m_X9_closeLoop) (pc := 35) dX9_closeLoop_35 fl_X9_38 ir_9_4 k0 ?_
    refine w_ald (μ := m_X9_closeLoop) (pc := 38) dX9_closeLoop_38 (wt_9_5 wt k0 e_16) ?_
    refine w_putI (μ := m_X9_closeLoop) (pc := 39) dX9_closeLoop_39 fl_X9_107 flw_8_2 ir_8_2 z_14 ?_
    refine w_bd (fun δ_17 e_18 => ?_)
    refine w_goto 63 (μ := m_X9_closeLoop) (pc := 42) dX9_closeLoop_42 (by decide) ?_
    refine w_lv [] rfl ?_
    exact t_J_X9_closeLoop_63 wt hl (by omega) k0 _
def J_X9_addName_151 (N : Nat) (g : gp) (a0 : Nat) (δ : dp) : Option (dp) :=
  some δ
set_option maxHeartbeats 4000000 in
set_option maxRecDepth 100000 in
theorem t_J_X9_addName_151 {l : Launch} {D : va_G} {cy : Nat → ClassId} {N d : Nat} {g : gp} (wt : WT g) (hl : l.stackTraces = false) (hd : 6 ≤ d) {a0 : Nat} (k0 : q_K g a0 = 9) : ∀ (δ : dp), AWD l D cy m_X9_addName d 0 0 ev g 151 [] [] δ (J_X9_addName_151 N g a0 δ) := by
    intro  δ 
    unfold J_X9_addName_151
    exact w_vret (μ := m_X9_addName) (pc := 151) dX9_addName_151 rfl rfl
def J_X9_addName_60 (N : Nat) (g : gp) (a0 : Nat) (xs0 : Int32) (as1 : Nat) (x1v : Int32) (δ : dp) : Option (dp) :=
  (D_J9_max_7cf53 N g x1v 0 δ).bind fun r_17 => (D_X8_add N g as1 xs0 r_17.1 r_17.2).bind fun r_18 => J_X9_addName_151 N g a0 r_18
set_option maxHeartbeats 4000000 in
set_option maxRecDepth 100000 in
theorem t_J_X9_addName_60 {l : Launch} {D : va_G} {cy : Nat → ClassId} {N d : Nat} {g : gp} (wt : WT g) (hl : l.stackTraces = false) (hd : 6 ≤ d) {a0 : Nat} (k0 : q_K g a0 = 9) : ∀ (xs0 : Int32) (as1 : Nat) (x1v : Int32) (δ : dp), q_K g as1 = 8 → AWD l D cy m_X9_addName d 0 0 ev g 60 [(1, .int x1v)] [.int xs0, .ref as1] δ (J_X9_addName_60 N g a0 xs0 as1 x1v δ) := by
    intro xs0 as1 x1v δ has1
    unfold J_X9_addName_60
    refine w_iload_n 0 1 (μ := m_X9_addName) (pc := 60) dX9_addName_60 rfl rfl ?_
    refine w_iconst (v := 0) (μ := m_X9_addName) (pc := 61) dX9_addName_61 (by decide) ?_
    refine w_callS (As := [.int x1v, .int 0]) (rest := [.int xs0, .ref as1]) (μ := m_X9_addName) (pc := 62) dX9_addName_62 cs_X9_124 rfl rfl (Nat.le_of_ble_eq_true rfl) (d' := d - 1) (by omega) he_i (c_J9_max_7cf53 wt hl (d := d - 1) (by omega) ) (fun r_17 => ?_)
    refine w_callV (As := [.int xs0, .int r_17.1]) (rest := []) (μ := m_X9_addName) (pc := 65) dX9_addName_65 cv_X9_89 rfl rfl has1 (by decide) rfl (Nat.le_of_ble_eq_true rfl) (d' := d - 1) (by omega) he_v (c_X8_add wt hl (d := d - 1) (by omega) has1) (fun r_18 => ?_)
    refine w_goto 151 (μ := m_X9_addName) (pc := 68) dX9_addName_68 (by decide) ?_
    refine w_lv [] rfl ?_
    exact t_J_X9_addName_151 wt hl (by omega) k0 _
def J_X9_addName_45 (N : Nat) (g : gp) (a0 : Nat) (xs0 : Int32) (xs1 : Int32) (δ : dp) : Option (dp) :=
  bi (xs1 - xs0) fun x_11 => (q_V δ 9 1 a0).bind fun b_13 => if q_K g b_13 = 8 then if 0 ≤ x_11 then (J_X9_addName_60 N g a0 1 b_13 x_11 δ) else (J_X9_addName_60 N g a0 0 b_13 x_11 δ) else none
set_option maxHeartbeats 4000000 in
set_option maxRecDepth 100000 in
theorem t_J_X9_addName_45 {l : Launch} {D : va_G} {cy : Nat → ClassId} {N d : Nat} {g : gp} (wt : WT g) (hl : l.stackTraces = false) (hd : 6 ≤ d) {a0 : Nat} (k0 : q_K g a0 = 9) : ∀ (xs0 : Int32) (xs1 : Int32) (δ : dp), AWD l D cy m_X9_addName d 0 0 ev g 45 [(0, .ref a0)] [.int xs0, .int xs1] δ (J_X9_addName_45 N g a0 xs0 xs1 δ) := by
    intro xs0 xs1 δ 
    unfold J_X9_addName_45
    refine w_isub (μ := m_X9_addName) (pc := 45) dX9_addName_45 ?_
    refine w_bi (fun x_11 e_12 => ?_)
    refine w_istore_n [(1, .int x_11), (0, .ref a0)] (μ := m_X9_addName) (pc := 46) dX9_addName_46 rfl (by decide) rfl ?_
    refine w_aload_n 1 0 (μ := m_X9_addName) (pc := 47) dX9_addName_47 rfl rfl ?_
    refine w_getV (μ := m_X9_addName) (pc := 48) dX9_addName_48 fl_X9_24 ir_9_1 id_9_1 k0 (fun b_13 e_14 => ?_)
    refine w_gd (fun z_15 => ?_)
    refine w_iload_n 0 1 (μ := m_X9_addName) (pc := 51) dX9_addName_51 rfl rfl ?_
    refine w_if_ge 59 (μ := m_X9_addName) (pc := 52) dX9_addName_52 (by decide) (fun c_16 => ?_) (fun c_16 => ?_)
    · refine w_iconst (v := 1) (μ := m_X9_addName) (pc := 59) dX9_addName_59 (by decide) ?_
      refine w_lv [0] rfl ?_
      exact t_J_X9_addName_60 wt hl (by omega) k0 _ _ _ _ z_15
    · refine w_iconst (v := 0) (μ := m_X9_addName) (pc := 55) dX9_addName_55 (by decide) ?_
      refine w_goto 60 (μ := m_X9_addName) (pc := 56) dX9_addName_56 (by decide) ?_
      refine w_lv [0] rfl ?_
      exact t_J_X9_addName_60 wt hl (by omega) k0 _ _ _ _ z_15
def J_X9_addName_24 (N : Nat) (g : gp) (a0 : Nat) (δ : dp) : Option (dp) :=
  (q_V δ 9 0 a0).bind fun b_6 => if q_K g b_6 = 7 then (D_X7_wordIs N g b_6 11 δ).bind fun r_9 => if r_9.1 = 0 then (J_X9_addName_45 N g a0 2 (q_I δ 9 4 a0) r_9.2) else (J_X9_addName_45 N g a0 1 (q_I δ 9 4 a0) r_9.2) else none
set_option maxHeartbeats 4000000 in
set_option maxRecDepth 100000 in
theorem t_J_X9_addName_24 {l : Launch} {D : va_G} {cy : Nat → ClassId} {N d : Nat} {g : gp} (wt : WT g) (hl : l.stackTraces = false) (hd : 6 ≤ d) {a0 : Nat} (k0 : q_K g a0 = 9) : ∀ (δ : dp), AWD l D cy m_X9_addName d 0 0 ev g 24 [(0, .ref a0)] [] δ (J_X9_addName_24 N g a0 δ) := by
    intro  δ 
    unfold J_X9_addName_24
    refine w_aload_n 0 0 (μ := m_X9_addName) (pc := 24) dX9_addName_24 rfl rfl ?_
    refine w_getI (μ := m_X9_addName) (pc := 25) dX9_addName_25 fl_X9_38 ir_9_4 k0 ?_
    refine w_aload_n 0 0 (μ := m_X9_addName) (pc := 28) dX9_addName_28 rfl rfl ?_
    refine w_getV (μ := m_X9_addName) (pc := 29) dX9_addName_29 fl_X9_20 ir_9_0 id_9_0 k0 (fun b_6 e_7 => ?_)
    refine w_gd (fun z_8 => ?_)
    refine w_ldcS 11 (tx := "i") (μ := m_X9_addName) (pc := 32) dX9_addName_32 (by decide +kernel) ?_
    refine w_callV (As := [.ref (D.2 100 11)]) (rest := [.int (q_I δ 9 4 a0)]) (μ := m_X9_addName) (pc := 34) dX9_addName_34 cv_X9_76 rfl rfl z_8 (by decide) rfl (Nat.le_of_ble_eq_true rfl) (d' := d - 1) (by omega) he_i (c_X7_wordIs wt hl (d := d - 1) (by omega) z_8 (by decide)) (fun r_9 => ?_)
    refine w_if_eq 44 (μ := m_X9_addName) (pc := 37) dX9_addName_37 (by decide) (fun c_10 => ?_) (fun c_10 => ?_)
    · refine w_iconst (v := 2) (μ := m_X9_addName) (pc := 44) dX9_addName_44 (by decide) ?_
      exact t_J_X9_addName_45 wt hl (by omega) k0 _ _ _
    · refine w_iconst (v := 1) (μ := m_X9_addName) (pc := 40) dX9_addName_40 (by decide) ?_
      refine w_goto 45 (μ := m_X9_addName) (pc := 41) dX9_addName_41 (by decide) ?_
      exact t_J_X9_addName_45 wt hl (by omega) k0 _ _ _
def D_X9_addName (N : Nat) (g : gp) (a0 : Nat) (δ : dp) : Option (dp) :=
  (q_V δ 9 0 a0).bind fun b_1 => if q_K g b_1 = 7 then (D_X7_wordIs N g b_1 11 δ).bind fun r_4 => if r_4.1 = 0 then ((q_V r_4.2 9 0 a0).bind fun b_19 => if q_K g b_19 = 7 then (D_X7_wordIs N g b_19 12 r_4.2).bind fun r_22 => if r_22.1 = 0 then ((q_V r_22.2 9 0 a0).bind fun b_24 => if q_K g b_24 = 7 then (D_X7_wordIs N g b_24 13 r_22.2).bind fun r_27 => if r_27.1 = 0 then ((q_V r_27.2 9 0 a0).bind fun b_29 => if q_K g b_29 = 7 then (D_X7_wordIs N g b_29 14 r_27.2).bind fun r_32 => if r_32.1 = 0 then ((q_V r_32.2 9 0 a0).bind fun b_34 => if q_K g b_34 = 7 then (D_X7_wordIs N g b_34 15 r_32.2).bind fun r_37 => if r_37.1 = 0 then ((q_V r_37.2 9 0 a0).bind fun b_39 => if q_K g b_39 = 7 then (D_X7_refuse N g b_39 1 r_37.2).bind fun r_42 => J_X9_addName_151 N g a0 r_42 else none) else ((q_V r_37.2 9 1 a0).bind fun b_43 => if q_K g b_43 = 8 then (D_X8_add N g b_43 4 0 r_37.2).bind fun r_46 => J_X9_addName_151 N g a0 r_46 else none) else none) else ((q_V r_32.2 9 1 a0).bind fun b_47 => if q_K g b_47 = 8 then (D_X8_add N g b_47 3 0 r_32.2).bind fun r_50 => J_X9_addName_151 N g a0 r_50 else none) else none) else ((q_V r_27.2 9 1 a0).bind fun b_51 => if q_K g b_51 = 8 then (D_X8_add N g b_51 2 0 r_27.2).bind fun r_54 => J_X9_addName_151 N g a0 r_54 else none) else none) else (J_X9_addName_24 N g a0 r_22.2) else none) else (J_X9_addName_24 N g a0 r_4.2) else none
set_option maxHeartbeats 4000000 in
set_option maxRecDepth 100000 in
theorem c_X9_addName {l : Launch} {D : va_G} {cy : Nat → ClassId} {N d : Nat} {g : gp} (wt : WT g) (hl : l.stackTraces = false) (hd : 6 ≤ d) {a0 : Nat} {δ : dp} (k0 : q_K g a0 = 9) : CalD l D cy m_X9_addName d 0 0 ev g [.ref a0] δ (D_X9_addName N g a0 δ) := by
  refine CalD.of (by decide +kernel) (Nat.le_of_ble_eq_true rfl) hl ?_
  unfold D_X9_addName
  refine w_aload_n 0 0 (μ := m_X9_addName) (pc := 0) dX9_addName_0 rfl rfl ?_
  refine w_getV (μ := m_X9_addName) (pc := 1) dX9_addName_1 fl_X9_20 ir_9_0 id_9_0 k0 (fun b_1 e_2 => ?_)
  refine w_gd (fun z_3 => ?_)
  refine w_ldcS 11 (tx := "i") (μ := m_X9_addName) (pc := 4) dX9_addName_4 (by decide +kernel) ?_
  refine w_callV (As := [.ref (D.2 100 11)]) (rest := []) (μ := m_X9_addName) (pc := 6) dX9_addName_6 cv_X9_76 rfl rfl z_3 (by decide) rfl (Nat.le_of_ble_eq_true rfl) (d' := d - 1) (by omega) he_i (c_X7_wordIs wt hl (d := d - 1) (by omega) z_3 (by decide)) (fun r_4 => ?_)
  refine w_if_ne 24 (μ := m_X9_addName) (pc := 9) dX9_addName_9 (by decide) (fun c_5 => ?_) (fun c_5 => ?_)
  · exact t_J_X9_addName_24 wt hl (by omega) k0 _
  · refine w_aload_n 0 0 (μ := m_X9_addName) (pc := 12) dX9_addName_12 rfl rfl ?_
    refine w_getV (μ := m_X9_addName) (pc := 13) dX9_addName_13 fl_X9_20 ir_9_0 id_9_0 k0 (fun b_19 e_20 => ?_)
    refine w_gd (fun z_21 => ?_)
    refine w_ldcS 12 (tx := "o") (μ := m_X9_addName) (pc := 16) dX9_addName_16 (by decide +kernel) ?_
    refine w_callV (As := [.ref (D.2 100 12)]) (rest := []) (μ := m_X9_addName) (pc := 18) dX9_addName_18 cv_X9_76 rfl rfl z_21 (by decide) rfl (Nat.le_of_ble_eq_true rfl) (d' := d - 1) (by omega) he_i (c_X7_wordIs wt hl (d := d - 1) (by omega) z_21 (by decide)) (fun r_22 => ?_)
    refine w_if_eq 71 (μ := m_X9_addName) (pc := 21) dX9_addName_21 (by decide) (fun c_23 => ?_) (fun c_23 => ?_)
    · refine w_aload_n 0 0 (μ := m_X9_addName) (pc := 71) dX9_addName_71 rfl rfl ?_
      refine w_getV (μ := m_X9_addName) (pc := 72) dX9_addName_72 fl_X9_20 ir_9_0 id_9_0 k0 (fun b_24 e_25 => ?_)
      refine w_gd (fun z_26 => ?_)
      refine w_ldcS 13 (tx := "last") (μ := m_X9_addName) (pc := 75) dX9_addName_75 (by decide +kernel) ?_
      refine w_callV (As := [.ref (D.2 100 13)]) (rest := []) (μ := m_X9_addName) (pc := 77) dX9_addName_77 cv_X9_76 rfl rfl z_26 (by decide) rfl (Nat.le_of_ble_eq_true rfl) (d' := d - 1) (by omega) he_i (c_X7_wordIs wt hl (d := d - 1) (by omega) z_26 (by decide)) (fun r_27 => ?_)
      refine w_if_eq 95 (μ := m_X9_addName) (pc := 80) dX9_addName_80 (by decide) (fun c_28 => ?_) (fun c_28 => ?_)
      · refine w_aload_n 0 0 (μ := m_X9_addName) (pc := 95) dX9_addName_95 rfl rfl ?_
        refine w_getV (μ := m_X9_addName) (pc := 96) dX9_addName_96 fl_X9_20 ir_9_0 id_9_0 k0 (fun b_29 e_30 => ?_)
        refine w_gd (fun z_31 => ?_)
        refine w_ldcS 14 (tx := "many") (μ := m_X9_addName) (pc := 99) dX9_addName_99 (by decide +kernel) ?_
        refine w_callV (As := [.ref (D.2 100 14)]) (rest := []) (μ := m_X9_addName) (pc := 101) dX9_addName_101 cv_X9_76 rfl rfl z_31 (by decide) rfl (Nat.le_of_ble_eq_true rfl) (d' := d - 1) (by omega) he_i (c_X7_wordIs wt hl (d := d - 1) (by omega) z_31 (by decide)) (fun r_32 => ?_)
        refine w_if_eq 119 (μ := m_X9_addName) (pc := 104) dX9_addName_104 (by decide) (fun c_33 => ?_) (fun c_33 => ?_)
        · refine w_aload_n 0 0 (μ := m_X9_addName) (pc := 119) dX9_addName_119 rfl rfl ?_
          refine w_getV (μ := m_X9_addName) (pc := 120) dX9_addName_120 fl_X9_20 ir_9_0 id_9_0 k0 (fun b_34 e_35 => ?_)
          refine w_gd (fun z_36 => ?_)
          refine w_ldcS 15 (tx := "draw") (μ := m_X9_addName) (pc := 123) dX9_addName_123 (by decide +kernel) ?_
          refine w_callV (As := [.ref (D.2 100 15)]) (rest := []) (μ := m_X9_addName) (pc := 125) dX9_addName_125 cv_X9_76 rfl rfl z_36 (by decide) rfl (Nat.le_of_ble_eq_true rfl) (d' := d - 1) (by omega) he_i (c_X7_wordIs wt hl (d := d - 1) (by omega) z_36 (by decide)) (fun r_37 => ?_)
          refine w_if_eq 143 (μ := m_X9_addName) (pc := 128) dX9_addName_128 (by decide) (fun c_38 => ?_) (fun c_38 => ?_)
          · refine w_aload_n 0 0 (μ := m_X9_addName) (pc := 143) dX9_addName_143 rfl rfl ?_
            refine w_getV (μ := m_X9_addName) (pc := 144) dX9_addName_144 fl_X9_20 ir_9_0 id_9_0 k0 (fun b_39 e_40 => ?_)
            refine w_gd (fun z_41 => ?_)
            refine w_iconst (v := 1) (μ := m_X9_addName) (pc := 147) dX9_addName_147 (by decide) ?_
            refine w_callV (As := [.int 1]) (rest := []) (μ := m_X9_addName) (pc := 148) dX9_addName_148 cv_X9_53 rfl rfl z_41 (by decide) rfl (Nat.le_of_ble_eq_true rfl) (d' := d - 1) (by omega) he_v (c_X7_refuse wt hl (d := d - 1) (by omega) z_41) (fun r_42 => ?_)
            refine w_lv [] rfl ?_
            exact t_J_X9_addName_151 wt hl (by omega) k0 _
          · refine w_aload_n 0 0 (μ := m_X9_addName) (pc := 131) dX9_addName_131 rfl rfl ?_
            refine w_getV (μ := m_X9_addName) (pc := 132) dX9_addName_132 fl_X9_24 ir_9_1 id_9_1 k0 (fun b_43 e_44 => ?_)
            refine w_gd (fun z_45 => ?_)
            refine w_iconst (v := 4) (μ := m_X9_addName) (pc := 135) dX9_addName_135 (by decide) ?_
            refine w_iconst (v := 0) (μ := m_X9_addName) (pc := 136) dX9_addName_136 (by decide) ?_
            refine w_callV (As := [.int 4, .int 0]) (rest := []) (μ := m_X9_addName) (pc := 137) dX9_addName_137 cv_X9_89 rfl rfl z_45 (by decide) rfl (Nat.le_of_ble_eq_true rfl) (d' := d - 1) (by omega) he_v (c_X8_add wt hl (d := d - 1) (by omega) z_45) (fun r_46 => ?_)
            refine w_goto 151 (μ := m_X9_addName) (pc := 140) dX9_addName_140 (by decide) ?_
            refine w_lv [] rfl ?_
            exact t_J_X9_addName_151 wt hl (by omega) k0 _
        · refine w_aload_n 0 0 (μ := m_X9_addName) (pc := 107) dX9_addName_107 rfl rfl ?_
          refine w_getV (μ := m_X9_addName) (pc := 108) dX9_addName_108 fl_X9_24 ir_9_1 id_9_1 k0 (fun b_47 e_48 => ?_)
          refine w_gd (fun z_49 => ?_)
          refine w_iconst (v := 3) (μ := m_X9_addName) (pc := 111) dX9_addName_111 (by decide) ?_
          refine w_iconst (v := 0) (μ := m_X9_addName) (pc := 112) dX9_addName_112 (by decide) ?_
          refine w_callV (As := [.int 3, .int 0]) (rest := []) (μ := m_X9_addName) (pc := 113) dX9_addName_113 cv_X9_89 rfl rfl z_49 (by decide) rfl (Nat.le_of_ble_eq_true rfl) (d' := d - 1) (by omega) he_v (c_X8_add wt hl (d := d - 1) (by omega) z_49) (fun r_50 => ?_)
          refine w_goto 151 (μ := m_X9_addName) (pc := 116) dX9_addName_116 (by decide) ?_
          refine w_lv [] rfl ?_
          exact t_J_X9_addName_151 wt hl (by omega) k0 _
      · refine w_aload_n 0 0 (μ := m_X9_addName) (pc := 83) dX9_addName_83 rfl rfl ?_
        refine w_getV (μ := m_X9_addName) (pc := 84) dX9_addName_84 fl_X9_24 ir_9_1 id_9_1 k0 (fun b_51 e_52 => ?_)
        refine w_gd (fun z_53 => ?_)
        refine w_iconst (v := 2) (μ := m_X9_addName) (pc := 87) dX9_addName_87 (by decide) ?_
        refine w_iconst (v := 0) (μ := m_X9_addName) (pc := 88) dX9_addName_88 (by decide) ?_
        refine w_callV (As := [.int 2, .int 0]) (rest := []) (μ := m_X9_addName) (pc := 89) dX9_addName_89 cv_X9_89 rfl rfl z_53 (by decide) rfl (Nat.le_of_ble_eq_true rfl) (d' := d - 1) (by omega) he_v (c_X8_add wt hl (d := d - 1) (by omega) z_53) (fun r_54 => ?_)
        refine w_goto 151 (μ := m_X9_addName) (pc := 92) dX9_addName_92 (by decide) ?_
        refine w_lv [] rfl ?_
        exact t_J_X9_addName_151 wt hl (by omega) k0 _
    · exact t_J_X9_addName_24 wt hl (by omega) k0 _
def J_X9_readUnit_101 (N : Nat) (g : gp) (T : Nat → Int32 → dp → Option (dp)) (a0 : Nat) (x1 : Int32) (δ : dp) : Option (dp) :=
  some δ
set_option maxHeartbeats 4000000 in
set_option maxRecDepth 100000 in
theorem t_J_X9_readUnit_101 {l : Launch} {D : va_G} {cy : Nat → ClassId} {N d : Nat} {g : gp} (wt : WT g) (hl : l.stackTraces = false) {T : Nat → Int32 → dp → Option (dp)} {dh : Nat} (hT : ∀ (a0 : Nat) (x1 : Int32) (δ : dp), q_K g a0 = 9 → CalD l D cy m_X9_readSum dh 0 0 ev g [.ref a0, .int x1] δ (T a0 x1 δ)) (hh : dh + 1 ≤ d) (hd : 7 ≤ d) {a0 : Nat} {x1 : Int32} (k0 : q_K g a0 = 9) : ∀ (δ : dp), AWD l D cy m_X9_readUnit d 0 0 ev g 101 [] [] δ (J_X9_readUnit_101 N g T a0 x1 δ) := by
    intro  δ 
    unfold J_X9_readUnit_101
    exact w_vret (μ := m_X9_readUnit) (pc := 101) dX9_readUnit_101 rfl rfl
def J_X9_readUnit_90 (N : Nat) (g : gp) (T : Nat → Int32 → dp → Option (dp)) (a0 : Nat) (x1 : Int32) (δ : dp) : Option (dp) :=
  (q_V δ 9 0 a0).bind fun b_7 => if q_K g b_7 = 7 then (D_X7_readWord N g b_7 δ).bind fun r_10 => (D_X9_addName N g a0 r_10).bind fun r_11 => J_X9_readUnit_101 N g T a0 x1 r_11 else none
set_option maxHeartbeats 4000000 in
set_option maxRecDepth 100000 in
theorem t_J_X9_readUnit_90 {l : Launch} {D : va_G} {cy : Nat → ClassId} {N d : Nat} {g : gp} (wt : WT g) (hl : l.stackTraces = false) {T : Nat → Int32 → dp → Option (dp)} {dh : Nat} (hT : ∀ (a0 : Nat) (x1 : Int32) (δ : dp), q_K g a0 = 9 → CalD l D cy m_X9_readSum dh 0 0 ev g [.ref a0, .int x1] δ (T a0 x1 δ)) (hh : dh + 1 ≤ d) (hd : 7 ≤ d) {a0 : Nat} {x1 : Int32} (k0 : q_K g a0 = 9) : ∀ (δ : dp), AWD l D cy m_X9_readUnit d 0 0 ev g 90 [(0, .ref a0)] [] δ (J_X9_readUnit_90 N g T a0 x1 δ) := by
    intro  δ 
    unfold J_X9_readUnit_90
    refine w_aload_n 0 0 (μ := m_X9_readUnit) (pc := 90) dX9_readUnit_90 rfl rfl ?_
    refine w_getV (μ := m_X9_readUnit) (pc := 91) dX9_readUnit_91 fl_X9_20 ir_9_0 id_9_0 k0 (fun b_7 e_8 => ?_)
    refine w_gd (fun z_9 => ?_)
    refine w_callV (As := []) (rest := []) (μ := m_X9_readUnit) (pc := 94) dX9_readUnit_94 cv_X9_68 rfl rfl z_9 (by decide) rfl (Nat.le_of_ble_eq_true rfl) (d' := d - 1) (by omega) he_v (c_X7_readWord wt hl (d := d - 1) (by omega) z_9) (fun r_10 => ?_)
    refine w_aload_n 0 0 (μ := m_X9_readUnit) (pc := 97) dX9_readUnit_97 rfl rfl ?_
    refine w_callV (As := []) (rest := []) (μ := m_X9_readUnit) (pc := 98) dX9_readUnit_98 cv_X9_117 rfl rfl k0 (by decide) rfl (Nat.le_of_ble_eq_true rfl) (d' := d - 1) (by omega) he_v (c_X9_addName wt hl (d := d - 1) (by omega) k0) (fun r_11 => ?_)
    refine w_lv [] rfl ?_
    exact t_J_X9_readUnit_101 wt hl hT (by omega) (by omega) k0 _
def B_X9_readUnit (N : Nat) (g : gp) (T : Nat → Int32 → dp → Option (dp)) (a0 : Nat) (x1 : Int32) (δ : dp) : Option (dp) :=
  (q_V δ 9 0 a0).bind fun b_1 => if q_K g b_1 = 7 then (D_X7_ahead N g b_1 δ).bind fun r_4 => if r_4.1 = (40 : Int32) then (if x1 < (6 : Int32) then ((q_V r_4.2 9 0 a0).bind fun b_22 => if q_K g b_22 = 7 then (D_X7_needSign N g b_22 40 r_4.2).bind fun r_25 => (T a0 (x1 + 1) r_25).bind fun r_26 => (q_V r_26 9 0 a0).bind fun b_27 => if q_K g b_27 = 7 then (D_X7_needSign N g b_27 41 r_26).bind fun r_30 => J_X9_readUnit_101 N g T a0 x1 r_30 else none else none) else ((q_V r_4.2 9 0 a0).bind fun b_31 => if q_K g b_31 = 7 then (D_X7_refuse N g b_31 3 r_4.2).bind fun r_34 => some r_34 else none)) else (if r_4.1 < (48 : Int32) then (J_X9_readUnit_90 N g T a0 x1 r_4.2) else (if (57 : Int32) < r_4.1 then (J_X9_readUnit_90 N g T a0 x1 r_4.2) else ((q_V r_4.2 9 1 a0).bind fun b_13 => if q_K g b_13 = 8 then (q_V r_4.2 9 0 a0).bind fun b_16 => if q_K g b_16 = 7 then (D_X7_readNumber N g b_16 0 99999 r_4.2).bind fun r_19 => (D_X8_add N g b_13 0 r_19.1 r_19.2).bind fun r_20 => J_X9_readUnit_101 N g T a0 x1 r_20 else none else none))) else none
set_option maxHeartbeats 4000000 in
set_option maxRecDepth 100000 in
theorem c_b_X9_readUnit {l : Launch} {D : va_G} {cy : Nat → ClassId} {N d : Nat} {g : gp} (wt : WT g) (hl : l.stackTraces = false) {T : Nat → Int32 → dp → Option (dp)} {dh : Nat} (hT : ∀ (a0 : Nat) (x1 : Int32) (δ : dp), q_K g a0 = 9 → CalD l D cy m_X9_readSum dh 0 0 ev g [.ref a0, .int x1] δ (T a0 x1 δ)) (hh : dh + 1 ≤ d) (hd : 7 ≤ d) {a0 : Nat} {x1 : Int32} {δ : dp} (k0 : q_K g a0 = 9) : CalD l D cy m_X9_readUnit d 0 0 ev g [.ref a0, .int x1] δ (B_X9_readUnit N g T a0 x1 δ) := by
  refine CalD.of (by decide +kernel) (Nat.le_of_ble_eq_true rfl) hl ?_
  unfold B_X9_readUnit
  refine w_aload_n 0 0 (μ := m_X9_readUnit) (pc := 0) dX9_readUnit_0 rfl rfl ?_
  refine w_getV (μ := m_X9_readUnit) (pc := 1) dX9_readUnit_1 fl_X9_20 ir_9_0 id_9_0 k0 (fun b_1 e_2 => ?_)
  refine w_gd (fun z_3 => ?_)
  refine w_callV (As := []) (rest := []) (μ := m_X9_readUnit) (pc := 4) dX9_readUnit_4 cv_X9_57 rfl rfl z_3 (by decide) rfl (Nat.le_of_ble_eq_true rfl) (d' := d - 1) (by omega) he_i (c_X7_ahead wt hl (d := d - 1) (by omega) z_3) (fun r_4 => ?_)
  refine w_istore_n [(2, .int r_4.1), (0, .ref a0), (1, .int x1)] (μ := m_X9_readUnit) (pc := 7) dX9_readUnit_7 rfl (by decide) rfl ?_
  refine w_iload_n 0 2 (μ := m_X9_readUnit) (pc := 8) dX9_readUnit_8 rfl rfl ?_
  refine w_bipush (v := 40) (μ := m_X9_readUnit) (pc := 9) dX9_readUnit_9 (by decide) ?_
  refine w_icmp_ne 57 (μ := m_X9_readUnit) (pc := 11) dX9_readUnit_11 (by decide) (fun c_5 => ?_) (fun c_5 => ?_)
  · refine w_iload_n 0 2 (μ := m_X9_readUnit) (pc := 57) dX9_readUnit_57 rfl rfl ?_
    refine w_bipush (v := 48) (μ := m_X9_readUnit) (pc := 58) dX9_readUnit_58 (by decide) ?_
    refine w_icmp_lt 90 (μ := m_X9_readUnit) (pc := 60) dX9_readUnit_60 (by decide) (fun c_6 => ?_) (fun c_6 => ?_)
    · refine w_lv [1] rfl ?_
      exact t_J_X9_readUnit_90 wt hl hT (by omega) (by omega) k0 _
    · refine w_iload_n 0 2 (μ := m_X9_readUnit) (pc := 63) dX9_readUnit_63 rfl rfl ?_
      refine w_bipush (v := 57) (μ := m_X9_readUnit) (pc := 64) dX9_readUnit_64 (by decide) ?_
      refine w_icmp_gt 90 (μ := m_X9_readUnit) (pc := 66) dX9_readUnit_66 (by decide) (fun c_12 => ?_) (fun c_12 => ?_)
      · refine w_lv [1] rfl ?_
        exact t_J_X9_readUnit_90 wt hl hT (by omega) (by omega) k0 _
      · refine w_aload_n 1 0 (μ := m_X9_readUnit) (pc := 69) dX9_readUnit_69 rfl rfl ?_
        refine w_getV (μ := m_X9_readUnit) (pc := 70) dX9_readUnit_70 fl_X9_24 ir_9_1 id_9_1 k0 (fun b_13 e_14 => ?_)
        refine w_gd (fun z_15 => ?_)
        refine w_iconst (v := 0) (μ := m_X9_readUnit) (pc := 73) dX9_readUnit_73 (by decide) ?_
        refine w_aload_n 1 0 (μ := m_X9_readUnit) (pc := 74) dX9_readUnit_74 rfl rfl ?_
        refine w_getV (μ := m_X9_readUnit) (pc := 75) dX9_readUnit_75 fl_X9_20 ir_9_0 id_9_0 k0 (fun b_16 e_17 => ?_)
        refine w_gd (fun z_18 => ?_)
        refine w_iconst (v := 0) (μ := m_X9_readUnit) (pc := 78) dX9_readUnit_78 (by decide) ?_
        refine w_ldc (v := 99999) (μ := m_X9_readUnit) (pc := 79) dX9_readUnit_79 cn_X9_116 ?_
        refine w_callV (As := [.int 0, .int 99999]) (rest := [.int 0, .ref b_13]) (μ := m_X9_readUnit) (pc := 81) dX9_readUnit_81 cv_X9_103 rfl rfl z_18 (by decide) rfl (Nat.le_of_ble_eq_true rfl) (d' := d - 1) (by omega) he_i (c_X7_readNumber wt hl (d := d - 1) (by omega) z_18) (fun r_19 => ?_)
        refine w_callV (As := [.int 0, .int r_19.1]) (rest := []) (μ := m_X9_readUnit) (pc := 84) dX9_readUnit_84 cv_X9_89 rfl rfl z_15 (by decide) rfl (Nat.le_of_ble_eq_true rfl) (d' := d - 1) (by omega) he_v (c_X8_add wt hl (d := d - 1) (by omega) z_15) (fun r_20 => ?_)
        refine w_goto 101 (μ := m_X9_readUnit) (pc := 87) dX9_readUnit_87 (by decide) ?_
        refine w_lv [] rfl ?_
        exact t_J_X9_readUnit_101 wt hl hT (by omega) (by omega) k0 _
  · refine w_iload_n 2 1 (μ := m_X9_readUnit) (pc := 14) dX9_readUnit_14 rfl rfl ?_
    refine w_bipush (v := 6) (μ := m_X9_readUnit) (pc := 15) dX9_readUnit_15 (by decide) ?_
    refine w_icmp_lt 29 (μ := m_X9_readUnit) (pc := 17) dX9_readUnit_17 (by decide) (fun c_21 => ?_) (fun c_21 => ?_)
    · refine w_aload_n 1 0 (μ := m_X9_readUnit) (pc := 29) dX9_readUnit_29 rfl rfl ?_
      refine w_getV (μ := m_X9_readUnit) (pc := 30) dX9_readUnit_30 fl_X9_20 ir_9_0 id_9_0 k0 (fun b_22 e_23 => ?_)
      refine w_gd (fun z_24 => ?_)
      refine w_bipush (v := 40) (μ := m_X9_readUnit) (pc := 33) dX9_readUnit_33 (by decide) ?_
      refine w_callV (As := [.int 40]) (rest := []) (μ := m_X9_readUnit) (pc := 35) dX9_readUnit_35 cv_X9_86 rfl rfl z_24 (by decide) rfl (Nat.le_of_ble_eq_true rfl) (d' := d - 1) (by omega) he_v (c_X7_needSign wt hl (d := d - 1) (by omega) z_24) (fun r_25 => ?_)
      refine w_aload_n 1 0 (μ := m_X9_readUnit) (pc := 38) dX9_readUnit_38 rfl rfl ?_
      refine w_iload_n 2 1 (μ := m_X9_readUnit) (pc := 39) dX9_readUnit_39 rfl rfl ?_
      refine w_iconst (v := 1) (μ := m_X9_readUnit) (pc := 40) dX9_readUnit_40 (by decide) ?_
      refine w_iadd (μ := m_X9_readUnit) (pc := 41) dX9_readUnit_41 ?_
      refine w_callV (As := [.int (x1 + 1)]) (rest := []) (μ := m_X9_readUnit) (pc := 42) dX9_readUnit_42 cv_X9_83 rfl rfl k0 (by decide) rfl (Nat.le_of_ble_eq_true rfl) (d' := dh) (by omega) he_v (hT _ _ _ k0) (fun r_26 => ?_)
      refine w_aload_n 1 0 (μ := m_X9_readUnit) (pc := 45) dX9_readUnit_45 rfl rfl ?_
      refine w_getV (μ := m_X9_readUnit) (pc := 46) dX9_readUnit_46 fl_X9_20 ir_9_0 id_9_0 k0 (fun b_27 e_28 => ?_)
      refine w_gd (fun z_29 => ?_)
      refine w_bipush (v := 41) (μ := m_X9_readUnit) (pc := 49) dX9_readUnit_49 (by decide) ?_
      refine w_callV (As := [.int 41]) (rest := []) (μ := m_X9_readUnit) (pc := 51) dX9_readUnit_51 cv_X9_86 rfl rfl z_29 (by decide) rfl (Nat.le_of_ble_eq_true rfl) (d' := d - 1) (by omega) he_v (c_X7_needSign wt hl (d := d - 1) (by omega) z_29) (fun r_30 => ?_)
      refine w_goto 101 (μ := m_X9_readUnit) (pc := 54) dX9_readUnit_54 (by decide) ?_
      refine w_lv [] rfl ?_
      exact t_J_X9_readUnit_101 wt hl hT (by omega) (by omega) k0 _
    · refine w_aload_n 1 0 (μ := m_X9_readUnit) (pc := 20) dX9_readUnit_20 rfl rfl ?_
      refine w_getV (μ := m_X9_readUnit) (pc := 21) dX9_readUnit_21 fl_X9_20 ir_9_0 id_9_0 k0 (fun b_31 e_32 => ?_)
      refine w_gd (fun z_33 => ?_)
      refine w_iconst (v := 3) (μ := m_X9_readUnit) (pc := 24) dX9_readUnit_24 (by decide) ?_
      refine w_callV (As := [.int 3]) (rest := []) (μ := m_X9_readUnit) (pc := 25) dX9_readUnit_25 cv_X9_53 rfl rfl z_33 (by decide) rfl (Nat.le_of_ble_eq_true rfl) (d' := d - 1) (by omega) he_v (c_X7_refuse wt hl (d := d - 1) (by omega) z_33) (fun r_34 => ?_)
      exact w_vret (μ := m_X9_readUnit) (pc := 28) dX9_readUnit_28 rfl rfl
def J_X9_readProduct_85 (N : Nat) (g : gp) (T : Nat → Int32 → dp → Option (dp)) (a0 : Nat) (x1 : Int32) (δ : dp) : Option (dp) :=
  some δ
set_option maxHeartbeats 4000000 in
set_option maxRecDepth 100000 in
theorem t_J_X9_readProduct_85 {l : Launch} {D : va_G} {cy : Nat → ClassId} {N d : Nat} {g : gp} (wt : WT g) (hl : l.stackTraces = false) {T : Nat → Int32 → dp → Option (dp)} {dh : Nat} (hT : ∀ (a0 : Nat) (x1 : Int32) (δ : dp), q_K g a0 = 9 → CalD l D cy m_X9_readSum dh 0 0 ev g [.ref a0, .int x1] δ (T a0 x1 δ)) (hh : dh + 2 ≤ d) (hd : 8 ≤ d) {a0 : Nat} {x1 : Int32} (k0 : q_K g a0 = 9) : ∀ (δ : dp), AWD l D cy m_X9_readProduct d 0 0 ev g 85 [] [] δ (J_X9_readProduct_85 N g T a0 x1 δ) := by
    intro  δ 
    unfold J_X9_readProduct_85
    exact w_vret (μ := m_X9_readProduct) (pc := 85) dX9_readProduct_85 rfl rfl
def J_X9_readProduct_75 (N : Nat) (g : gp) (T : Nat → Int32 → dp → Option (dp)) (a0 : Nat) (x1 : Int32) (kt7 : Int32 → dp → Option (dp)) (xs0 : Int32) (as1 : Nat) (x2v : Int32) (δ : dp) : Option (dp) :=
  (D_X8_add N g as1 xs0 0 δ).bind fun r_22 => bi (x2v + 1) fun x_23 => kt7 x_23 r_22
set_option maxHeartbeats 4000000 in
set_option maxRecDepth 100000 in
theorem t_J_X9_readProduct_75 {l : Launch} {D : va_G} {cy : Nat → ClassId} {N d : Nat} {g : gp} (wt : WT g) (hl : l.stackTraces = false) {T : Nat → Int32 → dp → Option (dp)} {dh : Nat} (hT : ∀ (a0 : Nat) (x1 : Int32) (δ : dp), q_K g a0 = 9 → CalD l D cy m_X9_readSum dh 0 0 ev g [.ref a0, .int x1] δ (T a0 x1 δ)) (hh : dh + 2 ≤ d) (hd : 8 ≤ d) {a0 : Nat} {x1 : Int32} (k0 : q_K g a0 = 9) {kt7 : Int32 → dp → Option (dp)} (hk7 : ∀ (x2v : Int32) (δ : dp), AWD l D cy m_X9_readProduct d 0 0 ev g 7 [(0, .ref a0), (1, .int x1), (2, .int x2v)] [] δ (kt7 x2v δ)) : ∀ (xs0 : Int32) (as1 : Nat) (x2v : Int32) (δ : dp), q_K g as1 = 8 → AWD l D cy m_X9_readProduct d 0 0 ev g 75 [(0, .ref a0), (1, .int x1), (2, .int x2v)] [.int xs0, .ref as1] δ (J_X9_readProduct_75 N g T a0 x1 kt7 xs0 as1 x2v δ) := by
    intro xs0 as1 x2v δ has1
    unfold J_X9_readProduct_75
    refine w_iconst (v := 0) (μ := m_X9_readProduct) (pc := 75) dX9_readProduct_75 (by decide) ?_
    refine w_callV (As := [.int xs0, .int 0]) (rest := []) (μ := m_X9_readProduct) (pc := 76) dX9_readProduct_76 cv_X9_89 rfl rfl has1 (by decide) rfl (Nat.le_of_ble_eq_true rfl) (d' := d - 1) (by omega) he_v (c_X8_add wt hl (d := d - 1) (by omega) has1) (fun r_22 => ?_)
    refine w_inb (fun x_23 e_24 => ?_)
    refine w_iinc 2 [(2, .int x_23), (0, .ref a0), (1, .int x1)] (μ := m_X9_readProduct) (pc := 79) dX9_readProduct_79 rfl (by rw [e_24]; rfl) (by decide) rfl ?_
    refine w_goto 7 (μ := m_X9_readProduct) (pc := 82) dX9_readProduct_82 (by decide) ?_
    refine w_lv [1, 2, 0] rfl ?_
    exact hk7 _ _
def J_X9_readProduct_45 (N : Nat) (g : gp) (T : Nat → Int32 → dp → Option (dp)) (a0 : Nat) (x1 : Int32) (kt7 : Int32 → dp → Option (dp)) (x2v : Int32) (x3v : Int32) (δ : dp) : Option (dp) :=
  (q_V δ 9 0 a0).bind fun b_13 => if q_K g b_13 = 7 then (D_X7_needSign N g b_13 x3v δ).bind fun r_16 => (B_X9_readUnit N g T a0 x1 r_16).bind fun r_17 => (q_V r_17 9 1 a0).bind fun b_18 => if q_K g b_18 = 8 then if x3v = (42 : Int32) then (J_X9_readProduct_75 N g T a0 x1 kt7 7 b_18 x2v r_17) else (J_X9_readProduct_75 N g T a0 x1 kt7 8 b_18 x2v r_17) else none else none
set_option maxHeartbeats 4000000 in
set_option maxRecDepth 100000 in
theorem t_J_X9_readProduct_45 {l : Launch} {D : va_G} {cy : Nat → ClassId} {N d : Nat} {g : gp} (wt : WT g) (hl : l.stackTraces = false) {T : Nat → Int32 → dp → Option (dp)} {dh : Nat} (hT : ∀ (a0 : Nat) (x1 : Int32) (δ : dp), q_K g a0 = 9 → CalD l D cy m_X9_readSum dh 0 0 ev g [.ref a0, .int x1] δ (T a0 x1 δ)) (hh : dh + 2 ≤ d) (hd : 8 ≤ d) {a0 : Nat} {x1 : Int32} (k0 : q_K g a0 = 9) {kt7 : Int32 → dp → Option (dp)} (hk7 : ∀ (x2v : Int32) (δ : dp), AWD l D cy m_X9_readProduct d 0 0 ev g 7 [(0, .ref a0), (1, .int x1), (2, .int x2v)] [] δ (kt7 x2v δ)) : ∀ (x2v : Int32) (x3v : Int32) (δ : dp), AWD l D cy m_X9_readProduct d 0 0 ev g 45 [(0, .ref a0), (1, .int x1), (2, .int x2v), (3, .int x3v)] [] δ (J_X9_readProduct_45 N g T a0 x1 kt7 x2v x3v δ) := by
    intro x2v x3v δ 
    unfold J_X9_readProduct_45
    refine w_aload_n 0 0 (μ := m_X9_readProduct) (pc := 45) dX9_readProduct_45 rfl rfl ?_
    refine w_getV (μ := m_X9_readProduct) (pc := 46) dX9_readProduct_46 fl_X9_20 ir_9_0 id_9_0 k0 (fun b_13 e_14 => ?_)
    refine w_gd (fun z_15 => ?_)
    refine w_iload_n 3 3 (μ := m_X9_readProduct) (pc := 49) dX9_readProduct_49 rfl rfl ?_
    refine w_callV (As := [.int x3v]) (rest := []) (μ := m_X9_readProduct) (pc := 50) dX9_readProduct_50 cv_X9_86 rfl rfl z_15 (by decide) rfl (Nat.le_of_ble_eq_true rfl) (d' := d - 1) (by omega) he_v (c_X7_needSign wt hl (d := d - 1) (by omega) z_15) (fun r_16 => ?_)
    refine w_aload_n 0 0 (μ := m_X9_readProduct) (pc := 53) dX9_readProduct_53 rfl rfl ?_
    refine w_iload_n 1 1 (μ := m_X9_readProduct) (pc := 54) dX9_readProduct_54 rfl rfl ?_
    refine w_callV (As := [.int x1]) (rest := []) (μ := m_X9_readProduct) (pc := 55) dX9_readProduct_55 cv_X9_113 rfl rfl k0 (by decide) rfl (Nat.le_of_ble_eq_true rfl) (d' := d - 1) (by omega) he_v (c_b_X9_readUnit wt hl (d := d - 1) hT (by omega) (by omega) k0) (fun r_17 => ?_)
    refine w_aload_n 0 0 (μ := m_X9_readProduct) (pc := 58) dX9_readProduct_58 rfl rfl ?_
    refine w_getV (μ := m_X9_readProduct) (pc := 59) dX9_readProduct_59 fl_X9_24 ir_9_1 id_9_1 k0 (fun b_18 e_19 => ?_)
    refine w_gd (fun z_20 => ?_)
    refine w_iload_n 3 3 (μ := m_X9_readProduct) (pc := 62) dX9_readProduct_62 rfl rfl ?_
    refine w_bipush (v := 42) (μ := m_X9_readProduct) (pc := 63) dX9_readProduct_63 (by decide) ?_
    refine w_icmp_ne 73 (μ := m_X9_readProduct) (pc := 65) dX9_readProduct_65 (by decide) (fun c_21 => ?_) (fun c_21 => ?_)
    · refine w_bipush (v := 8) (μ := m_X9_readProduct) (pc := 73) dX9_readProduct_73 (by decide) ?_
      refine w_lv [0, 1, 2] rfl ?_
      exact t_J_X9_readProduct_75 wt hl hT (by omega) (by omega) k0 hk7 _ _ _ _ z_20
    · refine w_bipush (v := 7) (μ := m_X9_readProduct) (pc := 68) dX9_readProduct_68 (by decide) ?_
      refine w_goto 75 (μ := m_X9_readProduct) (pc := 70) dX9_readProduct_70 (by decide) ?_
      refine w_lv [0, 1, 2] rfl ?_
      exact t_J_X9_readProduct_75 wt hl hT (by omega) (by omega) k0 hk7 _ _ _ _ z_20
def L_X9_readProduct_7 (N : Nat) (g : gp) (T : Nat → Int32 → dp → Option (dp)) (a0 : Nat) (x1 : Int32) : Nat → Int32 → dp → Option (dp)
  | 0, _, _ => none
  | n + 1, x2v, δ => if (500 : Int32) ≤ x2v then (J_X9_readProduct_85 N g T a0 x1 δ) else ((q_V δ 9 0 a0).bind fun b_3 => if q_K g b_3 = 7 then (D_X7_isSound N g b_3 δ).bind fun r_6 => if r_6.1 = 0 then (J_X9_readProduct_85 N g T a0 x1 r_6.2) else ((q_V r_6.2 9 0 a0).bind fun b_8 => if q_K g b_8 = 7 then (D_X7_ahead N g b_8 r_6.2).bind fun r_11 => if r_11.1 = (42 : Int32) then (J_X9_readProduct_45 N g T a0 x1 (L_X9_readProduct_7 N g T a0 x1 n) x2v r_11.1 r_11.2) else (if r_11.1 = (37 : Int32) then (J_X9_readProduct_45 N g T a0 x1 (L_X9_readProduct_7 N g T a0 x1 n) x2v r_11.1 r_11.2) else (some r_11.2)) else none) else none)
set_option maxHeartbeats 4000000 in
set_option maxRecDepth 100000 in
theorem t_L_X9_readProduct_7 {l : Launch} {D : va_G} {cy : Nat → ClassId} {N d : Nat} {g : gp} (wt : WT g) (hl : l.stackTraces = false) {T : Nat → Int32 → dp → Option (dp)} {dh : Nat} (hT : ∀ (a0 : Nat) (x1 : Int32) (δ : dp), q_K g a0 = 9 → CalD l D cy m_X9_readSum dh 0 0 ev g [.ref a0, .int x1] δ (T a0 x1 δ)) (hh : dh + 2 ≤ d) (hd : 8 ≤ d) {a0 : Nat} {x1 : Int32} (k0 : q_K g a0 = 9) : ∀ (n : Nat) (x2v : Int32) (δ : dp), AWD l D cy m_X9_readProduct d 0 0 ev g 7 [(0, .ref a0), (1, .int x1), (2, .int x2v)] [] δ (L_X9_readProduct_7 N g T a0 x1 n x2v δ) := by
  intro n
  induction n with
  | zero => intro x2v δ ; exact w_none
  | succ n ih =>
    intro x2v δ 
    unfold L_X9_readProduct_7
    refine w_iload_n 2 2 (μ := m_X9_readProduct) (pc := 7) dX9_readProduct_7 rfl rfl ?_
    refine w_sipush (v := 500) (μ := m_X9_readProduct) (pc := 8) dX9_readProduct_8 (by decide) ?_
    refine w_icmp_ge 85 (μ := m_X9_readProduct) (pc := 11) dX9_readProduct_11 (by decide) (fun c_2 => ?_) (fun c_2 => ?_)
    · refine w_lv [] rfl ?_
      exact t_J_X9_readProduct_85 wt hl hT (by omega) (by omega) k0 _
    · refine w_aload_n 0 0 (μ := m_X9_readProduct) (pc := 14) dX9_readProduct_14 rfl rfl ?_
      refine w_getV (μ := m_X9_readProduct) (pc := 15) dX9_readProduct_15 fl_X9_20 ir_9_0 id_9_0 k0 (fun b_3 e_4 => ?_)
      refine w_gd (fun z_5 => ?_)
      refine w_callV (As := []) (rest := []) (μ := m_X9_readProduct) (pc := 18) dX9_readProduct_18 cv_X9_41 rfl rfl z_5 (by decide) rfl (Nat.le_of_ble_eq_true rfl) (d' := d - 1) (by omega) he_i (c_X7_isSound wt hl (d := d - 1) (by omega) z_5) (fun r_6 => ?_)
      refine w_if_eq 85 (μ := m_X9_readProduct) (pc := 21) dX9_readProduct_21 (by decide) (fun c_7 => ?_) (fun c_7 => ?_)
      · refine w_lv [] rfl ?_
        exact t_J_X9_readProduct_85 wt hl hT (by omega) (by omega) k0 _
      · refine w_aload_n 0 0 (μ := m_X9_readProduct) (pc := 24) dX9_readProduct_24 rfl rfl ?_
        refine w_getV (μ := m_X9_readProduct) (pc := 25) dX9_readProduct_25 fl_X9_20 ir_9_0 id_9_0 k0 (fun b_8 e_9 => ?_)
        refine w_gd (fun z_10 => ?_)
        refine w_callV (As := []) (rest := []) (μ := m_X9_readProduct) (pc := 28) dX9_readProduct_28 cv_X9_57 rfl rfl z_10 (by decide) rfl (Nat.le_of_ble_eq_true rfl) (d' := d - 1) (by omega) he_i (c_X7_ahead wt hl (d := d - 1) (by omega) z_10) (fun r_11 => ?_)
        refine w_istore_n [(3, .int r_11.1), (0, .ref a0), (1, .int x1), (2, .int x2v)] (μ := m_X9_readProduct) (pc := 31) dX9_readProduct_31 rfl (by decide) rfl ?_
        refine w_iload_n 0 3 (μ := m_X9_readProduct) (pc := 32) dX9_readProduct_32 rfl rfl ?_
        refine w_bipush (v := 42) (μ := m_X9_readProduct) (pc := 33) dX9_readProduct_33 (by decide) ?_
        refine w_icmp_eq 45 (μ := m_X9_readProduct) (pc := 35) dX9_readProduct_35 (by decide) (fun c_12 => ?_) (fun c_12 => ?_)
        · refine w_lv [1, 2, 3, 0] rfl ?_
          exact t_J_X9_readProduct_45 wt hl hT (by omega) (by omega) k0 ih _ _ _
        · refine w_iload_n 0 3 (μ := m_X9_readProduct) (pc := 38) dX9_readProduct_38 rfl rfl ?_
          refine w_bipush (v := 37) (μ := m_X9_readProduct) (pc := 39) dX9_readProduct_39 (by decide) ?_
          refine w_icmp_eq 45 (μ := m_X9_readProduct) (pc := 41) dX9_readProduct_41 (by decide) (fun c_25 => ?_) (fun c_25 => ?_)
          · refine w_lv [1, 2, 3, 0] rfl ?_
            exact t_J_X9_readProduct_45 wt hl hT (by omega) (by omega) k0 ih _ _ _
          · exact w_vret (μ := m_X9_readProduct) (pc := 44) dX9_readProduct_44 rfl rfl
def B_X9_readProduct (N : Nat) (g : gp) (T : Nat → Int32 → dp → Option (dp)) (a0 : Nat) (x1 : Int32) (δ : dp) : Option (dp) :=
  (B_X9_readUnit N g T a0 x1 δ).bind fun r_1 => L_X9_readProduct_7 N g T a0 x1 N 0 r_1
set_option maxHeartbeats 4000000 in
set_option maxRecDepth 100000 in
theorem c_b_X9_readProduct {l : Launch} {D : va_G} {cy : Nat → ClassId} {N d : Nat} {g : gp} (wt : WT g) (hl : l.stackTraces = false) {T : Nat → Int32 → dp → Option (dp)} {dh : Nat} (hT : ∀ (a0 : Nat) (x1 : Int32) (δ : dp), q_K g a0 = 9 → CalD l D cy m_X9_readSum dh 0 0 ev g [.ref a0, .int x1] δ (T a0 x1 δ)) (hh : dh + 2 ≤ d) (hd : 8 ≤ d) {a0 : Nat} {x1 : Int32} {δ : dp} (k0 : q_K g a0 = 9) : CalD l D cy m_X9_readProduct d 0 0 ev g [.ref a0, .int x1] δ (B_X9_readProduct N g T a0 x1 δ) := by
  refine CalD.of (by decide +kernel) (Nat.le_of_ble_eq_true rfl) hl ?_
  unfold B_X9_readProduct
  refine w_aload_n 0 0 (μ := m_X9_readProduct) (pc := 0) dX9_readProduct_0 rfl rfl ?_
  refine w_iload_n 1 1 (μ := m_X9_readProduct) (pc := 1) dX9_readProduct_1 rfl rfl ?_
  refine w_callV (As := [.int x1]) (rest := []) (μ := m_X9_readProduct) (pc := 2) dX9_readProduct_2 cv_X9_113 rfl rfl k0 (by decide) rfl (Nat.le_of_ble_eq_true rfl) (d' := d - 1) (by omega) he_v (c_b_X9_readUnit wt hl (d := d - 1) hT (by omega) (by omega) k0) (fun r_1 => ?_)
  refine w_iconst (v := 0) (μ := m_X9_readProduct) (pc := 5) dX9_readProduct_5 (by decide) ?_
  refine w_istore_n [(2, .int 0), (0, .ref a0), (1, .int x1)] (μ := m_X9_readProduct) (pc := 6) dX9_readProduct_6 rfl (by decide) rfl ?_
  refine w_lv [1, 2, 0] rfl ?_
  exact t_L_X9_readProduct_7 wt hl hT (by omega) (by omega) k0 N _ _
def J_X9_readSum_84 (N : Nat) (g : gp) (T : Nat → Int32 → dp → Option (dp)) (a0 : Nat) (x1 : Int32) (δ : dp) : Option (dp) :=
  some δ
set_option maxHeartbeats 4000000 in
set_option maxRecDepth 100000 in
theorem t_J_X9_readSum_84 {l : Launch} {D : va_G} {cy : Nat → ClassId} {N d : Nat} {g : gp} (wt : WT g) (hl : l.stackTraces = false) {T : Nat → Int32 → dp → Option (dp)} {dh : Nat} (hT : ∀ (a0 : Nat) (x1 : Int32) (δ : dp), q_K g a0 = 9 → CalD l D cy m_X9_readSum dh 0 0 ev g [.ref a0, .int x1] δ (T a0 x1 δ)) (hh : dh + 3 ≤ d) (hd : 9 ≤ d) {a0 : Nat} {x1 : Int32} (k0 : q_K g a0 = 9) : ∀ (δ : dp), AWD l D cy m_X9_readSum d 0 0 ev g 84 [] [] δ (J_X9_readSum_84 N g T a0 x1 δ) := by
    intro  δ 
    unfold J_X9_readSum_84
    exact w_vret (μ := m_X9_readSum) (pc := 84) dX9_readSum_84 rfl rfl
def J_X9_readSum_74 (N : Nat) (g : gp) (T : Nat → Int32 → dp → Option (dp)) (a0 : Nat) (x1 : Int32) (kt7 : Int32 → dp → Option (dp)) (xs0 : Int32) (as1 : Nat) (x2v : Int32) (δ : dp) : Option (dp) :=
  (D_X8_add N g as1 xs0 0 δ).bind fun r_22 => bi (x2v + 1) fun x_23 => kt7 x_23 r_22
set_option maxHeartbeats 4000000 in
set_option maxRecDepth 100000 in
theorem t_J_X9_readSum_74 {l : Launch} {D : va_G} {cy : Nat → ClassId} {N d : Nat} {g : gp} (wt : WT g) (hl : l.stackTraces = false) {T : Nat → Int32 → dp → Option (dp)} {dh : Nat} (hT : ∀ (a0 : Nat) (x1 : Int32) (δ : dp), q_K g a0 = 9 → CalD l D cy m_X9_readSum dh 0 0 ev g [.ref a0, .int x1] δ (T a0 x1 δ)) (hh : dh + 3 ≤ d) (hd : 9 ≤ d) {a0 : Nat} {x1 : Int32} (k0 : q_K g a0 = 9) {kt7 : Int32 → dp → Option (dp)} (hk7 : ∀ (x2v : Int32) (δ : dp), AWD l D cy m_X9_readSum d 0 0 ev g 7 [(0, .ref a0), (1, .int x1), (2, .int x2v)] [] δ (kt7 x2v δ)) : ∀ (xs0 : Int32) (as1 : Nat) (x2v : Int32) (δ : dp), q_K g as1 = 8 → AWD l D cy m_X9_readSum d 0 0 ev g 74 [(0, .ref a0), (1, .int x1), (2, .int x2v)] [.int xs0, .ref as1] δ (J_X9_readSum_74 N g T a0 x1 kt7 xs0 as1 x2v δ) := by
    intro xs0 as1 x2v δ has1
    unfold J_X9_readSum_74
    refine w_iconst (v := 0) (μ := m_X9_readSum) (pc := 74) dX9_readSum_74 (by decide) ?_
    refine w_callV (As := [.int xs0, .int 0]) (rest := []) (μ := m_X9_readSum) (pc := 75) dX9_readSum_75 cv_X9_89 rfl rfl has1 (by decide) rfl (Nat.le_of_ble_eq_true rfl) (d' := d - 1) (by omega) he_v (c_X8_add wt hl (d := d - 1) (by omega) has1) (fun r_22 => ?_)
    refine w_inb (fun x_23 e_24 => ?_)
    refine w_iinc 2 [(2, .int x_23), (0, .ref a0), (1, .int x1)] (μ := m_X9_readSum) (pc := 78) dX9_readSum_78 rfl (by rw [e_24]; rfl) (by decide) rfl ?_
    refine w_goto 7 (μ := m_X9_readSum) (pc := 81) dX9_readSum_81 (by decide) ?_
    refine w_lv [1, 2, 0] rfl ?_
    exact hk7 _ _
def J_X9_readSum_45 (N : Nat) (g : gp) (T : Nat → Int32 → dp → Option (dp)) (a0 : Nat) (x1 : Int32) (kt7 : Int32 → dp → Option (dp)) (x2v : Int32) (x3v : Int32) (δ : dp) : Option (dp) :=
  (q_V δ 9 0 a0).bind fun b_13 => if q_K g b_13 = 7 then (D_X7_needSign N g b_13 x3v δ).bind fun r_16 => (B_X9_readProduct N g T a0 x1 r_16).bind fun r_17 => (q_V r_17 9 1 a0).bind fun b_18 => if q_K g b_18 = 8 then if x3v = (43 : Int32) then (J_X9_readSum_74 N g T a0 x1 kt7 5 b_18 x2v r_17) else (J_X9_readSum_74 N g T a0 x1 kt7 6 b_18 x2v r_17) else none else none
set_option maxHeartbeats 4000000 in
set_option maxRecDepth 100000 in
theorem t_J_X9_readSum_45 {l : Launch} {D : va_G} {cy : Nat → ClassId} {N d : Nat} {g : gp} (wt : WT g) (hl : l.stackTraces = false) {T : Nat → Int32 → dp → Option (dp)} {dh : Nat} (hT : ∀ (a0 : Nat) (x1 : Int32) (δ : dp), q_K g a0 = 9 → CalD l D cy m_X9_readSum dh 0 0 ev g [.ref a0, .int x1] δ (T a0 x1 δ)) (hh : dh + 3 ≤ d) (hd : 9 ≤ d) {a0 : Nat} {x1 : Int32} (k0 : q_K g a0 = 9) {kt7 : Int32 → dp → Option (dp)} (hk7 : ∀ (x2v : Int32) (δ : dp), AWD l D cy m_X9_readSum d 0 0 ev g 7 [(0, .ref a0), (1, .int x1), (2, .int x2v)] [] δ (kt7 x2v δ)) : ∀ (x2v : Int32) (x3v : Int32) (δ : dp), AWD l D cy m_X9_readSum d 0 0 ev g 45 [(0, .ref a0), (1, .int x1), (2, .int x2v), (3, .int x3v)] [] δ (J_X9_readSum_45 N g T a0 x1 kt7 x2v x3v δ) := by
    intro x2v x3v δ 
    unfold J_X9_readSum_45
    refine w_aload_n 0 0 (μ := m_X9_readSum) (pc := 45) dX9_readSum_45 rfl rfl ?_
    refine w_getV (μ := m_X9_readSum) (pc := 46) dX9_readSum_46 fl_X9_20 ir_9_0 id_9_0 k0 (fun b_13 e_14 => ?_)
    refine w_gd (fun z_15 => ?_)
    refine w_iload_n 3 3 (μ := m_X9_readSum) (pc := 49) dX9_readSum_49 rfl rfl ?_
    refine w_callV (As := [.int x3v]) (rest := []) (μ := m_X9_readSum) (pc := 50) dX9_readSum_50 cv_X9_86 rfl rfl z_15 (by decide) rfl (Nat.le_of_ble_eq_true rfl) (d' := d - 1) (by omega) he_v (c_X7_needSign wt hl (d := d - 1) (by omega) z_15) (fun r_16 => ?_)
    refine w_aload_n 0 0 (μ := m_X9_readSum) (pc := 53) dX9_readSum_53 rfl rfl ?_
    refine w_iload_n 1 1 (μ := m_X9_readSum) (pc := 54) dX9_readSum_54 rfl rfl ?_
    refine w_callV (As := [.int x1]) (rest := []) (μ := m_X9_readSum) (pc := 55) dX9_readSum_55 cv_X9_110 rfl rfl k0 (by decide) rfl (Nat.le_of_ble_eq_true rfl) (d' := d - 1) (by omega) he_v (c_b_X9_readProduct wt hl (d := d - 1) hT (by omega) (by omega) k0) (fun r_17 => ?_)
    refine w_aload_n 0 0 (μ := m_X9_readSum) (pc := 58) dX9_readSum_58 rfl rfl ?_
    refine w_getV (μ := m_X9_readSum) (pc := 59) dX9_readSum_59 fl_X9_24 ir_9_1 id_9_1 k0 (fun b_18 e_19 => ?_)
    refine w_gd (fun z_20 => ?_)
    refine w_iload_n 3 3 (μ := m_X9_readSum) (pc := 62) dX9_readSum_62 rfl rfl ?_
    refine w_bipush (v := 43) (μ := m_X9_readSum) (pc := 63) dX9_readSum_63 (by decide) ?_
    refine w_icmp_ne 72 (μ := m_X9_readSum) (pc := 65) dX9_readSum_65 (by decide) (fun c_21 => ?_) (fun c_21 => ?_)
    · refine w_bipush (v := 6) (μ := m_X9_readSum) (pc := 72) dX9_readSum_72 (by decide) ?_
      refine w_lv [0, 1, 2] rfl ?_
      exact t_J_X9_readSum_74 wt hl hT (by omega) (by omega) k0 hk7 _ _ _ _ z_20
    · refine w_iconst (v := 5) (μ := m_X9_readSum) (pc := 68) dX9_readSum_68 (by decide) ?_
      refine w_goto 74 (μ := m_X9_readSum) (pc := 69) dX9_readSum_69 (by decide) ?_
      refine w_lv [0, 1, 2] rfl ?_
      exact t_J_X9_readSum_74 wt hl hT (by omega) (by omega) k0 hk7 _ _ _ _ z_20
def L_X9_readSum_7 (N : Nat) (g : gp) (T : Nat → Int32 → dp → Option (dp)) (a0 : Nat) (x1 : Int32) : Nat → Int32 → dp → Option (dp)
  | 0, _, _ => none
  | n + 1, x2v, δ => if (500 : Int32) ≤ x2v then (J_X9_readSum_84 N g T a0 x1 δ) else ((q_V δ 9 0 a0).bind fun b_3 => if q_K g b_3 = 7 then (D_X7_isSound N g b_3 δ).bind fun r_6 => if r_6.1 = 0 then (J_X9_readSum_84 N g T a0 x1 r_6.2) else ((q_V r_6.2 9 0 a0).bind fun b_8 => if q_K g b_8 = 7 then (D_X7_ahead N g b_8 r_6.2).bind fun r_11 => if r_11.1 = (43 : Int32) then (J_X9_readSum_45 N g T a0 x1 (L_X9_readSum_7 N g T a0 x1 n) x2v r_11.1 r_11.2) else (if r_11.1 = (45 : Int32) then (J_X9_readSum_45 N g T a0 x1 (L_X9_readSum_7 N g T a0 x1 n) x2v r_11.1 r_11.2) else (some r_11.2)) else none) else none)
set_option maxHeartbeats 4000000 in
set_option maxRecDepth 100000 in
theorem t_L_X9_readSum_7 {l : Launch} {D : va_G} {cy : Nat → ClassId} {N d : Nat} {g : gp} (wt : WT g) (hl : l.stackTraces = false) {T : Nat → Int32 → dp → Option (dp)} {dh : Nat} (hT : ∀ (a0 : Nat) (x1 : Int32) (δ : dp), q_K g a0 = 9 → CalD l D cy m_X9_readSum dh 0 0 ev g [.ref a0, .int x1] δ (T a0 x1 δ)) (hh : dh + 3 ≤ d) (hd : 9 ≤ d) {a0 : Nat} {x1 : Int32} (k0 : q_K g a0 = 9) : ∀ (n : Nat) (x2v : Int32) (δ : dp), AWD l D cy m_X9_readSum d 0 0 ev g 7 [(0, .ref a0), (1, .int x1), (2, .int x2v)] [] δ (L_X9_readSum_7 N g T a0 x1 n x2v δ) := by
  intro n
  induction n with
  | zero => intro x2v δ ; exact w_none
  | succ n ih =>
    intro x2v δ 
    unfold L_X9_readSum_7
    refine w_iload_n 2 2 (μ := m_X9_readSum) (pc := 7) dX9_readSum_7 rfl rfl ?_
    refine w_sipush (v := 500) (μ := m_X9_readSum) (pc := 8) dX9_readSum_8 (by decide) ?_
    refine w_icmp_ge 84 (μ := m_X9_readSum) (pc := 11) dX9_readSum_11 (by decide) (fun c_2 => ?_) (fun c_2 => ?_)
    · refine w_lv [] rfl ?_
      exact t_J_X9_readSum_84 wt hl hT (by omega) (by omega) k0 _
    · refine w_aload_n 0 0 (μ := m_X9_readSum) (pc := 14) dX9_readSum_14 rfl rfl ?_
      refine w_getV (μ := m_X9_readSum) (pc := 15) dX9_readSum_15 fl_X9_20 ir_9_0 id_9_0 k0 (fun b_3 e_4 => ?_)
      refine w_gd (fun z_5 => ?_)
      refine w_callV (As := []) (rest := []) (μ := m_X9_readSum) (pc := 18) dX9_readSum_18 cv_X9_41 rfl rfl z_5 (by decide) rfl (Nat.le_of_ble_eq_true rfl) (d' := d - 1) (by omega) he_i (c_X7_isSound wt hl (d := d - 1) (by omega) z_5) (fun r_6 => ?_)
      refine w_if_eq 84 (μ := m_X9_readSum) (pc := 21) dX9_readSum_21 (by decide) (fun c_7 => ?_) (fun c_7 => ?_)
      · refine w_lv [] rfl ?_
        exact t_J_X9_readSum_84 wt hl hT (by omega) (by omega) k0 _
      · refine w_aload_n 0 0 (μ := m_X9_readSum) (pc := 24) dX9_readSum_24 rfl rfl ?_
        refine w_getV (μ := m_X9_readSum) (pc := 25) dX9_readSum_25 fl_X9_20 ir_9_0 id_9_0 k0 (fun b_8 e_9 => ?_)
        refine w_gd (fun z_10 => ?_)
        refine w_callV (As := []) (rest := []) (μ := m_X9_readSum) (pc := 28) dX9_readSum_28 cv_X9_57 rfl rfl z_10 (by decide) rfl (Nat.le_of_ble_eq_true rfl) (d' := d - 1) (by omega) he_i (c_X7_ahead wt hl (d := d - 1) (by omega) z_10) (fun r_11 => ?_)
        refine w_istore_n [(3, .int r_11.1), (0, .ref a0), (1, .int x1), (2, .int x2v)] (μ := m_X9_readSum) (pc := 31) dX9_readSum_31 rfl (by decide) rfl ?_
        refine w_iload_n 0 3 (μ := m_X9_readSum) (pc := 32) dX9_readSum_32 rfl rfl ?_
        refine w_bipush (v := 43) (μ := m_X9_readSum) (pc := 33) dX9_readSum_33 (by decide) ?_
        refine w_icmp_eq 45 (μ := m_X9_readSum) (pc := 35) dX9_readSum_35 (by decide) (fun c_12 => ?_) (fun c_12 => ?_)
        · refine w_lv [1, 2, 3, 0] rfl ?_
          exact t_J_X9_readSum_45 wt hl hT (by omega) (by omega) k0 ih _ _ _
        · refine w_iload_n 0 3 (μ := m_X9_readSum) (pc := 38) dX9_readSum_38 rfl rfl ?_
          refine w_bipush (v := 45) (μ := m_X9_readSum) (pc := 39) dX9_readSum_39 (by decide) ?_
          refine w_icmp_eq 45 (μ := m_X9_readSum) (pc := 41) dX9_readSum_41 (by decide) (fun c_25 => ?_) (fun c_25 => ?_)
          · refine w_lv [1, 2, 3, 0] rfl ?_
            exact t_J_X9_readSum_45 wt hl hT (by omega) (by omega) k0 ih _ _ _
          · exact w_vret (μ := m_X9_readSum) (pc := 44) dX9_readSum_44 rfl rfl
def B_X9_readSum (N : Nat) (g : gp) (T : Nat → Int32 → dp → Option (dp)) (a0 : Nat) (x1 : Int32) (δ : dp) : Option (dp) :=
  (B_X9_readProduct N g T a0 x1 δ).bind fun r_1 => L_X9_readSum_7 N g T a0 x1 N 0 r_1
set_option maxHeartbeats 4000000 in
set_option maxRecDepth 100000 in
theorem c_b_X9_readSum {l : Launch} {D : va_G} {cy : Nat → ClassId} {N d : Nat} {g : gp} (wt : WT g) (hl : l.stackTraces = false) {T : Nat → Int32 → dp → Option (dp)} {dh : Nat} (hT : ∀ (a0 : Nat) (x1 : Int32) (δ : dp), q_K g a0 = 9 → CalD l D cy m_X9_readSum dh 0 0 ev g [.ref a0, .int x1] δ (T a0 x1 δ)) (hh : dh + 3 ≤ d) (hd : 9 ≤ d) {a0 : Nat} {x1 : Int32} {δ : dp} (k0 : q_K g a0 = 9) : CalD l D cy m_X9_readSum d 0 0 ev g [.ref a0, .int x1] δ (B_X9_readSum N g T a0 x1 δ) := by
  refine CalD.of (by decide +kernel) (Nat.le_of_ble_eq_true rfl) hl ?_
  unfold B_X9_readSum
  refine w_aload_n 0 0 (μ := m_X9_readSum) (pc := 0) dX9_readSum_0 rfl rfl ?_
  refine w_iload_n 1 1 (μ := m_X9_readSum) (pc := 1) dX9_readSum_1 rfl rfl ?_
  refine w_callV (As := [.int x1]) (rest := []) (μ := m_X9_readSum) (pc := 2) dX9_readSum_2 cv_X9_110 rfl rfl k0 (by decide) rfl (Nat.le_of_ble_eq_true rfl) (d' := d - 1) (by omega) he_v (c_b_X9_readProduct wt hl (d := d - 1) hT (by omega) (by omega) k0) (fun r_1 => ?_)
  refine w_iconst (v := 0) (μ := m_X9_readSum) (pc := 5) dX9_readSum_5 (by decide) ?_
  refine w_istore_n [(2, .int 0), (0, .ref a0), (1, .int x1)] (μ := m_X9_readSum) (pc := 6) dX9_readSum_6 rfl (by decide) rfl ?_
  refine w_lv [1, 2, 0] rfl ?_
  exact t_L_X9_readSum_7 wt hl hT (by omega) (by omega) k0 N _ _
def E_X9_readSum (N : Nat) (g : gp) : Nat → Nat → Int32 → dp → Option (dp)
  | 0, _, _, _ => none
  | k + 1, a0, x1, δ => B_X9_readSum N g (E_X9_readSum N g k) a0 x1 δ
theorem e_X9_readSum {l : Launch} {D : va_G} {cy : Nat → ClassId} {N : Nat} {g : gp} (wt : WT g) (hl : l.stackTraces = false) : ∀ (k d : Nat), 9 + 3 * k ≤ d → ∀ (a0 : Nat) (x1 : Int32) (δ : dp), q_K g a0 = 9 → CalD l D cy m_X9_readSum d 0 0 ev g [.ref a0, .int x1] δ (E_X9_readSum N g k a0 x1 δ) := by
  intro k
  induction k with
  | zero => intro d _ a0 x1 δ k0 r hr; cases hr
  | succ k ih =>
    intro d hd a0 x1 δ k0
    unfold E_X9_readSum
    exact c_b_X9_readSum wt hl (ih (9 + 3 * k) (Nat.le_refl _)) (by omega) (by omega) k0
def D_X9_readSum (N : Nat) (g : gp) (a0 : Nat) (x1 : Int32) (δ : dp) : Option (dp) := E_X9_readSum N g 20 a0 x1 δ
theorem c_X9_readSum {l : Launch} {D : va_G} {cy : Nat → ClassId} {N d : Nat} {g : gp} (wt : WT g) (hl : l.stackTraces = false) (hd : 69 ≤ d) {a0 : Nat} {x1 : Int32} {δ : dp} (k0 : q_K g a0 = 9) : CalD l D cy m_X9_readSum d 0 0 ev g [.ref a0, .int x1] δ (D_X9_readSum N g a0 x1 δ) := e_X9_readSum wt hl 20 d (by omega) _ _ _ k0
def J_X9_readStep_163 (N : Nat) (g : gp) (a0 : Nat) (δ : dp) : Option (dp) :=
  some δ
set_option maxHeartbeats 4000000 in
set_option maxRecDepth 100000 in
theorem t_J_X9_readStep_163 {l : Launch} {D : va_G} {cy : Nat → ClassId} {N d : Nat} {g : gp} (wt : WT g) (hl : l.stackTraces = false) (hd : 70 ≤ d) {a0 : Nat} (k0 : q_K g a0 = 9) : ∀ (δ : dp), AWD l D cy m_X9_readStep d 0 0 ev g 163 [] [] δ (J_X9_readStep_163 N g a0 δ) := by
    intro  δ 
    unfold J_X9_readStep_163
    exact w_vret (μ := m_X9_readStep) (pc := 163) dX9_readStep_163 rfl rfl
def J_X9_readStep_87 (N : Nat) (g : gp) (a0 : Nat) (δ : dp) : Option (dp) :=
  (q_V δ 9 0 a0).bind fun b_13 => if q_K g b_13 = 7 then (D_X7_refuse N g b_13 3 δ).bind fun r_16 => J_X9_readStep_163 N g a0 r_16 else none
set_option maxHeartbeats 4000000 in
set_option maxRecDepth 100000 in
theorem t_J_X9_readStep_87 {l : Launch} {D : va_G} {cy : Nat → ClassId} {N d : Nat} {g : gp} (wt : WT g) (hl : l.stackTraces = false) (hd : 70 ≤ d) {a0 : Nat} (k0 : q_K g a0 = 9) : ∀ (δ : dp), AWD l D cy m_X9_readStep d 0 0 ev g 87 [(0, .ref a0)] [] δ (J_X9_readStep_87 N g a0 δ) := by
    intro  δ 
    unfold J_X9_readStep_87
    refine w_aload_n 0 0 (μ := m_X9_readStep) (pc := 87) dX9_readStep_87 rfl rfl ?_
    refine w_getV (μ := m_X9_readStep) (pc := 88) dX9_readStep_88 fl_X9_20 ir_9_0 id_9_0 k0 (fun b_13 e_14 => ?_)
    refine w_gd (fun z_15 => ?_)
    refine w_iconst (v := 3) (μ := m_X9_readStep) (pc := 91) dX9_readStep_91 (by decide) ?_
    refine w_callV (As := [.int 3]) (rest := []) (μ := m_X9_readStep) (pc := 92) dX9_readStep_92 cv_X9_53 rfl rfl z_15 (by decide) rfl (Nat.le_of_ble_eq_true rfl) (d' := d - 1) (by omega) he_v (c_X7_refuse wt hl (d := d - 1) (by omega) z_15) (fun r_16 => ?_)
    refine w_goto 163 (μ := m_X9_readStep) (pc := 95) dX9_readStep_95 (by decide) ?_
    refine w_lv [] rfl ?_
    exact t_J_X9_readStep_163 wt hl (by omega) k0 _
def J_X9_readStep_98 (N : Nat) (g : gp) (a0 : Nat) (x1v : Int32) (x2v : Int32) (δ : dp) : Option (dp) :=
  if x2v = 0 then (bd (s_I δ 9 2 a0 ((q_I δ 9 2 a0) + 1)) fun δ_19 => bd (s_I δ_19 9 3 a0 ((q_I δ_19 9 3 a0) + 1)) fun δ_21 => (D_X9_readSum N g a0 0 δ_21).bind fun r_23 => (q_V r_23 9 0 a0).bind fun b_24 => if q_K g b_24 = 7 then (D_X7_needSign N g b_24 59 r_23).bind fun r_27 => (q_V r_27 9 1 a0).bind fun b_28 => if q_K g b_28 = 8 then (D_X8_add N g b_28 9 x1v r_27).bind fun r_31 => J_X9_readStep_163 N g a0 r_31 else none else none) else (bd (s_I δ 9 2 a0 ((q_I δ 9 2 a0) + 1)) fun δ_32 => (D_X9_openLoop N g a0 δ_32).bind fun r_34 => J_X9_readStep_163 N g a0 r_34)
set_option maxHeartbeats 4000000 in
set_option maxRecDepth 100000 in
theorem t_J_X9_readStep_98 {l : Launch} {D : va_G} {cy : Nat → ClassId} {N d : Nat} {g : gp} (wt : WT g) (hl : l.stackTraces = false) (hd : 70 ≤ d) {a0 : Nat} (k0 : q_K g a0 = 9) : ∀ (x1v : Int32) (x2v : Int32) (δ : dp), AWD l D cy m_X9_readStep d 0 0 ev g 98 [(0, .ref a0), (1, .int x1v), (2, .int x2v)] [] δ (J_X9_readStep_98 N g a0 x1v x2v δ) := by
    intro x1v x2v δ 
    unfold J_X9_readStep_98
    refine w_iload_n 2 2 (μ := m_X9_readStep) (pc := 98) dX9_readStep_98 rfl rfl ?_
    refine w_if_eq 119 (μ := m_X9_readStep) (pc := 99) dX9_readStep_99 (by decide) (fun c_18 => ?_) (fun c_18 => ?_)
    · refine w_aload_n 0 0 (μ := m_X9_readStep) (pc := 119) dX9_readStep_119 rfl rfl ?_
      refine w_dup (μ := m_X9_readStep) (pc := 120) dX9_readStep_120 rfl ?_
      refine w_getI (μ := m_X9_readStep) (pc := 121) dX9_readStep_121 fl_X9_31 ir_9_2 k0 ?_
      refine w_iconst (v := 1) (μ := m_X9_readStep) (pc := 124) dX9_readStep_124 (by decide) ?_
      refine w_iadd (μ := m_X9_readStep) (pc := 125) dX9_readStep_125 ?_
      refine w_putI (μ := m_X9_readStep) (pc := 126) dX9_readStep_126 fl_X9_31 flw_9_2 ir_9_2 k0 ?_
      refine w_bd (fun δ_19 e_20 => ?_)
      refine w_aload_n 0 0 (μ := m_X9_readStep) (pc := 129) dX9_readStep_129 rfl rfl ?_
      refine w_dup (μ := m_X9_readStep) (pc := 130) dX9_readStep_130 rfl ?_
      refine w_getI (μ := m_X9_readStep) (pc := 131) dX9_readStep_131 fl_X9_35 ir_9_3 k0 ?_
      refine w_iconst (v := 1) (μ := m_X9_readStep) (pc := 134) dX9_readStep_134 (by decide) ?_
      refine w_iadd (μ := m_X9_readStep) (pc := 135) dX9_readStep_135 ?_
      refine w_putI (μ := m_X9_readStep) (pc := 136) dX9_readStep_136 fl_X9_35 flw_9_3 ir_9_3 k0 ?_
      refine w_bd (fun δ_21 e_22 => ?_)
      refine w_aload_n 0 0 (μ := m_X9_readStep) (pc := 139) dX9_readStep_139 rfl rfl ?_
      refine w_iconst (v := 0) (μ := m_X9_readStep) (pc := 140) dX9_readStep_140 (by decide) ?_
      refine w_callV (As := [.int 0]) (rest := []) (μ := m_X9_readStep) (pc := 141) dX9_readStep_141 cv_X9_83 rfl rfl k0 (by decide) rfl (Nat.le_of_ble_eq_true rfl) (d' := d - 1) (by omega) he_v (c_X9_readSum wt hl (d := d - 1) (by omega) k0) (fun r_23 => ?_)
      refine w_aload_n 0 0 (μ := m_X9_readStep) (pc := 144) dX9_readStep_144 rfl rfl ?_
      refine w_getV (μ := m_X9_readStep) (pc := 145) dX9_readStep_145 fl_X9_20 ir_9_0 id_9_0 k0 (fun b_24 e_25 => ?_)
      refine w_gd (fun z_26 => ?_)
      refine w_bipush (v := 59) (μ := m_X9_readStep) (pc := 148) dX9_readStep_148 (by decide) ?_
      refine w_callV (As := [.int 59]) (rest := []) (μ := m_X9_readStep) (pc := 150) dX9_readStep_150 cv_X9_86 rfl rfl z_26 (by decide) rfl (Nat.le_of_ble_eq_true rfl) (d' := d - 1) (by omega) he_v (c_X7_needSign wt hl (d := d - 1) (by omega) z_26) (fun r_27 => ?_)
      refine w_aload_n 0 0 (μ := m_X9_readStep) (pc := 153) dX9_readStep_153 rfl rfl ?_
      refine w_getV (μ := m_X9_readStep) (pc := 154) dX9_readStep_154 fl_X9_24 ir_9_1 id_9_1 k0 (fun b_28 e_29 => ?_)
      refine w_gd (fun z_30 => ?_)
      refine w_bipush (v := 9) (μ := m_X9_readStep) (pc := 157) dX9_readStep_157 (by decide) ?_
      refine w_iload_n 1 1 (μ := m_X9_readStep) (pc := 159) dX9_readStep_159 rfl rfl ?_
      refine w_callV (As := [.int 9, .int x1v]) (rest := []) (μ := m_X9_readStep) (pc := 160) dX9_readStep_160 cv_X9_89 rfl rfl z_30 (by decide) rfl (Nat.le_of_ble_eq_true rfl) (d' := d - 1) (by omega) he_v (c_X8_add wt hl (d := d - 1) (by omega) z_30) (fun r_31 => ?_)
      refine w_lv [] rfl ?_
      exact t_J_X9_readStep_163 wt hl (by omega) k0 _
    · refine w_aload_n 0 0 (μ := m_X9_readStep) (pc := 102) dX9_readStep_102 rfl rfl ?_
      refine w_dup (μ := m_X9_readStep) (pc := 103) dX9_readStep_103 rfl ?_
      refine w_getI (μ := m_X9_readStep) (pc := 104) dX9_readStep_104 fl_X9_31 ir_9_2 k0 ?_
      refine w_iconst (v := 1) (μ := m_X9_readStep) (pc := 107) dX9_readStep_107 (by decide) ?_
      refine w_iadd (μ := m_X9_readStep) (pc := 108) dX9_readStep_108 ?_
      refine w_putI (μ := m_X9_readStep) (pc := 109) dX9_readStep_109 fl_X9_31 flw_9_2 ir_9_2 k0 ?_
      refine w_bd (fun δ_32 e_33 => ?_)
      refine w_aload_n 0 0 (μ := m_X9_readStep) (pc := 112) dX9_readStep_112 rfl rfl ?_
      refine w_callV (As := []) (rest := []) (μ := m_X9_readStep) (pc := 113) dX9_readStep_113 cv_X9_80 rfl rfl k0 (by decide) rfl (Nat.le_of_ble_eq_true rfl) (d' := d - 1) (by omega) he_v (c_X9_openLoop wt hl (d := d - 1) (by omega) k0) (fun r_34 => ?_)
      refine w_goto 163 (μ := m_X9_readStep) (pc := 116) dX9_readStep_116 (by decide) ?_
      refine w_lv [] rfl ?_
      exact t_J_X9_readStep_163 wt hl (by omega) k0 _
def J_X9_readStep_66 (N : Nat) (g : gp) (a0 : Nat) (x1v : Int32) (x2v : Int32) (δ : dp) : Option (dp) :=
  if (60 : Int32) ≤ (q_I δ 9 2 a0) then (J_X9_readStep_87 N g a0 δ) else (if x2v = 0 then (J_X9_readStep_98 N g a0 x1v x2v δ) else (if (q_I δ 9 4 a0) < (3 : Int32) then (J_X9_readStep_98 N g a0 x1v x2v δ) else (J_X9_readStep_87 N g a0 δ)))
set_option maxHeartbeats 4000000 in
set_option maxRecDepth 100000 in
theorem t_J_X9_readStep_66 {l : Launch} {D : va_G} {cy : Nat → ClassId} {N d : Nat} {g : gp} (wt : WT g) (hl : l.stackTraces = false) (hd : 70 ≤ d) {a0 : Nat} (k0 : q_K g a0 = 9) : ∀ (x1v : Int32) (x2v : Int32) (δ : dp), AWD l D cy m_X9_readStep d 0 0 ev g 66 [(0, .ref a0), (1, .int x1v), (2, .int x2v)] [] δ (J_X9_readStep_66 N g a0 x1v x2v δ) := by
    intro x1v x2v δ 
    unfold J_X9_readStep_66
    refine w_aload_n 0 0 (μ := m_X9_readStep) (pc := 66) dX9_readStep_66 rfl rfl ?_
    refine w_getI (μ := m_X9_readStep) (pc := 67) dX9_readStep_67 fl_X9_31 ir_9_2 k0 ?_
    refine w_bipush (v := 60) (μ := m_X9_readStep) (pc := 70) dX9_readStep_70 (by decide) ?_
    refine w_icmp_ge 87 (μ := m_X9_readStep) (pc := 72) dX9_readStep_72 (by decide) (fun c_12 => ?_) (fun c_12 => ?_)
    · refine w_lv [0] rfl ?_
      exact t_J_X9_readStep_87 wt hl (by omega) k0 _
    · refine w_iload_n 2 2 (μ := m_X9_readStep) (pc := 75) dX9_readStep_75 rfl rfl ?_
      refine w_if_eq 98 (μ := m_X9_readStep) (pc := 76) dX9_readStep_76 (by decide) (fun c_17 => ?_) (fun c_17 => ?_)
      · exact t_J_X9_readStep_98 wt hl (by omega) k0 _ _ _
      · refine w_aload_n 0 0 (μ := m_X9_readStep) (pc := 79) dX9_readStep_79 rfl rfl ?_
        refine w_getI (μ := m_X9_readStep) (pc := 80) dX9_readStep_80 fl_X9_38 ir_9_4 k0 ?_
        refine w_iconst (v := 3) (μ := m_X9_readStep) (pc := 83) dX9_readStep_83 (by decide) ?_
        refine w_icmp_lt 98 (μ := m_X9_readStep) (pc := 84) dX9_readStep_84 (by decide) (fun c_35 => ?_) (fun c_35 => ?_)
        · exact t_J_X9_readStep_98 wt hl (by omega) k0 _ _ _
        · refine w_lv [0] rfl ?_
          exact t_J_X9_readStep_87 wt hl (by omega) k0 _
def J_X9_readStep_24 (N : Nat) (g : gp) (a0 : Nat) (δ : dp) : Option (dp) :=
  (q_V δ 9 0 a0).bind fun b_2 => if q_K g b_2 = 7 then (D_X7_readWord N g b_2 δ).bind fun r_5 => (D_X9_callOfWord N g a0 r_5).bind fun r_6 => (q_V r_6.2 9 0 a0).bind fun b_7 => if q_K g b_7 = 7 then (D_X7_wordIs N g b_7 10 r_6.2).bind fun r_10 => if r_6.1 = ((-1) : Int32) then (if r_10.1 = 0 then ((q_V r_10.2 9 0 a0).bind fun b_37 => if q_K g b_37 = 7 then (D_X7_refuse N g b_37 1 r_10.2).bind fun r_40 => J_X9_readStep_163 N g a0 r_40 else none) else (J_X9_readStep_66 N g a0 r_6.1 r_10.1 r_10.2)) else (J_X9_readStep_66 N g a0 r_6.1 r_10.1 r_10.2) else none else none
set_option maxHeartbeats 4000000 in
set_option maxRecDepth 100000 in
theorem t_J_X9_readStep_24 {l : Launch} {D : va_G} {cy : Nat → ClassId} {N d : Nat} {g : gp} (wt : WT g) (hl : l.stackTraces = false) (hd : 70 ≤ d) {a0 : Nat} (k0 : q_K g a0 = 9) : ∀ (δ : dp), AWD l D cy m_X9_readStep d 0 0 ev g 24 [(0, .ref a0)] [] δ (J_X9_readStep_24 N g a0 δ) := by
    intro  δ 
    unfold J_X9_readStep_24
    refine w_aload_n 0 0 (μ := m_X9_readStep) (pc := 24) dX9_readStep_24 rfl rfl ?_
    refine w_getV (μ := m_X9_readStep) (pc := 25) dX9_readStep_25 fl_X9_20 ir_9_0 id_9_0 k0 (fun b_2 e_3 => ?_)
    refine w_gd (fun z_4 => ?_)
    refine w_callV (As := []) (rest := []) (μ := m_X9_readStep) (pc := 28) dX9_readStep_28 cv_X9_68 rfl rfl z_4 (by decide) rfl (Nat.le_of_ble_eq_true rfl) (d' := d - 1) (by omega) he_v (c_X7_readWord wt hl (d := d - 1) (by omega) z_4) (fun r_5 => ?_)
    refine w_aload_n 0 0 (μ := m_X9_readStep) (pc := 31) dX9_readStep_31 rfl rfl ?_
    refine w_callV (As := []) (rest := []) (μ := m_X9_readStep) (pc := 32) dX9_readStep_32 cv_X9_71 rfl rfl k0 (by decide) rfl (Nat.le_of_ble_eq_true rfl) (d' := d - 1) (by omega) he_i (c_X9_callOfWord wt hl (d := d - 1) (by omega) k0) (fun r_6 => ?_)
    refine w_istore_n [(1, .int r_6.1), (0, .ref a0)] (μ := m_X9_readStep) (pc := 35) dX9_readStep_35 rfl (by decide) rfl ?_
    refine w_aload_n 1 0 (μ := m_X9_readStep) (pc := 36) dX9_readStep_36 rfl rfl ?_
    refine w_getV (μ := m_X9_readStep) (pc := 37) dX9_readStep_37 fl_X9_20 ir_9_0 id_9_0 k0 (fun b_7 e_8 => ?_)
    refine w_gd (fun z_9 => ?_)
    refine w_ldcS 10 (tx := "times") (μ := m_X9_readStep) (pc := 40) dX9_readStep_40 (by decide +kernel) ?_
    refine w_callV (As := [.ref (D.2 100 10)]) (rest := []) (μ := m_X9_readStep) (pc := 42) dX9_readStep_42 cv_X9_76 rfl rfl z_9 (by decide) rfl (Nat.le_of_ble_eq_true rfl) (d' := d - 1) (by omega) he_i (c_X7_wordIs wt hl (d := d - 1) (by omega) z_9 (by decide)) (fun r_10 => ?_)
    refine w_istore_n [(2, .int r_10.1), (1, .int r_6.1), (0, .ref a0)] (μ := m_X9_readStep) (pc := 45) dX9_readStep_45 rfl (by decide) rfl ?_
    refine w_iload_n 1 1 (μ := m_X9_readStep) (pc := 46) dX9_readStep_46 rfl rfl ?_
    refine w_iconst (v := (-1)) (μ := m_X9_readStep) (pc := 47) dX9_readStep_47 (by decide) ?_
    refine w_icmp_ne 66 (μ := m_X9_readStep) (pc := 48) dX9_readStep_48 (by decide) (fun c_11 => ?_) (fun c_11 => ?_)
    · refine w_lv [2, 1, 0] rfl ?_
      exact t_J_X9_readStep_66 wt hl (by omega) k0 _ _ _
    · refine w_iload_n 0 2 (μ := m_X9_readStep) (pc := 51) dX9_readStep_51 rfl rfl ?_
      refine w_if_ne 66 (μ := m_X9_readStep) (pc := 52) dX9_readStep_52 (by decide) (fun c_36 => ?_) (fun c_36 => ?_)
      · refine w_lv [2, 1, 0] rfl ?_
        exact t_J_X9_readStep_66 wt hl (by omega) k0 _ _ _
      · refine w_aload_n 2 0 (μ := m_X9_readStep) (pc := 55) dX9_readStep_55 rfl rfl ?_
        refine w_getV (μ := m_X9_readStep) (pc := 56) dX9_readStep_56 fl_X9_20 ir_9_0 id_9_0 k0 (fun b_37 e_38 => ?_)
        refine w_gd (fun z_39 => ?_)
        refine w_iconst (v := 1) (μ := m_X9_readStep) (pc := 59) dX9_readStep_59 (by decide) ?_
        refine w_callV (As := [.int 1]) (rest := []) (μ := m_X9_readStep) (pc := 60) dX9_readStep_60 cv_X9_53 rfl rfl z_39 (by decide) rfl (Nat.le_of_ble_eq_true rfl) (d' := d - 1) (by omega) he_v (c_X7_refuse wt hl (d := d - 1) (by omega) z_39) (fun r_40 => ?_)
        refine w_goto 163 (μ := m_X9_readStep) (pc := 63) dX9_readStep_63 (by decide) ?_
        refine w_lv [] rfl ?_
        exact t_J_X9_readStep_163 wt hl (by omega) k0 _
def D_X9_readStep (N : Nat) (g : gp) (a0 : Nat) (δ : dp) : Option (dp) :=
  if (q_I δ 9 4 a0) ≤ 0 then (J_X9_readStep_24 N g a0 δ) else ((q_V δ 9 0 a0).bind fun b_41 => if q_K g b_41 = 7 then (D_X7_takeSign N g b_41 93 δ).bind fun r_44 => if r_44.1 = 0 then (J_X9_readStep_24 N g a0 r_44.2) else ((D_X9_closeLoop N g a0 r_44.2).bind fun r_46 => some r_46) else none)
set_option maxHeartbeats 4000000 in
set_option maxRecDepth 100000 in
theorem c_X9_readStep {l : Launch} {D : va_G} {cy : Nat → ClassId} {N d : Nat} {g : gp} (wt : WT g) (hl : l.stackTraces = false) (hd : 70 ≤ d) {a0 : Nat} {δ : dp} (k0 : q_K g a0 = 9) : CalD l D cy m_X9_readStep d 0 0 ev g [.ref a0] δ (D_X9_readStep N g a0 δ) := by
  refine CalD.of (by decide +kernel) (Nat.le_of_ble_eq_true rfl) hl ?_
  unfold D_X9_readStep
  refine w_aload_n 0 0 (μ := m_X9_readStep) (pc := 0) dX9_readStep_0 rfl rfl ?_
  refine w_getI (μ := m_X9_readStep) (pc := 1) dX9_readStep_1 fl_X9_38 ir_9_4 k0 ?_
  refine w_if_le 24 (μ := m_X9_readStep) (pc := 4) dX9_readStep_4 (by decide) (fun c_1 => ?_) (fun c_1 => ?_)
  · exact t_J_X9_readStep_24 wt hl (by omega) k0 _
  · refine w_aload_n 0 0 (μ := m_X9_readStep) (pc := 7) dX9_readStep_7 rfl rfl ?_
    refine w_getV (μ := m_X9_readStep) (pc := 8) dX9_readStep_8 fl_X9_20 ir_9_0 id_9_0 k0 (fun b_41 e_42 => ?_)
    refine w_gd (fun z_43 => ?_)
    refine w_bipush (v := 93) (μ := m_X9_readStep) (pc := 11) dX9_readStep_11 (by decide) ?_
    refine w_callV (As := [.int 93]) (rest := []) (μ := m_X9_readStep) (pc := 13) dX9_readStep_13 cv_X9_61 rfl rfl z_43 (by decide) rfl (Nat.le_of_ble_eq_true rfl) (d' := d - 1) (by omega) he_i (c_X7_takeSign wt hl (d := d - 1) (by omega) z_43) (fun r_44 => ?_)
    refine w_if_eq 24 (μ := m_X9_readStep) (pc := 16) dX9_readStep_16 (by decide) (fun c_45 => ?_) (fun c_45 => ?_)
    · exact t_J_X9_readStep_24 wt hl (by omega) k0 _
    · refine w_aload_n 0 0 (μ := m_X9_readStep) (pc := 19) dX9_readStep_19 rfl rfl ?_
      refine w_callV (As := []) (rest := []) (μ := m_X9_readStep) (pc := 20) dX9_readStep_20 cv_X9_65 rfl rfl k0 (by decide) rfl (Nat.le_of_ble_eq_true rfl) (d' := d - 1) (by omega) he_v (c_X9_closeLoop wt hl (d := d - 1) (by omega) k0) (fun r_46 => ?_)
      exact w_vret (μ := m_X9_readStep) (pc := 23) dX9_readStep_23 rfl rfl
def J_X9_read_83 (N : Nat) (g : gp) (a0 : Nat) (a1 : Nat) (a2 : Nat) (δ : dp) : Option (dp) :=
  some δ
set_option maxHeartbeats 4000000 in
set_option maxRecDepth 100000 in
theorem t_J_X9_read_83 {l : Launch} {D : va_G} {cy : Nat → ClassId} {N d : Nat} {g : gp} (wt : WT g) (hl : l.stackTraces = false) (hd : 71 ≤ d) {a0 : Nat} {a1 : Nat} {a2 : Nat} (k0 : q_K g a0 = 9) (k1 : q_K g a1 = 7) (k2 : q_K g a2 = 8) : ∀ (δ : dp), AWD l D cy m_X9_read d 0 0 ev g 83 [] [] δ (J_X9_read_83 N g a0 a1 a2 δ) := by
    intro  δ 
    unfold J_X9_read_83
    exact w_vret (μ := m_X9_read) (pc := 83) dX9_read_83 rfl rfl
def J_X9_read_68 (N : Nat) (g : gp) (a0 : Nat) (a1 : Nat) (a2 : Nat) (δ : dp) : Option (dp) :=
  if (q_I δ 9 2 a0) = 0 then ((q_V δ 9 0 a0).bind fun b_17 => if q_K g b_17 = 7 then (D_X7_refuse N g b_17 1 δ).bind fun r_20 => J_X9_read_83 N g a0 a1 a2 r_20 else none) else (J_X9_read_83 N g a0 a1 a2 δ)
set_option maxHeartbeats 4000000 in
set_option maxRecDepth 100000 in
theorem t_J_X9_read_68 {l : Launch} {D : va_G} {cy : Nat → ClassId} {N d : Nat} {g : gp} (wt : WT g) (hl : l.stackTraces = false) (hd : 71 ≤ d) {a0 : Nat} {a1 : Nat} {a2 : Nat} (k0 : q_K g a0 = 9) (k1 : q_K g a1 = 7) (k2 : q_K g a2 = 8) : ∀ (δ : dp), AWD l D cy m_X9_read d 0 0 ev g 68 [(0, .ref a0)] [] δ (J_X9_read_68 N g a0 a1 a2 δ) := by
    intro  δ 
    unfold J_X9_read_68
    refine w_aload_n 0 0 (μ := m_X9_read) (pc := 68) dX9_read_68 rfl rfl ?_
    refine w_getI (μ := m_X9_read) (pc := 69) dX9_read_69 fl_X9_31 ir_9_2 k0 ?_
    refine w_if_ne 83 (μ := m_X9_read) (pc := 72) dX9_read_72 (by decide) (fun c_16 => ?_) (fun c_16 => ?_)
    · refine w_lv [] rfl ?_
      exact t_J_X9_read_83 wt hl (by omega) k0 k1 k2 _
    · refine w_aload_n 0 0 (μ := m_X9_read) (pc := 75) dX9_read_75 rfl rfl ?_
      refine w_getV (μ := m_X9_read) (pc := 76) dX9_read_76 fl_X9_20 ir_9_0 id_9_0 k0 (fun b_17 e_18 => ?_)
      refine w_gd (fun z_19 => ?_)
      refine w_iconst (v := 1) (μ := m_X9_read) (pc := 79) dX9_read_79 (by decide) ?_
      refine w_callV (As := [.int 1]) (rest := []) (μ := m_X9_read) (pc := 80) dX9_read_80 cv_X9_53 rfl rfl z_19 (by decide) rfl (Nat.le_of_ble_eq_true rfl) (d' := d - 1) (by omega) he_v (c_X7_refuse wt hl (d := d - 1) (by omega) z_19) (fun r_20 => ?_)
      refine w_lv [] rfl ?_
      exact t_J_X9_read_83 wt hl (by omega) k0 k1 k2 _
def L_X9_read_34 (N : Nat) (g : gp) (a0 : Nat) (a1 : Nat) (a2 : Nat) : Nat → Int32 → dp → Option (dp)
  | 0, _, _ => none
  | n + 1, x3v, δ => if (500 : Int32) ≤ x3v then (J_X9_read_68 N g a0 a1 a2 δ) else ((q_V δ 9 0 a0).bind fun b_21 => if q_K g b_21 = 7 then (D_X7_isSound N g b_21 δ).bind fun r_24 => if r_24.1 = 0 then (J_X9_read_68 N g a0 a1 a2 r_24.2) else ((D_X9_isOver N g a0 r_24.2).bind fun r_26 => if r_26.1 = 0 then ((D_X9_readStep N g a0 r_26.2).bind fun r_28 => bi (x3v + 1) fun x_29 => L_X9_read_34 N g a0 a1 a2 n x_29 r_28) else (J_X9_read_68 N g a0 a1 a2 r_26.2)) else none)
set_option maxHeartbeats 4000000 in
set_option maxRecDepth 100000 in
theorem t_L_X9_read_34 {l : Launch} {D : va_G} {cy : Nat → ClassId} {N d : Nat} {g : gp} (wt : WT g) (hl : l.stackTraces = false) (hd : 71 ≤ d) {a0 : Nat} {a1 : Nat} {a2 : Nat} (k0 : q_K g a0 = 9) (k1 : q_K g a1 = 7) (k2 : q_K g a2 = 8) : ∀ (n : Nat) (x3v : Int32) (δ : dp), AWD l D cy m_X9_read d 0 0 ev g 34 [(0, .ref a0), (3, .int x3v)] [] δ (L_X9_read_34 N g a0 a1 a2 n x3v δ) := by
  intro n
  induction n with
  | zero => intro x3v δ ; exact w_none
  | succ n ih =>
    intro x3v δ 
    unfold L_X9_read_34
    refine w_iload_n 1 3 (μ := m_X9_read) (pc := 34) dX9_read_34 rfl rfl ?_
    refine w_sipush (v := 500) (μ := m_X9_read) (pc := 35) dX9_read_35 (by decide) ?_
    refine w_icmp_ge 68 (μ := m_X9_read) (pc := 38) dX9_read_38 (by decide) (fun c_15 => ?_) (fun c_15 => ?_)
    · refine w_lv [0] rfl ?_
      exact t_J_X9_read_68 wt hl (by omega) k0 k1 k2 _
    · refine w_aload_n 0 0 (μ := m_X9_read) (pc := 41) dX9_read_41 rfl rfl ?_
      refine w_getV (μ := m_X9_read) (pc := 42) dX9_read_42 fl_X9_20 ir_9_0 id_9_0 k0 (fun b_21 e_22 => ?_)
      refine w_gd (fun z_23 => ?_)
      refine w_callV (As := []) (rest := []) (μ := m_X9_read) (pc := 45) dX9_read_45 cv_X9_41 rfl rfl z_23 (by decide) rfl (Nat.le_of_ble_eq_true rfl) (d' := d - 1) (by omega) he_i (c_X7_isSound wt hl (d := d - 1) (by omega) z_23) (fun r_24 => ?_)
      refine w_if_eq 68 (μ := m_X9_read) (pc := 48) dX9_read_48 (by decide) (fun c_25 => ?_) (fun c_25 => ?_)
      · refine w_lv [0] rfl ?_
        exact t_J_X9_read_68 wt hl (by omega) k0 k1 k2 _
      · refine w_aload_n 0 0 (μ := m_X9_read) (pc := 51) dX9_read_51 rfl rfl ?_
        refine w_callV (As := []) (rest := []) (μ := m_X9_read) (pc := 52) dX9_read_52 cv_X9_47 rfl rfl k0 (by decide) rfl (Nat.le_of_ble_eq_true rfl) (d' := d - 1) (by omega) he_i (c_X9_isOver wt hl (d := d - 1) (by omega) k0) (fun r_26 => ?_)
        refine w_if_ne 68 (μ := m_X9_read) (pc := 55) dX9_read_55 (by decide) (fun c_27 => ?_) (fun c_27 => ?_)
        · refine w_lv [0] rfl ?_
          exact t_J_X9_read_68 wt hl (by omega) k0 k1 k2 _
        · refine w_aload_n 0 0 (μ := m_X9_read) (pc := 58) dX9_read_58 rfl rfl ?_
          refine w_callV (As := []) (rest := []) (μ := m_X9_read) (pc := 59) dX9_read_59 cv_X9_50 rfl rfl k0 (by decide) rfl (Nat.le_of_ble_eq_true rfl) (d' := d - 1) (by omega) he_v (c_X9_readStep wt hl (d := d - 1) (by omega) k0) (fun r_28 => ?_)
          refine w_inb (fun x_29 e_30 => ?_)
          refine w_iinc 1 [(3, .int x_29), (0, .ref a0)] (μ := m_X9_read) (pc := 62) dX9_read_62 rfl (by rw [e_30]; rfl) (by decide) rfl ?_
          refine w_goto 34 (μ := m_X9_read) (pc := 65) dX9_read_65 (by decide) ?_
          refine w_lv [1, 0] rfl ?_
          exact ih _ _
def D_X9_read (N : Nat) (g : gp) (a0 : Nat) (a1 : Nat) (a2 : Nat) (δ : dp) : Option (dp) :=
  bd (s_V δ 9 0 a0 (some a1)) fun δ_1 => bd (s_V δ_1 9 1 a0 (some a2)) fun δ_3 => (q_V δ_3 9 1 a0).bind fun b_5 => if q_K g b_5 = 8 then (D_X8_clear N g b_5 δ_3).bind fun r_8 => bd (s_I r_8 9 2 a0 0) fun δ_9 => bd (s_I δ_9 9 3 a0 0) fun δ_11 => bd (s_I δ_11 9 4 a0 0) fun δ_13 => L_X9_read_34 N g a0 a1 a2 N 0 δ_13 else none
set_option maxHeartbeats 4000000 in
set_option maxRecDepth 100000 in
theorem c_X9_read {l : Launch} {D : va_G} {cy : Nat → ClassId} {N d : Nat} {g : gp} (wt : WT g) (hl : l.stackTraces = false) (hd : 71 ≤ d) {a0 : Nat} {a1 : Nat} {a2 : Nat} {δ : dp} (k0 : q_K g a0 = 9) (k1 : q_K g a1 = 7) (k2 : q_K g a2 = 8) : CalD l D cy m_X9_read d 0 0 ev g [.ref a0, .ref a1, .ref a2] δ (D_X9_read N g a0 a1 a2 δ) := by
  refine CalD.of (by decide +kernel) (Nat.le_of_ble_eq_true rfl) hl ?_
  unfold D_X9_read
  refine w_aload_n 0 0 (μ := m_X9_read) (pc := 0) dX9_read_0 rfl rfl ?_
  refine w_aload_n 1 1 (μ := m_X9_read) (pc := 1) dX9_read_1 rfl rfl ?_
  refine w_putV (μ := m_X9_read) (pc := 2) dX9_read_2 fl_X9_20 flw_9_0 ir_9_0 id_9_0 k0 ?_
  refine w_bd (fun δ_1 e_2 => ?_)
  refine w_aload_n 0 0 (μ := m_X9_read) (pc := 5) dX9_read_5 rfl rfl ?_
  refine w_aload_n 2 2 (μ := m_X9_read) (pc := 6) dX9_read_6 rfl rfl ?_
  refine w_putV (μ := m_X9_read) (pc := 7) dX9_read_7 fl_X9_24 flw_9_1 ir_9_1 id_9_1 k0 ?_
  refine w_bd (fun δ_3 e_4 => ?_)
  refine w_aload_n 0 0 (μ := m_X9_read) (pc := 10) dX9_read_10 rfl rfl ?_
  refine w_getV (μ := m_X9_read) (pc := 11) dX9_read_11 fl_X9_24 ir_9_1 id_9_1 k0 (fun b_5 e_6 => ?_)
  refine w_gd (fun z_7 => ?_)
  refine w_callV (As := []) (rest := []) (μ := m_X9_read) (pc := 14) dX9_read_14 cv_X9_28 rfl rfl z_7 (by decide) rfl (Nat.le_of_ble_eq_true rfl) (d' := d - 1) (by omega) he_v (c_X8_clear wt hl (d := d - 1) (by omega) z_7) (fun r_8 => ?_)
  refine w_aload_n 0 0 (μ := m_X9_read) (pc := 17) dX9_read_17 rfl rfl ?_
  refine w_iconst (v := 0) (μ := m_X9_read) (pc := 18) dX9_read_18 (by decide) ?_
  refine w_putI (μ := m_X9_read) (pc := 19) dX9_read_19 fl_X9_31 flw_9_2 ir_9_2 k0 ?_
  refine w_bd (fun δ_9 e_10 => ?_)
  refine w_aload_n 0 0 (μ := m_X9_read) (pc := 22) dX9_read_22 rfl rfl ?_
  refine w_iconst (v := 0) (μ := m_X9_read) (pc := 23) dX9_read_23 (by decide) ?_
  refine w_putI (μ := m_X9_read) (pc := 24) dX9_read_24 fl_X9_35 flw_9_3 ir_9_3 k0 ?_
  refine w_bd (fun δ_11 e_12 => ?_)
  refine w_aload_n 0 0 (μ := m_X9_read) (pc := 27) dX9_read_27 rfl rfl ?_
  refine w_iconst (v := 0) (μ := m_X9_read) (pc := 28) dX9_read_28 (by decide) ?_
  refine w_putI (μ := m_X9_read) (pc := 29) dX9_read_29 fl_X9_38 flw_9_4 ir_9_4 k0 ?_
  refine w_bd (fun δ_13 e_14 => ?_)
  refine w_iconst (v := 0) (μ := m_X9_read) (pc := 32) dX9_read_32 (by decide) ?_
  refine w_istore_n [(3, .int 0), (0, .ref a0), (1, .ref a1), (2, .ref a2)] (μ := m_X9_read) (pc := 33) dX9_read_33 rfl (by decide) rfl ?_
  refine w_lv [1, 0] rfl ?_
  exact t_L_X9_read_34 wt hl (by omega) k0 k1 k2 N _ _
