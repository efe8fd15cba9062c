theorem dX4_forget_0 : decode cX4_forget 0 = .ok (.aload_n 0, 1) := by decide +kernel
theorem dX4_forget_1 : decode cX4_forget 1 = .ok (.iconst 0, 1) := by decide +kernel
theorem dX4_forget_2 : decode cX4_forget 2 = .ok (.putfield 42, 3) := by decide +kernel
theorem dX4_forget_5 : decode cX4_forget 5 = .ok (.return_, 1) := by decide +kernel
theorem dX4_go_0 : decode cX4_go 0 = .ok (.aload_n 0, 1) := by decide +kernel
theorem dX4_go_1 : decode cX4_go 1 = .ok (.getfield 42, 3) := by decide +kernel
theorem dX4_go_4 : decode cX4_go 4 = .ok (.ifCond .eq 28, 3) := by decide +kernel
theorem dX4_go_7 : decode cX4_go 7 = .ok (.aload_n 1, 1) := by decide +kernel
theorem dX4_go_8 : decode cX4_go 8 = .ok (.aload_n 0, 1) := by decide +kernel
theorem dX4_go_9 : decode cX4_go 9 = .ok (.getfield 46, 3) := by decide +kernel
theorem dX4_go_12 : decode cX4_go 12 = .ok (.if_acmp .ne 20, 3) := by decide +kernel
theorem dX4_go_15 : decode cX4_go 15 = .ok (.aload_n 2, 1) := by decide +kernel
theorem dX4_go_16 : decode cX4_go 16 = .ok (.aload_n 0, 1) := by decide +kernel
theorem dX4_go_17 : decode cX4_go 17 = .ok (.getfield 50, 3) := by decide +kernel
theorem dX4_go_20 : decode cX4_go 20 = .ok (.if_acmp .ne 12, 3) := by decide +kernel
theorem dX4_go_23 : decode cX4_go 23 = .ok (.iload_n 3, 1) := by decide +kernel
theorem dX4_go_24 : decode cX4_go 24 = .ok (.aload_n 0, 1) := by decide +kernel
theorem dX4_go_25 : decode cX4_go 25 = .ok (.getfield 53, 3) := by decide +kernel
theorem dX4_go_28 : decode cX4_go 28 = .ok (.if_icmp .ne 4, 3) := by decide +kernel
theorem dX4_go_31 : decode cX4_go 31 = .ok (.return_, 1) := by decide +kernel
theorem dX4_go_32 : decode cX4_go 32 = .ok (.aload_n 0, 1) := by decide +kernel
theorem dX4_go_33 : decode cX4_go 33 = .ok (.aload_n 2, 1) := by decide +kernel
theorem dX4_go_34 : decode cX4_go 34 = .ok (.iload_n 3, 1) := by decide +kernel
theorem dX4_go_35 : decode cX4_go 35 = .ok (.invokevirtual 57, 3) := by decide +kernel
theorem dX4_go_38 : decode cX4_go 38 = .ok (.iconst 0, 1) := by decide +kernel
theorem dX4_go_39 : decode cX4_go 39 = .ok (.istore 4, 2) := by decide +kernel
theorem dX4_go_41 : decode cX4_go 41 = .ok (.iload 4, 2) := by decide +kernel
theorem dX4_go_43 : decode cX4_go 43 = .ok (.ldc 61, 2) := by decide +kernel
theorem dX4_go_45 : decode cX4_go 45 = .ok (.if_icmp .ge 32, 3) := by decide +kernel
theorem dX4_go_48 : decode cX4_go 48 = .ok (.aload_n 0, 1) := by decide +kernel
theorem dX4_go_49 : decode cX4_go 49 = .ok (.getfield 62, 3) := by decide +kernel
theorem dX4_go_52 : decode cX4_go 52 = .ok (.aload_n 1, 1) := by decide +kernel
theorem dX4_go_53 : decode cX4_go 53 = .ok (.getfield 65, 3) := by decide +kernel
theorem dX4_go_56 : decode cX4_go 56 = .ok (.if_icmp .ge 21, 3) := by decide +kernel
theorem dX4_go_59 : decode cX4_go 59 = .ok (.aload_n 0, 1) := by decide +kernel
theorem dX4_go_60 : decode cX4_go 60 = .ok (.getfield 68, 3) := by decide +kernel
theorem dX4_go_63 : decode cX4_go 63 = .ok (.ifCond .ne 14, 3) := by decide +kernel
theorem dX4_go_66 : decode cX4_go 66 = .ok (.aload_n 0, 1) := by decide +kernel
theorem dX4_go_67 : decode cX4_go 67 = .ok (.aload_n 1, 1) := by decide +kernel
theorem dX4_go_68 : decode cX4_go 68 = .ok (.invokevirtual 71, 3) := by decide +kernel
theorem dX4_go_71 : decode cX4_go 71 = .ok (.iinc 4 1, 3) := by decide +kernel
theorem dX4_go_74 : decode cX4_go 74 = .ok (.goto (-33), 3) := by decide +kernel
theorem dX4_go_77 : decode cX4_go 77 = .ok (.aload_n 0, 1) := by decide +kernel
theorem dX4_go_78 : decode cX4_go 78 = .ok (.iconst 1, 1) := by decide +kernel
theorem dX4_go_79 : decode cX4_go 79 = .ok (.putfield 42, 3) := by decide +kernel
theorem dX4_go_82 : decode cX4_go 82 = .ok (.aload_n 0, 1) := by decide +kernel
theorem dX4_go_83 : decode cX4_go 83 = .ok (.aload_n 1, 1) := by decide +kernel
theorem dX4_go_84 : decode cX4_go 84 = .ok (.putfield 46, 3) := by decide +kernel
theorem dX4_go_87 : decode cX4_go 87 = .ok (.aload_n 0, 1) := by decide +kernel
theorem dX4_go_88 : decode cX4_go 88 = .ok (.aload_n 2, 1) := by decide +kernel
theorem dX4_go_89 : decode cX4_go 89 = .ok (.putfield 50, 3) := by decide +kernel
theorem dX4_go_92 : decode cX4_go 92 = .ok (.aload_n 0, 1) := by decide +kernel
theorem dX4_go_93 : decode cX4_go 93 = .ok (.iload_n 3, 1) := by decide +kernel
theorem dX4_go_94 : decode cX4_go 94 = .ok (.putfield 53, 3) := by decide +kernel
theorem dX4_go_97 : decode cX4_go 97 = .ok (.return_, 1) := by decide +kernel
theorem dX4_tell_0 : decode cX4_tell 0 = .ok (.iload_n 1, 1) := by decide +kernel
theorem dX4_tell_1 : decode cX4_tell 1 = .ok (.tableswitch 69 0 5 #[39, 44, 49, 54, 59, 64], 39) := by decide +kernel
theorem dX4_tell_40 : decode cX4_tell 40 = .ok (.aload_n 0, 1) := by decide +kernel
theorem dX4_tell_41 : decode cX4_tell 41 = .ok (.getfield 75, 3) := by decide +kernel
theorem dX4_tell_44 : decode cX4_tell 44 = .ok (.ireturn, 1) := by decide +kernel
theorem dX4_tell_45 : decode cX4_tell 45 = .ok (.aload_n 0, 1) := by decide +kernel
theorem dX4_tell_46 : decode cX4_tell 46 = .ok (.getfield 78, 3) := by decide +kernel
theorem dX4_tell_49 : decode cX4_tell 49 = .ok (.ireturn, 1) := by decide +kernel
theorem dX4_tell_50 : decode cX4_tell 50 = .ok (.aload_n 0, 1) := by decide +kernel
theorem dX4_tell_51 : decode cX4_tell 51 = .ok (.getfield 81, 3) := by decide +kernel
theorem dX4_tell_54 : decode cX4_tell 54 = .ok (.ireturn, 1) := by decide +kernel
theorem dX4_tell_55 : decode cX4_tell 55 = .ok (.aload_n 0, 1) := by decide +kernel
theorem dX4_tell_56 : decode cX4_tell 56 = .ok (.getfield 84, 3) := by decide +kernel
theorem dX4_tell_59 : decode cX4_tell 59 = .ok (.ireturn, 1) := by decide +kernel
theorem dX4_tell_60 : decode cX4_tell 60 = .ok (.aload_n 0, 1) := by decide +kernel
theorem dX4_tell_61 : decode cX4_tell 61 = .ok (.getfield 87, 3) := by decide +kernel
theorem dX4_tell_64 : decode cX4_tell 64 = .ok (.ireturn, 1) := by decide +kernel
theorem dX4_tell_65 : decode cX4_tell 65 = .ok (.aload_n 0, 1) := by decide +kernel
theorem dX4_tell_66 : decode cX4_tell 66 = .ok (.getfield 90, 3) := by decide +kernel
theorem dX4_tell_69 : decode cX4_tell 69 = .ok (.ireturn, 1) := by decide +kernel
theorem dX4_tell_70 : decode cX4_tell 70 = .ok (.aload_n 0, 1) := by decide +kernel
theorem dX4_tell_71 : decode cX4_tell 71 = .ok (.getfield 14, 3) := by decide +kernel
theorem dX4_tell_74 : decode cX4_tell 74 = .ok (.getfield 93, 3) := by decide +kernel
theorem dX4_tell_77 : decode cX4_tell 77 = .ok (.ireturn, 1) := by decide +kernel
theorem dX4_begin_0 : decode cX4_begin 0 = .ok (.aload_n 0, 1) := by decide +kernel
theorem dX4_begin_1 : decode cX4_begin 1 = .ok (.getfield 14, 3) := by decide +kernel
theorem dX4_begin_4 : decode cX4_begin 4 = .ok (.aload_n 1, 1) := by decide +kernel
theorem dX4_begin_5 : decode cX4_begin 5 = .ok (.invokevirtual 96, 3) := by decide +kernel
theorem dX4_begin_8 : decode cX4_begin 8 = .ok (.aload_n 0, 1) := by decide +kernel
theorem dX4_begin_9 : decode cX4_begin 9 = .ok (.iconst 0, 1) := by decide +kernel
theorem dX4_begin_10 : decode cX4_begin 10 = .ok (.putfield 100, 3) := by decide +kernel
theorem dX4_begin_13 : decode cX4_begin 13 = .ok (.aload_n 0, 1) := by decide +kernel
theorem dX4_begin_14 : decode cX4_begin 14 = .ok (.iconst 0, 1) := by decide +kernel
theorem dX4_begin_15 : decode cX4_begin 15 = .ok (.putfield 62, 3) := by decide +kernel
theorem dX4_begin_18 : decode cX4_begin 18 = .ok (.aload_n 0, 1) := by decide +kernel
theorem dX4_begin_19 : decode cX4_begin 19 = .ok (.iload_n 2, 1) := by decide +kernel
theorem dX4_begin_20 : decode cX4_begin 20 = .ok (.putfield 103, 3) := by decide +kernel
theorem dX4_begin_23 : decode cX4_begin 23 = .ok (.aload_n 0, 1) := by decide +kernel
theorem dX4_begin_24 : decode cX4_begin 24 = .ok (.iconst 0, 1) := by decide +kernel
theorem dX4_begin_25 : decode cX4_begin 25 = .ok (.putfield 106, 3) := by decide +kernel
theorem dX4_begin_28 : decode cX4_begin 28 = .ok (.aload_n 0, 1) := by decide +kernel
theorem dX4_begin_29 : decode cX4_begin 29 = .ok (.iconst 0, 1) := by decide +kernel
theorem dX4_begin_30 : decode cX4_begin 30 = .ok (.putfield 68, 3) := by decide +kernel
theorem dX4_begin_33 : decode cX4_begin 33 = .ok (.aload_n 0, 1) := by decide +kernel
theorem dX4_begin_34 : decode cX4_begin 34 = .ok (.iconst 0, 1) := by decide +kernel
theorem dX4_begin_35 : decode cX4_begin 35 = .ok (.putfield 75, 3) := by decide +kernel
theorem dX4_begin_38 : decode cX4_begin 38 = .ok (.aload_n 0, 1) := by decide +kernel
theorem dX4_begin_39 : decode cX4_begin 39 = .ok (.iconst 0, 1) := by decide +kernel
theorem dX4_begin_40 : decode cX4_begin 40 = .ok (.putfield 81, 3) := by decide +kernel
theorem dX4_begin_43 : decode cX4_begin 43 = .ok (.aload_n 0, 1) := by decide +kernel
theorem dX4_begin_44 : decode cX4_begin 44 = .ok (.iconst (-1), 1) := by decide +kernel
theorem dX4_begin_45 : decode cX4_begin 45 = .ok (.putfield 84, 3) := by decide +kernel
theorem dX4_begin_48 : decode cX4_begin 48 = .ok (.aload_n 0, 1) := by decide +kernel
theorem dX4_begin_49 : decode cX4_begin 49 = .ok (.iconst 0, 1) := by decide +kernel
theorem dX4_begin_50 : decode cX4_begin 50 = .ok (.putfield 78, 3) := by decide +kernel
theorem dX4_begin_53 : decode cX4_begin 53 = .ok (.aload_n 0, 1) := by decide +kernel
theorem dX4_begin_54 : decode cX4_begin 54 = .ok (.iconst 0, 1) := by decide +kernel
theorem dX4_begin_55 : decode cX4_begin 55 = .ok (.putfield 87, 3) := by decide +kernel
theorem dX4_begin_58 : decode cX4_begin 58 = .ok (.aload_n 0, 1) := by decide +kernel
theorem dX4_begin_59 : decode cX4_begin 59 = .ok (.iconst 0, 1) := by decide +kernel
theorem dX4_begin_60 : decode cX4_begin 60 = .ok (.putfield 90, 3) := by decide +kernel
theorem dX4_begin_63 : decode cX4_begin 63 = .ok (.return_, 1) := by decide +kernel
theorem dX4_step_0 : decode cX4_step 0 = .ok (.aload_n 1, 1) := by decide +kernel
theorem dX4_step_1 : decode cX4_step 1 = .ok (.getfield 109, 3) := by decide +kernel
theorem dX4_step_4 : decode cX4_step 4 = .ok (.aload_n 0, 1) := by decide +kernel
theorem dX4_step_5 : decode cX4_step 5 = .ok (.getfield 62, 3) := by decide +kernel
theorem dX4_step_8 : decode cX4_step 8 = .ok (.iaload, 1) := by decide +kernel
theorem dX4_step_9 : decode cX4_step 9 = .ok (.istore_n 2, 1) := by decide +kernel
theorem dX4_step_10 : decode cX4_step 10 = .ok (.aload_n 1, 1) := by decide +kernel
theorem dX4_step_11 : decode cX4_step 11 = .ok (.getfield 112, 3) := by decide +kernel
theorem dX4_step_14 : decode cX4_step 14 = .ok (.aload_n 0, 1) := by decide +kernel
theorem dX4_step_15 : decode cX4_step 15 = .ok (.getfield 62, 3) := by decide +kernel
theorem dX4_step_18 : decode cX4_step 18 = .ok (.iaload, 1) := by decide +kernel
theorem dX4_step_19 : decode cX4_step 19 = .ok (.istore_n 3, 1) := by decide +kernel
theorem dX4_step_20 : decode cX4_step 20 = .ok (.aload_n 0, 1) := by decide +kernel
theorem dX4_step_21 : decode cX4_step 21 = .ok (.dup, 1) := by decide +kernel
theorem dX4_step_22 : decode cX4_step 22 = .ok (.getfield 62, 3) := by decide +kernel
theorem dX4_step_25 : decode cX4_step 25 = .ok (.iconst 1, 1) := by decide +kernel
theorem dX4_step_26 : decode cX4_step 26 = .ok (.iadd, 1) := by decide +kernel
theorem dX4_step_27 : decode cX4_step 27 = .ok (.putfield 62, 3) := by decide +kernel
theorem dX4_step_30 : decode cX4_step 30 = .ok (.iload_n 3, 1) := by decide +kernel
theorem dX4_step_31 : decode cX4_step 31 = .ok (.tableswitch 159 0 11 #[61, 69, 82, 93, 107, 159, 159, 159, 159, 118, 138, 150], 61) := by decide +kernel
theorem dX4_step_92 : decode cX4_step 92 = .ok (.aload_n 0, 1) := by decide +kernel
theorem dX4_step_93 : decode cX4_step 93 = .ok (.iload_n 2, 1) := by decide +kernel
theorem dX4_step_94 : decode cX4_step 94 = .ok (.invokevirtual 115, 3) := by decide +kernel
theorem dX4_step_97 : decode cX4_step 97 = .ok (.goto 98, 3) := by decide +kernel
theorem dX4_step_100 : decode cX4_step 100 = .ok (.aload_n 0, 1) := by decide +kernel
theorem dX4_step_101 : decode cX4_step 101 = .ok (.aload_n 0, 1) := by decide +kernel
theorem dX4_step_102 : decode cX4_step 102 = .ok (.getfield 22, 3) := by decide +kernel
theorem dX4_step_105 : decode cX4_step 105 = .ok (.iload_n 2, 1) := by decide +kernel
theorem dX4_step_106 : decode cX4_step 106 = .ok (.iaload, 1) := by decide +kernel
theorem dX4_step_107 : decode cX4_step 107 = .ok (.invokevirtual 115, 3) := by decide +kernel
theorem dX4_step_110 : decode cX4_step 110 = .ok (.goto 85, 3) := by decide +kernel
theorem dX4_step_113 : decode cX4_step 113 = .ok (.aload_n 0, 1) := by decide +kernel
theorem dX4_step_114 : decode cX4_step 114 = .ok (.aload_n 0, 1) := by decide +kernel
theorem dX4_step_115 : decode cX4_step 115 = .ok (.getfield 106, 3) := by decide +kernel
theorem dX4_step_118 : decode cX4_step 118 = .ok (.invokevirtual 115, 3) := by decide +kernel
theorem dX4_step_121 : decode cX4_step 121 = .ok (.goto 74, 3) := by decide +kernel
theorem dX4_step_124 : decode cX4_step 124 = .ok (.aload_n 0, 1) := by decide +kernel
theorem dX4_step_125 : decode cX4_step 125 = .ok (.aload_n 0, 1) := by decide +kernel
theorem dX4_step_126 : decode cX4_step 126 = .ok (.getfield 14, 3) := by decide +kernel
theorem dX4_step_129 : decode cX4_step 129 = .ok (.getfield 93, 3) := by decide +kernel
theorem dX4_step_132 : decode cX4_step 132 = .ok (.invokevirtual 115, 3) := by decide +kernel
theorem dX4_step_135 : decode cX4_step 135 = .ok (.goto 60, 3) := by decide +kernel
theorem dX4_step_138 : decode cX4_step 138 = .ok (.aload_n 0, 1) := by decide +kernel
theorem dX4_step_139 : decode cX4_step 139 = .ok (.aload_n 0, 1) := by decide +kernel
theorem dX4_step_140 : decode cX4_step 140 = .ok (.invokevirtual 118, 3) := by decide +kernel
theorem dX4_step_143 : decode cX4_step 143 = .ok (.invokevirtual 115, 3) := by decide +kernel
theorem dX4_step_146 : decode cX4_step 146 = .ok (.goto 49, 3) := by decide +kernel
theorem dX4_step_149 : decode cX4_step 149 = .ok (.aload_n 0, 1) := by decide +kernel
theorem dX4_step_150 : decode cX4_step 150 = .ok (.iload_n 2, 1) := by decide +kernel
theorem dX4_step_151 : decode cX4_step 151 = .ok (.aload_n 0, 1) := by decide +kernel
theorem dX4_step_152 : decode cX4_step 152 = .ok (.invokevirtual 122, 3) := by decide +kernel
theorem dX4_step_155 : decode cX4_step 155 = .ok (.aload_n 0, 1) := by decide +kernel
theorem dX4_step_156 : decode cX4_step 156 = .ok (.getfield 29, 3) := by decide +kernel
theorem dX4_step_159 : decode cX4_step 159 = .ok (.invokevirtual 125, 3) := by decide +kernel
theorem dX4_step_162 : decode cX4_step 162 = .ok (.iand, 1) := by decide +kernel
theorem dX4_step_163 : decode cX4_step 163 = .ok (.invokevirtual 130, 3) := by decide +kernel
theorem dX4_step_166 : decode cX4_step 166 = .ok (.goto 29, 3) := by decide +kernel
theorem dX4_step_169 : decode cX4_step 169 = .ok (.aload_n 0, 1) := by decide +kernel
theorem dX4_step_170 : decode cX4_step 170 = .ok (.getfield 22, 3) := by decide +kernel
theorem dX4_step_173 : decode cX4_step 173 = .ok (.iload_n 2, 1) := by decide +kernel
theorem dX4_step_174 : decode cX4_step 174 = .ok (.iconst 4, 1) := by decide +kernel
theorem dX4_step_175 : decode cX4_step 175 = .ok (.irem, 1) := by decide +kernel
theorem dX4_step_176 : decode cX4_step 176 = .ok (.iconst 0, 1) := by decide +kernel
theorem dX4_step_177 : decode cX4_step 177 = .ok (.iastore, 1) := by decide +kernel
theorem dX4_step_178 : decode cX4_step 178 = .ok (.goto 17, 3) := by decide +kernel
theorem dX4_step_181 : decode cX4_step 181 = .ok (.aload_n 0, 1) := by decide +kernel
theorem dX4_step_182 : decode cX4_step 182 = .ok (.aload_n 1, 1) := by decide +kernel
theorem dX4_step_183 : decode cX4_step 183 = .ok (.iload_n 2, 1) := by decide +kernel
theorem dX4_step_184 : decode cX4_step 184 = .ok (.invokevirtual 134, 3) := by decide +kernel
theorem dX4_step_187 : decode cX4_step 187 = .ok (.goto 8, 3) := by decide +kernel
theorem dX4_step_190 : decode cX4_step 190 = .ok (.aload_n 0, 1) := by decide +kernel
theorem dX4_step_191 : decode cX4_step 191 = .ok (.iload_n 3, 1) := by decide +kernel
theorem dX4_step_192 : decode cX4_step 192 = .ok (.invokevirtual 138, 3) := by decide +kernel
theorem dX4_step_195 : decode cX4_step 195 = .ok (.return_, 1) := by decide +kernel
theorem dX4_hold_0 : decode cX4_hold 0 = .ok (.aload_n 0, 1) := by decide +kernel
theorem dX4_hold_1 : decode cX4_hold 1 = .ok (.getfield 100, 3) := by decide +kernel
theorem dX4_hold_4 : decode cX4_hold 4 = .ok (.bipush 32, 2) := by decide +kernel
theorem dX4_hold_6 : decode cX4_hold 6 = .ok (.if_icmp .ge 23, 3) := by decide +kernel
theorem dX4_hold_9 : decode cX4_hold 9 = .ok (.aload_n 0, 1) := by decide +kernel
theorem dX4_hold_10 : decode cX4_hold 10 = .ok (.getfield 26, 3) := by decide +kernel
theorem dX4_hold_13 : decode cX4_hold 13 = .ok (.aload_n 0, 1) := by decide +kernel
theorem dX4_hold_14 : decode cX4_hold 14 = .ok (.getfield 100, 3) := by decide +kernel
theorem dX4_hold_17 : decode cX4_hold 17 = .ok (.iload_n 1, 1) := by decide +kernel
theorem dX4_hold_18 : decode cX4_hold 18 = .ok (.iastore, 1) := by decide +kernel
theorem dX4_hold_19 : decode cX4_hold 19 = .ok (.aload_n 0, 1) := by decide +kernel
theorem dX4_hold_20 : decode cX4_hold 20 = .ok (.dup, 1) := by decide +kernel
theorem dX4_hold_21 : decode cX4_hold 21 = .ok (.getfield 100, 3) := by decide +kernel
theorem dX4_hold_24 : decode cX4_hold 24 = .ok (.iconst 1, 1) := by decide +kernel
theorem dX4_hold_25 : decode cX4_hold 25 = .ok (.iadd, 1) := by decide +kernel
theorem dX4_hold_26 : decode cX4_hold 26 = .ok (.putfield 100, 3) := by decide +kernel
theorem dX4_hold_29 : decode cX4_hold 29 = .ok (.return_, 1) := by decide +kernel
theorem dX4_yieldHeld_0 : decode cX4_yieldHeld 0 = .ok (.aload_n 0, 1) := by decide +kernel
theorem dX4_yieldHeld_1 : decode cX4_yieldHeld 1 = .ok (.getfield 100, 3) := by decide +kernel
theorem dX4_yieldHeld_4 : decode cX4_yieldHeld 4 = .ok (.ifCond .gt 5, 3) := by decide +kernel
theorem dX4_yieldHeld_7 : decode cX4_yieldHeld 7 = .ok (.iconst 0, 1) := by decide +kernel
theorem dX4_yieldHeld_8 : decode cX4_yieldHeld 8 = .ok (.ireturn, 1) := by decide +kernel
theorem dX4_yieldHeld_9 : decode cX4_yieldHeld 9 = .ok (.aload_n 0, 1) := by decide +kernel
theorem dX4_yieldHeld_10 : decode cX4_yieldHeld 10 = .ok (.dup, 1) := by decide +kernel
theorem dX4_yieldHeld_11 : decode cX4_yieldHeld 11 = .ok (.getfield 100, 3) := by decide +kernel
theorem dX4_yieldHeld_14 : decode cX4_yieldHeld 14 = .ok (.iconst 1, 1) := by decide +kernel
theorem dX4_yieldHeld_15 : decode cX4_yieldHeld 15 = .ok (.isub, 1) := by decide +kernel
theorem dX4_yieldHeld_16 : decode cX4_yieldHeld 16 = .ok (.putfield 100, 3) := by decide +kernel
theorem dX4_yieldHeld_19 : decode cX4_yieldHeld 19 = .ok (.aload_n 0, 1) := by decide +kernel
theorem dX4_yieldHeld_20 : decode cX4_yieldHeld 20 = .ok (.getfield 26, 3) := by decide +kernel
theorem dX4_yieldHeld_23 : decode cX4_yieldHeld 23 = .ok (.aload_n 0, 1) := by decide +kernel
theorem dX4_yieldHeld_24 : decode cX4_yieldHeld 24 = .ok (.getfield 100, 3) := by decide +kernel
theorem dX4_yieldHeld_27 : decode cX4_yieldHeld 27 = .ok (.iaload, 1) := by decide +kernel
theorem dX4_yieldHeld_28 : decode cX4_yieldHeld 28 = .ok (.ireturn, 1) := by decide +kernel
theorem dX4_reckon_0 : decode cX4_reckon 0 = .ok (.aload_n 0, 1) := by decide +kernel
theorem dX4_reckon_1 : decode cX4_reckon 1 = .ok (.invokevirtual 122, 3) := by decide +kernel
theorem dX4_reckon_4 : decode cX4_reckon 4 = .ok (.istore_n 2, 1) := by decide +kernel
theorem dX4_reckon_5 : decode cX4_reckon 5 = .ok (.aload_n 0, 1) := by decide +kernel
theorem dX4_reckon_6 : decode cX4_reckon 6 = .ok (.invokevirtual 122, 3) := by decide +kernel
theorem dX4_reckon_9 : decode cX4_reckon 9 = .ok (.istore_n 3, 1) := by decide +kernel
theorem dX4_reckon_10 : decode cX4_reckon 10 = .ok (.iload_n 1, 1) := by decide +kernel
theorem dX4_reckon_11 : decode cX4_reckon 11 = .ok (.iconst 5, 1) := by decide +kernel
theorem dX4_reckon_12 : decode cX4_reckon 12 = .ok (.if_icmp .ne 13, 3) := by decide +kernel
theorem dX4_reckon_15 : decode cX4_reckon 15 = .ok (.aload_n 0, 1) := by decide +kernel
theorem dX4_reckon_16 : decode cX4_reckon 16 = .ok (.iload_n 3, 1) := by decide +kernel
theorem dX4_reckon_17 : decode cX4_reckon 17 = .ok (.iload_n 2, 1) := by decide +kernel
theorem dX4_reckon_18 : decode cX4_reckon 18 = .ok (.iadd, 1) := by decide +kernel
theorem dX4_reckon_19 : decode cX4_reckon 19 = .ok (.invokevirtual 115, 3) := by decide +kernel
theorem dX4_reckon_22 : decode cX4_reckon 22 = .ok (.goto 50, 3) := by decide +kernel
theorem dX4_reckon_25 : decode cX4_reckon 25 = .ok (.iload_n 1, 1) := by decide +kernel
theorem dX4_reckon_26 : decode cX4_reckon 26 = .ok (.bipush 6, 2) := by decide +kernel
theorem dX4_reckon_28 : decode cX4_reckon 28 = .ok (.if_icmp .ne 13, 3) := by decide +kernel
theorem dX4_reckon_31 : decode cX4_reckon 31 = .ok (.aload_n 0, 1) := by decide +kernel
theorem dX4_reckon_32 : decode cX4_reckon 32 = .ok (.iload_n 3, 1) := by decide +kernel
theorem dX4_reckon_33 : decode cX4_reckon 33 = .ok (.iload_n 2, 1) := by decide +kernel
theorem dX4_reckon_34 : decode cX4_reckon 34 = .ok (.isub, 1) := by decide +kernel
theorem dX4_reckon_35 : decode cX4_reckon 35 = .ok (.invokevirtual 115, 3) := by decide +kernel
theorem dX4_reckon_38 : decode cX4_reckon 38 = .ok (.goto 34, 3) := by decide +kernel
theorem dX4_reckon_41 : decode cX4_reckon 41 = .ok (.iload_n 1, 1) := by decide +kernel
theorem dX4_reckon_42 : decode cX4_reckon 42 = .ok (.bipush 7, 2) := by decide +kernel
theorem dX4_reckon_44 : decode cX4_reckon 44 = .ok (.if_icmp .ne 13, 3) := by decide +kernel
theorem dX4_reckon_47 : decode cX4_reckon 47 = .ok (.aload_n 0, 1) := by decide +kernel
theorem dX4_reckon_48 : decode cX4_reckon 48 = .ok (.iload_n 3, 1) := by decide +kernel
theorem dX4_reckon_49 : decode cX4_reckon 49 = .ok (.iload_n 2, 1) := by decide +kernel
theorem dX4_reckon_50 : decode cX4_reckon 50 = .ok (.imul, 1) := by decide +kernel
theorem dX4_reckon_51 : decode cX4_reckon 51 = .ok (.invokevirtual 115, 3) := by decide +kernel
theorem dX4_reckon_54 : decode cX4_reckon 54 = .ok (.goto 18, 3) := by decide +kernel
theorem dX4_reckon_57 : decode cX4_reckon 57 = .ok (.aload_n 0, 1) := by decide +kernel
theorem dX4_reckon_58 : decode cX4_reckon 58 = .ok (.iload_n 2, 1) := by decide +kernel
theorem dX4_reckon_59 : decode cX4_reckon 59 = .ok (.ifCond .ne 7, 3) := by decide +kernel
theorem dX4_reckon_62 : decode cX4_reckon 62 = .ok (.iconst 0, 1) := by decide +kernel
theorem dX4_reckon_63 : decode cX4_reckon 63 = .ok (.goto 6, 3) := by decide +kernel
theorem dX4_reckon_66 : decode cX4_reckon 66 = .ok (.iload_n 3, 1) := by decide +kernel
theorem dX4_reckon_67 : decode cX4_reckon 67 = .ok (.iload_n 2, 1) := by decide +kernel
theorem dX4_reckon_68 : decode cX4_reckon 68 = .ok (.irem, 1) := by decide +kernel
theorem dX4_reckon_69 : decode cX4_reckon 69 = .ok (.invokevirtual 115, 3) := by decide +kernel
theorem dX4_reckon_72 : decode cX4_reckon 72 = .ok (.return_, 1) := by decide +kernel
theorem dX4_nextDraw_0 : decode cX4_nextDraw 0 = .ok (.aload_n 0, 1) := by decide +kernel
theorem dX4_nextDraw_1 : decode cX4_nextDraw 1 = .ok (.aload_n 0, 1) := by decide +kernel
theorem dX4_nextDraw_2 : decode cX4_nextDraw 2 = .ok (.getfield 103, 3) := by decide +kernel
theorem dX4_nextDraw_5 : decode cX4_nextDraw 5 = .ok (.ldc 141, 2) := by decide +kernel
theorem dX4_nextDraw_7 : decode cX4_nextDraw 7 = .ok (.imul, 1) := by decide +kernel
theorem dX4_nextDraw_8 : decode cX4_nextDraw 8 = .ok (.sipush 12345, 3) := by decide +kernel
theorem dX4_nextDraw_11 : decode cX4_nextDraw 11 = .ok (.iadd, 1) := by decide +kernel
theorem dX4_nextDraw_12 : decode cX4_nextDraw 12 = .ok (.putfield 103, 3) := by decide +kernel
theorem dX4_nextDraw_15 : decode cX4_nextDraw 15 = .ok (.aload_n 0, 1) := by decide +kernel
theorem dX4_nextDraw_16 : decode cX4_nextDraw 16 = .ok (.getfield 103, 3) := by decide +kernel
theorem dX4_nextDraw_19 : decode cX4_nextDraw 19 = .ok (.bipush 8, 2) := by decide +kernel
theorem dX4_nextDraw_21 : decode cX4_nextDraw 21 = .ok (.iushr, 1) := by decide +kernel
theorem dX4_nextDraw_22 : decode cX4_nextDraw 22 = .ok (.ldc 142, 2) := by decide +kernel
theorem dX4_nextDraw_24 : decode cX4_nextDraw 24 = .ok (.iand, 1) := by decide +kernel
theorem dX4_nextDraw_25 : decode cX4_nextDraw 25 = .ok (.aload_n 0, 1) := by decide +kernel
theorem dX4_nextDraw_26 : decode cX4_nextDraw 26 = .ok (.getfield 29, 3) := by decide +kernel
theorem dX4_nextDraw_29 : decode cX4_nextDraw 29 = .ok (.invokevirtual 125, 3) := by decide +kernel
theorem dX4_nextDraw_32 : decode cX4_nextDraw 32 = .ok (.iconst 1, 1) := by decide +kernel
theorem dX4_nextDraw_33 : decode cX4_nextDraw 33 = .ok (.iadd, 1) := by decide +kernel
theorem dX4_nextDraw_34 : decode cX4_nextDraw 34 = .ok (.irem, 1) := by decide +kernel
theorem dX4_nextDraw_35 : decode cX4_nextDraw 35 = .ok (.ireturn, 1) := by decide +kernel
theorem dX4_goRound_0 : decode cX4_goRound 0 = .ok (.aload_n 1, 1) := by decide +kernel
theorem dX4_goRound_1 : decode cX4_goRound 1 = .ok (.getfield 109, 3) := by decide +kernel
theorem dX4_goRound_4 : decode cX4_goRound 4 = .ok (.iload_n 2, 1) := by decide +kernel
theorem dX4_goRound_5 : decode cX4_goRound 5 = .ok (.iaload, 1) := by decide +kernel
theorem dX4_goRound_6 : decode cX4_goRound 6 = .ok (.iconst 4, 1) := by decide +kernel
theorem dX4_goRound_7 : decode cX4_goRound 7 = .ok (.irem, 1) := by decide +kernel
theorem dX4_goRound_8 : decode cX4_goRound 8 = .ok (.istore_n 3, 1) := by decide +kernel
theorem dX4_goRound_9 : decode cX4_goRound 9 = .ok (.aload_n 0, 1) := by decide +kernel
theorem dX4_goRound_10 : decode cX4_goRound 10 = .ok (.getfield 22, 3) := by decide +kernel
theorem dX4_goRound_13 : decode cX4_goRound 13 = .ok (.iload_n 3, 1) := by decide +kernel
theorem dX4_goRound_14 : decode cX4_goRound 14 = .ok (.dup2, 1) := by decide +kernel
theorem dX4_goRound_15 : decode cX4_goRound 15 = .ok (.iaload, 1) := by decide +kernel
theorem dX4_goRound_16 : decode cX4_goRound 16 = .ok (.iconst 1, 1) := by decide +kernel
theorem dX4_goRound_17 : decode cX4_goRound 17 = .ok (.iadd, 1) := by decide +kernel
theorem dX4_goRound_18 : decode cX4_goRound 18 = .ok (.iastore, 1) := by decide +kernel
theorem dX4_goRound_19 : decode cX4_goRound 19 = .ok (.aload_n 0, 1) := by decide +kernel
theorem dX4_goRound_20 : decode cX4_goRound 20 = .ok (.getfield 22, 3) := by decide +kernel
theorem dX4_goRound_23 : decode cX4_goRound 23 = .ok (.iload_n 3, 1) := by decide +kernel
theorem dX4_goRound_24 : decode cX4_goRound 24 = .ok (.iaload, 1) := by decide +kernel
theorem dX4_goRound_25 : decode cX4_goRound 25 = .ok (.aload_n 1, 1) := by decide +kernel
theorem dX4_goRound_26 : decode cX4_goRound 26 = .ok (.getfield 109, 3) := by decide +kernel
theorem dX4_goRound_29 : decode cX4_goRound 29 = .ok (.iload_n 2, 1) := by decide +kernel
theorem dX4_goRound_30 : decode cX4_goRound 30 = .ok (.iaload, 1) := by decide +kernel
theorem dX4_goRound_31 : decode cX4_goRound 31 = .ok (.iconst 4, 1) := by decide +kernel
theorem dX4_goRound_32 : decode cX4_goRound 32 = .ok (.idiv, 1) := by decide +kernel
theorem dX4_goRound_33 : decode cX4_goRound 33 = .ok (.if_icmp .ge 10, 3) := by decide +kernel
theorem dX4_goRound_36 : decode cX4_goRound 36 = .ok (.aload_n 0, 1) := by decide +kernel
theorem dX4_goRound_37 : decode cX4_goRound 37 = .ok (.iload_n 2, 1) := by decide +kernel
theorem dX4_goRound_38 : decode cX4_goRound 38 = .ok (.iconst 1, 1) := by decide +kernel
theorem dX4_goRound_39 : decode cX4_goRound 39 = .ok (.iadd, 1) := by decide +kernel
theorem dX4_goRound_40 : decode cX4_goRound 40 = .ok (.putfield 62, 3) := by decide +kernel
theorem dX4_goRound_43 : decode cX4_goRound 43 = .ok (.return_, 1) := by decide +kernel
theorem dX4_makeCall_0 : decode cX4_makeCall 0 = .ok (.iload_n 1, 1) := by decide +kernel
theorem dX4_makeCall_1 : decode cX4_makeCall 1 = .ok (.ifCond .ne 22, 3) := by decide +kernel
theorem dX4_makeCall_4 : decode cX4_makeCall 4 = .ok (.aload_n 0, 1) := by decide +kernel
theorem dX4_makeCall_5 : decode cX4_makeCall 5 = .ok (.getfield 14, 3) := by decide +kernel
theorem dX4_makeCall_8 : decode cX4_makeCall 8 = .ok (.getfield 93, 3) := by decide +kernel
theorem dX4_makeCall_11 : decode cX4_makeCall 11 = .ok (.sipush 2000, 3) := by decide +kernel
theorem dX4_makeCall_14 : decode cX4_makeCall 14 = .ok (.if_icmp .lt 9, 3) := by decide +kernel
theorem dX4_makeCall_17 : decode cX4_makeCall 17 = .ok (.aload_n 0, 1) := by decide +kernel
theorem dX4_makeCall_18 : decode cX4_makeCall 18 = .ok (.iconst 1, 1) := by decide +kernel
theorem dX4_makeCall_19 : decode cX4_makeCall 19 = .ok (.putfield 68, 3) := by decide +kernel
theorem dX4_makeCall_22 : decode cX4_makeCall 22 = .ok (.return_, 1) := by decide +kernel
theorem dX4_makeCall_23 : decode cX4_makeCall 23 = .ok (.aload_n 0, 1) := by decide +kernel
theorem dX4_makeCall_24 : decode cX4_makeCall 24 = .ok (.getfield 38, 3) := by decide +kernel
theorem dX4_makeCall_27 : decode cX4_makeCall 27 = .ok (.iload_n 1, 1) := by decide +kernel
theorem dX4_makeCall_28 : decode cX4_makeCall 28 = .ok (.iload_n 2, 1) := by decide +kernel
theorem dX4_makeCall_29 : decode cX4_makeCall 29 = .ok (.invokevirtual 143, 3) := by decide +kernel
theorem dX4_makeCall_32 : decode cX4_makeCall 32 = .ok (.istore_n 3, 1) := by decide +kernel
theorem dX4_makeCall_33 : decode cX4_makeCall 33 = .ok (.iload_n 3, 1) := by decide +kernel
theorem dX4_makeCall_34 : decode cX4_makeCall 34 = .ok (.aload_n 0, 1) := by decide +kernel
theorem dX4_makeCall_35 : decode cX4_makeCall 35 = .ok (.getfield 81, 3) := by decide +kernel
theorem dX4_makeCall_38 : decode cX4_makeCall 38 = .ok (.if_icmp .le 16, 3) := by decide +kernel
theorem dX4_makeCall_41 : decode cX4_makeCall 41 = .ok (.aload_n 0, 1) := by decide +kernel
theorem dX4_makeCall_42 : decode cX4_makeCall 42 = .ok (.iload_n 3, 1) := by decide +kernel
theorem dX4_makeCall_43 : decode cX4_makeCall 43 = .ok (.putfield 81, 3) := by decide +kernel
theorem dX4_makeCall_46 : decode cX4_makeCall 46 = .ok (.aload_n 0, 1) := by decide +kernel
theorem dX4_makeCall_47 : decode cX4_makeCall 47 = .ok (.aload_n 0, 1) := by decide +kernel
theorem dX4_makeCall_48 : decode cX4_makeCall 48 = .ok (.getfield 75, 3) := by decide +kernel
theorem dX4_makeCall_51 : decode cX4_makeCall 51 = .ok (.putfield 84, 3) := by decide +kernel
theorem dX4_makeCall_54 : decode cX4_makeCall 54 = .ok (.aload_n 0, 1) := by decide +kernel
theorem dX4_makeCall_55 : decode cX4_makeCall 55 = .ok (.dup, 1) := by decide +kernel
theorem dX4_makeCall_56 : decode cX4_makeCall 56 = .ok (.getfield 78, 3) := by decide +kernel
theorem dX4_makeCall_59 : decode cX4_makeCall 59 = .ok (.iload_n 3, 1) := by decide +kernel
theorem dX4_makeCall_60 : decode cX4_makeCall 60 = .ok (.iadd, 1) := by decide +kernel
theorem dX4_makeCall_61 : decode cX4_makeCall 61 = .ok (.putfield 78, 3) := by decide +kernel
theorem dX4_makeCall_64 : decode cX4_makeCall 64 = .ok (.aload_n 0, 1) := by decide +kernel
theorem dX4_makeCall_65 : decode cX4_makeCall 65 = .ok (.dup, 1) := by decide +kernel
theorem dX4_makeCall_66 : decode cX4_makeCall 66 = .ok (.getfield 87, 3) := by decide +kernel
theorem dX4_makeCall_69 : decode cX4_makeCall 69 = .ok (.aload_n 0, 1) := by decide +kernel
theorem dX4_makeCall_70 : decode cX4_makeCall 70 = .ok (.getfield 14, 3) := by decide +kernel
theorem dX4_makeCall_73 : decode cX4_makeCall 73 = .ok (.iload_n 1, 1) := by decide +kernel
theorem dX4_makeCall_74 : decode cX4_makeCall 74 = .ok (.iload_n 2, 1) := by decide +kernel
theorem dX4_makeCall_75 : decode cX4_makeCall 75 = .ok (.aload_n 0, 1) := by decide +kernel
theorem dX4_makeCall_76 : decode cX4_makeCall 76 = .ok (.getfield 29, 3) := by decide +kernel
theorem dX4_makeCall_79 : decode cX4_makeCall 79 = .ok (.getfield 147, 3) := by decide +kernel
theorem dX4_makeCall_82 : decode cX4_makeCall 82 = .ok (.invokevirtual 150, 3) := by decide +kernel
theorem dX4_makeCall_85 : decode cX4_makeCall 85 = .ok (.iadd, 1) := by decide +kernel
theorem dX4_makeCall_86 : decode cX4_makeCall 86 = .ok (.putfield 87, 3) := by decide +kernel
theorem dX4_makeCall_89 : decode cX4_makeCall 89 = .ok (.aload_n 0, 1) := by decide +kernel
theorem dX4_makeCall_90 : decode cX4_makeCall 90 = .ok (.dup, 1) := by decide +kernel
theorem dX4_makeCall_91 : decode cX4_makeCall 91 = .ok (.getfield 90, 3) := by decide +kernel
theorem dX4_makeCall_94 : decode cX4_makeCall 94 = .ok (.aload_n 0, 1) := by decide +kernel
theorem dX4_makeCall_95 : decode cX4_makeCall 95 = .ok (.getfield 14, 3) := by decide +kernel
theorem dX4_makeCall_98 : decode cX4_makeCall 98 = .ok (.iload_n 1, 1) := by decide +kernel
theorem dX4_makeCall_99 : decode cX4_makeCall 99 = .ok (.iload_n 2, 1) := by decide +kernel
theorem dX4_makeCall_100 : decode cX4_makeCall 100 = .ok (.invokevirtual 154, 3) := by decide +kernel
theorem dX4_makeCall_103 : decode cX4_makeCall 103 = .ok (.iadd, 1) := by decide +kernel
theorem dX4_makeCall_104 : decode cX4_makeCall 104 = .ok (.putfield 90, 3) := by decide +kernel
theorem dX4_makeCall_107 : decode cX4_makeCall 107 = .ok (.aload_n 0, 1) := by decide +kernel
theorem dX4_makeCall_108 : decode cX4_makeCall 108 = .ok (.aload_n 0, 1) := by decide +kernel
theorem dX4_makeCall_109 : decode cX4_makeCall 109 = .ok (.getfield 14, 3) := by decide +kernel
theorem dX4_makeCall_112 : decode cX4_makeCall 112 = .ok (.iload_n 1, 1) := by decide +kernel
theorem dX4_makeCall_113 : decode cX4_makeCall 113 = .ok (.iload_n 2, 1) := by decide +kernel
theorem dX4_makeCall_114 : decode cX4_makeCall 114 = .ok (.invokevirtual 157, 3) := by decide +kernel
theorem dX4_makeCall_117 : decode cX4_makeCall 117 = .ok (.putfield 106, 3) := by decide +kernel
theorem dX4_makeCall_120 : decode cX4_makeCall 120 = .ok (.aload_n 0, 1) := by decide +kernel
theorem dX4_makeCall_121 : decode cX4_makeCall 121 = .ok (.dup, 1) := by decide +kernel
theorem dX4_makeCall_122 : decode cX4_makeCall 122 = .ok (.getfield 75, 3) := by decide +kernel
theorem dX4_makeCall_125 : decode cX4_makeCall 125 = .ok (.iconst 1, 1) := by decide +kernel
theorem dX4_makeCall_126 : decode cX4_makeCall 126 = .ok (.iadd, 1) := by decide +kernel
theorem dX4_makeCall_127 : decode cX4_makeCall 127 = .ok (.putfield 75, 3) := by decide +kernel
theorem dX4_makeCall_130 : decode cX4_makeCall 130 = .ok (.aload_n 0, 1) := by decide +kernel
theorem dX4_makeCall_131 : decode cX4_makeCall 131 = .ok (.aload_n 0, 1) := by decide +kernel
theorem dX4_makeCall_132 : decode cX4_makeCall 132 = .ok (.getfield 75, 3) := by decide +kernel
theorem dX4_makeCall_135 : decode cX4_makeCall 135 = .ok (.sipush 2000, 3) := by decide +kernel
theorem dX4_makeCall_138 : decode cX4_makeCall 138 = .ok (.if_icmp .lt 7, 3) := by decide +kernel
theorem dX4_makeCall_141 : decode cX4_makeCall 141 = .ok (.iconst 1, 1) := by decide +kernel
theorem dX4_makeCall_142 : decode cX4_makeCall 142 = .ok (.goto 4, 3) := by decide +kernel
theorem dX4_makeCall_145 : decode cX4_makeCall 145 = .ok (.iconst 0, 1) := by decide +kernel
theorem dX4_makeCall_146 : decode cX4_makeCall 146 = .ok (.putfield 68, 3) := by decide +kernel
theorem dX4_makeCall_149 : decode cX4_makeCall 149 = .ok (.return_, 1) := by decide +kernel
def D_X4_forget (N : Nat) (g : gp) (a0 : Nat) (δ : dp) : Option (dp) :=
  bd (s_I δ 4 16 a0 0) fun δ_1 => some δ_1
set_option maxHeartbeats 4000000 in
set_option maxRecDepth 100000 in
theorem c_X4_forget {l : Launch} {D : va_G} {cy : Nat → ClassId} {N d : Nat} {g : gp} (wt : WT g) (hl : l.stackTraces = false) (hd : 1 ≤ d) {a0 : Nat} {δ : dp} (k0 : q_K g a0 = 4) : CalD l D cy m_X4_forget d 0 0 ev g [.ref a0] δ (D_X4_forget N g a0 δ) := by
  refine CalD.of (by decide +kernel) (Nat.le_of_ble_eq_true rfl) hl ?_
  unfold D_X4_forget
  refine w_aload_n 0 0 (μ := m_X4_forget) (pc := 0) dX4_forget_0 rfl rfl ?_
  refine w_iconst (v := 0) (μ := m_X4_forget) (pc := 1) dX4_forget_1 (by decide) ?_
  refine w_putZ (μ := m_X4_forget) (pc := 2) dX4_forget_2 fl_X4_42 flw_4_16 ir_4_16 k0 (by decide) ?_
  refine w_bd (fun δ_1 e_2 => ?_)
  exact w_vret (μ := m_X4_forget) (pc := 5) dX4_forget_5 rfl rfl
def D_X4_tell (N : Nat) (g : gp) (a0 : Nat) (x1 : Int32) (δ : dp) : Option (Int32 × dp) :=
  if x1 = 0 then (some (q_I δ 4 10 a0, δ)) else (if x1 = 1 then (some (q_I δ 4 13 a0, δ)) else (if x1 = 2 then (some (q_I δ 4 11 a0, δ)) else (if x1 = 3 then (some (q_I δ 4 12 a0, δ)) else (if x1 = 4 then (some (q_I δ 4 14 a0, δ)) else (if x1 = 5 then (some (q_I δ 4 15 a0, δ)) else ((q_O g 4 1 a0).bind fun b_7 => some (q_I δ 3 1 b_7, δ)))))))
set_option maxHeartbeats 4000000 in
set_option maxRecDepth 100000 in
theorem c_X4_tell {l : Launch} {D : va_G} {cy : Nat → ClassId} {N d : Nat} {g : gp} (wt : WT g) (hl : l.stackTraces = false) (hd : 1 ≤ d) {a0 : Nat} {x1 : Int32} {δ : dp} (k0 : q_K g a0 = 4) : CalD l D cy m_X4_tell d 0 0 ei g [.ref a0, .int x1] δ (D_X4_tell N g a0 x1 δ) := by
  refine CalD.of (by decide +kernel) (Nat.le_of_ble_eq_true rfl) hl ?_
  unfold D_X4_tell
  refine w_iload_n 1 1 (μ := m_X4_tell) (pc := 0) dX4_tell_0 rfl rfl ?_
  refine w_by (fun c_1 => ?_) (fun c_1 => ?_)
  · refine w_tabIn (off := 39) 40 0 c_1 (μ := m_X4_tell) (pc := 1) dX4_tell_1 (by decide) (by decide) (by decide +kernel) (by decide) ?_
    refine w_aload_n 0 0 (μ := m_X4_tell) (pc := 40) dX4_tell_40 rfl rfl ?_
    refine w_getI (μ := m_X4_tell) (pc := 41) dX4_tell_41 fl_X4_75 ir_4_10 k0 ?_
    exact w_iret (μ := m_X4_tell) (pc := 44) dX4_tell_44 rfl rfl
  · skip
    refine w_by (fun c_2 => ?_) (fun c_2 => ?_)
    · refine w_tabIn (off := 44) 45 1 c_2 (μ := m_X4_tell) (pc := 1) dX4_tell_1 (by decide) (by decide) (by decide +kernel) (by decide) ?_
      refine w_aload_n 0 0 (μ := m_X4_tell) (pc := 45) dX4_tell_45 rfl rfl ?_
      refine w_getI (μ := m_X4_tell) (pc := 46) dX4_tell_46 fl_X4_78 ir_4_13 k0 ?_
      exact w_iret (μ := m_X4_tell) (pc := 49) dX4_tell_49 rfl rfl
    · skip
      refine w_by (fun c_3 => ?_) (fun c_3 => ?_)
      · refine w_tabIn (off := 49) 50 2 c_3 (μ := m_X4_tell) (pc := 1) dX4_tell_1 (by decide) (by decide) (by decide +kernel) (by decide) ?_
        refine w_aload_n 0 0 (μ := m_X4_tell) (pc := 50) dX4_tell_50 rfl rfl ?_
        refine w_getI (μ := m_X4_tell) (pc := 51) dX4_tell_51 fl_X4_81 ir_4_11 k0 ?_
        exact w_iret (μ := m_X4_tell) (pc := 54) dX4_tell_54 rfl rfl
      · skip
        refine w_by (fun c_4 => ?_) (fun c_4 => ?_)
        · refine w_tabIn (off := 54) 55 3 c_4 (μ := m_X4_tell) (pc := 1) dX4_tell_1 (by decide) (by decide) (by decide +kernel) (by decide) ?_
          refine w_aload_n 0 0 (μ := m_X4_tell) (pc := 55) dX4_tell_55 rfl rfl ?_
          refine w_getI (μ := m_X4_tell) (pc := 56) dX4_tell_56 fl_X4_84 ir_4_12 k0 ?_
          exact w_iret (μ := m_X4_tell) (pc := 59) dX4_tell_59 rfl rfl
        · skip
          refine w_by (fun c_5 => ?_) (fun c_5 => ?_)
          · refine w_tabIn (off := 59) 60 4 c_5 (μ := m_X4_tell) (pc := 1) dX4_tell_1 (by decide) (by decide) (by decide +kernel) (by decide) ?_
            refine w_aload_n 0 0 (μ := m_X4_tell) (pc := 60) dX4_tell_60 rfl rfl ?_
            refine w_getI (μ := m_X4_tell) (pc := 61) dX4_tell_61 fl_X4_87 ir_4_14 k0 ?_
            exact w_iret (μ := m_X4_tell) (pc := 64) dX4_tell_64 rfl rfl
          · skip
            refine w_by (fun c_6 => ?_) (fun c_6 => ?_)
            · refine w_tabIn (off := 64) 65 5 c_6 (μ := m_X4_tell) (pc := 1) dX4_tell_1 (by decide) (by decide) (by decide +kernel) (by decide) ?_
              refine w_aload_n 0 0 (μ := m_X4_tell) (pc := 65) dX4_tell_65 rfl rfl ?_
              refine w_getI (μ := m_X4_tell) (pc := 66) dX4_tell_66 fl_X4_90 ir_4_15 k0 ?_
              exact w_iret (μ := m_X4_tell) (pc := 69) dX4_tell_69 rfl rfl
            · skip
              refine w_tabOut 70 (μ := m_X4_tell) (pc := 1) dX4_tell_1 (by have c_1i : _ ≠ (0 : Int) := tabne c_1; have c_2i : _ ≠ (1 : Int) := tabne c_2; have c_3i : _ ≠ (2 : Int) := tabne c_3; have c_4i : _ ≠ (3 : Int) := tabne c_4; have c_5i : _ ≠ (4 : Int) := tabne c_5; have c_6i : _ ≠ (5 : Int) := tabne c_6; omega) (by decide) ?_
              refine w_aload_n 0 0 (μ := m_X4_tell) (pc := 70) dX4_tell_70 rfl rfl ?_
              refine w_getO (μ := m_X4_tell) (pc := 71) dX4_tell_71 fl_X4_14 ir_4_1 id_4_1 k0 (fun b_7 e_8 => ?_)
              refine w_getI (μ := m_X4_tell) (pc := 74) dX4_tell_74 fl_X4_93 ir_3_1 (wt_4_1 wt k0 e_8) ?_
              exact w_iret (μ := m_X4_tell) (pc := 77) dX4_tell_77 rfl rfl
def D_X4_begin (N : Nat) (g : gp) (a0 : Nat) (a1 : Nat) (x2 : Int32) (δ : dp) : Option (dp) :=
  (q_O g 4 1 a0).bind fun b_1 => (D_X3_copyFrom N g b_1 a1 δ).bind fun r_3 => bd (s_I r_3 4 5 a0 0) fun δ_4 => bd (s_I δ_4 4 6 a0 0) fun δ_6 => bd (s_I δ_6 4 7 a0 x2) fun δ_8 => bd (s_I δ_8 4 8 a0 0) fun δ_10 => bd (s_I δ_10 4 9 a0 0) fun δ_12 => bd (s_I δ_12 4 10 a0 0) fun δ_14 => bd (s_I δ_14 4 11 a0 0) fun δ_16 => bd (s_I δ_16 4 12 a0 ((-1))) fun δ_18 => bd (s_I δ_18 4 13 a0 0) fun δ_20 => bd (s_I δ_20 4 14 a0 0) fun δ_22 => bd (s_I δ_22 4 15 a0 0) fun δ_24 => some δ_24
set_option maxHeartbeats 4000000 in
set_option maxRecDepth 100000 in
theorem c_X4_begin {l : Launch} {D : va_G} {cy : Nat → ClassId} {N d : Nat} {g : gp} (wt : WT g) (hl : l.stackTraces = false) (hd : 3 ≤ d) {a0 : Nat} {a1 : Nat} {x2 : Int32} {δ : dp} (k0 : q_K g a0 = 4) (k1 : q_K g a1 = 3) : CalD l D cy m_X4_begin d 0 0 ev g [.ref a0, .ref a1, .int x2] δ (D_X4_begin N g a0 a1 x2 δ) := by
  refine CalD.of (by decide +kernel) (Nat.le_of_ble_eq_true rfl) hl ?_
  unfold D_X4_begin
  refine w_aload_n 0 0 (μ := m_X4_begin) (pc := 0) dX4_begin_0 rfl rfl ?_
  refine w_getO (μ := m_X4_begin) (pc := 1) dX4_begin_1 fl_X4_14 ir_4_1 id_4_1 k0 (fun b_1 e_2 => ?_)
  refine w_aload_n 1 1 (μ := m_X4_begin) (pc := 4) dX4_begin_4 rfl rfl ?_
  refine w_callV (As := [.ref a1]) (rest := []) (μ := m_X4_begin) (pc := 5) dX4_begin_5 cv_X4_96 rfl rfl (wt_4_1 wt k0 e_2) (by decide) rfl (Nat.le_of_ble_eq_true rfl) (d' := d - 1) (by omega) he_v (c_X3_copyFrom wt hl (d := d - 1) (by omega) (wt_4_1 wt k0 e_2) k1) (fun r_3 => ?_)
  refine w_aload_n 0 0 (μ := m_X4_begin) (pc := 8) dX4_begin_8 rfl rfl ?_
  refine w_iconst (v := 0) (μ := m_X4_begin) (pc := 9) dX4_begin_9 (by decide) ?_
  refine w_putI (μ := m_X4_begin) (pc := 10) dX4_begin_10 fl_X4_100 flw_4_5 ir_4_5 k0 ?_
  refine w_bd (fun δ_4 e_5 => ?_)
  refine w_aload_n 0 0 (μ := m_X4_begin) (pc := 13) dX4_begin_13 rfl rfl ?_
  refine w_iconst (v := 0) (μ := m_X4_begin) (pc := 14) dX4_begin_14 (by decide) ?_
  refine w_putI (μ := m_X4_begin) (pc := 15) dX4_begin_15 fl_X4_62 flw_4_6 ir_4_6 k0 ?_
  refine w_bd (fun δ_6 e_7 => ?_)
  refine w_aload_n 0 0 (μ := m_X4_begin) (pc := 18) dX4_begin_18 rfl rfl ?_
  refine w_iload_n 2 2 (μ := m_X4_begin) (pc := 19) dX4_begin_19 rfl rfl ?_
  refine w_putI (μ := m_X4_begin) (pc := 20) dX4_begin_20 fl_X4_103 flw_4_7 ir_4_7 k0 ?_
  refine w_bd (fun δ_8 e_9 => ?_)
  refine w_aload_n 0 0 (μ := m_X4_begin) (pc := 23) dX4_begin_23 rfl rfl ?_
  refine w_iconst (v := 0) (μ := m_X4_begin) (pc := 24) dX4_begin_24 (by decide) ?_
  refine w_putI (μ := m_X4_begin) (pc := 25) dX4_begin_25 fl_X4_106 flw_4_8 ir_4_8 k0 ?_
  refine w_bd (fun δ_10 e_11 => ?_)
  refine w_aload_n 0 0 (μ := m_X4_begin) (pc := 28) dX4_begin_28 rfl rfl ?_
  refine w_iconst (v := 0) (μ := m_X4_begin) (pc := 29) dX4_begin_29 (by decide) ?_
  refine w_putZ (μ := m_X4_begin) (pc := 30) dX4_begin_30 fl_X4_68 flw_4_9 ir_4_9 k0 (by decide) ?_
  refine w_bd (fun δ_12 e_13 => ?_)
  refine w_aload_n 0 0 (μ := m_X4_begin) (pc := 33) dX4_begin_33 rfl rfl ?_
  refine w_iconst (v := 0) (μ := m_X4_begin) (pc := 34) dX4_begin_34 (by decide) ?_
  refine w_putI (μ := m_X4_begin) (pc := 35) dX4_begin_35 fl_X4_75 flw_4_10 ir_4_10 k0 ?_
  refine w_bd (fun δ_14 e_15 => ?_)
  refine w_aload_n 0 0 (μ := m_X4_begin) (pc := 38) dX4_begin_38 rfl rfl ?_
  refine w_iconst (v := 0) (μ := m_X4_begin) (pc := 39) dX4_begin_39 (by decide) ?_
  refine w_putI (μ := m_X4_begin) (pc := 40) dX4_begin_40 fl_X4_81 flw_4_11 ir_4_11 k0 ?_
  refine w_bd (fun δ_16 e_17 => ?_)
  refine w_aload_n 0 0 (μ := m_X4_begin) (pc := 43) dX4_begin_43 rfl rfl ?_
  refine w_iconst (v := (-1)) (μ := m_X4_begin) (pc := 44) dX4_begin_44 (by decide) ?_
  refine w_putI (μ := m_X4_begin) (pc := 45) dX4_begin_45 fl_X4_84 flw_4_12 ir_4_12 k0 ?_
  refine w_bd (fun δ_18 e_19 => ?_)
  refine w_aload_n 0 0 (μ := m_X4_begin) (pc := 48) dX4_begin_48 rfl rfl ?_
  refine w_iconst (v := 0) (μ := m_X4_begin) (pc := 49) dX4_begin_49 (by decide) ?_
  refine w_putI (μ := m_X4_begin) (pc := 50) dX4_begin_50 fl_X4_78 flw_4_13 ir_4_13 k0 ?_
  refine w_bd (fun δ_20 e_21 => ?_)
  refine w_aload_n 0 0 (μ := m_X4_begin) (pc := 53) dX4_begin_53 rfl rfl ?_
  refine w_iconst (v := 0) (μ := m_X4_begin) (pc := 54) dX4_begin_54 (by decide) ?_
  refine w_putI (μ := m_X4_begin) (pc := 55) dX4_begin_55 fl_X4_87 flw_4_14 ir_4_14 k0 ?_
  refine w_bd (fun δ_22 e_23 => ?_)
  refine w_aload_n 0 0 (μ := m_X4_begin) (pc := 58) dX4_begin_58 rfl rfl ?_
  refine w_iconst (v := 0) (μ := m_X4_begin) (pc := 59) dX4_begin_59 (by decide) ?_
  refine w_putI (μ := m_X4_begin) (pc := 60) dX4_begin_60 fl_X4_90 flw_4_15 ir_4_15 k0 ?_
  refine w_bd (fun δ_24 e_25 => ?_)
  exact w_vret (μ := m_X4_begin) (pc := 63) dX4_begin_63 rfl rfl
def J_X4_hold_29 (N : Nat) (g : gp) (a0 : Nat) (x1 : Int32) (δ : dp) : Option (dp) :=
  some δ
set_option maxHeartbeats 4000000 in
set_option maxRecDepth 100000 in
theorem t_J_X4_hold_29 {l : Launch} {D : va_G} {cy : Nat → ClassId} {N d : Nat} {g : gp} (wt : WT g) (hl : l.stackTraces = false) (hd : 1 ≤ d) {a0 : Nat} {x1 : Int32} (k0 : q_K g a0 = 4) : ∀ (δ : dp), AWD l D cy m_X4_hold d 0 0 ev g 29 [] [] δ (J_X4_hold_29 N g a0 x1 δ) := by
    intro  δ 
    unfold J_X4_hold_29
    exact w_vret (μ := m_X4_hold) (pc := 29) dX4_hold_29 rfl rfl
def D_X4_hold (N : Nat) (g : gp) (a0 : Nat) (x1 : Int32) (δ : dp) : Option (dp) :=
  if (32 : Int32) ≤ (q_I δ 4 5 a0) then (J_X4_hold_29 N g a0 x1 δ) else ((q_O g 4 4 a0).bind fun b_2 => if (q_I δ 4 5 a0) < 0 ∨ q_N g b_2 ≤ (q_I δ 4 5 a0).toNatClampNeg then none else bd (s_R δ b_2 (q_I δ 4 5 a0).toNatClampNeg x1) fun δ_4 => bd (s_I δ_4 4 5 a0 ((q_I δ_4 4 5 a0) + 1)) fun δ_6 => J_X4_hold_29 N g a0 x1 δ_6)
set_option maxHeartbeats 4000000 in
set_option maxRecDepth 100000 in
theorem c_X4_hold {l : Launch} {D : va_G} {cy : Nat → ClassId} {N d : Nat} {g : gp} (wt : WT g) (hl : l.stackTraces = false) (hd : 1 ≤ d) {a0 : Nat} {x1 : Int32} {δ : dp} (k0 : q_K g a0 = 4) : CalD l D cy m_X4_hold d 0 0 ev g [.ref a0, .int x1] δ (D_X4_hold N g a0 x1 δ) := by
  refine CalD.of (by decide +kernel) (Nat.le_of_ble_eq_true rfl) hl ?_
  unfold D_X4_hold
  refine w_aload_n 0 0 (μ := m_X4_hold) (pc := 0) dX4_hold_0 rfl rfl ?_
  refine w_getI (μ := m_X4_hold) (pc := 1) dX4_hold_1 fl_X4_100 ir_4_5 k0 ?_
  refine w_bipush (v := 32) (μ := m_X4_hold) (pc := 4) dX4_hold_4 (by decide) ?_
  refine w_icmp_ge 29 (μ := m_X4_hold) (pc := 6) dX4_hold_6 (by decide) (fun c_1 => ?_) (fun c_1 => ?_)
  · refine w_lv [] rfl ?_
    exact t_J_X4_hold_29 wt hl (by omega) k0 _
  · refine w_aload_n 0 0 (μ := m_X4_hold) (pc := 9) dX4_hold_9 rfl rfl ?_
    refine w_getO (μ := m_X4_hold) (pc := 10) dX4_hold_10 fl_X4_26 ir_4_4 id_4_4 k0 (fun b_2 e_3 => ?_)
    refine w_aload_n 0 0 (μ := m_X4_hold) (pc := 13) dX4_hold_13 rfl rfl ?_
    refine w_getI (μ := m_X4_hold) (pc := 14) dX4_hold_14 fl_X4_100 ir_4_5 k0 ?_
    refine w_iload_n 1 1 (μ := m_X4_hold) (pc := 17) dX4_hold_17 rfl rfl ?_
    refine w_ast (μ := m_X4_hold) (pc := 18) dX4_hold_18 (wt_4_4 wt k0 e_3) ?_
    refine w_bd (fun δ_4 e_5 => ?_)
    refine w_aload_n 0 0 (μ := m_X4_hold) (pc := 19) dX4_hold_19 rfl rfl ?_
    refine w_dup (μ := m_X4_hold) (pc := 20) dX4_hold_20 rfl ?_
    refine w_getI (μ := m_X4_hold) (pc := 21) dX4_hold_21 fl_X4_100 ir_4_5 k0 ?_
    refine w_iconst (v := 1) (μ := m_X4_hold) (pc := 24) dX4_hold_24 (by decide) ?_
    refine w_iadd (μ := m_X4_hold) (pc := 25) dX4_hold_25 ?_
    refine w_putI (μ := m_X4_hold) (pc := 26) dX4_hold_26 fl_X4_100 flw_4_5 ir_4_5 k0 ?_
    refine w_bd (fun δ_6 e_7 => ?_)
    refine w_lv [] rfl ?_
    exact t_J_X4_hold_29 wt hl (by omega) k0 _
def D_X4_yieldHeld (N : Nat) (g : gp) (a0 : Nat) (δ : dp) : Option (Int32 × dp) :=
  if 0 < (q_I δ 4 5 a0) then (bd (s_I δ 4 5 a0 ((q_I δ 4 5 a0) - 1)) fun δ_2 => (q_O g 4 4 a0).bind fun b_4 => if (q_I δ_2 4 5 a0) < 0 ∨ q_N g b_4 ≤ (q_I δ_2 4 5 a0).toNatClampNeg then none else some (q_R δ_2 b_4 (q_I δ_2 4 5 a0).toNatClampNeg, δ_2)) else (some (0, δ))
set_option maxHeartbeats 4000000 in
set_option maxRecDepth 100000 in
theorem c_X4_yieldHeld {l : Launch} {D : va_G} {cy : Nat → ClassId} {N d : Nat} {g : gp} (wt : WT g) (hl : l.stackTraces = false) (hd : 1 ≤ d) {a0 : Nat} {δ : dp} (k0 : q_K g a0 = 4) : CalD l D cy m_X4_yieldHeld d 0 0 ei g [.ref a0] δ (D_X4_yieldHeld N g a0 δ) := by
  refine CalD.of (by decide +kernel) (Nat.le_of_ble_eq_true rfl) hl ?_
  unfold D_X4_yieldHeld
  refine w_aload_n 0 0 (μ := m_X4_yieldHeld) (pc := 0) dX4_yieldHeld_0 rfl rfl ?_
  refine w_getI (μ := m_X4_yieldHeld) (pc := 1) dX4_yieldHeld_1 fl_X4_100 ir_4_5 k0 ?_
  refine w_if_gt 9 (μ := m_X4_yieldHeld) (pc := 4) dX4_yieldHeld_4 (by decide) (fun c_1 => ?_) (fun c_1 => ?_)
  · refine w_aload_n 0 0 (μ := m_X4_yieldHeld) (pc := 9) dX4_yieldHeld_9 rfl rfl ?_
    refine w_dup (μ := m_X4_yieldHeld) (pc := 10) dX4_yieldHeld_10 rfl ?_
    refine w_getI (μ := m_X4_yieldHeld) (pc := 11) dX4_yieldHeld_11 fl_X4_100 ir_4_5 k0 ?_
    refine w_iconst (v := 1) (μ := m_X4_yieldHeld) (pc := 14) dX4_yieldHeld_14 (by decide) ?_
    refine w_isub (μ := m_X4_yieldHeld) (pc := 15) dX4_yieldHeld_15 ?_
    refine w_putI (μ := m_X4_yieldHeld) (pc := 16) dX4_yieldHeld_16 fl_X4_100 flw_4_5 ir_4_5 k0 ?_
    refine w_bd (fun δ_2 e_3 => ?_)
    refine w_aload_n 0 0 (μ := m_X4_yieldHeld) (pc := 19) dX4_yieldHeld_19 rfl rfl ?_
    refine w_getO (μ := m_X4_yieldHeld) (pc := 20) dX4_yieldHeld_20 fl_X4_26 ir_4_4 id_4_4 k0 (fun b_4 e_5 => ?_)
    refine w_aload_n 0 0 (μ := m_X4_yieldHeld) (pc := 23) dX4_yieldHeld_23 rfl rfl ?_
    refine w_getI (μ := m_X4_yieldHeld) (pc := 24) dX4_yieldHeld_24 fl_X4_100 ir_4_5 k0 ?_
    refine w_ald (μ := m_X4_yieldHeld) (pc := 27) dX4_yieldHeld_27 (wt_4_4 wt k0 e_5) ?_
    exact w_iret (μ := m_X4_yieldHeld) (pc := 28) dX4_yieldHeld_28 rfl rfl
  · refine w_iconst (v := 0) (μ := m_X4_yieldHeld) (pc := 7) dX4_yieldHeld_7 (by decide) ?_
    exact w_iret (μ := m_X4_yieldHeld) (pc := 8) dX4_yieldHeld_8 rfl rfl
def J_X4_reckon_72 (N : Nat) (g : gp) (a0 : Nat) (x1 : Int32) (δ : dp) : Option (dp) :=
  some δ
set_option maxHeartbeats 4000000 in
set_option maxRecDepth 100000 in
theorem t_J_X4_reckon_72 {l : Launch} {D : va_G} {cy : Nat → ClassId} {N d : Nat} {g : gp} (wt : WT g) (hl : l.stackTraces = false) (hd : 2 ≤ d) {a0 : Nat} {x1 : Int32} (k0 : q_K g a0 = 4) : ∀ (δ : dp), AWD l D cy m_X4_reckon d 0 0 ev g 72 [] [] δ (J_X4_reckon_72 N g a0 x1 δ) := by
    intro  δ 
    unfold J_X4_reckon_72
    exact w_vret (μ := m_X4_reckon) (pc := 72) dX4_reckon_72 rfl rfl
def J_X4_reckon_69 (N : Nat) (g : gp) (a0 : Nat) (x1 : Int32) (xs0 : Int32) (as1 : Nat) (δ : dp) : Option (dp) :=
  (D_X4_hold N g as1 xs0 δ).bind fun r_8 => J_X4_reckon_72 N g a0 x1 r_8
set_option maxHeartbeats 4000000 in
set_option maxRecDepth 100000 in
theorem t_J_X4_reckon_69 {l : Launch} {D : va_G} {cy : Nat → ClassId} {N d : Nat} {g : gp} (wt : WT g) (hl : l.stackTraces = false) (hd : 2 ≤ d) {a0 : Nat} {x1 : Int32} (k0 : q_K g a0 = 4) : ∀ (xs0 : Int32) (as1 : Nat) (δ : dp), q_K g as1 = 4 → AWD l D cy m_X4_reckon d 0 0 ev g 69 [] [.int xs0, .ref as1] δ (J_X4_reckon_69 N g a0 x1 xs0 as1 δ) := by
    intro xs0 as1 δ has1
    unfold J_X4_reckon_69
    refine w_callV (As := [.int xs0]) (rest := []) (μ := m_X4_reckon) (pc := 69) dX4_reckon_69 cv_X4_115 rfl rfl has1 (by decide) rfl (Nat.le_of_ble_eq_true rfl) (d' := d - 1) (by omega) he_v (c_X4_hold wt hl (d := d - 1) (by omega) has1) (fun r_8 => ?_)
    exact t_J_X4_reckon_72 wt hl (by omega) k0 _
def D_X4_reckon (N : Nat) (g : gp) (a0 : Nat) (x1 : Int32) (δ : dp) : Option (dp) :=
  (D_X4_yieldHeld N g a0 δ).bind fun r_1 => (D_X4_yieldHeld N g a0 r_1.2).bind fun r_2 => if x1 = (5 : Int32) then ((D_X4_hold N g a0 (r_2.1 + r_1.1) r_2.2).bind fun r_11 => J_X4_reckon_72 N g a0 x1 r_11) else (if x1 = (6 : Int32) then ((D_X4_hold N g a0 (r_2.1 - r_1.1) r_2.2).bind fun r_10 => J_X4_reckon_72 N g a0 x1 r_10) else (if x1 = (7 : Int32) then ((D_X4_hold N g a0 (r_2.1 * r_1.1) r_2.2).bind fun r_9 => J_X4_reckon_72 N g a0 x1 r_9) else (if r_1.1 = 0 then (J_X4_reckon_69 N g a0 x1 0 a0 r_2.2) else (if r_1.1 = 0 then none else J_X4_reckon_69 N g a0 x1 (r_2.1 - r_2.1 / r_1.1 * r_1.1) a0 r_2.2))))
set_option maxHeartbeats 4000000 in
set_option maxRecDepth 100000 in
theorem c_X4_reckon {l : Launch} {D : va_G} {cy : Nat → ClassId} {N d : Nat} {g : gp} (wt : WT g) (hl : l.stackTraces = false) (hd : 2 ≤ d) {a0 : Nat} {x1 : Int32} {δ : dp} (k0 : q_K g a0 = 4) : CalD l D cy m_X4_reckon d 0 0 ev g [.ref a0, .int x1] δ (D_X4_reckon N g a0 x1 δ) := by
  refine CalD.of (by decide +kernel) (Nat.le_of_ble_eq_true rfl) hl ?_
  unfold D_X4_reckon
  refine w_aload_n 0 0 (μ := m_X4_reckon) (pc := 0) dX4_reckon_0 rfl rfl ?_
  refine w_callV (As := []) (rest := []) (μ := m_X4_reckon) (pc := 1) dX4_reckon_1 cv_X4_122 rfl rfl k0 (by decide) rfl (Nat.le_of_ble_eq_true rfl) (d' := d - 1) (by omega) he_i (c_X4_yieldHeld wt hl (d := d - 1) (by omega) k0) (fun r_1 => ?_)
  refine w_istore_n [(2, .int r_1.1), (0, .ref a0), (1, .int x1)] (μ := m_X4_reckon) (pc := 4) dX4_reckon_4 rfl (by decide) rfl ?_
  refine w_aload_n 1 0 (μ := m_X4_reckon) (pc := 5) dX4_reckon_5 rfl rfl ?_
  refine w_callV (As := []) (rest := []) (μ := m_X4_reckon) (pc := 6) dX4_reckon_6 cv_X4_122 rfl rfl k0 (by decide) rfl (Nat.le_of_ble_eq_true rfl) (d' := d - 1) (by omega) he_i (c_X4_yieldHeld wt hl (d := d - 1) (by omega) k0) (fun r_2 => ?_)
  refine w_istore_n [(3, .int r_2.1), (2, .int r_1.1), (0, .ref a0), (1, .int x1)] (μ := m_X4_reckon) (pc := 9) dX4_reckon_9 rfl (by decide) rfl ?_
  refine w_iload_n 3 1 (μ := m_X4_reckon) (pc := 10) dX4_reckon_10 rfl rfl ?_
  refine w_iconst (v := 5) (μ := m_X4_reckon) (pc := 11) dX4_reckon_11 (by decide) ?_
  refine w_icmp_ne 25 (μ := m_X4_reckon) (pc := 12) dX4_reckon_12 (by decide) (fun c_3 => ?_) (fun c_3 => ?_)
  · refine w_iload_n 3 1 (μ := m_X4_reckon) (pc := 25) dX4_reckon_25 rfl rfl ?_
    refine w_bipush (v := 6) (μ := m_X4_reckon) (pc := 26) dX4_reckon_26 (by decide) ?_
    refine w_icmp_ne 41 (μ := m_X4_reckon) (pc := 28) dX4_reckon_28 (by decide) (fun c_4 => ?_) (fun c_4 => ?_)
    · refine w_iload_n 3 1 (μ := m_X4_reckon) (pc := 41) dX4_reckon_41 rfl rfl ?_
      refine w_bipush (v := 7) (μ := m_X4_reckon) (pc := 42) dX4_reckon_42 (by decide) ?_
      refine w_icmp_ne 57 (μ := m_X4_reckon) (pc := 44) dX4_reckon_44 (by decide) (fun c_5 => ?_) (fun c_5 => ?_)
      · refine w_aload_n 2 0 (μ := m_X4_reckon) (pc := 57) dX4_reckon_57 rfl rfl ?_
        refine w_iload_n 1 2 (μ := m_X4_reckon) (pc := 58) dX4_reckon_58 rfl rfl ?_
        refine w_if_ne 66 (μ := m_X4_reckon) (pc := 59) dX4_reckon_59 (by decide) (fun c_6 => ?_) (fun c_6 => ?_)
        · refine w_iload_n 0 3 (μ := m_X4_reckon) (pc := 66) dX4_reckon_66 rfl rfl ?_
          refine w_iload_n 1 2 (μ := m_X4_reckon) (pc := 67) dX4_reckon_67 rfl rfl ?_
          refine w_gn (fun z_7 => ?_)
          refine w_irem (μ := m_X4_reckon) (pc := 68) dX4_reckon_68 z_7 ?_
          refine w_lv [] rfl ?_
          exact t_J_X4_reckon_69 wt hl (by omega) k0 _ _ _ k0
        · refine w_iconst (v := 0) (μ := m_X4_reckon) (pc := 62) dX4_reckon_62 (by decide) ?_
          refine w_goto 69 (μ := m_X4_reckon) (pc := 63) dX4_reckon_63 (by decide) ?_
          refine w_lv [] rfl ?_
          exact t_J_X4_reckon_69 wt hl (by omega) k0 _ _ _ k0
      · refine w_aload_n 2 0 (μ := m_X4_reckon) (pc := 47) dX4_reckon_47 rfl rfl ?_
        refine w_iload_n 0 3 (μ := m_X4_reckon) (pc := 48) dX4_reckon_48 rfl rfl ?_
        refine w_iload_n 1 2 (μ := m_X4_reckon) (pc := 49) dX4_reckon_49 rfl rfl ?_
        refine w_imul (μ := m_X4_reckon) (pc := 50) dX4_reckon_50 ?_
        refine w_callV (As := [.int (r_2.1 * r_1.1)]) (rest := []) (μ := m_X4_reckon) (pc := 51) dX4_reckon_51 cv_X4_115 rfl rfl k0 (by decide) rfl (Nat.le_of_ble_eq_true rfl) (d' := d - 1) (by omega) he_v (c_X4_hold wt hl (d := d - 1) (by omega) k0) (fun r_9 => ?_)
        refine w_goto 72 (μ := m_X4_reckon) (pc := 54) dX4_reckon_54 (by decide) ?_
        refine w_lv [] rfl ?_
        exact t_J_X4_reckon_72 wt hl (by omega) k0 _
    · refine w_aload_n 2 0 (μ := m_X4_reckon) (pc := 31) dX4_reckon_31 rfl rfl ?_
      refine w_iload_n 0 3 (μ := m_X4_reckon) (pc := 32) dX4_reckon_32 rfl rfl ?_
      refine w_iload_n 1 2 (μ := m_X4_reckon) (pc := 33) dX4_reckon_33 rfl rfl ?_
      refine w_isub (μ := m_X4_reckon) (pc := 34) dX4_reckon_34 ?_
      refine w_callV (As := [.int (r_2.1 - r_1.1)]) (rest := []) (μ := m_X4_reckon) (pc := 35) dX4_reckon_35 cv_X4_115 rfl rfl k0 (by decide) rfl (Nat.le_of_ble_eq_true rfl) (d' := d - 1) (by omega) he_v (c_X4_hold wt hl (d := d - 1) (by omega) k0) (fun r_10 => ?_)
      refine w_goto 72 (μ := m_X4_reckon) (pc := 38) dX4_reckon_38 (by decide) ?_
      refine w_lv [] rfl ?_
      exact t_J_X4_reckon_72 wt hl (by omega) k0 _
  · refine w_aload_n 2 0 (μ := m_X4_reckon) (pc := 15) dX4_reckon_15 rfl rfl ?_
    refine w_iload_n 0 3 (μ := m_X4_reckon) (pc := 16) dX4_reckon_16 rfl rfl ?_
    refine w_iload_n 1 2 (μ := m_X4_reckon) (pc := 17) dX4_reckon_17 rfl rfl ?_
    refine w_iadd (μ := m_X4_reckon) (pc := 18) dX4_reckon_18 ?_
    refine w_callV (As := [.int (r_2.1 + r_1.1)]) (rest := []) (μ := m_X4_reckon) (pc := 19) dX4_reckon_19 cv_X4_115 rfl rfl k0 (by decide) rfl (Nat.le_of_ble_eq_true rfl) (d' := d - 1) (by omega) he_v (c_X4_hold wt hl (d := d - 1) (by omega) k0) (fun r_11 => ?_)
    refine w_goto 72 (μ := m_X4_reckon) (pc := 22) dX4_reckon_22 (by decide) ?_
    refine w_lv [] rfl ?_
    exact t_J_X4_reckon_72 wt hl (by omega) k0 _
def D_X4_nextDraw (N : Nat) (g : gp) (a0 : Nat) (δ : dp) : Option (Int32 × dp) :=
  bd (s_I δ 4 7 a0 (((q_I δ 4 7 a0) * 1103515245) + 12345)) fun δ_1 => (q_O g 4 0 a0).bind fun b_3 => (D_X5_greatest N g b_3 δ_1).bind fun r_5 => if (r_5.1 + 1) = 0 then none else some (((((q_I δ_1 4 7 a0).toUInt32 >>> ((8 : Int32).toUInt32 &&& Int32.toUInt32 31)).toInt32) &&& 65535) - ((((q_I δ_1 4 7 a0).toUInt32 >>> ((8 : Int32).toUInt32 &&& Int32.toUInt32 31)).toInt32) &&& 65535) / (r_5.1 + 1) * (r_5.1 + 1), r_5.2)
set_option maxHeartbeats 4000000 in
set_option maxRecDepth 100000 in
theorem c_X4_nextDraw {l : Launch} {D : va_G} {cy : Nat → ClassId} {N d : Nat} {g : gp} (wt : WT g) (hl : l.stackTraces = false) (hd : 2 ≤ d) {a0 : Nat} {δ : dp} (k0 : q_K g a0 = 4) : CalD l D cy m_X4_nextDraw d 0 0 ei g [.ref a0] δ (D_X4_nextDraw N g a0 δ) := by
  refine CalD.of (by decide +kernel) (Nat.le_of_ble_eq_true rfl) hl ?_
  unfold D_X4_nextDraw
  refine w_aload_n 0 0 (μ := m_X4_nextDraw) (pc := 0) dX4_nextDraw_0 rfl rfl ?_
  refine w_aload_n 0 0 (μ := m_X4_nextDraw) (pc := 1) dX4_nextDraw_1 rfl rfl ?_
  refine w_getI (μ := m_X4_nextDraw) (pc := 2) dX4_nextDraw_2 fl_X4_103 ir_4_7 k0 ?_
  refine w_ldc (v := 1103515245) (μ := m_X4_nextDraw) (pc := 5) dX4_nextDraw_5 cn_X4_141 ?_
  refine w_imul (μ := m_X4_nextDraw) (pc := 7) dX4_nextDraw_7 ?_
  refine w_sipush (v := 12345) (μ := m_X4_nextDraw) (pc := 8) dX4_nextDraw_8 (by decide) ?_
  refine w_iadd (μ := m_X4_nextDraw) (pc := 11) dX4_nextDraw_11 ?_
  refine w_putI (μ := m_X4_nextDraw) (pc := 12) dX4_nextDraw_12 fl_X4_103 flw_4_7 ir_4_7 k0 ?_
  refine w_bd (fun δ_1 e_2 => ?_)
  refine w_aload_n 0 0 (μ := m_X4_nextDraw) (pc := 15) dX4_nextDraw_15 rfl rfl ?_
  refine w_getI (μ := m_X4_nextDraw) (pc := 16) dX4_nextDraw_16 fl_X4_103 ir_4_7 k0 ?_
  refine w_bipush (v := 8) (μ := m_X4_nextDraw) (pc := 19) dX4_nextDraw_19 (by decide) ?_
  refine w_iushr (μ := m_X4_nextDraw) (pc := 21) dX4_nextDraw_21 ?_
  refine w_ldc (v := 65535) (μ := m_X4_nextDraw) (pc := 22) dX4_nextDraw_22 cn_X4_142 ?_
  refine w_iand (μ := m_X4_nextDraw) (pc := 24) dX4_nextDraw_24 ?_
  refine w_aload_n 0 0 (μ := m_X4_nextDraw) (pc := 25) dX4_nextDraw_25 rfl rfl ?_
  refine w_getO (μ := m_X4_nextDraw) (pc := 26) dX4_nextDraw_26 fl_X4_29 ir_4_0 id_4_0 k0 (fun b_3 e_4 => ?_)
  refine w_callV (As := []) (rest := [.int ((((q_I δ_1 4 7 a0).toUInt32 >>> ((8 : Int32).toUInt32 &&& Int32.toUInt32 31)).toInt32) &&& 65535)]) (μ := m_X4_nextDraw) (pc := 29) dX4_nextDraw_29 cv_X4_125 rfl rfl (wt_4_0 wt k0 e_4) (by decide) rfl (Nat.le_of_ble_eq_true rfl) (d' := d - 1) (by omega) he_i (c_X5_greatest wt hl (d := d - 1) (by omega) (wt_4_0 wt k0 e_4)) (fun r_5 => ?_)
  refine w_iconst (v := 1) (μ := m_X4_nextDraw) (pc := 32) dX4_nextDraw_32 (by decide) ?_
  refine w_iadd (μ := m_X4_nextDraw) (pc := 33) dX4_nextDraw_33 ?_
  refine w_gn (fun z_6 => ?_)
  refine w_irem (μ := m_X4_nextDraw) (pc := 34) dX4_nextDraw_34 z_6 ?_
  exact w_iret (μ := m_X4_nextDraw) (pc := 35) dX4_nextDraw_35 rfl rfl
def J_X4_goRound_43 (N : Nat) (g : gp) (a0 : Nat) (a1 : Nat) (x2 : Int32) (δ : dp) : Option (dp) :=
  some δ
set_option maxHeartbeats 4000000 in
set_option maxRecDepth 100000 in
theorem t_J_X4_goRound_43 {l : Launch} {D : va_G} {cy : Nat → ClassId} {N d : Nat} {g : gp} (wt : WT g) (hl : l.stackTraces = false) (hd : 1 ≤ d) {a0 : Nat} {a1 : Nat} {x2 : Int32} (k0 : q_K g a0 = 4) (k1 : q_K g a1 = 8) : ∀ (δ : dp), AWD l D cy m_X4_goRound d 0 0 ev g 43 [] [] δ (J_X4_goRound_43 N g a0 a1 x2 δ) := by
    intro  δ 
    unfold J_X4_goRound_43
    exact w_vret (μ := m_X4_goRound) (pc := 43) dX4_goRound_43 rfl rfl
def D_X4_goRound (N : Nat) (g : gp) (a0 : Nat) (a1 : Nat) (x2 : Int32) (δ : dp) : Option (dp) :=
  (q_O g 8 1 a1).bind fun b_1 => if x2 < 0 ∨ q_N g b_1 ≤ x2.toNatClampNeg then none else bi ((q_R δ b_1 x2.toNatClampNeg) - (q_R δ b_1 x2.toNatClampNeg) / 4 * 4) fun x_3 => (q_O g 4 3 a0).bind fun b_5 => if x_3 < 0 ∨ q_N g b_5 ≤ x_3.toNatClampNeg then none else if x_3 < 0 ∨ q_N g b_5 ≤ x_3.toNatClampNeg then none else bd (s_R δ b_5 x_3.toNatClampNeg ((q_R δ b_5 x_3.toNatClampNeg) + 1)) fun δ_7 => (q_O g 4 3 a0).bind fun b_9 => if x_3 < 0 ∨ q_N g b_9 ≤ x_3.toNatClampNeg then none else (q_O g 8 1 a1).bind fun b_11 => if x2 < 0 ∨ q_N g b_11 ≤ x2.toNatClampNeg then none else if ((q_R δ_7 b_11 x2.toNatClampNeg) / 4) ≤ (q_R δ_7 b_9 x_3.toNatClampNeg) then (J_X4_goRound_43 N g a0 a1 x2 δ_7) else (bd (s_I δ_7 4 6 a0 (x2 + 1)) fun δ_14 => J_X4_goRound_43 N g a0 a1 x2 δ_14)
set_option maxHeartbeats 4000000 in
set_option maxRecDepth 100000 in
theorem c_X4_goRound {l : Launch} {D : va_G} {cy : Nat → ClassId} {N d : Nat} {g : gp} (wt : WT g) (hl : l.stackTraces = false) (hd : 1 ≤ d) {a0 : Nat} {a1 : Nat} {x2 : Int32} {δ : dp} (k0 : q_K g a0 = 4) (k1 : q_K g a1 = 8) : CalD l D cy m_X4_goRound d 0 0 ev g [.ref a0, .ref a1, .int x2] δ (D_X4_goRound N g a0 a1 x2 δ) := by
  refine CalD.of (by decide +kernel) (Nat.le_of_ble_eq_true rfl) hl ?_
  unfold D_X4_goRound
  refine w_aload_n 1 1 (μ := m_X4_goRound) (pc := 0) dX4_goRound_0 rfl rfl ?_
  refine w_getO (μ := m_X4_goRound) (pc := 1) dX4_goRound_1 fl_X4_109 ir_8_1 id_8_1 k1 (fun b_1 e_2 => ?_)
  refine w_iload_n 2 2 (μ := m_X4_goRound) (pc := 4) dX4_goRound_4 rfl rfl ?_
  refine w_ald (μ := m_X4_goRound) (pc := 5) dX4_goRound_5 (wt_8_1 wt k1 e_2) ?_
  refine w_iconst (v := 4) (μ := m_X4_goRound) (pc := 6) dX4_goRound_6 (by decide) ?_
  refine w_irem (μ := m_X4_goRound) (pc := 7) dX4_goRound_7 (by decide) ?_
  refine w_bi (fun x_3 e_4 => ?_)
  refine w_istore_n [(3, .int x_3), (0, .ref a0), (1, .ref a1), (2, .int x2)] (μ := m_X4_goRound) (pc := 8) dX4_goRound_8 rfl (by decide) rfl ?_
  refine w_aload_n 1 0 (μ := m_X4_goRound) (pc := 9) dX4_goRound_9 rfl rfl ?_
  refine w_getO (μ := m_X4_goRound) (pc := 10) dX4_goRound_10 fl_X4_22 ir_4_3 id_4_3 k0 (fun b_5 e_6 => ?_)
  refine w_iload_n 0 3 (μ := m_X4_goRound) (pc := 13) dX4_goRound_13 rfl rfl ?_
  refine w_dup2 (μ := m_X4_goRound) (pc := 14) dX4_goRound_14 rfl rfl ?_
  refine w_ald (μ := m_X4_goRound) (pc := 15) dX4_goRound_15 (wt_4_3 wt k0 e_6) ?_
  refine w_iconst (v := 1) (μ := m_X4_goRound) (pc := 16) dX4_goRound_16 (by decide) ?_
  refine w_iadd (μ := m_X4_goRound) (pc := 17) dX4_goRound_17 ?_
  refine w_ast (μ := m_X4_goRound) (pc := 18) dX4_goRound_18 (wt_4_3 wt k0 e_6) ?_
  refine w_bd (fun δ_7 e_8 => ?_)
  refine w_aload_n 1 0 (μ := m_X4_goRound) (pc := 19) dX4_goRound_19 rfl rfl ?_
  refine w_getO (μ := m_X4_goRound) (pc := 20) dX4_goRound_20 fl_X4_22 ir_4_3 id_4_3 k0 (fun b_9 e_10 => ?_)
  refine w_iload_n 0 3 (μ := m_X4_goRound) (pc := 23) dX4_goRound_23 rfl rfl ?_
  refine w_ald (μ := m_X4_goRound) (pc := 24) dX4_goRound_24 (wt_4_3 wt k0 e_10) ?_
  refine w_aload_n 2 1 (μ := m_X4_goRound) (pc := 25) dX4_goRound_25 rfl rfl ?_
  refine w_getO (μ := m_X4_goRound) (pc := 26) dX4_goRound_26 fl_X4_109 ir_8_1 id_8_1 k1 (fun b_11 e_12 => ?_)
  refine w_iload_n 3 2 (μ := m_X4_goRound) (pc := 29) dX4_goRound_29 rfl rfl ?_
  refine w_ald (μ := m_X4_goRound) (pc := 30) dX4_goRound_30 (wt_8_1 wt k1 e_12) ?_
  refine w_iconst (v := 4) (μ := m_X4_goRound) (pc := 31) dX4_goRound_31 (by decide) ?_
  refine w_idiv (μ := m_X4_goRound) (pc := 32) dX4_goRound_32 (by decide) ?_
  refine w_icmp_ge 43 (μ := m_X4_goRound) (pc := 33) dX4_goRound_33 (by decide) (fun c_13 => ?_) (fun c_13 => ?_)
  · refine w_lv [] rfl ?_
    exact t_J_X4_goRound_43 wt hl (by omega) k0 k1 _
  · refine w_aload_n 1 0 (μ := m_X4_goRound) (pc := 36) dX4_goRound_36 rfl rfl ?_
    refine w_iload_n 3 2 (μ := m_X4_goRound) (pc := 37) dX4_goRound_37 rfl rfl ?_
    refine w_iconst (v := 1) (μ := m_X4_goRound) (pc := 38) dX4_goRound_38 (by decide) ?_
    refine w_iadd (μ := m_X4_goRound) (pc := 39) dX4_goRound_39 ?_
    refine w_putI (μ := m_X4_goRound) (pc := 40) dX4_goRound_40 fl_X4_62 flw_4_6 ir_4_6 k0 ?_
    refine w_bd (fun δ_14 e_15 => ?_)
    refine w_lv [] rfl ?_
    exact t_J_X4_goRound_43 wt hl (by omega) k0 k1 _
def J_X4_makeCall_146 (N : Nat) (g : gp) (a0 : Nat) (x1 : Int32) (x2 : Int32) (xs0 : Int32) (as1 : Nat) (δ : dp) : Option (dp) :=
  if xs0 = 0 ∨ xs0 = 1 then bd (s_I δ 4 9 as1 xs0) fun δ_28 => some δ_28 else none
set_option maxHeartbeats 4000000 in
set_option maxRecDepth 100000 in
theorem t_J_X4_makeCall_146 {l : Launch} {D : va_G} {cy : Nat → ClassId} {N d : Nat} {g : gp} (wt : WT g) (hl : l.stackTraces = false) (hd : 5 ≤ d) {a0 : Nat} {x1 : Int32} {x2 : Int32} (k0 : q_K g a0 = 4) : ∀ (xs0 : Int32) (as1 : Nat) (δ : dp), q_K g as1 = 4 → AWD l D cy m_X4_makeCall d 0 0 ev g 146 [] [.int xs0, .ref as1] δ (J_X4_makeCall_146 N g a0 x1 x2 xs0 as1 δ) := by
    intro xs0 as1 δ has1
    unfold J_X4_makeCall_146
    refine w_gd (fun z_30 => ?_)
    refine w_putZ (μ := m_X4_makeCall) (pc := 146) dX4_makeCall_146 fl_X4_68 flw_4_9 ir_4_9 has1 z_30 ?_
    refine w_bd (fun δ_28 e_29 => ?_)
    exact w_vret (μ := m_X4_makeCall) (pc := 149) dX4_makeCall_149 rfl rfl
def J_X4_makeCall_54 (N : Nat) (g : gp) (a0 : Nat) (x1 : Int32) (x2 : Int32) (x3v : Int32) (δ : dp) : Option (dp) :=
  bd (s_I δ 4 13 a0 ((q_I δ 4 13 a0) + x3v)) fun δ_6 => (q_O g 4 1 a0).bind fun b_8 => (q_O g 4 0 a0).bind fun b_10 => (D_X3_touchesInWords N g b_8 x1 x2 (q_I δ_6 5 0 b_10) δ_6).bind fun r_12 => bd (s_I r_12.2 4 14 a0 ((q_I δ_6 4 14 a0) + r_12.1)) fun δ_13 => (q_O g 4 1 a0).bind fun b_15 => (D_X3_touchesInRow N g b_15 x1 x2 δ_13).bind fun r_17 => bd (s_I r_17.2 4 15 a0 ((q_I δ_13 4 15 a0) + r_17.1)) fun δ_18 => (q_O g 4 1 a0).bind fun b_20 => (D_X3_answer N g b_20 x1 x2 δ_18).bind fun r_22 => bd (s_I r_22.2 4 8 a0 r_22.1) fun δ_23 => bd (s_I δ_23 4 10 a0 ((q_I δ_23 4 10 a0) + 1)) fun δ_25 => if (q_I δ_25 4 10 a0) < (2000 : Int32) then (J_X4_makeCall_146 N g a0 x1 x2 0 a0 δ_25) else (J_X4_makeCall_146 N g a0 x1 x2 1 a0 δ_25)
set_option maxHeartbeats 4000000 in
set_option maxRecDepth 100000 in
theorem t_J_X4_makeCall_54 {l : Launch} {D : va_G} {cy : Nat → ClassId} {N d : Nat} {g : gp} (wt : WT g) (hl : l.stackTraces = false) (hd : 5 ≤ d) {a0 : Nat} {x1 : Int32} {x2 : Int32} (k0 : q_K g a0 = 4) : ∀ (x3v : Int32) (δ : dp), AWD l D cy m_X4_makeCall d 0 0 ev g 54 [(0, .ref a0), (1, .int x1), (2, .int x2), (3, .int x3v)] [] δ (J_X4_makeCall_54 N g a0 x1 x2 x3v δ) := by
    intro x3v δ 
    unfold J_X4_makeCall_54
    refine w_aload_n 0 0 (μ := m_X4_makeCall) (pc := 54) dX4_makeCall_54 rfl rfl ?_
    refine w_dup (μ := m_X4_makeCall) (pc := 55) dX4_makeCall_55 rfl ?_
    refine w_getI (μ := m_X4_makeCall) (pc := 56) dX4_makeCall_56 fl_X4_78 ir_4_13 k0 ?_
    refine w_iload_n 3 3 (μ := m_X4_makeCall) (pc := 59) dX4_makeCall_59 rfl rfl ?_
    refine w_iadd (μ := m_X4_makeCall) (pc := 60) dX4_makeCall_60 ?_
    refine w_putI (μ := m_X4_makeCall) (pc := 61) dX4_makeCall_61 fl_X4_78 flw_4_13 ir_4_13 k0 ?_
    refine w_bd (fun δ_6 e_7 => ?_)
    refine w_aload_n 0 0 (μ := m_X4_makeCall) (pc := 64) dX4_makeCall_64 rfl rfl ?_
    refine w_dup (μ := m_X4_makeCall) (pc := 65) dX4_makeCall_65 rfl ?_
    refine w_getI (μ := m_X4_makeCall) (pc := 66) dX4_makeCall_66 fl_X4_87 ir_4_14 k0 ?_
    refine w_aload_n 0 0 (μ := m_X4_makeCall) (pc := 69) dX4_makeCall_69 rfl rfl ?_
    refine w_getO (μ := m_X4_makeCall) (pc := 70) dX4_makeCall_70 fl_X4_14 ir_4_1 id_4_1 k0 (fun b_8 e_9 => ?_)
    refine w_iload_n 1 1 (μ := m_X4_makeCall) (pc := 73) dX4_makeCall_73 rfl rfl ?_
    refine w_iload_n 2 2 (μ := m_X4_makeCall) (pc := 74) dX4_makeCall_74 rfl rfl ?_
    refine w_aload_n 0 0 (μ := m_X4_makeCall) (pc := 75) dX4_makeCall_75 rfl rfl ?_
    refine w_getO (μ := m_X4_makeCall) (pc := 76) dX4_makeCall_76 fl_X4_29 ir_4_0 id_4_0 k0 (fun b_10 e_11 => ?_)
    refine w_getI (μ := m_X4_makeCall) (pc := 79) dX4_makeCall_79 fl_X4_147 ir_5_0 (wt_4_0 wt k0 e_11) ?_
    refine w_callV (As := [.int x1, .int x2, .int (q_I δ_6 5 0 b_10)]) (rest := [.int (q_I δ_6 4 14 a0), .ref a0]) (μ := m_X4_makeCall) (pc := 82) dX4_makeCall_82 cv_X4_150 rfl rfl (wt_4_1 wt k0 e_9) (by decide) rfl (Nat.le_of_ble_eq_true rfl) (d' := d - 1) (by omega) he_i (c_X3_touchesInWords wt hl (d := d - 1) (by omega) (wt_4_1 wt k0 e_9)) (fun r_12 => ?_)
    refine w_iadd (μ := m_X4_makeCall) (pc := 85) dX4_makeCall_85 ?_
    refine w_putI (μ := m_X4_makeCall) (pc := 86) dX4_makeCall_86 fl_X4_87 flw_4_14 ir_4_14 k0 ?_
    refine w_bd (fun δ_13 e_14 => ?_)
    refine w_aload_n 0 0 (μ := m_X4_makeCall) (pc := 89) dX4_makeCall_89 rfl rfl ?_
    refine w_dup (μ := m_X4_makeCall) (pc := 90) dX4_makeCall_90 rfl ?_
    refine w_getI (μ := m_X4_makeCall) (pc := 91) dX4_makeCall_91 fl_X4_90 ir_4_15 k0 ?_
    refine w_aload_n 0 0 (μ := m_X4_makeCall) (pc := 94) dX4_makeCall_94 rfl rfl ?_
    refine w_getO (μ := m_X4_makeCall) (pc := 95) dX4_makeCall_95 fl_X4_14 ir_4_1 id_4_1 k0 (fun b_15 e_16 => ?_)
    refine w_iload_n 1 1 (μ := m_X4_makeCall) (pc := 98) dX4_makeCall_98 rfl rfl ?_
    refine w_iload_n 2 2 (μ := m_X4_makeCall) (pc := 99) dX4_makeCall_99 rfl rfl ?_
    refine w_callV (As := [.int x1, .int x2]) (rest := [.int (q_I δ_13 4 15 a0), .ref a0]) (μ := m_X4_makeCall) (pc := 100) dX4_makeCall_100 cv_X4_154 rfl rfl (wt_4_1 wt k0 e_16) (by decide) rfl (Nat.le_of_ble_eq_true rfl) (d' := d - 1) (by omega) he_i (c_X3_touchesInRow wt hl (d := d - 1) (by omega) (wt_4_1 wt k0 e_16)) (fun r_17 => ?_)
    refine w_iadd (μ := m_X4_makeCall) (pc := 103) dX4_makeCall_103 ?_
    refine w_putI (μ := m_X4_makeCall) (pc := 104) dX4_makeCall_104 fl_X4_90 flw_4_15 ir_4_15 k0 ?_
    refine w_bd (fun δ_18 e_19 => ?_)
    refine w_aload_n 0 0 (μ := m_X4_makeCall) (pc := 107) dX4_makeCall_107 rfl rfl ?_
    refine w_aload_n 0 0 (μ := m_X4_makeCall) (pc := 108) dX4_makeCall_108 rfl rfl ?_
    refine w_getO (μ := m_X4_makeCall) (pc := 109) dX4_makeCall_109 fl_X4_14 ir_4_1 id_4_1 k0 (fun b_20 e_21 => ?_)
    refine w_iload_n 1 1 (μ := m_X4_makeCall) (pc := 112) dX4_makeCall_112 rfl rfl ?_
    refine w_iload_n 2 2 (μ := m_X4_makeCall) (pc := 113) dX4_makeCall_113 rfl rfl ?_
    refine w_callV (As := [.int x1, .int x2]) (rest := [.ref a0]) (μ := m_X4_makeCall) (pc := 114) dX4_makeCall_114 cv_X4_157 rfl rfl (wt_4_1 wt k0 e_21) (by decide) rfl (Nat.le_of_ble_eq_true rfl) (d' := d - 1) (by omega) he_i (c_X3_answer wt hl (d := d - 1) (by omega) (wt_4_1 wt k0 e_21)) (fun r_22 => ?_)
    refine w_putI (μ := m_X4_makeCall) (pc := 117) dX4_makeCall_117 fl_X4_106 flw_4_8 ir_4_8 k0 ?_
    refine w_bd (fun δ_23 e_24 => ?_)
    refine w_aload_n 0 0 (μ := m_X4_makeCall) (pc := 120) dX4_makeCall_120 rfl rfl ?_
    refine w_dup (μ := m_X4_makeCall) (pc := 121) dX4_makeCall_121 rfl ?_
    refine w_getI (μ := m_X4_makeCall) (pc := 122) dX4_makeCall_122 fl_X4_75 ir_4_10 k0 ?_
    refine w_iconst (v := 1) (μ := m_X4_makeCall) (pc := 125) dX4_makeCall_125 (by decide) ?_
    refine w_iadd (μ := m_X4_makeCall) (pc := 126) dX4_makeCall_126 ?_
    refine w_putI (μ := m_X4_makeCall) (pc := 127) dX4_makeCall_127 fl_X4_75 flw_4_10 ir_4_10 k0 ?_
    refine w_bd (fun δ_25 e_26 => ?_)
    refine w_aload_n 0 0 (μ := m_X4_makeCall) (pc := 130) dX4_makeCall_130 rfl rfl ?_
    refine w_aload_n 0 0 (μ := m_X4_makeCall) (pc := 131) dX4_makeCall_131 rfl rfl ?_
    refine w_getI (μ := m_X4_makeCall) (pc := 132) dX4_makeCall_132 fl_X4_75 ir_4_10 k0 ?_
    refine w_sipush (v := 2000) (μ := m_X4_makeCall) (pc := 135) dX4_makeCall_135 (by decide) ?_
    refine w_icmp_lt 145 (μ := m_X4_makeCall) (pc := 138) dX4_makeCall_138 (by decide) (fun c_27 => ?_) (fun c_27 => ?_)
    · refine w_iconst (v := 0) (μ := m_X4_makeCall) (pc := 145) dX4_makeCall_145 (by decide) ?_
      refine w_lv [] rfl ?_
      exact t_J_X4_makeCall_146 wt hl (by omega) k0 _ _ _ k0
    · refine w_iconst (v := 1) (μ := m_X4_makeCall) (pc := 141) dX4_makeCall_141 (by decide) ?_
      refine w_goto 146 (μ := m_X4_makeCall) (pc := 142) dX4_makeCall_142 (by decide) ?_
      refine w_lv [] rfl ?_
      exact t_J_X4_makeCall_146 wt hl (by omega) k0 _ _ _ k0
def J_X4_makeCall_23 (N : Nat) (g : gp) (a0 : Nat) (x1 : Int32) (x2 : Int32) (δ : dp) : Option (dp) :=
  (q_O g 4 2 a0).bind fun b_2 => (D_X1_touchesOf N g b_2 x1 x2 δ).bind fun r_4 => if r_4.1 ≤ (q_I r_4.2 4 11 a0) then (J_X4_makeCall_54 N g a0 x1 x2 r_4.1 r_4.2) else (bd (s_I r_4.2 4 11 a0 r_4.1) fun δ_31 => bd (s_I δ_31 4 12 a0 (q_I δ_31 4 10 a0)) fun δ_33 => J_X4_makeCall_54 N g a0 x1 x2 r_4.1 δ_33)
set_option maxHeartbeats 4000000 in
set_option maxRecDepth 100000 in
theorem t_J_X4_makeCall_23 {l : Launch} {D : va_G} {cy : Nat → ClassId} {N d : Nat} {g : gp} (wt : WT g) (hl : l.stackTraces = false) (hd : 5 ≤ d) {a0 : Nat} {x1 : Int32} {x2 : Int32} (k0 : q_K g a0 = 4) : ∀ (δ : dp), AWD l D cy m_X4_makeCall d 0 0 ev g 23 [(0, .ref a0), (1, .int x1), (2, .int x2)] [] δ (J_X4_makeCall_23 N g a0 x1 x2 δ) := by
    intro  δ 
    unfold J_X4_makeCall_23
    refine w_aload_n 0 0 (μ := m_X4_makeCall) (pc := 23) dX4_makeCall_23 rfl rfl ?_
    refine w_getO (μ := m_X4_makeCall) (pc := 24) dX4_makeCall_24 fl_X4_38 ir_4_2 id_4_2 k0 (fun b_2 e_3 => ?_)
    refine w_iload_n 1 1 (μ := m_X4_makeCall) (pc := 27) dX4_makeCall_27 rfl rfl ?_
    refine w_iload_n 2 2 (μ := m_X4_makeCall) (pc := 28) dX4_makeCall_28 rfl rfl ?_
    refine w_callV (As := [.int x1, .int x2]) (rest := []) (μ := m_X4_makeCall) (pc := 29) dX4_makeCall_29 cv_X4_143 rfl rfl (wt_4_2 wt k0 e_3) (by decide) rfl (Nat.le_of_ble_eq_true rfl) (d' := d - 1) (by omega) he_i (c_X1_touchesOf wt hl (d := d - 1) (by omega) (wt_4_2 wt k0 e_3)) (fun r_4 => ?_)
    refine w_istore_n [(3, .int r_4.1), (0, .ref a0), (1, .int x1), (2, .int x2)] (μ := m_X4_makeCall) (pc := 32) dX4_makeCall_32 rfl (by decide) rfl ?_
    refine w_iload_n 0 3 (μ := m_X4_makeCall) (pc := 33) dX4_makeCall_33 rfl rfl ?_
    refine w_aload_n 1 0 (μ := m_X4_makeCall) (pc := 34) dX4_makeCall_34 rfl rfl ?_
    refine w_getI (μ := m_X4_makeCall) (pc := 35) dX4_makeCall_35 fl_X4_81 ir_4_11 k0 ?_
    refine w_icmp_le 54 (μ := m_X4_makeCall) (pc := 38) dX4_makeCall_38 (by decide) (fun c_5 => ?_) (fun c_5 => ?_)
    · refine w_lv [1, 2, 3, 0] rfl ?_
      exact t_J_X4_makeCall_54 wt hl (by omega) k0 _ _
    · refine w_aload_n 1 0 (μ := m_X4_makeCall) (pc := 41) dX4_makeCall_41 rfl rfl ?_
      refine w_iload_n 0 3 (μ := m_X4_makeCall) (pc := 42) dX4_makeCall_42 rfl rfl ?_
      refine w_putI (μ := m_X4_makeCall) (pc := 43) dX4_makeCall_43 fl_X4_81 flw_4_11 ir_4_11 k0 ?_
      refine w_bd (fun δ_31 e_32 => ?_)
      refine w_aload_n 1 0 (μ := m_X4_makeCall) (pc := 46) dX4_makeCall_46 rfl rfl ?_
      refine w_aload_n 1 0 (μ := m_X4_makeCall) (pc := 47) dX4_makeCall_47 rfl rfl ?_
      refine w_getI (μ := m_X4_makeCall) (pc := 48) dX4_makeCall_48 fl_X4_75 ir_4_10 k0 ?_
      refine w_putI (μ := m_X4_makeCall) (pc := 51) dX4_makeCall_51 fl_X4_84 flw_4_12 ir_4_12 k0 ?_
      refine w_bd (fun δ_33 e_34 => ?_)
      refine w_lv [1, 2, 3, 0] rfl ?_
      exact t_J_X4_makeCall_54 wt hl (by omega) k0 _ _
def D_X4_makeCall (N : Nat) (g : gp) (a0 : Nat) (x1 : Int32) (x2 : Int32) (δ : dp) : Option (dp) :=
  if x1 = 0 then ((q_O g 4 1 a0).bind fun b_35 => if (q_I δ 3 1 b_35) < (2000 : Int32) then (J_X4_makeCall_23 N g a0 x1 x2 δ) else (bd (s_I δ 4 9 a0 1) fun δ_38 => some δ_38)) else (J_X4_makeCall_23 N g a0 x1 x2 δ)
set_option maxHeartbeats 4000000 in
set_option maxRecDepth 100000 in
theorem c_X4_makeCall {l : Launch} {D : va_G} {cy : Nat → ClassId} {N d : Nat} {g : gp} (wt : WT g) (hl : l.stackTraces = false) (hd : 5 ≤ d) {a0 : Nat} {x1 : Int32} {x2 : Int32} {δ : dp} (k0 : q_K g a0 = 4) : CalD l D cy m_X4_makeCall d 0 0 ev g [.ref a0, .int x1, .int x2] δ (D_X4_makeCall N g a0 x1 x2 δ) := by
  refine CalD.of (by decide +kernel) (Nat.le_of_ble_eq_true rfl) hl ?_
  unfold D_X4_makeCall
  refine w_iload_n 1 1 (μ := m_X4_makeCall) (pc := 0) dX4_makeCall_0 rfl rfl ?_
  refine w_if_ne 23 (μ := m_X4_makeCall) (pc := 1) dX4_makeCall_1 (by decide) (fun c_1 => ?_) (fun c_1 => ?_)
  · exact t_J_X4_makeCall_23 wt hl (by omega) k0 _
  · refine w_aload_n 0 0 (μ := m_X4_makeCall) (pc := 4) dX4_makeCall_4 rfl rfl ?_
    refine w_getO (μ := m_X4_makeCall) (pc := 5) dX4_makeCall_5 fl_X4_14 ir_4_1 id_4_1 k0 (fun b_35 e_36 => ?_)
    refine w_getI (μ := m_X4_makeCall) (pc := 8) dX4_makeCall_8 fl_X4_93 ir_3_1 (wt_4_1 wt k0 e_36) ?_
    refine w_sipush (v := 2000) (μ := m_X4_makeCall) (pc := 11) dX4_makeCall_11 (by decide) ?_
    refine w_icmp_lt 23 (μ := m_X4_makeCall) (pc := 14) dX4_makeCall_14 (by decide) (fun c_37 => ?_) (fun c_37 => ?_)
    · exact t_J_X4_makeCall_23 wt hl (by omega) k0 _
    · refine w_aload_n 0 0 (μ := m_X4_makeCall) (pc := 17) dX4_makeCall_17 rfl rfl ?_
      refine w_iconst (v := 1) (μ := m_X4_makeCall) (pc := 18) dX4_makeCall_18 (by decide) ?_
      refine w_putZ (μ := m_X4_makeCall) (pc := 19) dX4_makeCall_19 fl_X4_68 flw_4_9 ir_4_9 k0 (by decide) ?_
      refine w_bd (fun δ_38 e_39 => ?_)
      exact w_vret (μ := m_X4_makeCall) (pc := 22) dX4_makeCall_22 rfl rfl
def J_X4_step_195 (N : Nat) (g : gp) (a0 : Nat) (a1 : Nat) (δ : dp) : Option (dp) :=
  some δ
set_option maxHeartbeats 4000000 in
set_option maxRecDepth 100000 in
theorem t_J_X4_step_195 {l : Launch} {D : va_G} {cy : Nat → ClassId} {N d : Nat} {g : gp} (wt : WT g) (hl : l.stackTraces = false) (hd : 6 ≤ d) {a0 : Nat} {a1 : Nat} (k0 : q_K g a0 = 4) (k1 : q_K g a1 = 8) : ∀ (δ : dp), AWD l D cy m_X4_step d 0 0 ev g 195 [] [] δ (J_X4_step_195 N g a0 a1 δ) := by
    intro  δ 
    unfold J_X4_step_195
    exact w_vret (μ := m_X4_step) (pc := 195) dX4_step_195 rfl rfl
def J_X4_step_190 (N : Nat) (g : gp) (a0 : Nat) (a1 : Nat) (x3v : Int32) (δ : dp) : Option (dp) :=
  (D_X4_reckon N g a0 x3v δ).bind fun r_27 => J_X4_step_195 N g a0 a1 r_27
set_option maxHeartbeats 4000000 in
set_option maxRecDepth 100000 in
theorem t_J_X4_step_190 {l : Launch} {D : va_G} {cy : Nat → ClassId} {N d : Nat} {g : gp} (wt : WT g) (hl : l.stackTraces = false) (hd : 6 ≤ d) {a0 : Nat} {a1 : Nat} (k0 : q_K g a0 = 4) (k1 : q_K g a1 = 8) : ∀ (x3v : Int32) (δ : dp), AWD l D cy m_X4_step d 0 0 ev g 190 [(0, .ref a0), (3, .int x3v)] [] δ (J_X4_step_190 N g a0 a1 x3v δ) := by
    intro x3v δ 
    unfold J_X4_step_190
    refine w_aload_n 0 0 (μ := m_X4_step) (pc := 190) dX4_step_190 rfl rfl ?_
    refine w_iload_n 1 3 (μ := m_X4_step) (pc := 191) dX4_step_191 rfl rfl ?_
    refine w_callV (As := [.int x3v]) (rest := []) (μ := m_X4_step) (pc := 192) dX4_step_192 cv_X4_138 rfl rfl k0 (by decide) rfl (Nat.le_of_ble_eq_true rfl) (d' := d - 1) (by omega) he_v (c_X4_reckon wt hl (d := d - 1) (by omega) k0) (fun r_27 => ?_)
    refine w_lv [] rfl ?_
    exact t_J_X4_step_195 wt hl (by omega) k0 k1 _
def D_X4_step (N : Nat) (g : gp) (a0 : Nat) (a1 : Nat) (δ : dp) : Option (dp) :=
  (q_O g 8 1 a1).bind fun b_1 => if (q_I δ 4 6 a0) < 0 ∨ q_N g b_1 ≤ (q_I δ 4 6 a0).toNatClampNeg then none else bi (q_R δ b_1 (q_I δ 4 6 a0).toNatClampNeg) fun x_3 => (q_O g 8 0 a1).bind fun b_5 => if (q_I δ 4 6 a0) < 0 ∨ q_N g b_5 ≤ (q_I δ 4 6 a0).toNatClampNeg then none else bi (q_R δ b_5 (q_I δ 4 6 a0).toNatClampNeg) fun x_7 => bd (s_I δ 4 6 a0 ((q_I δ 4 6 a0) + 1)) fun δ_9 => if x_7 = 0 then ((D_X4_hold N g a0 x_3 δ_9).bind fun r_12 => J_X4_step_195 N g a0 a1 r_12) else (if x_7 = 1 then ((q_O g 4 3 a0).bind fun b_14 => if x_3 < 0 ∨ q_N g b_14 ≤ x_3.toNatClampNeg then none else (D_X4_hold N g a0 (q_R δ_9 b_14 x_3.toNatClampNeg) δ_9).bind fun r_16 => J_X4_step_195 N g a0 a1 r_16) else (if x_7 = 2 then ((D_X4_hold N g a0 (q_I δ_9 4 8 a0) δ_9).bind fun r_18 => J_X4_step_195 N g a0 a1 r_18) else (if x_7 = 3 then ((q_O g 4 1 a0).bind fun b_20 => (D_X4_hold N g a0 (q_I δ_9 3 1 b_20) δ_9).bind fun r_22 => J_X4_step_195 N g a0 a1 r_22) else (if x_7 = 4 then ((D_X4_nextDraw N g a0 δ_9).bind fun r_24 => (D_X4_hold N g a0 r_24.1 r_24.2).bind fun r_25 => J_X4_step_195 N g a0 a1 r_25) else (if x_7 = 5 then (J_X4_step_190 N g a0 a1 x_7 δ_9) else (if x_7 = 6 then (J_X4_step_190 N g a0 a1 x_7 δ_9) else (if x_7 = 7 then (J_X4_step_190 N g a0 a1 x_7 δ_9) else (if x_7 = 8 then (J_X4_step_190 N g a0 a1 x_7 δ_9) else (if x_7 = 9 then ((D_X4_yieldHeld N g a0 δ_9).bind fun r_32 => (q_O g 4 0 a0).bind fun b_33 => (D_X5_greatest N g b_33 r_32.2).bind fun r_35 => (D_X4_makeCall N g a0 x_3 (r_32.1 &&& r_35.1) r_35.2).bind fun r_36 => J_X4_step_195 N g a0 a1 r_36) else (if x_7 = 10 then ((q_O g 4 3 a0).bind fun b_38 => if (x_3 - x_3 / 4 * 4) < 0 ∨ q_N g b_38 ≤ (x_3 - x_3 / 4 * 4).toNatClampNeg then none else bd (s_R δ_9 b_38 (x_3 - x_3 / 4 * 4).toNatClampNeg 0) fun δ_40 => J_X4_step_195 N g a0 a1 δ_40) else (if x_7 = 11 then ((D_X4_goRound N g a0 a1 x_3 δ_9).bind fun r_43 => J_X4_step_195 N g a0 a1 r_43) else (J_X4_step_190 N g a0 a1 x_7 δ_9))))))))))))
set_option maxHeartbeats 4000000 in
set_option maxRecDepth 100000 in
theorem c_X4_step {l : Launch} {D : va_G} {cy : Nat → ClassId} {N d : Nat} {g : gp} (wt : WT g) (hl : l.stackTraces = false) (hd : 6 ≤ d) {a0 : Nat} {a1 : Nat} {δ : dp} (k0 : q_K g a0 = 4) (k1 : q_K g a1 = 8) : CalD l D cy m_X4_step d 0 0 ev g [.ref a0, .ref a1] δ (D_X4_step N g a0 a1 δ) := by
  refine CalD.of (by decide +kernel) (Nat.le_of_ble_eq_true rfl) hl ?_
  unfold D_X4_step
  refine w_aload_n 1 1 (μ := m_X4_step) (pc := 0) dX4_step_0 rfl rfl ?_
  refine w_getO (μ := m_X4_step) (pc := 1) dX4_step_1 fl_X4_109 ir_8_1 id_8_1 k1 (fun b_1 e_2 => ?_)
  refine w_aload_n 0 0 (μ := m_X4_step) (pc := 4) dX4_step_4 rfl rfl ?_
  refine w_getI (μ := m_X4_step) (pc := 5) dX4_step_5 fl_X4_62 ir_4_6 k0 ?_
  refine w_ald (μ := m_X4_step) (pc := 8) dX4_step_8 (wt_8_1 wt k1 e_2) ?_
  refine w_bi (fun x_3 e_4 => ?_)
  refine w_istore_n [(2, .int x_3), (0, .ref a0), (1, .ref a1)] (μ := m_X4_step) (pc := 9) dX4_step_9 rfl (by decide) rfl ?_
  refine w_aload_n 2 1 (μ := m_X4_step) (pc := 10) dX4_step_10 rfl rfl ?_
  refine w_getO (μ := m_X4_step) (pc := 11) dX4_step_11 fl_X4_112 ir_8_0 id_8_0 k1 (fun b_5 e_6 => ?_)
  refine w_aload_n 1 0 (μ := m_X4_step) (pc := 14) dX4_step_14 rfl rfl ?_
  refine w_getI (μ := m_X4_step) (pc := 15) dX4_step_15 fl_X4_62 ir_4_6 k0 ?_
  refine w_ald (μ := m_X4_step) (pc := 18) dX4_step_18 (wt_8_0 wt k1 e_6) ?_
  refine w_bi (fun x_7 e_8 => ?_)
  refine w_istore_n [(3, .int x_7), (2, .int x_3), (0, .ref a0), (1, .ref a1)] (μ := m_X4_step) (pc := 19) dX4_step_19 rfl (by decide) rfl ?_
  refine w_aload_n 2 0 (μ := m_X4_step) (pc := 20) dX4_step_20 rfl rfl ?_
  refine w_dup (μ := m_X4_step) (pc := 21) dX4_step_21 rfl ?_
  refine w_getI (μ := m_X4_step) (pc := 22) dX4_step_22 fl_X4_62 ir_4_6 k0 ?_
  refine w_iconst (v := 1) (μ := m_X4_step) (pc := 25) dX4_step_25 (by decide) ?_
  refine w_iadd (μ := m_X4_step) (pc := 26) dX4_step_26 ?_
  refine w_putI (μ := m_X4_step) (pc := 27) dX4_step_27 fl_X4_62 flw_4_6 ir_4_6 k0 ?_
  refine w_bd (fun δ_9 e_10 => ?_)
  refine w_iload_n 0 3 (μ := m_X4_step) (pc := 30) dX4_step_30 rfl rfl ?_
  refine w_by (fun c_11 => ?_) (fun c_11 => ?_)
  · refine w_tabIn (off := 61) 92 0 c_11 (μ := m_X4_step) (pc := 31) dX4_step_31 (by decide) (by decide) (by decide +kernel) (by decide) ?_
    refine w_aload_n 2 0 (μ := m_X4_step) (pc := 92) dX4_step_92 rfl rfl ?_
    refine w_iload_n 1 2 (μ := m_X4_step) (pc := 93) dX4_step_93 rfl rfl ?_
    refine w_callV (As := [.int x_3]) (rest := []) (μ := m_X4_step) (pc := 94) dX4_step_94 cv_X4_115 rfl rfl k0 (by decide) rfl (Nat.le_of_ble_eq_true rfl) (d' := d - 1) (by omega) he_v (c_X4_hold wt hl (d := d - 1) (by omega) k0) (fun r_12 => ?_)
    refine w_goto 195 (μ := m_X4_step) (pc := 97) dX4_step_97 (by decide) ?_
    refine w_lv [] rfl ?_
    exact t_J_X4_step_195 wt hl (by omega) k0 k1 _
  · skip
    refine w_by (fun c_13 => ?_) (fun c_13 => ?_)
    · refine w_tabIn (off := 69) 100 1 c_13 (μ := m_X4_step) (pc := 31) dX4_step_31 (by decide) (by decide) (by decide +kernel) (by decide) ?_
      refine w_aload_n 2 0 (μ := m_X4_step) (pc := 100) dX4_step_100 rfl rfl ?_
      refine w_aload_n 2 0 (μ := m_X4_step) (pc := 101) dX4_step_101 rfl rfl ?_
      refine w_getO (μ := m_X4_step) (pc := 102) dX4_step_102 fl_X4_22 ir_4_3 id_4_3 k0 (fun b_14 e_15 => ?_)
      refine w_iload_n 1 2 (μ := m_X4_step) (pc := 105) dX4_step_105 rfl rfl ?_
      refine w_ald (μ := m_X4_step) (pc := 106) dX4_step_106 (wt_4_3 wt k0 e_15) ?_
      refine w_callV (As := [.int (q_R δ_9 b_14 x_3.toNatClampNeg)]) (rest := []) (μ := m_X4_step) (pc := 107) dX4_step_107 cv_X4_115 rfl rfl k0 (by decide) rfl (Nat.le_of_ble_eq_true rfl) (d' := d - 1) (by omega) he_v (c_X4_hold wt hl (d := d - 1) (by omega) k0) (fun r_16 => ?_)
      refine w_goto 195 (μ := m_X4_step) (pc := 110) dX4_step_110 (by decide) ?_
      refine w_lv [] rfl ?_
      exact t_J_X4_step_195 wt hl (by omega) k0 k1 _
    · skip
      refine w_by (fun c_17 => ?_) (fun c_17 => ?_)
      · refine w_tabIn (off := 82) 113 2 c_17 (μ := m_X4_step) (pc := 31) dX4_step_31 (by decide) (by decide) (by decide +kernel) (by decide) ?_
        refine w_aload_n 2 0 (μ := m_X4_step) (pc := 113) dX4_step_113 rfl rfl ?_
        refine w_aload_n 2 0 (μ := m_X4_step) (pc := 114) dX4_step_114 rfl rfl ?_
        refine w_getI (μ := m_X4_step) (pc := 115) dX4_step_115 fl_X4_106 ir_4_8 k0 ?_
        refine w_callV (As := [.int (q_I δ_9 4 8 a0)]) (rest := []) (μ := m_X4_step) (pc := 118) dX4_step_118 cv_X4_115 rfl rfl k0 (by decide) rfl (Nat.le_of_ble_eq_true rfl) (d' := d - 1) (by omega) he_v (c_X4_hold wt hl (d := d - 1) (by omega) k0) (fun r_18 => ?_)
        refine w_goto 195 (μ := m_X4_step) (pc := 121) dX4_step_121 (by decide) ?_
        refine w_lv [] rfl ?_
        exact t_J_X4_step_195 wt hl (by omega) k0 k1 _
      · skip
        refine w_by (fun c_19 => ?_) (fun c_19 => ?_)
        · refine w_tabIn (off := 93) 124 3 c_19 (μ := m_X4_step) (pc := 31) dX4_step_31 (by decide) (by decide) (by decide +kernel) (by decide) ?_
          refine w_aload_n 2 0 (μ := m_X4_step) (pc := 124) dX4_step_124 rfl rfl ?_
          refine w_aload_n 2 0 (μ := m_X4_step) (pc := 125) dX4_step_125 rfl rfl ?_
          refine w_getO (μ := m_X4_step) (pc := 126) dX4_step_126 fl_X4_14 ir_4_1 id_4_1 k0 (fun b_20 e_21 => ?_)
          refine w_getI (μ := m_X4_step) (pc := 129) dX4_step_129 fl_X4_93 ir_3_1 (wt_4_1 wt k0 e_21) ?_
          refine w_callV (As := [.int (q_I δ_9 3 1 b_20)]) (rest := []) (μ := m_X4_step) (pc := 132) dX4_step_132 cv_X4_115 rfl rfl k0 (by decide) rfl (Nat.le_of_ble_eq_true rfl) (d' := d - 1) (by omega) he_v (c_X4_hold wt hl (d := d - 1) (by omega) k0) (fun r_22 => ?_)
          refine w_goto 195 (μ := m_X4_step) (pc := 135) dX4_step_135 (by decide) ?_
          refine w_lv [] rfl ?_
          exact t_J_X4_step_195 wt hl (by omega) k0 k1 _
        · skip
          refine w_by (fun c_23 => ?_) (fun c_23 => ?_)
          · refine w_tabIn (off := 107) 138 4 c_23 (μ := m_X4_step) (pc := 31) dX4_step_31 (by decide) (by decide) (by decide +kernel) (by decide) ?_
            refine w_aload_n 2 0 (μ := m_X4_step) (pc := 138) dX4_step_138 rfl rfl ?_
            refine w_aload_n 2 0 (μ := m_X4_step) (pc := 139) dX4_step_139 rfl rfl ?_
            refine w_callV (As := []) (rest := [.ref a0]) (μ := m_X4_step) (pc := 140) dX4_step_140 cv_X4_118 rfl rfl k0 (by decide) rfl (Nat.le_of_ble_eq_true rfl) (d' := d - 1) (by omega) he_i (c_X4_nextDraw wt hl (d := d - 1) (by omega) k0) (fun r_24 => ?_)
            refine w_callV (As := [.int r_24.1]) (rest := []) (μ := m_X4_step) (pc := 143) dX4_step_143 cv_X4_115 rfl rfl k0 (by decide) rfl (Nat.le_of_ble_eq_true rfl) (d' := d - 1) (by omega) he_v (c_X4_hold wt hl (d := d - 1) (by omega) k0) (fun r_25 => ?_)
            refine w_goto 195 (μ := m_X4_step) (pc := 146) dX4_step_146 (by decide) ?_
            refine w_lv [] rfl ?_
            exact t_J_X4_step_195 wt hl (by omega) k0 k1 _
          · skip
            refine w_by (fun c_26 => ?_) (fun c_26 => ?_)
            · refine w_tabIn (off := 159) 190 5 c_26 (μ := m_X4_step) (pc := 31) dX4_step_31 (by decide) (by decide) (by decide +kernel) (by decide) ?_
              refine w_lv [2, 0] rfl ?_
              exact t_J_X4_step_190 wt hl (by omega) k0 k1 _ _
            · skip
              refine w_by (fun c_28 => ?_) (fun c_28 => ?_)
              · refine w_tabIn (off := 159) 190 6 c_28 (μ := m_X4_step) (pc := 31) dX4_step_31 (by decide) (by decide) (by decide +kernel) (by decide) ?_
                refine w_lv [2, 0] rfl ?_
                exact t_J_X4_step_190 wt hl (by omega) k0 k1 _ _
              · skip
                refine w_by (fun c_29 => ?_) (fun c_29 => ?_)
                · refine w_tabIn (off := 159) 190 7 c_29 (μ := m_X4_step) (pc := 31) dX4_step_31 (by decide) (by decide) (by decide +kernel) (by decide) ?_
                  refine w_lv [2, 0] rfl ?_
                  exact t_J_X4_step_190 wt hl (by omega) k0 k1 _ _
                · skip
                  refine w_by (fun c_30 => ?_) (fun c_30 => ?_)
                  · refine w_tabIn (off := 159) 190 8 c_30 (μ := m_X4_step) (pc := 31) dX4_step_31 (by decide) (by decide) (by decide +kernel) (by decide) ?_
                    refine w_lv [2, 0] rfl ?_
                    exact t_J_X4_step_190 wt hl (by omega) k0 k1 _ _
                  · skip
                    refine w_by (fun c_31 => ?_) (fun c_31 => ?_)
                    · refine w_tabIn (off := 118) 149 9 c_31 (μ := m_X4_step) (pc := 31) dX4_step_31 (by decide) (by decide) (by decide +kernel) (by decide) ?_
                      refine w_aload_n 2 0 (μ := m_X4_step) (pc := 149) dX4_step_149 rfl rfl ?_
                      refine w_iload_n 1 2 (μ := m_X4_step) (pc := 150) dX4_step_150 rfl rfl ?_
                      refine w_aload_n 2 0 (μ := m_X4_step) (pc := 151) dX4_step_151 rfl rfl ?_
                      refine w_callV (As := []) (rest := [.int x_3, .ref a0]) (μ := m_X4_step) (pc := 152) dX4_step_152 cv_X4_122 rfl rfl k0 (by decide) rfl (Nat.le_of_ble_eq_true rfl) (d' := d - 1) (by omega) he_i (c_X4_yieldHeld wt hl (d := d - 1) (by omega) k0) (fun r_32 => ?_)
                      refine w_aload_n 2 0 (μ := m_X4_step) (pc := 155) dX4_step_155 rfl rfl ?_
                      refine w_getO (μ := m_X4_step) (pc := 156) dX4_step_156 fl_X4_29 ir_4_0 id_4_0 k0 (fun b_33 e_34 => ?_)
                      refine w_callV (As := []) (rest := [.int r_32.1, .int x_3, .ref a0]) (μ := m_X4_step) (pc := 159) dX4_step_159 cv_X4_125 rfl rfl (wt_4_0 wt k0 e_34) (by decide) rfl (Nat.le_of_ble_eq_true rfl) (d' := d - 1) (by omega) he_i (c_X5_greatest wt hl (d := d - 1) (by omega) (wt_4_0 wt k0 e_34)) (fun r_35 => ?_)
                      refine w_iand (μ := m_X4_step) (pc := 162) dX4_step_162 ?_
                      refine w_callV (As := [.int x_3, .int (r_32.1 &&& r_35.1)]) (rest := []) (μ := m_X4_step) (pc := 163) dX4_step_163 cv_X4_130 rfl rfl k0 (by decide) rfl (Nat.le_of_ble_eq_true rfl) (d' := d - 1) (by omega) he_v (c_X4_makeCall wt hl (d := d - 1) (by omega) k0) (fun r_36 => ?_)
                      refine w_goto 195 (μ := m_X4_step) (pc := 166) dX4_step_166 (by decide) ?_
                      refine w_lv [] rfl ?_
                      exact t_J_X4_step_195 wt hl (by omega) k0 k1 _
                    · skip
                      refine w_by (fun c_37 => ?_) (fun c_37 => ?_)
                      · refine w_tabIn (off := 138) 169 10 c_37 (μ := m_X4_step) (pc := 31) dX4_step_31 (by decide) (by decide) (by decide +kernel) (by decide) ?_
                        refine w_aload_n 2 0 (μ := m_X4_step) (pc := 169) dX4_step_169 rfl rfl ?_
                        refine w_getO (μ := m_X4_step) (pc := 170) dX4_step_170 fl_X4_22 ir_4_3 id_4_3 k0 (fun b_38 e_39 => ?_)
                        refine w_iload_n 1 2 (μ := m_X4_step) (pc := 173) dX4_step_173 rfl rfl ?_
                        refine w_iconst (v := 4) (μ := m_X4_step) (pc := 174) dX4_step_174 (by decide) ?_
                        refine w_irem (μ := m_X4_step) (pc := 175) dX4_step_175 (by decide) ?_
                        refine w_iconst (v := 0) (μ := m_X4_step) (pc := 176) dX4_step_176 (by decide) ?_
                        refine w_ast (μ := m_X4_step) (pc := 177) dX4_step_177 (wt_4_3 wt k0 e_39) ?_
                        refine w_bd (fun δ_40 e_41 => ?_)
                        refine w_goto 195 (μ := m_X4_step) (pc := 178) dX4_step_178 (by decide) ?_
                        refine w_lv [] rfl ?_
                        exact t_J_X4_step_195 wt hl (by omega) k0 k1 _
                      · skip
                        refine w_by (fun c_42 => ?_) (fun c_42 => ?_)
                        · refine w_tabIn (off := 150) 181 11 c_42 (μ := m_X4_step) (pc := 31) dX4_step_31 (by decide) (by decide) (by decide +kernel) (by decide) ?_
                          refine w_aload_n 2 0 (μ := m_X4_step) (pc := 181) dX4_step_181 rfl rfl ?_
                          refine w_aload_n 3 1 (μ := m_X4_step) (pc := 182) dX4_step_182 rfl rfl ?_
                          refine w_iload_n 1 2 (μ := m_X4_step) (pc := 183) dX4_step_183 rfl rfl ?_
                          refine w_callV (As := [.ref a1, .int x_3]) (rest := []) (μ := m_X4_step) (pc := 184) dX4_step_184 cv_X4_134 rfl rfl k0 (by decide) rfl (Nat.le_of_ble_eq_true rfl) (d' := d - 1) (by omega) he_v (c_X4_goRound wt hl (d := d - 1) (by omega) k0 k1) (fun r_43 => ?_)
                          refine w_goto 195 (μ := m_X4_step) (pc := 187) dX4_step_187 (by decide) ?_
                          refine w_lv [] rfl ?_
                          exact t_J_X4_step_195 wt hl (by omega) k0 k1 _
                        · skip
                          refine w_tabOut 190 (μ := m_X4_step) (pc := 31) dX4_step_31 (by have c_11i : _ ≠ (0 : Int) := tabne c_11; have c_13i : _ ≠ (1 : Int) := tabne c_13; have c_17i : _ ≠ (2 : Int) := tabne c_17; have c_19i : _ ≠ (3 : Int) := tabne c_19; have c_23i : _ ≠ (4 : Int) := tabne c_23; have c_26i : _ ≠ (5 : Int) := tabne c_26; have c_28i : _ ≠ (6 : Int) := tabne c_28; have c_29i : _ ≠ (7 : Int) := tabne c_29; have c_30i : _ ≠ (8 : Int) := tabne c_30; have c_31i : _ ≠ (9 : Int) := tabne c_31; have c_37i : _ ≠ (10 : Int) := tabne c_37; have c_42i : _ ≠ (11 : Int) := tabne c_42; omega) (by decide) ?_
                          refine w_lv [2, 0] rfl ?_
                          exact t_J_X4_step_190 wt hl (by omega) k0 k1 _ _
def J_X4_go_77 (N : Nat) (g : gp) (a0 : Nat) (a1 : Nat) (a2 : Nat) (x3 : Int32) (δ : dp) : Option (dp) :=
  bd (s_I δ 4 16 a0 1) fun δ_4 => bd (s_V δ_4 4 17 a0 (some a1)) fun δ_6 => bd (s_V δ_6 4 18 a0 (some a2)) fun δ_8 => bd (s_I δ_8 4 19 a0 x3) fun δ_10 => some δ_10
set_option maxHeartbeats 4000000 in
set_option maxRecDepth 100000 in
theorem t_J_X4_go_77 {l : Launch} {D : va_G} {cy : Nat → ClassId} {N d : Nat} {g : gp} (wt : WT g) (hl : l.stackTraces = false) (hd : 7 ≤ d) {a0 : Nat} {a1 : Nat} {a2 : Nat} {x3 : Int32} (k0 : q_K g a0 = 4) (k1 : q_K g a1 = 8) (k2 : q_K g a2 = 3) : ∀ (δ : dp), AWD l D cy m_X4_go d 0 0 ev g 77 [(0, .ref a0), (1, .ref a1), (2, .ref a2), (3, .int x3)] [] δ (J_X4_go_77 N g a0 a1 a2 x3 δ) := by
    intro  δ 
    unfold J_X4_go_77
    refine w_aload_n 0 0 (μ := m_X4_go) (pc := 77) dX4_go_77 rfl rfl ?_
    refine w_iconst (v := 1) (μ := m_X4_go) (pc := 78) dX4_go_78 (by decide) ?_
    refine w_putZ (μ := m_X4_go) (pc := 79) dX4_go_79 fl_X4_42 flw_4_16 ir_4_16 k0 (by decide) ?_
    refine w_bd (fun δ_4 e_5 => ?_)
    refine w_aload_n 0 0 (μ := m_X4_go) (pc := 82) dX4_go_82 rfl rfl ?_
    refine w_aload_n 1 1 (μ := m_X4_go) (pc := 83) dX4_go_83 rfl rfl ?_
    refine w_putV (μ := m_X4_go) (pc := 84) dX4_go_84 fl_X4_46 flw_4_17 ir_4_17 id_4_17 k0 ?_
    refine w_bd (fun δ_6 e_7 => ?_)
    refine w_aload_n 0 0 (μ := m_X4_go) (pc := 87) dX4_go_87 rfl rfl ?_
    refine w_aload_n 2 2 (μ := m_X4_go) (pc := 88) dX4_go_88 rfl rfl ?_
    refine w_putV (μ := m_X4_go) (pc := 89) dX4_go_89 fl_X4_50 flw_4_18 ir_4_18 id_4_18 k0 ?_
    refine w_bd (fun δ_8 e_9 => ?_)
    refine w_aload_n 0 0 (μ := m_X4_go) (pc := 92) dX4_go_92 rfl rfl ?_
    refine w_iload_n 3 3 (μ := m_X4_go) (pc := 93) dX4_go_93 rfl rfl ?_
    refine w_putI (μ := m_X4_go) (pc := 94) dX4_go_94 fl_X4_53 flw_4_19 ir_4_19 k0 ?_
    refine w_bd (fun δ_10 e_11 => ?_)
    exact w_vret (μ := m_X4_go) (pc := 97) dX4_go_97 rfl rfl
def L_X4_go_41 (N : Nat) (g : gp) (a0 : Nat) (a1 : Nat) (a2 : Nat) (x3 : Int32) : Nat → Int32 → dp → Option (dp)
  | 0, _, _ => none
  | n + 1, x4v, δ => if (4000000 : Int32) ≤ x4v then (J_X4_go_77 N g a0 a1 a2 x3 δ) else (if (q_I δ 8 2 a1) ≤ (q_I δ 4 6 a0) then (J_X4_go_77 N g a0 a1 a2 x3 δ) else (if (q_I δ 4 9 a0) = 0 then ((D_X4_step N g a0 a1 δ).bind fun r_14 => bi (x4v + 1) fun x_15 => L_X4_go_41 N g a0 a1 a2 x3 n x_15 r_14) else (J_X4_go_77 N g a0 a1 a2 x3 δ)))
set_option maxHeartbeats 4000000 in
set_option maxRecDepth 100000 in
theorem t_L_X4_go_41 {l : Launch} {D : va_G} {cy : Nat → ClassId} {N d : Nat} {g : gp} (wt : WT g) (hl : l.stackTraces = false) (hd : 7 ≤ d) {a0 : Nat} {a1 : Nat} {a2 : Nat} {x3 : Int32} (k0 : q_K g a0 = 4) (k1 : q_K g a1 = 8) (k2 : q_K g a2 = 3) : ∀ (n : Nat) (x4v : Int32) (δ : dp), AWD l D cy m_X4_go d 0 0 ev g 41 [(0, .ref a0), (1, .ref a1), (2, .ref a2), (3, .int x3), (4, .int x4v)] [] δ (L_X4_go_41 N g a0 a1 a2 x3 n x4v δ) := by
  intro n
  induction n with
  | zero => intro x4v δ ; exact w_none
  | succ n ih =>
    intro x4v δ 
    unfold L_X4_go_41
    refine w_iload 4 (μ := m_X4_go) (pc := 41) dX4_go_41 rfl ?_
    refine w_ldc (v := 4000000) (μ := m_X4_go) (pc := 43) dX4_go_43 cn_X4_61 ?_
    refine w_icmp_ge 77 (μ := m_X4_go) (pc := 45) dX4_go_45 (by decide) (fun c_3 => ?_) (fun c_3 => ?_)
    · refine w_lv [0, 1, 2, 3] rfl ?_
      exact t_J_X4_go_77 wt hl (by omega) k0 k1 k2 _
    · refine w_aload_n 0 0 (μ := m_X4_go) (pc := 48) dX4_go_48 rfl rfl ?_
      refine w_getI (μ := m_X4_go) (pc := 49) dX4_go_49 fl_X4_62 ir_4_6 k0 ?_
      refine w_aload_n 1 1 (μ := m_X4_go) (pc := 52) dX4_go_52 rfl rfl ?_
      refine w_getI (μ := m_X4_go) (pc := 53) dX4_go_53 fl_X4_65 ir_8_2 k1 ?_
      refine w_icmp_ge 77 (μ := m_X4_go) (pc := 56) dX4_go_56 (by decide) (fun c_12 => ?_) (fun c_12 => ?_)
      · refine w_lv [0, 1, 2, 3] rfl ?_
        exact t_J_X4_go_77 wt hl (by omega) k0 k1 k2 _
      · refine w_aload_n 0 0 (μ := m_X4_go) (pc := 59) dX4_go_59 rfl rfl ?_
        refine w_getI (μ := m_X4_go) (pc := 60) dX4_go_60 fl_X4_68 ir_4_9 k0 ?_
        refine w_if_ne 77 (μ := m_X4_go) (pc := 63) dX4_go_63 (by decide) (fun c_13 => ?_) (fun c_13 => ?_)
        · refine w_lv [0, 1, 2, 3] rfl ?_
          exact t_J_X4_go_77 wt hl (by omega) k0 k1 k2 _
        · refine w_aload_n 0 0 (μ := m_X4_go) (pc := 66) dX4_go_66 rfl rfl ?_
          refine w_aload_n 1 1 (μ := m_X4_go) (pc := 67) dX4_go_67 rfl rfl ?_
          refine w_callV (As := [.ref a1]) (rest := []) (μ := m_X4_go) (pc := 68) dX4_go_68 cv_X4_71 rfl rfl k0 (by decide) rfl (Nat.le_of_ble_eq_true rfl) (d' := d - 1) (by omega) he_v (c_X4_step wt hl (d := d - 1) (by omega) k0 k1) (fun r_14 => ?_)
          refine w_inb (fun x_15 e_16 => ?_)
          refine w_iinc 4 [(4, .int x_15), (0, .ref a0), (1, .ref a1), (2, .ref a2), (3, .int x3)] (μ := m_X4_go) (pc := 71) dX4_go_71 rfl (by rw [e_16]; rfl) (by decide) rfl ?_
          refine w_goto 41 (μ := m_X4_go) (pc := 74) dX4_go_74 (by decide) ?_
          refine w_lv [1, 2, 3, 4, 0] rfl ?_
          exact ih _ _
def J_X4_go_32 (N : Nat) (g : gp) (a0 : Nat) (a1 : Nat) (a2 : Nat) (x3 : Int32) (δ : dp) : Option (dp) :=
  (D_X4_begin N g a0 a2 x3 δ).bind fun r_2 => L_X4_go_41 N g a0 a1 a2 x3 N 0 r_2
set_option maxHeartbeats 4000000 in
set_option maxRecDepth 100000 in
theorem t_J_X4_go_32 {l : Launch} {D : va_G} {cy : Nat → ClassId} {N d : Nat} {g : gp} (wt : WT g) (hl : l.stackTraces = false) (hd : 7 ≤ d) {a0 : Nat} {a1 : Nat} {a2 : Nat} {x3 : Int32} (k0 : q_K g a0 = 4) (k1 : q_K g a1 = 8) (k2 : q_K g a2 = 3) : ∀ (δ : dp), AWD l D cy m_X4_go d 0 0 ev g 32 [(0, .ref a0), (1, .ref a1), (2, .ref a2), (3, .int x3)] [] δ (J_X4_go_32 N g a0 a1 a2 x3 δ) := by
    intro  δ 
    unfold J_X4_go_32
    refine w_aload_n 0 0 (μ := m_X4_go) (pc := 32) dX4_go_32 rfl rfl ?_
    refine w_aload_n 2 2 (μ := m_X4_go) (pc := 33) dX4_go_33 rfl rfl ?_
    refine w_iload_n 3 3 (μ := m_X4_go) (pc := 34) dX4_go_34 rfl rfl ?_
    refine w_callV (As := [.ref a2, .int x3]) (rest := []) (μ := m_X4_go) (pc := 35) dX4_go_35 cv_X4_57 rfl rfl k0 (by decide) rfl (Nat.le_of_ble_eq_true rfl) (d' := d - 1) (by omega) he_v (c_X4_begin wt hl (d := d - 1) (by omega) k0 k2) (fun r_2 => ?_)
    refine w_iconst (v := 0) (μ := m_X4_go) (pc := 38) dX4_go_38 (by decide) ?_
    refine w_istore [(4, .int 0), (0, .ref a0), (1, .ref a1), (2, .ref a2), (3, .int x3)] (μ := m_X4_go) (pc := 39) dX4_go_39 (by decide) rfl ?_
    refine w_lv [1, 2, 3, 4, 0] rfl ?_
    exact t_L_X4_go_41 wt hl (by omega) k0 k1 k2 N _ _
def D_X4_go (N : Nat) (g : gp) (a0 : Nat) (a1 : Nat) (a2 : Nat) (x3 : Int32) (δ : dp) : Option (dp) :=
  if (q_I δ 4 16 a0) = 0 then (J_X4_go_32 N g a0 a1 a2 x3 δ) else (if some a1 = q_V δ 4 17 a0 then (if some a2 = q_V δ 4 18 a0 then (if x3 = (q_I δ 4 19 a0) then (some δ) else (J_X4_go_32 N g a0 a1 a2 x3 δ)) else (J_X4_go_32 N g a0 a1 a2 x3 δ)) else (J_X4_go_32 N g a0 a1 a2 x3 δ))
set_option maxHeartbeats 4000000 in
set_option maxRecDepth 100000 in
theorem c_X4_go {l : Launch} {D : va_G} {cy : Nat → ClassId} {N d : Nat} {g : gp} (wt : WT g) (hl : l.stackTraces = false) (hd : 7 ≤ d) {a0 : Nat} {a1 : Nat} {a2 : Nat} {x3 : Int32} {δ : dp} (k0 : q_K g a0 = 4) (k1 : q_K g a1 = 8) (k2 : q_K g a2 = 3) : CalD l D cy m_X4_go d 0 0 ev g [.ref a0, .ref a1, .ref a2, .int x3] δ (D_X4_go N g a0 a1 a2 x3 δ) := by
  refine CalD.of (by decide +kernel) (Nat.le_of_ble_eq_true rfl) hl ?_
  unfold D_X4_go
  refine w_aload_n 0 0 (μ := m_X4_go) (pc := 0) dX4_go_0 rfl rfl ?_
  refine w_getI (μ := m_X4_go) (pc := 1) dX4_go_1 fl_X4_42 ir_4_16 k0 ?_
  refine w_if_eq 32 (μ := m_X4_go) (pc := 4) dX4_go_4 (by decide) (fun c_1 => ?_) (fun c_1 => ?_)
  · exact t_J_X4_go_32 wt hl (by omega) k0 k1 k2 _
  · refine w_aload_n 1 1 (μ := m_X4_go) (pc := 7) dX4_go_7 rfl rfl ?_
    refine w_aload_n 0 0 (μ := m_X4_go) (pc := 8) dX4_go_8 rfl rfl ?_
    refine w_getR (μ := m_X4_go) (pc := 9) dX4_go_9 fl_X4_46 ir_4_17 id_4_17 k0 ?_
    refine w_acmp_ne (rx := some a1) (ry := q_V δ 4 17 a0) 32 (μ := m_X4_go) (pc := 12) dX4_go_12 (by decide) (fun c_19 => ?_) (fun c_19 => ?_)
    · exact t_J_X4_go_32 wt hl (by omega) k0 k1 k2 _
    · refine w_aload_n 2 2 (μ := m_X4_go) (pc := 15) dX4_go_15 rfl rfl ?_
      refine w_aload_n 0 0 (μ := m_X4_go) (pc := 16) dX4_go_16 rfl rfl ?_
      refine w_getR (μ := m_X4_go) (pc := 17) dX4_go_17 fl_X4_50 ir_4_18 id_4_18 k0 ?_
      refine w_acmp_ne (rx := some a2) (ry := q_V δ 4 18 a0) 32 (μ := m_X4_go) (pc := 20) dX4_go_20 (by decide) (fun c_22 => ?_) (fun c_22 => ?_)
      · exact t_J_X4_go_32 wt hl (by omega) k0 k1 k2 _
      · refine w_iload_n 3 3 (μ := m_X4_go) (pc := 23) dX4_go_23 rfl rfl ?_
        refine w_aload_n 0 0 (μ := m_X4_go) (pc := 24) dX4_go_24 rfl rfl ?_
        refine w_getI (μ := m_X4_go) (pc := 25) dX4_go_25 fl_X4_53 ir_4_19 k0 ?_
        refine w_icmp_ne 32 (μ := m_X4_go) (pc := 28) dX4_go_28 (by decide) (fun c_23 => ?_) (fun c_23 => ?_)
        · exact t_J_X4_go_32 wt hl (by omega) k0 k1 k2 _
        · exact w_vret (μ := m_X4_go) (pc := 31) dX4_go_31 rfl rfl
