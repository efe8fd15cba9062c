theorem dX1_touchesOf_0 : decode cX1_touchesOf 0 = .ok (.aload_n 0, 1) := by decide +kernel
theorem dX1_touchesOf_1 : decode cX1_touchesOf 1 = .ok (.iconst 0, 1) := by decide +kernel
theorem dX1_touchesOf_2 : decode cX1_touchesOf 2 = .ok (.putfield 26, 3) := by decide +kernel
theorem dX1_touchesOf_5 : decode cX1_touchesOf 5 = .ok (.aload_n 0, 1) := by decide +kernel
theorem dX1_touchesOf_6 : decode cX1_touchesOf 6 = .ok (.aload_n 0, 1) := by decide +kernel
theorem dX1_touchesOf_7 : decode cX1_touchesOf 7 = .ok (.getfield 15, 3) := by decide +kernel
theorem dX1_touchesOf_10 : decode cX1_touchesOf 10 = .ok (.getfield 30, 3) := by decide +kernel
theorem dX1_touchesOf_13 : decode cX1_touchesOf 13 = .ok (.putfield 33, 3) := by decide +kernel
theorem dX1_touchesOf_16 : decode cX1_touchesOf 16 = .ok (.aload_n 0, 1) := by decide +kernel
theorem dX1_touchesOf_17 : decode cX1_touchesOf 17 = .ok (.iconst 0, 1) := by decide +kernel
theorem dX1_touchesOf_18 : decode cX1_touchesOf 18 = .ok (.putfield 36, 3) := by decide +kernel
theorem dX1_touchesOf_21 : decode cX1_touchesOf 21 = .ok (.aload_n 0, 1) := by decide +kernel
theorem dX1_touchesOf_22 : decode cX1_touchesOf 22 = .ok (.aload_n 0, 1) := by decide +kernel
theorem dX1_touchesOf_23 : decode cX1_touchesOf 23 = .ok (.getfield 9, 3) := by decide +kernel
theorem dX1_touchesOf_26 : decode cX1_touchesOf 26 = .ok (.getfield 39, 3) := by decide +kernel
theorem dX1_touchesOf_29 : decode cX1_touchesOf 29 = .ok (.putfield 44, 3) := by decide +kernel
theorem dX1_touchesOf_32 : decode cX1_touchesOf 32 = .ok (.aload_n 0, 1) := by decide +kernel
theorem dX1_touchesOf_33 : decode cX1_touchesOf 33 = .ok (.iload_n 2, 1) := by decide +kernel
theorem dX1_touchesOf_34 : decode cX1_touchesOf 34 = .ok (.putfield 47, 3) := by decide +kernel
theorem dX1_touchesOf_37 : decode cX1_touchesOf 37 = .ok (.iconst 0, 1) := by decide +kernel
theorem dX1_touchesOf_38 : decode cX1_touchesOf 38 = .ok (.istore_n 3, 1) := by decide +kernel
theorem dX1_touchesOf_39 : decode cX1_touchesOf 39 = .ok (.aload_n 0, 1) := by decide +kernel
theorem dX1_touchesOf_40 : decode cX1_touchesOf 40 = .ok (.iconst 0, 1) := by decide +kernel
theorem dX1_touchesOf_41 : decode cX1_touchesOf 41 = .ok (.putfield 50, 3) := by decide +kernel
theorem dX1_touchesOf_44 : decode cX1_touchesOf 44 = .ok (.iconst 0, 1) := by decide +kernel
theorem dX1_touchesOf_45 : decode cX1_touchesOf 45 = .ok (.istore 4, 2) := by decide +kernel
theorem dX1_touchesOf_47 : decode cX1_touchesOf 47 = .ok (.iload 4, 2) := by decide +kernel
theorem dX1_touchesOf_49 : decode cX1_touchesOf 49 = .ok (.bipush 16, 2) := by decide +kernel
theorem dX1_touchesOf_51 : decode cX1_touchesOf 51 = .ok (.if_icmp .ge 111, 3) := by decide +kernel
theorem dX1_touchesOf_54 : decode cX1_touchesOf 54 = .ok (.aload_n 0, 1) := by decide +kernel
theorem dX1_touchesOf_55 : decode cX1_touchesOf 55 = .ok (.getfield 50, 3) := by decide +kernel
theorem dX1_touchesOf_58 : decode cX1_touchesOf 58 = .ok (.ifCond .ne 104, 3) := by decide +kernel
theorem dX1_touchesOf_61 : decode cX1_touchesOf 61 = .ok (.iinc 3 1, 3) := by decide +kernel
theorem dX1_touchesOf_64 : decode cX1_touchesOf 64 = .ok (.aload_n 0, 1) := by decide +kernel
theorem dX1_touchesOf_65 : decode cX1_touchesOf 65 = .ok (.invokevirtual 54, 3) := by decide +kernel
theorem dX1_touchesOf_68 : decode cX1_touchesOf 68 = .ok (.aload_n 0, 1) := by decide +kernel
theorem dX1_touchesOf_69 : decode cX1_touchesOf 69 = .ok (.getfield 50, 3) := by decide +kernel
theorem dX1_touchesOf_72 : decode cX1_touchesOf 72 = .ok (.ifCond .eq 5, 3) := by decide +kernel
theorem dX1_touchesOf_75 : decode cX1_touchesOf 75 = .ok (.iload_n 3, 1) := by decide +kernel
theorem dX1_touchesOf_76 : decode cX1_touchesOf 76 = .ok (.ireturn, 1) := by decide +kernel
theorem dX1_touchesOf_77 : decode cX1_touchesOf 77 = .ok (.iload_n 1, 1) := by decide +kernel
theorem dX1_touchesOf_78 : decode cX1_touchesOf 78 = .ok (.tableswitch 74 0 4 #[34, 44, 74, 54, 64], 34) := by decide +kernel
theorem dX1_touchesOf_112 : decode cX1_touchesOf 112 = .ok (.iload_n 3, 1) := by decide +kernel
theorem dX1_touchesOf_113 : decode cX1_touchesOf 113 = .ok (.aload_n 0, 1) := by decide +kernel
theorem dX1_touchesOf_114 : decode cX1_touchesOf 114 = .ok (.invokevirtual 57, 3) := by decide +kernel
theorem dX1_touchesOf_117 : decode cX1_touchesOf 117 = .ok (.iadd, 1) := by decide +kernel
theorem dX1_touchesOf_118 : decode cX1_touchesOf 118 = .ok (.istore_n 3, 1) := by decide +kernel
theorem dX1_touchesOf_119 : decode cX1_touchesOf 119 = .ok (.goto 37, 3) := by decide +kernel
theorem dX1_touchesOf_122 : decode cX1_touchesOf 122 = .ok (.iload_n 3, 1) := by decide +kernel
theorem dX1_touchesOf_123 : decode cX1_touchesOf 123 = .ok (.aload_n 0, 1) := by decide +kernel
theorem dX1_touchesOf_124 : decode cX1_touchesOf 124 = .ok (.invokevirtual 61, 3) := by decide +kernel
theorem dX1_touchesOf_127 : decode cX1_touchesOf 127 = .ok (.iadd, 1) := by decide +kernel
theorem dX1_touchesOf_128 : decode cX1_touchesOf 128 = .ok (.istore_n 3, 1) := by decide +kernel
theorem dX1_touchesOf_129 : decode cX1_touchesOf 129 = .ok (.goto 27, 3) := by decide +kernel
theorem dX1_touchesOf_132 : decode cX1_touchesOf 132 = .ok (.iload_n 3, 1) := by decide +kernel
theorem dX1_touchesOf_133 : decode cX1_touchesOf 133 = .ok (.aload_n 0, 1) := by decide +kernel
theorem dX1_touchesOf_134 : decode cX1_touchesOf 134 = .ok (.invokevirtual 64, 3) := by decide +kernel
theorem dX1_touchesOf_137 : decode cX1_touchesOf 137 = .ok (.iadd, 1) := by decide +kernel
theorem dX1_touchesOf_138 : decode cX1_touchesOf 138 = .ok (.istore_n 3, 1) := by decide +kernel
theorem dX1_touchesOf_139 : decode cX1_touchesOf 139 = .ok (.goto 17, 3) := by decide +kernel
theorem dX1_touchesOf_142 : decode cX1_touchesOf 142 = .ok (.iload_n 3, 1) := by decide +kernel
theorem dX1_touchesOf_143 : decode cX1_touchesOf 143 = .ok (.aload_n 0, 1) := by decide +kernel
theorem dX1_touchesOf_144 : decode cX1_touchesOf 144 = .ok (.invokevirtual 67, 3) := by decide +kernel
theorem dX1_touchesOf_147 : decode cX1_touchesOf 147 = .ok (.iadd, 1) := by decide +kernel
theorem dX1_touchesOf_148 : decode cX1_touchesOf 148 = .ok (.istore_n 3, 1) := by decide +kernel
theorem dX1_touchesOf_149 : decode cX1_touchesOf 149 = .ok (.goto 7, 3) := by decide +kernel
theorem dX1_touchesOf_152 : decode cX1_touchesOf 152 = .ok (.aload_n 0, 1) := by decide +kernel
theorem dX1_touchesOf_153 : decode cX1_touchesOf 153 = .ok (.invokevirtual 70, 3) := by decide +kernel
theorem dX1_touchesOf_156 : decode cX1_touchesOf 156 = .ok (.iinc 4 1, 3) := by decide +kernel
theorem dX1_touchesOf_159 : decode cX1_touchesOf 159 = .ok (.goto (-112), 3) := by decide +kernel
theorem dX1_touchesOf_162 : decode cX1_touchesOf 162 = .ok (.iload_n 3, 1) := by decide +kernel
theorem dX1_touchesOf_163 : decode cX1_touchesOf 163 = .ok (.ireturn, 1) := by decide +kernel
theorem dX1_look_0 : decode cX1_look 0 = .ok (.aload_n 0, 1) := by decide +kernel
theorem dX1_look_1 : decode cX1_look 1 = .ok (.aload_n 0, 1) := by decide +kernel
theorem dX1_look_2 : decode cX1_look 2 = .ok (.getfield 44, 3) := by decide +kernel
theorem dX1_look_5 : decode cX1_look 5 = .ok (.aload_n 0, 1) := by decide +kernel
theorem dX1_look_6 : decode cX1_look 6 = .ok (.getfield 9, 3) := by decide +kernel
theorem dX1_look_9 : decode cX1_look 9 = .ok (.getfield 73, 3) := by decide +kernel
theorem dX1_look_12 : decode cX1_look 12 = .ok (.if_icmp .le 14, 3) := by decide +kernel
theorem dX1_look_15 : decode cX1_look 15 = .ok (.aload_n 0, 1) := by decide +kernel
theorem dX1_look_16 : decode cX1_look 16 = .ok (.getfield 26, 3) := by decide +kernel
theorem dX1_look_19 : decode cX1_look 19 = .ok (.aload_n 0, 1) := by decide +kernel
theorem dX1_look_20 : decode cX1_look 20 = .ok (.getfield 33, 3) := by decide +kernel
theorem dX1_look_23 : decode cX1_look 23 = .ok (.if_icmp .lt 7, 3) := by decide +kernel
theorem dX1_look_26 : decode cX1_look 26 = .ok (.iconst 1, 1) := by decide +kernel
theorem dX1_look_27 : decode cX1_look 27 = .ok (.goto 4, 3) := by decide +kernel
theorem dX1_look_30 : decode cX1_look 30 = .ok (.iconst 0, 1) := by decide +kernel
theorem dX1_look_31 : decode cX1_look 31 = .ok (.putfield 50, 3) := by decide +kernel
theorem dX1_look_34 : decode cX1_look 34 = .ok (.aload_n 0, 1) := by decide +kernel
theorem dX1_look_35 : decode cX1_look 35 = .ok (.getfield 50, 3) := by decide +kernel
theorem dX1_look_38 : decode cX1_look 38 = .ok (.ifCond .eq 4, 3) := by decide +kernel
theorem dX1_look_41 : decode cX1_look 41 = .ok (.return_, 1) := by decide +kernel
theorem dX1_look_42 : decode cX1_look 42 = .ok (.aload_n 0, 1) := by decide +kernel
theorem dX1_look_43 : decode cX1_look 43 = .ok (.aload_n 0, 1) := by decide +kernel
theorem dX1_look_44 : decode cX1_look 44 = .ok (.aload_n 0, 1) := by decide +kernel
theorem dX1_look_45 : decode cX1_look 45 = .ok (.getfield 26, 3) := by decide +kernel
theorem dX1_look_48 : decode cX1_look 48 = .ok (.invokevirtual 76, 3) := by decide +kernel
theorem dX1_look_51 : decode cX1_look 51 = .ok (.putfield 80, 3) := by decide +kernel
theorem dX1_look_54 : decode cX1_look 54 = .ok (.aload_n 0, 1) := by decide +kernel
theorem dX1_look_55 : decode cX1_look 55 = .ok (.aload_n 0, 1) := by decide +kernel
theorem dX1_look_56 : decode cX1_look 56 = .ok (.aload_n 0, 1) := by decide +kernel
theorem dX1_look_57 : decode cX1_look 57 = .ok (.getfield 33, 3) := by decide +kernel
theorem dX1_look_60 : decode cX1_look 60 = .ok (.iconst 1, 1) := by decide +kernel
theorem dX1_look_61 : decode cX1_look 61 = .ok (.isub, 1) := by decide +kernel
theorem dX1_look_62 : decode cX1_look 62 = .ok (.invokevirtual 76, 3) := by decide +kernel
theorem dX1_look_65 : decode cX1_look 65 = .ok (.putfield 83, 3) := by decide +kernel
theorem dX1_look_68 : decode cX1_look 68 = .ok (.aload_n 0, 1) := by decide +kernel
theorem dX1_look_69 : decode cX1_look 69 = .ok (.aload_n 0, 1) := by decide +kernel
theorem dX1_look_70 : decode cX1_look 70 = .ok (.getfield 80, 3) := by decide +kernel
theorem dX1_look_73 : decode cX1_look 73 = .ok (.aload_n 0, 1) := by decide +kernel
theorem dX1_look_74 : decode cX1_look 74 = .ok (.getfield 83, 3) := by decide +kernel
theorem dX1_look_77 : decode cX1_look 77 = .ok (.if_icmp .ne 7, 3) := by decide +kernel
theorem dX1_look_80 : decode cX1_look 80 = .ok (.iconst 1, 1) := by decide +kernel
theorem dX1_look_81 : decode cX1_look 81 = .ok (.goto 4, 3) := by decide +kernel
theorem dX1_look_84 : decode cX1_look 84 = .ok (.iconst 0, 1) := by decide +kernel
theorem dX1_look_85 : decode cX1_look 85 = .ok (.putfield 50, 3) := by decide +kernel
theorem dX1_look_88 : decode cX1_look 88 = .ok (.aload_n 0, 1) := by decide +kernel
theorem dX1_look_89 : decode cX1_look 89 = .ok (.getfield 50, 3) := by decide +kernel
theorem dX1_look_92 : decode cX1_look 92 = .ok (.ifCond .ne 62, 3) := by decide +kernel
theorem dX1_look_95 : decode cX1_look 95 = .ok (.aload_n 0, 1) := by decide +kernel
theorem dX1_look_96 : decode cX1_look 96 = .ok (.aload_n 0, 1) := by decide +kernel
theorem dX1_look_97 : decode cX1_look 97 = .ok (.getfield 9, 3) := by decide +kernel
theorem dX1_look_100 : decode cX1_look 100 = .ok (.aload_n 0, 1) := by decide +kernel
theorem dX1_look_101 : decode cX1_look 101 = .ok (.getfield 44, 3) := by decide +kernel
theorem dX1_look_104 : decode cX1_look 104 = .ok (.invokevirtual 86, 3) := by decide +kernel
theorem dX1_look_107 : decode cX1_look 107 = .ok (.putfield 89, 3) := by decide +kernel
theorem dX1_look_110 : decode cX1_look 110 = .ok (.aload_n 0, 1) := by decide +kernel
theorem dX1_look_111 : decode cX1_look 111 = .ok (.aload_n 0, 1) := by decide +kernel
theorem dX1_look_112 : decode cX1_look 112 = .ok (.aload_n 0, 1) := by decide +kernel
theorem dX1_look_113 : decode cX1_look 113 = .ok (.getfield 26, 3) := by decide +kernel
theorem dX1_look_116 : decode cX1_look 116 = .ok (.iconst 1, 1) := by decide +kernel
theorem dX1_look_117 : decode cX1_look 117 = .ok (.iadd, 1) := by decide +kernel
theorem dX1_look_118 : decode cX1_look 118 = .ok (.aload_n 0, 1) := by decide +kernel
theorem dX1_look_119 : decode cX1_look 119 = .ok (.getfield 33, 3) := by decide +kernel
theorem dX1_look_122 : decode cX1_look 122 = .ok (.aload_n 0, 1) := by decide +kernel
theorem dX1_look_123 : decode cX1_look 123 = .ok (.getfield 80, 3) := by decide +kernel
theorem dX1_look_126 : decode cX1_look 126 = .ok (.iconst 1, 1) := by decide +kernel
theorem dX1_look_127 : decode cX1_look 127 = .ok (.iadd, 1) := by decide +kernel
theorem dX1_look_128 : decode cX1_look 128 = .ok (.invokevirtual 92, 3) := by decide +kernel
theorem dX1_look_131 : decode cX1_look 131 = .ok (.putfield 96, 3) := by decide +kernel
theorem dX1_look_134 : decode cX1_look 134 = .ok (.aload_n 0, 1) := by decide +kernel
theorem dX1_look_135 : decode cX1_look 135 = .ok (.aload_n 0, 1) := by decide +kernel
theorem dX1_look_136 : decode cX1_look 136 = .ok (.aload_n 0, 1) := by decide +kernel
theorem dX1_look_137 : decode cX1_look 137 = .ok (.getfield 96, 3) := by decide +kernel
theorem dX1_look_140 : decode cX1_look 140 = .ok (.aload_n 0, 1) := by decide +kernel
theorem dX1_look_141 : decode cX1_look 141 = .ok (.getfield 33, 3) := by decide +kernel
theorem dX1_look_144 : decode cX1_look 144 = .ok (.aload_n 0, 1) := by decide +kernel
theorem dX1_look_145 : decode cX1_look 145 = .ok (.getfield 83, 3) := by decide +kernel
theorem dX1_look_148 : decode cX1_look 148 = .ok (.invokevirtual 92, 3) := by decide +kernel
theorem dX1_look_151 : decode cX1_look 151 = .ok (.putfield 99, 3) := by decide +kernel
theorem dX1_look_154 : decode cX1_look 154 = .ok (.return_, 1) := by decide +kernel
theorem dX1_valueAt_0 : decode cX1_valueAt 0 = .ok (.aload_n 0, 1) := by decide +kernel
theorem dX1_valueAt_1 : decode cX1_valueAt 1 = .ok (.getfield 25, 3) := by decide +kernel
theorem dX1_valueAt_4 : decode cX1_valueAt 4 = .ok (.iload_n 1, 1) := by decide +kernel
theorem dX1_valueAt_5 : decode cX1_valueAt 5 = .ok (.iaload, 1) := by decide +kernel
theorem dX1_valueAt_6 : decode cX1_valueAt 6 = .ok (.aload_n 0, 1) := by decide +kernel
theorem dX1_valueAt_7 : decode cX1_valueAt 7 = .ok (.getfield 36, 3) := by decide +kernel
theorem dX1_valueAt_10 : decode cX1_valueAt 10 = .ok (.ishr, 1) := by decide +kernel
theorem dX1_valueAt_11 : decode cX1_valueAt 11 = .ok (.iconst 1, 1) := by decide +kernel
theorem dX1_valueAt_12 : decode cX1_valueAt 12 = .ok (.aload_n 0, 1) := by decide +kernel
theorem dX1_valueAt_13 : decode cX1_valueAt 13 = .ok (.getfield 44, 3) := by decide +kernel
theorem dX1_valueAt_16 : decode cX1_valueAt 16 = .ok (.ishl, 1) := by decide +kernel
theorem dX1_valueAt_17 : decode cX1_valueAt 17 = .ok (.iconst 1, 1) := by decide +kernel
theorem dX1_valueAt_18 : decode cX1_valueAt 18 = .ok (.isub, 1) := by decide +kernel
theorem dX1_valueAt_19 : decode cX1_valueAt 19 = .ok (.iand, 1) := by decide +kernel
theorem dX1_valueAt_20 : decode cX1_valueAt 20 = .ok (.ireturn, 1) := by decide +kernel
theorem dX1_firstFrom_0 : decode cX1_firstFrom 0 = .ok (.iconst 1, 1) := by decide +kernel
theorem dX1_firstFrom_1 : decode cX1_firstFrom 1 = .ok (.aload_n 0, 1) := by decide +kernel
theorem dX1_firstFrom_2 : decode cX1_firstFrom 2 = .ok (.getfield 44, 3) := by decide +kernel
theorem dX1_firstFrom_5 : decode cX1_firstFrom 5 = .ok (.ishl, 1) := by decide +kernel
theorem dX1_firstFrom_6 : decode cX1_firstFrom 6 = .ok (.iconst 1, 1) := by decide +kernel
theorem dX1_firstFrom_7 : decode cX1_firstFrom 7 = .ok (.isub, 1) := by decide +kernel
theorem dX1_firstFrom_8 : decode cX1_firstFrom 8 = .ok (.istore 4, 2) := by decide +kernel
theorem dX1_firstFrom_10 : decode cX1_firstFrom 10 = .ok (.iload_n 1, 1) := by decide +kernel
theorem dX1_firstFrom_11 : decode cX1_firstFrom 11 = .ok (.iload_n 2, 1) := by decide +kernel
theorem dX1_firstFrom_12 : decode cX1_firstFrom 12 = .ok (.if_icmp .ge 43, 3) := by decide +kernel
theorem dX1_firstFrom_15 : decode cX1_firstFrom 15 = .ok (.iload_n 1, 1) := by decide +kernel
theorem dX1_firstFrom_16 : decode cX1_firstFrom 16 = .ok (.iload_n 2, 1) := by decide +kernel
theorem dX1_firstFrom_17 : decode cX1_firstFrom 17 = .ok (.iadd, 1) := by decide +kernel
theorem dX1_firstFrom_18 : decode cX1_firstFrom 18 = .ok (.iconst 2, 1) := by decide +kernel
theorem dX1_firstFrom_19 : decode cX1_firstFrom 19 = .ok (.idiv, 1) := by decide +kernel
theorem dX1_firstFrom_20 : decode cX1_firstFrom 20 = .ok (.istore 5, 2) := by decide +kernel
theorem dX1_firstFrom_22 : decode cX1_firstFrom 22 = .ok (.aload_n 0, 1) := by decide +kernel
theorem dX1_firstFrom_23 : decode cX1_firstFrom 23 = .ok (.getfield 25, 3) := by decide +kernel
theorem dX1_firstFrom_26 : decode cX1_firstFrom 26 = .ok (.iload 5, 2) := by decide +kernel
theorem dX1_firstFrom_28 : decode cX1_firstFrom 28 = .ok (.iaload, 1) := by decide +kernel
theorem dX1_firstFrom_29 : decode cX1_firstFrom 29 = .ok (.aload_n 0, 1) := by decide +kernel
theorem dX1_firstFrom_30 : decode cX1_firstFrom 30 = .ok (.getfield 36, 3) := by decide +kernel
theorem dX1_firstFrom_33 : decode cX1_firstFrom 33 = .ok (.ishr, 1) := by decide +kernel
theorem dX1_firstFrom_34 : decode cX1_firstFrom 34 = .ok (.iload 4, 2) := by decide +kernel
theorem dX1_firstFrom_36 : decode cX1_firstFrom 36 = .ok (.iand, 1) := by decide +kernel
theorem dX1_firstFrom_37 : decode cX1_firstFrom 37 = .ok (.iload_n 3, 1) := by decide +kernel
theorem dX1_firstFrom_38 : decode cX1_firstFrom 38 = .ok (.if_icmp .ge 11, 3) := by decide +kernel
theorem dX1_firstFrom_41 : decode cX1_firstFrom 41 = .ok (.iload 5, 2) := by decide +kernel
theorem dX1_firstFrom_43 : decode cX1_firstFrom 43 = .ok (.iconst 1, 1) := by decide +kernel
theorem dX1_firstFrom_44 : decode cX1_firstFrom 44 = .ok (.iadd, 1) := by decide +kernel
theorem dX1_firstFrom_45 : decode cX1_firstFrom 45 = .ok (.istore_n 1, 1) := by decide +kernel
theorem dX1_firstFrom_46 : decode cX1_firstFrom 46 = .ok (.goto 6, 3) := by decide +kernel
theorem dX1_firstFrom_49 : decode cX1_firstFrom 49 = .ok (.iload 5, 2) := by decide +kernel
theorem dX1_firstFrom_51 : decode cX1_firstFrom 51 = .ok (.istore_n 2, 1) := by decide +kernel
theorem dX1_firstFrom_52 : decode cX1_firstFrom 52 = .ok (.goto (-42), 3) := by decide +kernel
theorem dX1_firstFrom_55 : decode cX1_firstFrom 55 = .ok (.iload_n 1, 1) := by decide +kernel
theorem dX1_firstFrom_56 : decode cX1_firstFrom 56 = .ok (.ireturn, 1) := by decide +kernel
theorem dX1_findRoom_0 : decode cX1_findRoom 0 = .ok (.iload_n 1, 1) := by decide +kernel
theorem dX1_findRoom_1 : decode cX1_findRoom 1 = .ok (.aload_n 0, 1) := by decide +kernel
theorem dX1_findRoom_2 : decode cX1_findRoom 2 = .ok (.getfield 89, 3) := by decide +kernel
theorem dX1_findRoom_5 : decode cX1_findRoom 5 = .ok (.ishr, 1) := by decide +kernel
theorem dX1_findRoom_6 : decode cX1_findRoom 6 = .ok (.aload_n 0, 1) := by decide +kernel
theorem dX1_findRoom_7 : decode cX1_findRoom 7 = .ok (.getfield 89, 3) := by decide +kernel
theorem dX1_findRoom_10 : decode cX1_findRoom 10 = .ok (.ishl, 1) := by decide +kernel
theorem dX1_findRoom_11 : decode cX1_findRoom 11 = .ok (.istore_n 2, 1) := by decide +kernel
theorem dX1_findRoom_12 : decode cX1_findRoom 12 = .ok (.aload_n 0, 1) := by decide +kernel
theorem dX1_findRoom_13 : decode cX1_findRoom 13 = .ok (.aload_n 0, 1) := by decide +kernel
theorem dX1_findRoom_14 : decode cX1_findRoom 14 = .ok (.aload_n 0, 1) := by decide +kernel
theorem dX1_findRoom_15 : decode cX1_findRoom 15 = .ok (.getfield 96, 3) := by decide +kernel
theorem dX1_findRoom_18 : decode cX1_findRoom 18 = .ok (.aload_n 0, 1) := by decide +kernel
theorem dX1_findRoom_19 : decode cX1_findRoom 19 = .ok (.getfield 99, 3) := by decide +kernel
theorem dX1_findRoom_22 : decode cX1_findRoom 22 = .ok (.iload_n 2, 1) := by decide +kernel
theorem dX1_findRoom_23 : decode cX1_findRoom 23 = .ok (.invokevirtual 92, 3) := by decide +kernel
theorem dX1_findRoom_26 : decode cX1_findRoom 26 = .ok (.putfield 102, 3) := by decide +kernel
theorem dX1_findRoom_29 : decode cX1_findRoom 29 = .ok (.aload_n 0, 1) := by decide +kernel
theorem dX1_findRoom_30 : decode cX1_findRoom 30 = .ok (.aload_n 0, 1) := by decide +kernel
theorem dX1_findRoom_31 : decode cX1_findRoom 31 = .ok (.aload_n 0, 1) := by decide +kernel
theorem dX1_findRoom_32 : decode cX1_findRoom 32 = .ok (.getfield 102, 3) := by decide +kernel
theorem dX1_findRoom_35 : decode cX1_findRoom 35 = .ok (.aload_n 0, 1) := by decide +kernel
theorem dX1_findRoom_36 : decode cX1_findRoom 36 = .ok (.getfield 99, 3) := by decide +kernel
theorem dX1_findRoom_39 : decode cX1_findRoom 39 = .ok (.iload_n 2, 1) := by decide +kernel
theorem dX1_findRoom_40 : decode cX1_findRoom 40 = .ok (.iconst 1, 1) := by decide +kernel
theorem dX1_findRoom_41 : decode cX1_findRoom 41 = .ok (.aload_n 0, 1) := by decide +kernel
theorem dX1_findRoom_42 : decode cX1_findRoom 42 = .ok (.getfield 89, 3) := by decide +kernel
theorem dX1_findRoom_45 : decode cX1_findRoom 45 = .ok (.ishl, 1) := by decide +kernel
theorem dX1_findRoom_46 : decode cX1_findRoom 46 = .ok (.iadd, 1) := by decide +kernel
theorem dX1_findRoom_47 : decode cX1_findRoom 47 = .ok (.invokevirtual 92, 3) := by decide +kernel
theorem dX1_findRoom_50 : decode cX1_findRoom 50 = .ok (.putfield 105, 3) := by decide +kernel
theorem dX1_findRoom_53 : decode cX1_findRoom 53 = .ok (.aload_n 0, 1) := by decide +kernel
theorem dX1_findRoom_54 : decode cX1_findRoom 54 = .ok (.getfield 102, 3) := by decide +kernel
theorem dX1_findRoom_57 : decode cX1_findRoom 57 = .ok (.aload_n 0, 1) := by decide +kernel
theorem dX1_findRoom_58 : decode cX1_findRoom 58 = .ok (.getfield 105, 3) := by decide +kernel
theorem dX1_findRoom_61 : decode cX1_findRoom 61 = .ok (.if_icmp .ge 7, 3) := by decide +kernel
theorem dX1_findRoom_64 : decode cX1_findRoom 64 = .ok (.iconst 1, 1) := by decide +kernel
theorem dX1_findRoom_65 : decode cX1_findRoom 65 = .ok (.goto 4, 3) := by decide +kernel
theorem dX1_findRoom_68 : decode cX1_findRoom 68 = .ok (.iconst 0, 1) := by decide +kernel
theorem dX1_findRoom_69 : decode cX1_findRoom 69 = .ok (.ireturn, 1) := by decide +kernel
theorem dX1_enterRoom_0 : decode cX1_enterRoom 0 = .ok (.aload_n 0, 1) := by decide +kernel
theorem dX1_enterRoom_1 : decode cX1_enterRoom 1 = .ok (.aload_n 0, 1) := by decide +kernel
theorem dX1_enterRoom_2 : decode cX1_enterRoom 2 = .ok (.getfield 102, 3) := by decide +kernel
theorem dX1_enterRoom_5 : decode cX1_enterRoom 5 = .ok (.putfield 26, 3) := by decide +kernel
theorem dX1_enterRoom_8 : decode cX1_enterRoom 8 = .ok (.aload_n 0, 1) := by decide +kernel
theorem dX1_enterRoom_9 : decode cX1_enterRoom 9 = .ok (.aload_n 0, 1) := by decide +kernel
theorem dX1_enterRoom_10 : decode cX1_enterRoom 10 = .ok (.getfield 105, 3) := by decide +kernel
theorem dX1_enterRoom_13 : decode cX1_enterRoom 13 = .ok (.putfield 33, 3) := by decide +kernel
theorem dX1_enterRoom_16 : decode cX1_enterRoom 16 = .ok (.aload_n 0, 1) := by decide +kernel
theorem dX1_enterRoom_17 : decode cX1_enterRoom 17 = .ok (.aload_n 0, 1) := by decide +kernel
theorem dX1_enterRoom_18 : decode cX1_enterRoom 18 = .ok (.getfield 89, 3) := by decide +kernel
theorem dX1_enterRoom_21 : decode cX1_enterRoom 21 = .ok (.putfield 44, 3) := by decide +kernel
theorem dX1_enterRoom_24 : decode cX1_enterRoom 24 = .ok (.aload_n 0, 1) := by decide +kernel
theorem dX1_enterRoom_25 : decode cX1_enterRoom 25 = .ok (.iload_n 1, 1) := by decide +kernel
theorem dX1_enterRoom_26 : decode cX1_enterRoom 26 = .ok (.iconst 1, 1) := by decide +kernel
theorem dX1_enterRoom_27 : decode cX1_enterRoom 27 = .ok (.aload_n 0, 1) := by decide +kernel
theorem dX1_enterRoom_28 : decode cX1_enterRoom 28 = .ok (.getfield 89, 3) := by decide +kernel
theorem dX1_enterRoom_31 : decode cX1_enterRoom 31 = .ok (.ishl, 1) := by decide +kernel
theorem dX1_enterRoom_32 : decode cX1_enterRoom 32 = .ok (.iconst 1, 1) := by decide +kernel
theorem dX1_enterRoom_33 : decode cX1_enterRoom 33 = .ok (.isub, 1) := by decide +kernel
theorem dX1_enterRoom_34 : decode cX1_enterRoom 34 = .ok (.iand, 1) := by decide +kernel
theorem dX1_enterRoom_35 : decode cX1_enterRoom 35 = .ok (.putfield 47, 3) := by decide +kernel
theorem dX1_enterRoom_38 : decode cX1_enterRoom 38 = .ok (.return_, 1) := by decide +kernel
theorem dX1_enterList_0 : decode cX1_enterList 0 = .ok (.aload_n 0, 1) := by decide +kernel
theorem dX1_enterList_1 : decode cX1_enterList 1 = .ok (.aload_n 0, 1) := by decide +kernel
theorem dX1_enterList_2 : decode cX1_enterList 2 = .ok (.getfield 96, 3) := by decide +kernel
theorem dX1_enterList_5 : decode cX1_enterList 5 = .ok (.putfield 26, 3) := by decide +kernel
theorem dX1_enterList_8 : decode cX1_enterList 8 = .ok (.aload_n 0, 1) := by decide +kernel
theorem dX1_enterList_9 : decode cX1_enterList 9 = .ok (.aload_n 0, 1) := by decide +kernel
theorem dX1_enterList_10 : decode cX1_enterList 10 = .ok (.getfield 99, 3) := by decide +kernel
theorem dX1_enterList_13 : decode cX1_enterList 13 = .ok (.putfield 33, 3) := by decide +kernel
theorem dX1_enterList_16 : decode cX1_enterList 16 = .ok (.aload_n 0, 1) := by decide +kernel
theorem dX1_enterList_17 : decode cX1_enterList 17 = .ok (.dup, 1) := by decide +kernel
theorem dX1_enterList_18 : decode cX1_enterList 18 = .ok (.getfield 36, 3) := by decide +kernel
theorem dX1_enterList_21 : decode cX1_enterList 21 = .ok (.aload_n 0, 1) := by decide +kernel
theorem dX1_enterList_22 : decode cX1_enterList 22 = .ok (.getfield 89, 3) := by decide +kernel
theorem dX1_enterList_25 : decode cX1_enterList 25 = .ok (.iadd, 1) := by decide +kernel
theorem dX1_enterList_26 : decode cX1_enterList 26 = .ok (.putfield 36, 3) := by decide +kernel
theorem dX1_enterList_29 : decode cX1_enterList 29 = .ok (.aload_n 0, 1) := by decide +kernel
theorem dX1_enterList_30 : decode cX1_enterList 30 = .ok (.dup, 1) := by decide +kernel
theorem dX1_enterList_31 : decode cX1_enterList 31 = .ok (.getfield 44, 3) := by decide +kernel
theorem dX1_enterList_34 : decode cX1_enterList 34 = .ok (.aload_n 0, 1) := by decide +kernel
theorem dX1_enterList_35 : decode cX1_enterList 35 = .ok (.getfield 89, 3) := by decide +kernel
theorem dX1_enterList_38 : decode cX1_enterList 38 = .ok (.isub, 1) := by decide +kernel
theorem dX1_enterList_39 : decode cX1_enterList 39 = .ok (.putfield 44, 3) := by decide +kernel
theorem dX1_enterList_42 : decode cX1_enterList 42 = .ok (.aload_n 0, 1) := by decide +kernel
theorem dX1_enterList_43 : decode cX1_enterList 43 = .ok (.iload_n 1, 1) := by decide +kernel
theorem dX1_enterList_44 : decode cX1_enterList 44 = .ok (.aload_n 0, 1) := by decide +kernel
theorem dX1_enterList_45 : decode cX1_enterList 45 = .ok (.getfield 89, 3) := by decide +kernel
theorem dX1_enterList_48 : decode cX1_enterList 48 = .ok (.ishr, 1) := by decide +kernel
theorem dX1_enterList_49 : decode cX1_enterList 49 = .ok (.putfield 47, 3) := by decide +kernel
theorem dX1_enterList_52 : decode cX1_enterList 52 = .ok (.return_, 1) := by decide +kernel
theorem dX1_goOnPutting_0 : decode cX1_goOnPutting 0 = .ok (.aload_n 0, 1) := by decide +kernel
theorem dX1_goOnPutting_1 : decode cX1_goOnPutting 1 = .ok (.getfield 47, 3) := by decide +kernel
theorem dX1_goOnPutting_4 : decode cX1_goOnPutting 4 = .ok (.aload_n 0, 1) := by decide +kernel
theorem dX1_goOnPutting_5 : decode cX1_goOnPutting 5 = .ok (.getfield 80, 3) := by decide +kernel
theorem dX1_goOnPutting_8 : decode cX1_goOnPutting 8 = .ok (.if_icmp .eq 14, 3) := by decide +kernel
theorem dX1_goOnPutting_11 : decode cX1_goOnPutting 11 = .ok (.aload_n 0, 1) := by decide +kernel
theorem dX1_goOnPutting_12 : decode cX1_goOnPutting 12 = .ok (.getfield 47, 3) := by decide +kernel
theorem dX1_goOnPutting_15 : decode cX1_goOnPutting 15 = .ok (.aload_n 0, 1) := by decide +kernel
theorem dX1_goOnPutting_16 : decode cX1_goOnPutting 16 = .ok (.getfield 83, 3) := by decide +kernel
theorem dX1_goOnPutting_19 : decode cX1_goOnPutting 19 = .ok (.if_icmp .ne 10, 3) := by decide +kernel
theorem dX1_goOnPutting_22 : decode cX1_goOnPutting 22 = .ok (.aload_n 0, 1) := by decide +kernel
theorem dX1_goOnPutting_23 : decode cX1_goOnPutting 23 = .ok (.iconst 1, 1) := by decide +kernel
theorem dX1_goOnPutting_24 : decode cX1_goOnPutting 24 = .ok (.putfield 50, 3) := by decide +kernel
theorem dX1_goOnPutting_27 : decode cX1_goOnPutting 27 = .ok (.iconst 0, 1) := by decide +kernel
theorem dX1_goOnPutting_28 : decode cX1_goOnPutting 28 = .ok (.ireturn, 1) := by decide +kernel
theorem dX1_goOnPutting_29 : decode cX1_goOnPutting 29 = .ok (.aload_n 0, 1) := by decide +kernel
theorem dX1_goOnPutting_30 : decode cX1_goOnPutting 30 = .ok (.getfield 47, 3) := by decide +kernel
theorem dX1_goOnPutting_33 : decode cX1_goOnPutting 33 = .ok (.aload_n 0, 1) := by decide +kernel
theorem dX1_goOnPutting_34 : decode cX1_goOnPutting 34 = .ok (.getfield 80, 3) := by decide +kernel
theorem dX1_goOnPutting_37 : decode cX1_goOnPutting 37 = .ok (.invokestatic 108, 3) := by decide +kernel
theorem dX1_goOnPutting_40 : decode cX1_goOnPutting 40 = .ok (.aload_n 0, 1) := by decide +kernel
theorem dX1_goOnPutting_41 : decode cX1_goOnPutting 41 = .ok (.getfield 83, 3) := by decide +kernel
theorem dX1_goOnPutting_44 : decode cX1_goOnPutting 44 = .ok (.invokestatic 114, 3) := by decide +kernel
theorem dX1_goOnPutting_47 : decode cX1_goOnPutting 47 = .ok (.istore_n 1, 1) := by decide +kernel
theorem dX1_goOnPutting_48 : decode cX1_goOnPutting 48 = .ok (.aload_n 0, 1) := by decide +kernel
theorem dX1_goOnPutting_49 : decode cX1_goOnPutting 49 = .ok (.iload_n 1, 1) := by decide +kernel
theorem dX1_goOnPutting_50 : decode cX1_goOnPutting 50 = .ok (.invokevirtual 117, 3) := by decide +kernel
theorem dX1_goOnPutting_53 : decode cX1_goOnPutting 53 = .ok (.ifCond .eq 10, 3) := by decide +kernel
theorem dX1_goOnPutting_56 : decode cX1_goOnPutting 56 = .ok (.aload_n 0, 1) := by decide +kernel
theorem dX1_goOnPutting_57 : decode cX1_goOnPutting 57 = .ok (.iload_n 1, 1) := by decide +kernel
theorem dX1_goOnPutting_58 : decode cX1_goOnPutting 58 = .ok (.invokevirtual 121, 3) := by decide +kernel
theorem dX1_goOnPutting_61 : decode cX1_goOnPutting 61 = .ok (.iconst 0, 1) := by decide +kernel
theorem dX1_goOnPutting_62 : decode cX1_goOnPutting 62 = .ok (.ireturn, 1) := by decide +kernel
theorem dX1_goOnPutting_63 : decode cX1_goOnPutting 63 = .ok (.aload_n 0, 1) := by decide +kernel
theorem dX1_goOnPutting_64 : decode cX1_goOnPutting 64 = .ok (.iload_n 1, 1) := by decide +kernel
theorem dX1_goOnPutting_65 : decode cX1_goOnPutting 65 = .ok (.invokevirtual 125, 3) := by decide +kernel
theorem dX1_goOnPutting_68 : decode cX1_goOnPutting 68 = .ok (.iconst 1, 1) := by decide +kernel
theorem dX1_goOnPutting_69 : decode cX1_goOnPutting 69 = .ok (.ireturn, 1) := by decide +kernel
theorem dX1_goOnDropping_0 : decode cX1_goOnDropping 0 = .ok (.aload_n 0, 1) := by decide +kernel
theorem dX1_goOnDropping_1 : decode cX1_goOnDropping 1 = .ok (.getfield 47, 3) := by decide +kernel
theorem dX1_goOnDropping_4 : decode cX1_goOnDropping 4 = .ok (.aload_n 0, 1) := by decide +kernel
theorem dX1_goOnDropping_5 : decode cX1_goOnDropping 5 = .ok (.getfield 80, 3) := by decide +kernel
theorem dX1_goOnDropping_8 : decode cX1_goOnDropping 8 = .ok (.if_icmp .eq 14, 3) := by decide +kernel
theorem dX1_goOnDropping_11 : decode cX1_goOnDropping 11 = .ok (.aload_n 0, 1) := by decide +kernel
theorem dX1_goOnDropping_12 : decode cX1_goOnDropping 12 = .ok (.getfield 47, 3) := by decide +kernel
theorem dX1_goOnDropping_15 : decode cX1_goOnDropping 15 = .ok (.aload_n 0, 1) := by decide +kernel
theorem dX1_goOnDropping_16 : decode cX1_goOnDropping 16 = .ok (.getfield 83, 3) := by decide +kernel
theorem dX1_goOnDropping_19 : decode cX1_goOnDropping 19 = .ok (.if_icmp .ne 7, 3) := by decide +kernel
theorem dX1_goOnDropping_22 : decode cX1_goOnDropping 22 = .ok (.iconst 1, 1) := by decide +kernel
theorem dX1_goOnDropping_23 : decode cX1_goOnDropping 23 = .ok (.goto 4, 3) := by decide +kernel
theorem dX1_goOnDropping_26 : decode cX1_goOnDropping 26 = .ok (.iconst 0, 1) := by decide +kernel
theorem dX1_goOnDropping_27 : decode cX1_goOnDropping 27 = .ok (.istore_n 1, 1) := by decide +kernel
theorem dX1_goOnDropping_28 : decode cX1_goOnDropping 28 = .ok (.aload_n 0, 1) := by decide +kernel
theorem dX1_goOnDropping_29 : decode cX1_goOnDropping 29 = .ok (.getfield 47, 3) := by decide +kernel
theorem dX1_goOnDropping_32 : decode cX1_goOnDropping 32 = .ok (.aload_n 0, 1) := by decide +kernel
theorem dX1_goOnDropping_33 : decode cX1_goOnDropping 33 = .ok (.getfield 80, 3) := by decide +kernel
theorem dX1_goOnDropping_36 : decode cX1_goOnDropping 36 = .ok (.if_icmp .lt 29, 3) := by decide +kernel
theorem dX1_goOnDropping_39 : decode cX1_goOnDropping 39 = .ok (.aload_n 0, 1) := by decide +kernel
theorem dX1_goOnDropping_40 : decode cX1_goOnDropping 40 = .ok (.getfield 47, 3) := by decide +kernel
theorem dX1_goOnDropping_43 : decode cX1_goOnDropping 43 = .ok (.aload_n 0, 1) := by decide +kernel
theorem dX1_goOnDropping_44 : decode cX1_goOnDropping 44 = .ok (.getfield 83, 3) := by decide +kernel
theorem dX1_goOnDropping_47 : decode cX1_goOnDropping 47 = .ok (.if_icmp .gt 18, 3) := by decide +kernel
theorem dX1_goOnDropping_50 : decode cX1_goOnDropping 50 = .ok (.iload_n 1, 1) := by decide +kernel
theorem dX1_goOnDropping_51 : decode cX1_goOnDropping 51 = .ok (.ifCond .eq 21, 3) := by decide +kernel
theorem dX1_goOnDropping_54 : decode cX1_goOnDropping 54 = .ok (.aload_n 0, 1) := by decide +kernel
theorem dX1_goOnDropping_55 : decode cX1_goOnDropping 55 = .ok (.getfield 96, 3) := by decide +kernel
theorem dX1_goOnDropping_58 : decode cX1_goOnDropping 58 = .ok (.aload_n 0, 1) := by decide +kernel
theorem dX1_goOnDropping_59 : decode cX1_goOnDropping 59 = .ok (.getfield 99, 3) := by decide +kernel
theorem dX1_goOnDropping_62 : decode cX1_goOnDropping 62 = .ok (.if_icmp .lt 10, 3) := by decide +kernel
theorem dX1_goOnDropping_65 : decode cX1_goOnDropping 65 = .ok (.aload_n 0, 1) := by decide +kernel
theorem dX1_goOnDropping_66 : decode cX1_goOnDropping 66 = .ok (.iconst 1, 1) := by decide +kernel
theorem dX1_goOnDropping_67 : decode cX1_goOnDropping 67 = .ok (.putfield 50, 3) := by decide +kernel
theorem dX1_goOnDropping_70 : decode cX1_goOnDropping 70 = .ok (.iconst 0, 1) := by decide +kernel
theorem dX1_goOnDropping_71 : decode cX1_goOnDropping 71 = .ok (.ireturn, 1) := by decide +kernel
theorem dX1_goOnDropping_72 : decode cX1_goOnDropping 72 = .ok (.iload_n 1, 1) := by decide +kernel
theorem dX1_goOnDropping_73 : decode cX1_goOnDropping 73 = .ok (.ifCond .eq 7, 3) := by decide +kernel
theorem dX1_goOnDropping_76 : decode cX1_goOnDropping 76 = .ok (.iconst 2, 1) := by decide +kernel
theorem dX1_goOnDropping_77 : decode cX1_goOnDropping 77 = .ok (.goto 4, 3) := by decide +kernel
theorem dX1_goOnDropping_80 : decode cX1_goOnDropping 80 = .ok (.iconst 0, 1) := by decide +kernel
theorem dX1_goOnDropping_81 : decode cX1_goOnDropping 81 = .ok (.istore_n 2, 1) := by decide +kernel
theorem dX1_goOnDropping_82 : decode cX1_goOnDropping 82 = .ok (.iload_n 1, 1) := by decide +kernel
theorem dX1_goOnDropping_83 : decode cX1_goOnDropping 83 = .ok (.ifCond .ne 10, 3) := by decide +kernel
theorem dX1_goOnDropping_86 : decode cX1_goOnDropping 86 = .ok (.aload_n 0, 1) := by decide +kernel
theorem dX1_goOnDropping_87 : decode cX1_goOnDropping 87 = .ok (.getfield 47, 3) := by decide +kernel
theorem dX1_goOnDropping_90 : decode cX1_goOnDropping 90 = .ok (.goto 31, 3) := by decide +kernel
theorem dX1_goOnDropping_93 : decode cX1_goOnDropping 93 = .ok (.aload_n 0, 1) := by decide +kernel
theorem dX1_goOnDropping_94 : decode cX1_goOnDropping 94 = .ok (.aload_n 0, 1) := by decide +kernel
theorem dX1_goOnDropping_95 : decode cX1_goOnDropping 95 = .ok (.getfield 47, 3) := by decide +kernel
theorem dX1_goOnDropping_98 : decode cX1_goOnDropping 98 = .ok (.aload_n 0, 1) := by decide +kernel
theorem dX1_goOnDropping_99 : decode cX1_goOnDropping 99 = .ok (.getfield 80, 3) := by decide +kernel
theorem dX1_goOnDropping_102 : decode cX1_goOnDropping 102 = .ok (.if_icmp .ne 10, 3) := by decide +kernel
theorem dX1_goOnDropping_105 : decode cX1_goOnDropping 105 = .ok (.aload_n 0, 1) := by decide +kernel
theorem dX1_goOnDropping_106 : decode cX1_goOnDropping 106 = .ok (.getfield 96, 3) := by decide +kernel
theorem dX1_goOnDropping_109 : decode cX1_goOnDropping 109 = .ok (.goto 9, 3) := by decide +kernel
theorem dX1_goOnDropping_112 : decode cX1_goOnDropping 112 = .ok (.aload_n 0, 1) := by decide +kernel
theorem dX1_goOnDropping_113 : decode cX1_goOnDropping 113 = .ok (.getfield 99, 3) := by decide +kernel
theorem dX1_goOnDropping_116 : decode cX1_goOnDropping 116 = .ok (.iconst 1, 1) := by decide +kernel
theorem dX1_goOnDropping_117 : decode cX1_goOnDropping 117 = .ok (.isub, 1) := by decide +kernel
theorem dX1_goOnDropping_118 : decode cX1_goOnDropping 118 = .ok (.invokevirtual 76, 3) := by decide +kernel
theorem dX1_goOnDropping_121 : decode cX1_goOnDropping 121 = .ok (.istore_n 3, 1) := by decide +kernel
theorem dX1_goOnDropping_122 : decode cX1_goOnDropping 122 = .ok (.aload_n 0, 1) := by decide +kernel
theorem dX1_goOnDropping_123 : decode cX1_goOnDropping 123 = .ok (.iload_n 3, 1) := by decide +kernel
theorem dX1_goOnDropping_124 : decode cX1_goOnDropping 124 = .ok (.invokevirtual 117, 3) := by decide +kernel
theorem dX1_goOnDropping_127 : decode cX1_goOnDropping 127 = .ok (.ifCond .ne 10, 3) := by decide +kernel
theorem dX1_goOnDropping_130 : decode cX1_goOnDropping 130 = .ok (.aload_n 0, 1) := by decide +kernel
theorem dX1_goOnDropping_131 : decode cX1_goOnDropping 131 = .ok (.iconst 1, 1) := by decide +kernel
theorem dX1_goOnDropping_132 : decode cX1_goOnDropping 132 = .ok (.putfield 50, 3) := by decide +kernel
theorem dX1_goOnDropping_135 : decode cX1_goOnDropping 135 = .ok (.iload_n 2, 1) := by decide +kernel
theorem dX1_goOnDropping_136 : decode cX1_goOnDropping 136 = .ok (.ireturn, 1) := by decide +kernel
theorem dX1_goOnDropping_137 : decode cX1_goOnDropping 137 = .ok (.aload_n 0, 1) := by decide +kernel
theorem dX1_goOnDropping_138 : decode cX1_goOnDropping 138 = .ok (.aload_n 0, 1) := by decide +kernel
theorem dX1_goOnDropping_139 : decode cX1_goOnDropping 139 = .ok (.getfield 102, 3) := by decide +kernel
theorem dX1_goOnDropping_142 : decode cX1_goOnDropping 142 = .ok (.invokevirtual 76, 3) := by decide +kernel
theorem dX1_goOnDropping_145 : decode cX1_goOnDropping 145 = .ok (.iload_n 3, 1) := by decide +kernel
theorem dX1_goOnDropping_146 : decode cX1_goOnDropping 146 = .ok (.if_icmp .ne 26, 3) := by decide +kernel
theorem dX1_goOnDropping_149 : decode cX1_goOnDropping 149 = .ok (.aload_n 0, 1) := by decide +kernel
theorem dX1_goOnDropping_150 : decode cX1_goOnDropping 150 = .ok (.aload_n 0, 1) := by decide +kernel
theorem dX1_goOnDropping_151 : decode cX1_goOnDropping 151 = .ok (.getfield 105, 3) := by decide +kernel
theorem dX1_goOnDropping_154 : decode cX1_goOnDropping 154 = .ok (.iconst 1, 1) := by decide +kernel
theorem dX1_goOnDropping_155 : decode cX1_goOnDropping 155 = .ok (.isub, 1) := by decide +kernel
theorem dX1_goOnDropping_156 : decode cX1_goOnDropping 156 = .ok (.invokevirtual 76, 3) := by decide +kernel
theorem dX1_goOnDropping_159 : decode cX1_goOnDropping 159 = .ok (.iload_n 3, 1) := by decide +kernel
theorem dX1_goOnDropping_160 : decode cX1_goOnDropping 160 = .ok (.if_icmp .ne 12, 3) := by decide +kernel
theorem dX1_goOnDropping_163 : decode cX1_goOnDropping 163 = .ok (.aload_n 0, 1) := by decide +kernel
theorem dX1_goOnDropping_164 : decode cX1_goOnDropping 164 = .ok (.iload_n 3, 1) := by decide +kernel
theorem dX1_goOnDropping_165 : decode cX1_goOnDropping 165 = .ok (.invokevirtual 125, 3) := by decide +kernel
theorem dX1_goOnDropping_168 : decode cX1_goOnDropping 168 = .ok (.iload_n 2, 1) := by decide +kernel
theorem dX1_goOnDropping_169 : decode cX1_goOnDropping 169 = .ok (.iconst 1, 1) := by decide +kernel
theorem dX1_goOnDropping_170 : decode cX1_goOnDropping 170 = .ok (.iadd, 1) := by decide +kernel
theorem dX1_goOnDropping_171 : decode cX1_goOnDropping 171 = .ok (.ireturn, 1) := by decide +kernel
theorem dX1_goOnDropping_172 : decode cX1_goOnDropping 172 = .ok (.aload_n 0, 1) := by decide +kernel
theorem dX1_goOnDropping_173 : decode cX1_goOnDropping 173 = .ok (.iload_n 3, 1) := by decide +kernel
theorem dX1_goOnDropping_174 : decode cX1_goOnDropping 174 = .ok (.invokevirtual 121, 3) := by decide +kernel
theorem dX1_goOnDropping_177 : decode cX1_goOnDropping 177 = .ok (.iload_n 2, 1) := by decide +kernel
theorem dX1_goOnDropping_178 : decode cX1_goOnDropping 178 = .ok (.ireturn, 1) := by decide +kernel
theorem dX1_goOnAsking_0 : decode cX1_goOnAsking 0 = .ok (.aload_n 0, 1) := by decide +kernel
theorem dX1_goOnAsking_1 : decode cX1_goOnAsking 1 = .ok (.getfield 47, 3) := by decide +kernel
theorem dX1_goOnAsking_4 : decode cX1_goOnAsking 4 = .ok (.aload_n 0, 1) := by decide +kernel
theorem dX1_goOnAsking_5 : decode cX1_goOnAsking 5 = .ok (.getfield 80, 3) := by decide +kernel
theorem dX1_goOnAsking_8 : decode cX1_goOnAsking 8 = .ok (.if_icmp .le 25, 3) := by decide +kernel
theorem dX1_goOnAsking_11 : decode cX1_goOnAsking 11 = .ok (.aload_n 0, 1) := by decide +kernel
theorem dX1_goOnAsking_12 : decode cX1_goOnAsking 12 = .ok (.getfield 47, 3) := by decide +kernel
theorem dX1_goOnAsking_15 : decode cX1_goOnAsking 15 = .ok (.aload_n 0, 1) := by decide +kernel
theorem dX1_goOnAsking_16 : decode cX1_goOnAsking 16 = .ok (.getfield 83, 3) := by decide +kernel
theorem dX1_goOnAsking_19 : decode cX1_goOnAsking 19 = .ok (.if_icmp .ge 14, 3) := by decide +kernel
theorem dX1_goOnAsking_22 : decode cX1_goOnAsking 22 = .ok (.aload_n 0, 1) := by decide +kernel
theorem dX1_goOnAsking_23 : decode cX1_goOnAsking 23 = .ok (.aload_n 0, 1) := by decide +kernel
theorem dX1_goOnAsking_24 : decode cX1_goOnAsking 24 = .ok (.getfield 47, 3) := by decide +kernel
theorem dX1_goOnAsking_27 : decode cX1_goOnAsking 27 = .ok (.invokevirtual 117, 3) := by decide +kernel
theorem dX1_goOnAsking_30 : decode cX1_goOnAsking 30 = .ok (.ifCond .ne 11, 3) := by decide +kernel
theorem dX1_goOnAsking_33 : decode cX1_goOnAsking 33 = .ok (.aload_n 0, 1) := by decide +kernel
theorem dX1_goOnAsking_34 : decode cX1_goOnAsking 34 = .ok (.iconst 1, 1) := by decide +kernel
theorem dX1_goOnAsking_35 : decode cX1_goOnAsking 35 = .ok (.putfield 50, 3) := by decide +kernel
theorem dX1_goOnAsking_38 : decode cX1_goOnAsking 38 = .ok (.goto 11, 3) := by decide +kernel
theorem dX1_goOnAsking_41 : decode cX1_goOnAsking 41 = .ok (.aload_n 0, 1) := by decide +kernel
theorem dX1_goOnAsking_42 : decode cX1_goOnAsking 42 = .ok (.aload_n 0, 1) := by decide +kernel
theorem dX1_goOnAsking_43 : decode cX1_goOnAsking 43 = .ok (.getfield 47, 3) := by decide +kernel
theorem dX1_goOnAsking_46 : decode cX1_goOnAsking 46 = .ok (.invokevirtual 121, 3) := by decide +kernel
theorem dX1_goOnAsking_49 : decode cX1_goOnAsking 49 = .ok (.return_, 1) := by decide +kernel
theorem dX1_goOnUp_0 : decode cX1_goOnUp 0 = .ok (.aload_n 0, 1) := by decide +kernel
theorem dX1_goOnUp_1 : decode cX1_goOnUp 1 = .ok (.getfield 47, 3) := by decide +kernel
theorem dX1_goOnUp_4 : decode cX1_goOnUp 4 = .ok (.aload_n 0, 1) := by decide +kernel
theorem dX1_goOnUp_5 : decode cX1_goOnUp 5 = .ok (.getfield 80, 3) := by decide +kernel
theorem dX1_goOnUp_8 : decode cX1_goOnUp 8 = .ok (.if_icmp .lt 25, 3) := by decide +kernel
theorem dX1_goOnUp_11 : decode cX1_goOnUp 11 = .ok (.aload_n 0, 1) := by decide +kernel
theorem dX1_goOnUp_12 : decode cX1_goOnUp 12 = .ok (.getfield 47, 3) := by decide +kernel
theorem dX1_goOnUp_15 : decode cX1_goOnUp 15 = .ok (.aload_n 0, 1) := by decide +kernel
theorem dX1_goOnUp_16 : decode cX1_goOnUp 16 = .ok (.getfield 83, 3) := by decide +kernel
theorem dX1_goOnUp_19 : decode cX1_goOnUp 19 = .ok (.if_icmp .ge 14, 3) := by decide +kernel
theorem dX1_goOnUp_22 : decode cX1_goOnUp 22 = .ok (.aload_n 0, 1) := by decide +kernel
theorem dX1_goOnUp_23 : decode cX1_goOnUp 23 = .ok (.getfield 96, 3) := by decide +kernel
theorem dX1_goOnUp_26 : decode cX1_goOnUp 26 = .ok (.aload_n 0, 1) := by decide +kernel
theorem dX1_goOnUp_27 : decode cX1_goOnUp 27 = .ok (.getfield 99, 3) := by decide +kernel
theorem dX1_goOnUp_30 : decode cX1_goOnUp 30 = .ok (.if_icmp .lt 10, 3) := by decide +kernel
theorem dX1_goOnUp_33 : decode cX1_goOnUp 33 = .ok (.aload_n 0, 1) := by decide +kernel
theorem dX1_goOnUp_34 : decode cX1_goOnUp 34 = .ok (.iconst 1, 1) := by decide +kernel
theorem dX1_goOnUp_35 : decode cX1_goOnUp 35 = .ok (.putfield 50, 3) := by decide +kernel
theorem dX1_goOnUp_38 : decode cX1_goOnUp 38 = .ok (.iconst 0, 1) := by decide +kernel
theorem dX1_goOnUp_39 : decode cX1_goOnUp 39 = .ok (.ireturn, 1) := by decide +kernel
theorem dX1_goOnUp_40 : decode cX1_goOnUp 40 = .ok (.iconst 0, 1) := by decide +kernel
theorem dX1_goOnUp_41 : decode cX1_goOnUp 41 = .ok (.istore_n 1, 1) := by decide +kernel
theorem dX1_goOnUp_42 : decode cX1_goOnUp 42 = .ok (.aload_n 0, 1) := by decide +kernel
theorem dX1_goOnUp_43 : decode cX1_goOnUp 43 = .ok (.aload_n 0, 1) := by decide +kernel
theorem dX1_goOnUp_44 : decode cX1_goOnUp 44 = .ok (.getfield 47, 3) := by decide +kernel
theorem dX1_goOnUp_47 : decode cX1_goOnUp 47 = .ok (.invokevirtual 117, 3) := by decide +kernel
theorem dX1_goOnUp_50 : decode cX1_goOnUp 50 = .ok (.ifCond .eq 32, 3) := by decide +kernel
theorem dX1_goOnUp_53 : decode cX1_goOnUp 53 = .ok (.iconst 1, 1) := by decide +kernel
theorem dX1_goOnUp_54 : decode cX1_goOnUp 54 = .ok (.istore_n 1, 1) := by decide +kernel
theorem dX1_goOnUp_55 : decode cX1_goOnUp 55 = .ok (.aload_n 0, 1) := by decide +kernel
theorem dX1_goOnUp_56 : decode cX1_goOnUp 56 = .ok (.getfield 47, 3) := by decide +kernel
theorem dX1_goOnUp_59 : decode cX1_goOnUp 59 = .ok (.aload_n 0, 1) := by decide +kernel
theorem dX1_goOnUp_60 : decode cX1_goOnUp 60 = .ok (.aload_n 0, 1) := by decide +kernel
theorem dX1_goOnUp_61 : decode cX1_goOnUp 61 = .ok (.getfield 105, 3) := by decide +kernel
theorem dX1_goOnUp_64 : decode cX1_goOnUp 64 = .ok (.iconst 1, 1) := by decide +kernel
theorem dX1_goOnUp_65 : decode cX1_goOnUp 65 = .ok (.isub, 1) := by decide +kernel
theorem dX1_goOnUp_66 : decode cX1_goOnUp 66 = .ok (.invokevirtual 76, 3) := by decide +kernel
theorem dX1_goOnUp_69 : decode cX1_goOnUp 69 = .ok (.if_icmp .ge 13, 3) := by decide +kernel
theorem dX1_goOnUp_72 : decode cX1_goOnUp 72 = .ok (.aload_n 0, 1) := by decide +kernel
theorem dX1_goOnUp_73 : decode cX1_goOnUp 73 = .ok (.aload_n 0, 1) := by decide +kernel
theorem dX1_goOnUp_74 : decode cX1_goOnUp 74 = .ok (.getfield 47, 3) := by decide +kernel
theorem dX1_goOnUp_77 : decode cX1_goOnUp 77 = .ok (.invokevirtual 121, 3) := by decide +kernel
theorem dX1_goOnUp_80 : decode cX1_goOnUp 80 = .ok (.iload_n 1, 1) := by decide +kernel
theorem dX1_goOnUp_81 : decode cX1_goOnUp 81 = .ok (.ireturn, 1) := by decide +kernel
theorem dX1_goOnUp_82 : decode cX1_goOnUp 82 = .ok (.aload_n 0, 1) := by decide +kernel
theorem dX1_goOnUp_83 : decode cX1_goOnUp 83 = .ok (.aload_n 0, 1) := by decide +kernel
theorem dX1_goOnUp_84 : decode cX1_goOnUp 84 = .ok (.getfield 99, 3) := by decide +kernel
theorem dX1_goOnUp_87 : decode cX1_goOnUp 87 = .ok (.iconst 1, 1) := by decide +kernel
theorem dX1_goOnUp_88 : decode cX1_goOnUp 88 = .ok (.isub, 1) := by decide +kernel
theorem dX1_goOnUp_89 : decode cX1_goOnUp 89 = .ok (.invokevirtual 76, 3) := by decide +kernel
theorem dX1_goOnUp_92 : decode cX1_goOnUp 92 = .ok (.aload_n 0, 1) := by decide +kernel
theorem dX1_goOnUp_93 : decode cX1_goOnUp 93 = .ok (.getfield 89, 3) := by decide +kernel
theorem dX1_goOnUp_96 : decode cX1_goOnUp 96 = .ok (.ishr, 1) := by decide +kernel
theorem dX1_goOnUp_97 : decode cX1_goOnUp 97 = .ok (.aload_n 0, 1) := by decide +kernel
theorem dX1_goOnUp_98 : decode cX1_goOnUp 98 = .ok (.getfield 47, 3) := by decide +kernel
theorem dX1_goOnUp_101 : decode cX1_goOnUp 101 = .ok (.aload_n 0, 1) := by decide +kernel
theorem dX1_goOnUp_102 : decode cX1_goOnUp 102 = .ok (.getfield 89, 3) := by decide +kernel
theorem dX1_goOnUp_105 : decode cX1_goOnUp 105 = .ok (.ishr, 1) := by decide +kernel
theorem dX1_goOnUp_106 : decode cX1_goOnUp 106 = .ok (.if_icmp .le 6, 3) := by decide +kernel
theorem dX1_goOnUp_109 : decode cX1_goOnUp 109 = .ok (.iinc 1 1, 3) := by decide +kernel
theorem dX1_goOnUp_112 : decode cX1_goOnUp 112 = .ok (.aload_n 0, 1) := by decide +kernel
theorem dX1_goOnUp_113 : decode cX1_goOnUp 113 = .ok (.aload_n 0, 1) := by decide +kernel
theorem dX1_goOnUp_114 : decode cX1_goOnUp 114 = .ok (.getfield 47, 3) := by decide +kernel
theorem dX1_goOnUp_117 : decode cX1_goOnUp 117 = .ok (.invokevirtual 125, 3) := by decide +kernel
theorem dX1_goOnUp_120 : decode cX1_goOnUp 120 = .ok (.iload_n 1, 1) := by decide +kernel
theorem dX1_goOnUp_121 : decode cX1_goOnUp 121 = .ok (.ireturn, 1) := by decide +kernel
theorem dX1_goOnDown_0 : decode cX1_goOnDown 0 = .ok (.aload_n 0, 1) := by decide +kernel
theorem dX1_goOnDown_1 : decode cX1_goOnDown 1 = .ok (.getfield 47, 3) := by decide +kernel
theorem dX1_goOnDown_4 : decode cX1_goOnDown 4 = .ok (.aload_n 0, 1) := by decide +kernel
theorem dX1_goOnDown_5 : decode cX1_goOnDown 5 = .ok (.getfield 83, 3) := by decide +kernel
theorem dX1_goOnDown_8 : decode cX1_goOnDown 8 = .ok (.if_icmp .gt 25, 3) := by decide +kernel
theorem dX1_goOnDown_11 : decode cX1_goOnDown 11 = .ok (.aload_n 0, 1) := by decide +kernel
theorem dX1_goOnDown_12 : decode cX1_goOnDown 12 = .ok (.getfield 47, 3) := by decide +kernel
theorem dX1_goOnDown_15 : decode cX1_goOnDown 15 = .ok (.aload_n 0, 1) := by decide +kernel
theorem dX1_goOnDown_16 : decode cX1_goOnDown 16 = .ok (.getfield 80, 3) := by decide +kernel
theorem dX1_goOnDown_19 : decode cX1_goOnDown 19 = .ok (.if_icmp .le 14, 3) := by decide +kernel
theorem dX1_goOnDown_22 : decode cX1_goOnDown 22 = .ok (.aload_n 0, 1) := by decide +kernel
theorem dX1_goOnDown_23 : decode cX1_goOnDown 23 = .ok (.getfield 96, 3) := by decide +kernel
theorem dX1_goOnDown_26 : decode cX1_goOnDown 26 = .ok (.aload_n 0, 1) := by decide +kernel
theorem dX1_goOnDown_27 : decode cX1_goOnDown 27 = .ok (.getfield 99, 3) := by decide +kernel
theorem dX1_goOnDown_30 : decode cX1_goOnDown 30 = .ok (.if_icmp .lt 10, 3) := by decide +kernel
theorem dX1_goOnDown_33 : decode cX1_goOnDown 33 = .ok (.aload_n 0, 1) := by decide +kernel
theorem dX1_goOnDown_34 : decode cX1_goOnDown 34 = .ok (.iconst 1, 1) := by decide +kernel
theorem dX1_goOnDown_35 : decode cX1_goOnDown 35 = .ok (.putfield 50, 3) := by decide +kernel
theorem dX1_goOnDown_38 : decode cX1_goOnDown 38 = .ok (.iconst 0, 1) := by decide +kernel
theorem dX1_goOnDown_39 : decode cX1_goOnDown 39 = .ok (.ireturn, 1) := by decide +kernel
theorem dX1_goOnDown_40 : decode cX1_goOnDown 40 = .ok (.iconst 0, 1) := by decide +kernel
theorem dX1_goOnDown_41 : decode cX1_goOnDown 41 = .ok (.istore_n 1, 1) := by decide +kernel
theorem dX1_goOnDown_42 : decode cX1_goOnDown 42 = .ok (.aload_n 0, 1) := by decide +kernel
theorem dX1_goOnDown_43 : decode cX1_goOnDown 43 = .ok (.aload_n 0, 1) := by decide +kernel
theorem dX1_goOnDown_44 : decode cX1_goOnDown 44 = .ok (.getfield 47, 3) := by decide +kernel
theorem dX1_goOnDown_47 : decode cX1_goOnDown 47 = .ok (.invokevirtual 117, 3) := by decide +kernel
theorem dX1_goOnDown_50 : decode cX1_goOnDown 50 = .ok (.ifCond .eq 30, 3) := by decide +kernel
theorem dX1_goOnDown_53 : decode cX1_goOnDown 53 = .ok (.iconst 1, 1) := by decide +kernel
theorem dX1_goOnDown_54 : decode cX1_goOnDown 54 = .ok (.istore_n 1, 1) := by decide +kernel
theorem dX1_goOnDown_55 : decode cX1_goOnDown 55 = .ok (.aload_n 0, 1) := by decide +kernel
theorem dX1_goOnDown_56 : decode cX1_goOnDown 56 = .ok (.getfield 47, 3) := by decide +kernel
theorem dX1_goOnDown_59 : decode cX1_goOnDown 59 = .ok (.aload_n 0, 1) := by decide +kernel
theorem dX1_goOnDown_60 : decode cX1_goOnDown 60 = .ok (.aload_n 0, 1) := by decide +kernel
theorem dX1_goOnDown_61 : decode cX1_goOnDown 61 = .ok (.getfield 102, 3) := by decide +kernel
theorem dX1_goOnDown_64 : decode cX1_goOnDown 64 = .ok (.invokevirtual 76, 3) := by decide +kernel
theorem dX1_goOnDown_67 : decode cX1_goOnDown 67 = .ok (.if_icmp .le 13, 3) := by decide +kernel
theorem dX1_goOnDown_70 : decode cX1_goOnDown 70 = .ok (.aload_n 0, 1) := by decide +kernel
theorem dX1_goOnDown_71 : decode cX1_goOnDown 71 = .ok (.aload_n 0, 1) := by decide +kernel
theorem dX1_goOnDown_72 : decode cX1_goOnDown 72 = .ok (.getfield 47, 3) := by decide +kernel
theorem dX1_goOnDown_75 : decode cX1_goOnDown 75 = .ok (.invokevirtual 121, 3) := by decide +kernel
theorem dX1_goOnDown_78 : decode cX1_goOnDown 78 = .ok (.iload_n 1, 1) := by decide +kernel
theorem dX1_goOnDown_79 : decode cX1_goOnDown 79 = .ok (.ireturn, 1) := by decide +kernel
theorem dX1_goOnDown_80 : decode cX1_goOnDown 80 = .ok (.aload_n 0, 1) := by decide +kernel
theorem dX1_goOnDown_81 : decode cX1_goOnDown 81 = .ok (.aload_n 0, 1) := by decide +kernel
theorem dX1_goOnDown_82 : decode cX1_goOnDown 82 = .ok (.getfield 96, 3) := by decide +kernel
theorem dX1_goOnDown_85 : decode cX1_goOnDown 85 = .ok (.invokevirtual 76, 3) := by decide +kernel
theorem dX1_goOnDown_88 : decode cX1_goOnDown 88 = .ok (.aload_n 0, 1) := by decide +kernel
theorem dX1_goOnDown_89 : decode cX1_goOnDown 89 = .ok (.getfield 89, 3) := by decide +kernel
theorem dX1_goOnDown_92 : decode cX1_goOnDown 92 = .ok (.ishr, 1) := by decide +kernel
theorem dX1_goOnDown_93 : decode cX1_goOnDown 93 = .ok (.aload_n 0, 1) := by decide +kernel
theorem dX1_goOnDown_94 : decode cX1_goOnDown 94 = .ok (.getfield 47, 3) := by decide +kernel
theorem dX1_goOnDown_97 : decode cX1_goOnDown 97 = .ok (.aload_n 0, 1) := by decide +kernel
theorem dX1_goOnDown_98 : decode cX1_goOnDown 98 = .ok (.getfield 89, 3) := by decide +kernel
theorem dX1_goOnDown_101 : decode cX1_goOnDown 101 = .ok (.ishr, 1) := by decide +kernel
theorem dX1_goOnDown_102 : decode cX1_goOnDown 102 = .ok (.if_icmp .ge 6, 3) := by decide +kernel
theorem dX1_goOnDown_105 : decode cX1_goOnDown 105 = .ok (.iinc 1 1, 3) := by decide +kernel
theorem dX1_goOnDown_108 : decode cX1_goOnDown 108 = .ok (.aload_n 0, 1) := by decide +kernel
theorem dX1_goOnDown_109 : decode cX1_goOnDown 109 = .ok (.aload_n 0, 1) := by decide +kernel
theorem dX1_goOnDown_110 : decode cX1_goOnDown 110 = .ok (.getfield 47, 3) := by decide +kernel
theorem dX1_goOnDown_113 : decode cX1_goOnDown 113 = .ok (.invokevirtual 125, 3) := by decide +kernel
theorem dX1_goOnDown_116 : decode cX1_goOnDown 116 = .ok (.iload_n 1, 1) := by decide +kernel
theorem dX1_goOnDown_117 : decode cX1_goOnDown 117 = .ok (.ireturn, 1) := by decide +kernel
theorem dX1_allCells_0 : decode cX1_allCells 0 = .ok (.aload_n 0, 1) := by decide +kernel
theorem dX1_allCells_1 : decode cX1_allCells 1 = .ok (.iconst 0, 1) := by decide +kernel
theorem dX1_allCells_2 : decode cX1_allCells 2 = .ok (.aload_n 0, 1) := by decide +kernel
theorem dX1_allCells_3 : decode cX1_allCells 3 = .ok (.getfield 15, 3) := by decide +kernel
theorem dX1_allCells_6 : decode cX1_allCells 6 = .ok (.getfield 30, 3) := by decide +kernel
theorem dX1_allCells_9 : decode cX1_allCells 9 = .ok (.iconst 0, 1) := by decide +kernel
theorem dX1_allCells_10 : decode cX1_allCells 10 = .ok (.aload_n 0, 1) := by decide +kernel
theorem dX1_allCells_11 : decode cX1_allCells 11 = .ok (.getfield 9, 3) := by decide +kernel
theorem dX1_allCells_14 : decode cX1_allCells 14 = .ok (.getfield 39, 3) := by decide +kernel
theorem dX1_allCells_17 : decode cX1_allCells 17 = .ok (.invokevirtual 128, 3) := by decide +kernel
theorem dX1_allCells_20 : decode cX1_allCells 20 = .ok (.ireturn, 1) := by decide +kernel
theorem dX1_cellsOf_0 : decode cX1_cellsOf 0 = .ok (.iload_n 1, 1) := by decide +kernel
theorem dX1_cellsOf_1 : decode cX1_cellsOf 1 = .ok (.iload_n 2, 1) := by decide +kernel
theorem dX1_cellsOf_2 : decode cX1_cellsOf 2 = .ok (.if_icmp .ge 15, 3) := by decide +kernel
theorem dX1_cellsOf_5 : decode cX1_cellsOf 5 = .ok (.iload 4, 2) := by decide +kernel
theorem dX1_cellsOf_7 : decode cX1_cellsOf 7 = .ok (.aload_n 0, 1) := by decide +kernel
theorem dX1_cellsOf_8 : decode cX1_cellsOf 8 = .ok (.getfield 9, 3) := by decide +kernel
theorem dX1_cellsOf_11 : decode cX1_cellsOf 11 = .ok (.getfield 73, 3) := by decide +kernel
theorem dX1_cellsOf_14 : decode cX1_cellsOf 14 = .ok (.if_icmp .gt 14, 3) := by decide +kernel
theorem dX1_cellsOf_17 : decode cX1_cellsOf 17 = .ok (.iload_n 1, 1) := by decide +kernel
theorem dX1_cellsOf_18 : decode cX1_cellsOf 18 = .ok (.iload_n 2, 1) := by decide +kernel
theorem dX1_cellsOf_19 : decode cX1_cellsOf 19 = .ok (.if_icmp .lt 7, 3) := by decide +kernel
theorem dX1_cellsOf_22 : decode cX1_cellsOf 22 = .ok (.iconst 0, 1) := by decide +kernel
theorem dX1_cellsOf_23 : decode cX1_cellsOf 23 = .ok (.goto 4, 3) := by decide +kernel
theorem dX1_cellsOf_26 : decode cX1_cellsOf 26 = .ok (.iconst 1, 1) := by decide +kernel
theorem dX1_cellsOf_27 : decode cX1_cellsOf 27 = .ok (.ireturn, 1) := by decide +kernel
theorem dX1_cellsOf_28 : decode cX1_cellsOf 28 = .ok (.iconst 1, 1) := by decide +kernel
theorem dX1_cellsOf_29 : decode cX1_cellsOf 29 = .ok (.iload 4, 2) := by decide +kernel
theorem dX1_cellsOf_31 : decode cX1_cellsOf 31 = .ok (.ishl, 1) := by decide +kernel
theorem dX1_cellsOf_32 : decode cX1_cellsOf 32 = .ok (.iconst 1, 1) := by decide +kernel
theorem dX1_cellsOf_33 : decode cX1_cellsOf 33 = .ok (.isub, 1) := by decide +kernel
theorem dX1_cellsOf_34 : decode cX1_cellsOf 34 = .ok (.istore 5, 2) := by decide +kernel
theorem dX1_cellsOf_36 : decode cX1_cellsOf 36 = .ok (.iload_n 1, 1) := by decide +kernel
theorem dX1_cellsOf_37 : decode cX1_cellsOf 37 = .ok (.istore 6, 2) := by decide +kernel
theorem dX1_cellsOf_39 : decode cX1_cellsOf 39 = .ok (.iload 6, 2) := by decide +kernel
theorem dX1_cellsOf_41 : decode cX1_cellsOf 41 = .ok (.iload_n 2, 1) := by decide +kernel
theorem dX1_cellsOf_42 : decode cX1_cellsOf 42 = .ok (.if_icmp .ge 35, 3) := by decide +kernel
theorem dX1_cellsOf_45 : decode cX1_cellsOf 45 = .ok (.aload_n 0, 1) := by decide +kernel
theorem dX1_cellsOf_46 : decode cX1_cellsOf 46 = .ok (.getfield 25, 3) := by decide +kernel
theorem dX1_cellsOf_49 : decode cX1_cellsOf 49 = .ok (.iload 6, 2) := by decide +kernel
theorem dX1_cellsOf_51 : decode cX1_cellsOf 51 = .ok (.iaload, 1) := by decide +kernel
theorem dX1_cellsOf_52 : decode cX1_cellsOf 52 = .ok (.iload_n 3, 1) := by decide +kernel
theorem dX1_cellsOf_53 : decode cX1_cellsOf 53 = .ok (.ishr, 1) := by decide +kernel
theorem dX1_cellsOf_54 : decode cX1_cellsOf 54 = .ok (.iload 5, 2) := by decide +kernel
theorem dX1_cellsOf_56 : decode cX1_cellsOf 56 = .ok (.iand, 1) := by decide +kernel
theorem dX1_cellsOf_57 : decode cX1_cellsOf 57 = .ok (.aload_n 0, 1) := by decide +kernel
theorem dX1_cellsOf_58 : decode cX1_cellsOf 58 = .ok (.getfield 25, 3) := by decide +kernel
theorem dX1_cellsOf_61 : decode cX1_cellsOf 61 = .ok (.iload_n 1, 1) := by decide +kernel
theorem dX1_cellsOf_62 : decode cX1_cellsOf 62 = .ok (.iaload, 1) := by decide +kernel
theorem dX1_cellsOf_63 : decode cX1_cellsOf 63 = .ok (.iload_n 3, 1) := by decide +kernel
theorem dX1_cellsOf_64 : decode cX1_cellsOf 64 = .ok (.ishr, 1) := by decide +kernel
theorem dX1_cellsOf_65 : decode cX1_cellsOf 65 = .ok (.iload 5, 2) := by decide +kernel
theorem dX1_cellsOf_67 : decode cX1_cellsOf 67 = .ok (.iand, 1) := by decide +kernel
theorem dX1_cellsOf_68 : decode cX1_cellsOf 68 = .ok (.if_icmp .ne 9, 3) := by decide +kernel
theorem dX1_cellsOf_71 : decode cX1_cellsOf 71 = .ok (.iinc 6 1, 3) := by decide +kernel
theorem dX1_cellsOf_74 : decode cX1_cellsOf 74 = .ok (.goto (-35), 3) := by decide +kernel
theorem dX1_cellsOf_77 : decode cX1_cellsOf 77 = .ok (.iload_n 2, 1) := by decide +kernel
theorem dX1_cellsOf_78 : decode cX1_cellsOf 78 = .ok (.istore 7, 2) := by decide +kernel
theorem dX1_cellsOf_80 : decode cX1_cellsOf 80 = .ok (.iload 7, 2) := by decide +kernel
theorem dX1_cellsOf_82 : decode cX1_cellsOf 82 = .ok (.iload 6, 2) := by decide +kernel
theorem dX1_cellsOf_84 : decode cX1_cellsOf 84 = .ok (.if_icmp .le 39, 3) := by decide +kernel
theorem dX1_cellsOf_87 : decode cX1_cellsOf 87 = .ok (.aload_n 0, 1) := by decide +kernel
theorem dX1_cellsOf_88 : decode cX1_cellsOf 88 = .ok (.getfield 25, 3) := by decide +kernel
theorem dX1_cellsOf_91 : decode cX1_cellsOf 91 = .ok (.iload 7, 2) := by decide +kernel
theorem dX1_cellsOf_93 : decode cX1_cellsOf 93 = .ok (.iconst 1, 1) := by decide +kernel
theorem dX1_cellsOf_94 : decode cX1_cellsOf 94 = .ok (.isub, 1) := by decide +kernel
theorem dX1_cellsOf_95 : decode cX1_cellsOf 95 = .ok (.iaload, 1) := by decide +kernel
theorem dX1_cellsOf_96 : decode cX1_cellsOf 96 = .ok (.iload_n 3, 1) := by decide +kernel
theorem dX1_cellsOf_97 : decode cX1_cellsOf 97 = .ok (.ishr, 1) := by decide +kernel
theorem dX1_cellsOf_98 : decode cX1_cellsOf 98 = .ok (.iload 5, 2) := by decide +kernel
theorem dX1_cellsOf_100 : decode cX1_cellsOf 100 = .ok (.iand, 1) := by decide +kernel
theorem dX1_cellsOf_101 : decode cX1_cellsOf 101 = .ok (.aload_n 0, 1) := by decide +kernel
theorem dX1_cellsOf_102 : decode cX1_cellsOf 102 = .ok (.getfield 25, 3) := by decide +kernel
theorem dX1_cellsOf_105 : decode cX1_cellsOf 105 = .ok (.iload_n 2, 1) := by decide +kernel
theorem dX1_cellsOf_106 : decode cX1_cellsOf 106 = .ok (.iconst 1, 1) := by decide +kernel
theorem dX1_cellsOf_107 : decode cX1_cellsOf 107 = .ok (.isub, 1) := by decide +kernel
theorem dX1_cellsOf_108 : decode cX1_cellsOf 108 = .ok (.iaload, 1) := by decide +kernel
theorem dX1_cellsOf_109 : decode cX1_cellsOf 109 = .ok (.iload_n 3, 1) := by decide +kernel
theorem dX1_cellsOf_110 : decode cX1_cellsOf 110 = .ok (.ishr, 1) := by decide +kernel
theorem dX1_cellsOf_111 : decode cX1_cellsOf 111 = .ok (.iload 5, 2) := by decide +kernel
theorem dX1_cellsOf_113 : decode cX1_cellsOf 113 = .ok (.iand, 1) := by decide +kernel
theorem dX1_cellsOf_114 : decode cX1_cellsOf 114 = .ok (.if_icmp .ne 9, 3) := by decide +kernel
theorem dX1_cellsOf_117 : decode cX1_cellsOf 117 = .ok (.iinc 7 (-1), 3) := by decide +kernel
theorem dX1_cellsOf_120 : decode cX1_cellsOf 120 = .ok (.goto (-40), 3) := by decide +kernel
theorem dX1_cellsOf_123 : decode cX1_cellsOf 123 = .ok (.aload_n 0, 1) := by decide +kernel
theorem dX1_cellsOf_124 : decode cX1_cellsOf 124 = .ok (.getfield 9, 3) := by decide +kernel
theorem dX1_cellsOf_127 : decode cX1_cellsOf 127 = .ok (.iload 4, 2) := by decide +kernel
theorem dX1_cellsOf_129 : decode cX1_cellsOf 129 = .ok (.invokevirtual 86, 3) := by decide +kernel
theorem dX1_cellsOf_132 : decode cX1_cellsOf 132 = .ok (.istore 8, 2) := by decide +kernel
theorem dX1_cellsOf_134 : decode cX1_cellsOf 134 = .ok (.iconst 2, 1) := by decide +kernel
theorem dX1_cellsOf_135 : decode cX1_cellsOf 135 = .ok (.aload_n 0, 1) := by decide +kernel
theorem dX1_cellsOf_136 : decode cX1_cellsOf 136 = .ok (.iload 6, 2) := by decide +kernel
theorem dX1_cellsOf_138 : decode cX1_cellsOf 138 = .ok (.iload 7, 2) := by decide +kernel
theorem dX1_cellsOf_140 : decode cX1_cellsOf 140 = .ok (.iload_n 3, 1) := by decide +kernel
theorem dX1_cellsOf_141 : decode cX1_cellsOf 141 = .ok (.iload 8, 2) := by decide +kernel
theorem dX1_cellsOf_143 : decode cX1_cellsOf 143 = .ok (.iadd, 1) := by decide +kernel
theorem dX1_cellsOf_144 : decode cX1_cellsOf 144 = .ok (.iload 4, 2) := by decide +kernel
theorem dX1_cellsOf_146 : decode cX1_cellsOf 146 = .ok (.iload 8, 2) := by decide +kernel
theorem dX1_cellsOf_148 : decode cX1_cellsOf 148 = .ok (.isub, 1) := by decide +kernel
theorem dX1_cellsOf_149 : decode cX1_cellsOf 149 = .ok (.invokevirtual 128, 3) := by decide +kernel
theorem dX1_cellsOf_152 : decode cX1_cellsOf 152 = .ok (.iadd, 1) := by decide +kernel
theorem dX1_cellsOf_153 : decode cX1_cellsOf 153 = .ok (.istore 9, 2) := by decide +kernel
theorem dX1_cellsOf_155 : decode cX1_cellsOf 155 = .ok (.iload 6, 2) := by decide +kernel
theorem dX1_cellsOf_157 : decode cX1_cellsOf 157 = .ok (.istore 10, 2) := by decide +kernel
theorem dX1_cellsOf_159 : decode cX1_cellsOf 159 = .ok (.iload 6, 2) := by decide +kernel
theorem dX1_cellsOf_161 : decode cX1_cellsOf 161 = .ok (.istore 11, 2) := by decide +kernel
theorem dX1_cellsOf_163 : decode cX1_cellsOf 163 = .ok (.iload 11, 2) := by decide +kernel
theorem dX1_cellsOf_165 : decode cX1_cellsOf 165 = .ok (.iload 7, 2) := by decide +kernel
theorem dX1_cellsOf_167 : decode cX1_cellsOf 167 = .ok (.if_icmp .ge 83, 3) := by decide +kernel
theorem dX1_cellsOf_170 : decode cX1_cellsOf 170 = .ok (.iload 11, 2) := by decide +kernel
theorem dX1_cellsOf_172 : decode cX1_cellsOf 172 = .ok (.iconst 1, 1) := by decide +kernel
theorem dX1_cellsOf_173 : decode cX1_cellsOf 173 = .ok (.iadd, 1) := by decide +kernel
theorem dX1_cellsOf_174 : decode cX1_cellsOf 174 = .ok (.iload 7, 2) := by decide +kernel
theorem dX1_cellsOf_176 : decode cX1_cellsOf 176 = .ok (.if_icmp .ge 32, 3) := by decide +kernel
theorem dX1_cellsOf_179 : decode cX1_cellsOf 179 = .ok (.aload_n 0, 1) := by decide +kernel
theorem dX1_cellsOf_180 : decode cX1_cellsOf 180 = .ok (.getfield 25, 3) := by decide +kernel
theorem dX1_cellsOf_183 : decode cX1_cellsOf 183 = .ok (.iload 11, 2) := by decide +kernel
theorem dX1_cellsOf_185 : decode cX1_cellsOf 185 = .ok (.iaload, 1) := by decide +kernel
theorem dX1_cellsOf_186 : decode cX1_cellsOf 186 = .ok (.iload_n 3, 1) := by decide +kernel
theorem dX1_cellsOf_187 : decode cX1_cellsOf 187 = .ok (.iload 8, 2) := by decide +kernel
theorem dX1_cellsOf_189 : decode cX1_cellsOf 189 = .ok (.iadd, 1) := by decide +kernel
theorem dX1_cellsOf_190 : decode cX1_cellsOf 190 = .ok (.ishr, 1) := by decide +kernel
theorem dX1_cellsOf_191 : decode cX1_cellsOf 191 = .ok (.aload_n 0, 1) := by decide +kernel
theorem dX1_cellsOf_192 : decode cX1_cellsOf 192 = .ok (.getfield 25, 3) := by decide +kernel
theorem dX1_cellsOf_195 : decode cX1_cellsOf 195 = .ok (.iload 11, 2) := by decide +kernel
theorem dX1_cellsOf_197 : decode cX1_cellsOf 197 = .ok (.iconst 1, 1) := by decide +kernel
theorem dX1_cellsOf_198 : decode cX1_cellsOf 198 = .ok (.iadd, 1) := by decide +kernel
theorem dX1_cellsOf_199 : decode cX1_cellsOf 199 = .ok (.iaload, 1) := by decide +kernel
theorem dX1_cellsOf_200 : decode cX1_cellsOf 200 = .ok (.iload_n 3, 1) := by decide +kernel
theorem dX1_cellsOf_201 : decode cX1_cellsOf 201 = .ok (.iload 8, 2) := by decide +kernel
theorem dX1_cellsOf_203 : decode cX1_cellsOf 203 = .ok (.iadd, 1) := by decide +kernel
theorem dX1_cellsOf_204 : decode cX1_cellsOf 204 = .ok (.ishr, 1) := by decide +kernel
theorem dX1_cellsOf_205 : decode cX1_cellsOf 205 = .ok (.if_icmp .eq 7, 3) := by decide +kernel
theorem dX1_cellsOf_208 : decode cX1_cellsOf 208 = .ok (.iconst 1, 1) := by decide +kernel
theorem dX1_cellsOf_209 : decode cX1_cellsOf 209 = .ok (.goto 4, 3) := by decide +kernel
theorem dX1_cellsOf_212 : decode cX1_cellsOf 212 = .ok (.iconst 0, 1) := by decide +kernel
theorem dX1_cellsOf_213 : decode cX1_cellsOf 213 = .ok (.istore 12, 2) := by decide +kernel
theorem dX1_cellsOf_215 : decode cX1_cellsOf 215 = .ok (.iload 12, 2) := by decide +kernel
theorem dX1_cellsOf_217 : decode cX1_cellsOf 217 = .ok (.ifCond .eq 27, 3) := by decide +kernel
theorem dX1_cellsOf_220 : decode cX1_cellsOf 220 = .ok (.iload 9, 2) := by decide +kernel
theorem dX1_cellsOf_222 : decode cX1_cellsOf 222 = .ok (.aload_n 0, 1) := by decide +kernel
theorem dX1_cellsOf_223 : decode cX1_cellsOf 223 = .ok (.iload 10, 2) := by decide +kernel
theorem dX1_cellsOf_225 : decode cX1_cellsOf 225 = .ok (.iload 11, 2) := by decide +kernel
theorem dX1_cellsOf_227 : decode cX1_cellsOf 227 = .ok (.iconst 1, 1) := by decide +kernel
theorem dX1_cellsOf_228 : decode cX1_cellsOf 228 = .ok (.iadd, 1) := by decide +kernel
theorem dX1_cellsOf_229 : decode cX1_cellsOf 229 = .ok (.iload_n 3, 1) := by decide +kernel
theorem dX1_cellsOf_230 : decode cX1_cellsOf 230 = .ok (.iload 8, 2) := by decide +kernel
theorem dX1_cellsOf_232 : decode cX1_cellsOf 232 = .ok (.invokevirtual 128, 3) := by decide +kernel
theorem dX1_cellsOf_235 : decode cX1_cellsOf 235 = .ok (.iadd, 1) := by decide +kernel
theorem dX1_cellsOf_236 : decode cX1_cellsOf 236 = .ok (.istore 9, 2) := by decide +kernel
theorem dX1_cellsOf_238 : decode cX1_cellsOf 238 = .ok (.iload 11, 2) := by decide +kernel
theorem dX1_cellsOf_240 : decode cX1_cellsOf 240 = .ok (.iconst 1, 1) := by decide +kernel
theorem dX1_cellsOf_241 : decode cX1_cellsOf 241 = .ok (.iadd, 1) := by decide +kernel
theorem dX1_cellsOf_242 : decode cX1_cellsOf 242 = .ok (.istore 10, 2) := by decide +kernel
theorem dX1_cellsOf_244 : decode cX1_cellsOf 244 = .ok (.iinc 11 1, 3) := by decide +kernel
theorem dX1_cellsOf_247 : decode cX1_cellsOf 247 = .ok (.goto (-84), 3) := by decide +kernel
theorem dX1_cellsOf_250 : decode cX1_cellsOf 250 = .ok (.iload 9, 2) := by decide +kernel
theorem dX1_cellsOf_252 : decode cX1_cellsOf 252 = .ok (.ireturn, 1) := by decide +kernel
def D_X1_valueAt (N : Nat) (g : gp) (a0 : Nat) (x1 : Int32) (δ : dp) : Option (Int32 × dp) :=
  (q_O g 1 2 a0).bind fun b_1 => if x1 < 0 ∨ q_N g b_1 ≤ x1.toNatClampNeg then none else some (((q_R δ b_1 x1.toNatClampNeg) >>> ((q_I δ 1 5 a0) &&& 31)) &&& ((1 <<< ((q_I δ 1 6 a0) &&& 31)) - 1), δ)
set_option maxHeartbeats 4000000 in
set_option maxRecDepth 100000 in
theorem c_X1_valueAt {l : Launch} {D : va_G} {cy : Nat → ClassId} {N d : Nat} {g : gp} (wt : WT g) (hl : l.stackTraces = false) (hd : 1 ≤ d) {a0 : Nat} {x1 : Int32} {δ : dp} (k0 : q_K g a0 = 1) : CalD l D cy m_X1_valueAt d 0 0 ei g [.ref a0, .int x1] δ (D_X1_valueAt N g a0 x1 δ) := by
  refine CalD.of (by decide +kernel) (Nat.le_of_ble_eq_true rfl) hl ?_
  unfold D_X1_valueAt
  refine w_aload_n 0 0 (μ := m_X1_valueAt) (pc := 0) dX1_valueAt_0 rfl rfl ?_
  refine w_getO (μ := m_X1_valueAt) (pc := 1) dX1_valueAt_1 fl_X1_25 ir_1_2 id_1_2 k0 (fun b_1 e_2 => ?_)
  refine w_iload_n 1 1 (μ := m_X1_valueAt) (pc := 4) dX1_valueAt_4 rfl rfl ?_
  refine w_ald (μ := m_X1_valueAt) (pc := 5) dX1_valueAt_5 (wt_1_2 wt k0 e_2) ?_
  refine w_aload_n 0 0 (μ := m_X1_valueAt) (pc := 6) dX1_valueAt_6 rfl rfl ?_
  refine w_getI (μ := m_X1_valueAt) (pc := 7) dX1_valueAt_7 fl_X1_36 ir_1_5 k0 ?_
  refine w_ishr (μ := m_X1_valueAt) (pc := 10) dX1_valueAt_10 ?_
  refine w_iconst (v := 1) (μ := m_X1_valueAt) (pc := 11) dX1_valueAt_11 (by decide) ?_
  refine w_aload_n 0 0 (μ := m_X1_valueAt) (pc := 12) dX1_valueAt_12 rfl rfl ?_
  refine w_getI (μ := m_X1_valueAt) (pc := 13) dX1_valueAt_13 fl_X1_44 ir_1_6 k0 ?_
  refine w_ishl (μ := m_X1_valueAt) (pc := 16) dX1_valueAt_16 ?_
  refine w_iconst (v := 1) (μ := m_X1_valueAt) (pc := 17) dX1_valueAt_17 (by decide) ?_
  refine w_isub (μ := m_X1_valueAt) (pc := 18) dX1_valueAt_18 ?_
  refine w_iand (μ := m_X1_valueAt) (pc := 19) dX1_valueAt_19 ?_
  exact w_iret (μ := m_X1_valueAt) (pc := 20) dX1_valueAt_20 rfl rfl
def J_X1_firstFrom_52 (N : Nat) (g : gp) (a0 : Nat) (x3 : Int32) (kt10 : Int32 → Int32 → Int32 → dp → Option (Int32 × dp)) (x1v : Int32) (x2v : Int32) (x4v : Int32) (δ : dp) : Option (Int32 × dp) :=
  kt10 x1v x2v x4v δ
set_option maxHeartbeats 4000000 in
set_option maxRecDepth 100000 in
theorem t_J_X1_firstFrom_52 {l : Launch} {D : va_G} {cy : Nat → ClassId} {N d : Nat} {g : gp} (wt : WT g) (hl : l.stackTraces = false) (hd : 1 ≤ d) {a0 : Nat} {x3 : Int32} (k0 : q_K g a0 = 1) {kt10 : Int32 → Int32 → Int32 → dp → Option (Int32 × dp)} (hk10 : ∀ (x1v : Int32) (x2v : Int32) (x4v : Int32) (δ : dp), AWD l D cy m_X1_firstFrom d 0 0 ei g 10 [(0, .ref a0), (1, .int x1v), (2, .int x2v), (3, .int x3), (4, .int x4v)] [] δ (kt10 x1v x2v x4v δ)) : ∀ (x1v : Int32) (x2v : Int32) (x4v : Int32) (δ : dp), AWD l D cy m_X1_firstFrom d 0 0 ei g 52 [(0, .ref a0), (1, .int x1v), (2, .int x2v), (3, .int x3), (4, .int x4v)] [] δ (J_X1_firstFrom_52 N g a0 x3 kt10 x1v x2v x4v δ) := by
    intro x1v x2v x4v δ 
    unfold J_X1_firstFrom_52
    refine w_goto 10 (μ := m_X1_firstFrom) (pc := 52) dX1_firstFrom_52 (by decide) ?_
    exact hk10 _ _ _ _
def L_X1_firstFrom_10 (N : Nat) (g : gp) (a0 : Nat) (x3 : Int32) : Nat → Int32 → Int32 → Int32 → dp → Option (Int32 × dp)
  | 0, _, _, _, _ => none
  | n + 1, x1v, x2v, x4v, δ => if x2v ≤ x1v then (some (x1v, δ)) else (bi ((x1v + x2v) / 2) fun x_4 => (q_O g 1 2 a0).bind fun b_6 => if x_4 < 0 ∨ q_N g b_6 ≤ x_4.toNatClampNeg then none else if x3 ≤ (((q_R δ b_6 x_4.toNatClampNeg) >>> ((q_I δ 1 5 a0) &&& 31)) &&& x4v) then (J_X1_firstFrom_52 N g a0 x3 (L_X1_firstFrom_10 N g a0 x3 n) x1v x_4 x4v δ) else (bi (x_4 + 1) fun x_9 => J_X1_firstFrom_52 N g a0 x3 (L_X1_firstFrom_10 N g a0 x3 n) x_9 x2v x4v δ))
set_option maxHeartbeats 4000000 in
set_option maxRecDepth 100000 in
theorem t_L_X1_firstFrom_10 {l : Launch} {D : va_G} {cy : Nat → ClassId} {N d : Nat} {g : gp} (wt : WT g) (hl : l.stackTraces = false) (hd : 1 ≤ d) {a0 : Nat} {x3 : Int32} (k0 : q_K g a0 = 1) : ∀ (n : Nat) (x1v : Int32) (x2v : Int32) (x4v : Int32) (δ : dp), AWD l D cy m_X1_firstFrom d 0 0 ei g 10 [(0, .ref a0), (1, .int x1v), (2, .int x2v), (3, .int x3), (4, .int x4v)] [] δ (L_X1_firstFrom_10 N g a0 x3 n x1v x2v x4v δ) := by
  intro n
  induction n with
  | zero => intro x1v x2v x4v δ ; exact w_none
  | succ n ih =>
    intro x1v x2v x4v δ 
    unfold L_X1_firstFrom_10
    refine w_iload_n 1 1 (μ := m_X1_firstFrom) (pc := 10) dX1_firstFrom_10 rfl rfl ?_
    refine w_iload_n 2 2 (μ := m_X1_firstFrom) (pc := 11) dX1_firstFrom_11 rfl rfl ?_
    refine w_icmp_ge 55 (μ := m_X1_firstFrom) (pc := 12) dX1_firstFrom_12 (by decide) (fun c_3 => ?_) (fun c_3 => ?_)
    · refine w_iload_n 1 1 (μ := m_X1_firstFrom) (pc := 55) dX1_firstFrom_55 rfl rfl ?_
      exact w_iret (μ := m_X1_firstFrom) (pc := 56) dX1_firstFrom_56 rfl rfl
    · refine w_iload_n 1 1 (μ := m_X1_firstFrom) (pc := 15) dX1_firstFrom_15 rfl rfl ?_
      refine w_iload_n 2 2 (μ := m_X1_firstFrom) (pc := 16) dX1_firstFrom_16 rfl rfl ?_
      refine w_iadd (μ := m_X1_firstFrom) (pc := 17) dX1_firstFrom_17 ?_
      refine w_iconst (v := 2) (μ := m_X1_firstFrom) (pc := 18) dX1_firstFrom_18 (by decide) ?_
      refine w_idiv (μ := m_X1_firstFrom) (pc := 19) dX1_firstFrom_19 (by decide) ?_
      refine w_bi (fun x_4 e_5 => ?_)
      refine w_istore [(5, .int x_4), (0, .ref a0), (1, .int x1v), (2, .int x2v), (3, .int x3), (4, .int x4v)] (μ := m_X1_firstFrom) (pc := 20) dX1_firstFrom_20 (by decide) rfl ?_
      refine w_aload_n 1 0 (μ := m_X1_firstFrom) (pc := 22) dX1_firstFrom_22 rfl rfl ?_
      refine w_getO (μ := m_X1_firstFrom) (pc := 23) dX1_firstFrom_23 fl_X1_25 ir_1_2 id_1_2 k0 (fun b_6 e_7 => ?_)
      refine w_iload 0 (μ := m_X1_firstFrom) (pc := 26) dX1_firstFrom_26 rfl ?_
      refine w_ald (μ := m_X1_firstFrom) (pc := 28) dX1_firstFrom_28 (wt_1_2 wt k0 e_7) ?_
      refine w_aload_n 1 0 (μ := m_X1_firstFrom) (pc := 29) dX1_firstFrom_29 rfl rfl ?_
      refine w_getI (μ := m_X1_firstFrom) (pc := 30) dX1_firstFrom_30 fl_X1_36 ir_1_5 k0 ?_
      refine w_ishr (μ := m_X1_firstFrom) (pc := 33) dX1_firstFrom_33 ?_
      refine w_iload 5 (μ := m_X1_firstFrom) (pc := 34) dX1_firstFrom_34 rfl ?_
      refine w_iand (μ := m_X1_firstFrom) (pc := 36) dX1_firstFrom_36 ?_
      refine w_iload_n 4 3 (μ := m_X1_firstFrom) (pc := 37) dX1_firstFrom_37 rfl rfl ?_
      refine w_icmp_ge 49 (μ := m_X1_firstFrom) (pc := 38) dX1_firstFrom_38 (by decide) (fun c_8 => ?_) (fun c_8 => ?_)
      · refine w_iload 0 (μ := m_X1_firstFrom) (pc := 49) dX1_firstFrom_49 rfl ?_
        refine w_istore_n [(2, .int x_4), (5, .int x_4), (0, .ref a0), (1, .int x1v), (3, .int x3), (4, .int x4v)] (μ := m_X1_firstFrom) (pc := 51) dX1_firstFrom_51 rfl (by decide) rfl ?_
        refine w_lv [2, 3, 0, 4, 5] rfl ?_
        exact t_J_X1_firstFrom_52 wt hl (by omega) k0 ih _ _ _ _
      · refine w_iload 0 (μ := m_X1_firstFrom) (pc := 41) dX1_firstFrom_41 rfl ?_
        refine w_iconst (v := 1) (μ := m_X1_firstFrom) (pc := 43) dX1_firstFrom_43 (by decide) ?_
        refine w_iadd (μ := m_X1_firstFrom) (pc := 44) dX1_firstFrom_44 ?_
        refine w_bi (fun x_9 e_10 => ?_)
        refine w_istore_n [(1, .int x_9), (5, .int x_4), (0, .ref a0), (2, .int x2v), (3, .int x3), (4, .int x4v)] (μ := m_X1_firstFrom) (pc := 45) dX1_firstFrom_45 rfl (by decide) rfl ?_
        refine w_goto 52 (μ := m_X1_firstFrom) (pc := 46) dX1_firstFrom_46 (by decide) ?_
        refine w_lv [2, 0, 3, 4, 5] rfl ?_
        exact t_J_X1_firstFrom_52 wt hl (by omega) k0 ih _ _ _ _
def D_X1_firstFrom (N : Nat) (g : gp) (a0 : Nat) (x1 : Int32) (x2 : Int32) (x3 : Int32) (δ : dp) : Option (Int32 × dp) :=
  bi ((1 <<< ((q_I δ 1 6 a0) &&& 31)) - 1) fun x_1 => L_X1_firstFrom_10 N g a0 x3 N x1 x2 x_1 δ
set_option maxHeartbeats 4000000 in
set_option maxRecDepth 100000 in
theorem c_X1_firstFrom {l : Launch} {D : va_G} {cy : Nat → ClassId} {N d : Nat} {g : gp} (wt : WT g) (hl : l.stackTraces = false) (hd : 1 ≤ d) {a0 : Nat} {x1 : Int32} {x2 : Int32} {x3 : Int32} {δ : dp} (k0 : q_K g a0 = 1) : CalD l D cy m_X1_firstFrom d 0 0 ei g [.ref a0, .int x1, .int x2, .int x3] δ (D_X1_firstFrom N g a0 x1 x2 x3 δ) := by
  refine CalD.of (by decide +kernel) (Nat.le_of_ble_eq_true rfl) hl ?_
  unfold D_X1_firstFrom
  refine w_iconst (v := 1) (μ := m_X1_firstFrom) (pc := 0) dX1_firstFrom_0 (by decide) ?_
  refine w_aload_n 0 0 (μ := m_X1_firstFrom) (pc := 1) dX1_firstFrom_1 rfl rfl ?_
  refine w_getI (μ := m_X1_firstFrom) (pc := 2) dX1_firstFrom_2 fl_X1_44 ir_1_6 k0 ?_
  refine w_ishl (μ := m_X1_firstFrom) (pc := 5) dX1_firstFrom_5 ?_
  refine w_iconst (v := 1) (μ := m_X1_firstFrom) (pc := 6) dX1_firstFrom_6 (by decide) ?_
  refine w_isub (μ := m_X1_firstFrom) (pc := 7) dX1_firstFrom_7 ?_
  refine w_bi (fun x_1 e_2 => ?_)
  refine w_istore [(4, .int x_1), (0, .ref a0), (1, .int x1), (2, .int x2), (3, .int x3)] (μ := m_X1_firstFrom) (pc := 8) dX1_firstFrom_8 (by decide) rfl ?_
  refine w_lv [1, 2, 3, 4, 0] rfl ?_
  exact t_L_X1_firstFrom_10 wt hl (by omega) k0 N _ _ _ _
def J_X1_findRoom_69 (N : Nat) (g : gp) (a0 : Nat) (x1 : Int32) (xs0 : Int32) (δ : dp) : Option (Int32 × dp) :=
  if xs0 = 0 ∨ xs0 = 1 then some (xs0, δ) else none
set_option maxHeartbeats 4000000 in
set_option maxRecDepth 100000 in
theorem t_J_X1_findRoom_69 {l : Launch} {D : va_G} {cy : Nat → ClassId} {N d : Nat} {g : gp} (wt : WT g) (hl : l.stackTraces = false) (hd : 2 ≤ d) {a0 : Nat} {x1 : Int32} (k0 : q_K g a0 = 1) : ∀ (xs0 : Int32) (δ : dp), AWD l D cy m_X1_findRoom d 0 0 ei g 69 [] [.int xs0] δ (J_X1_findRoom_69 N g a0 x1 xs0 δ) := by
    intro xs0 δ 
    unfold J_X1_findRoom_69
    exact w_zret (μ := m_X1_findRoom) (pc := 69) dX1_findRoom_69 rfl rfl
def D_X1_findRoom (N : Nat) (g : gp) (a0 : Nat) (x1 : Int32) (δ : dp) : Option (Int32 × dp) :=
  bi ((x1 >>> ((q_I δ 1 7 a0) &&& 31)) <<< ((q_I δ 1 7 a0) &&& 31)) fun x_1 => (D_X1_firstFrom N g a0 (q_I δ 1 11 a0) (q_I δ 1 12 a0) x_1 δ).bind fun r_3 => bd (s_I r_3.2 1 13 a0 r_3.1) fun δ_4 => (D_X1_firstFrom N g a0 (q_I δ_4 1 13 a0) (q_I δ_4 1 12 a0) (x_1 + (1 <<< ((q_I δ_4 1 7 a0) &&& 31))) δ_4).bind fun r_6 => bd (s_I r_6.2 1 14 a0 r_6.1) fun δ_7 => if (q_I δ_7 1 14 a0) ≤ (q_I δ_7 1 13 a0) then (J_X1_findRoom_69 N g a0 x1 0 δ_7) else (J_X1_findRoom_69 N g a0 x1 1 δ_7)
set_option maxHeartbeats 4000000 in
set_option maxRecDepth 100000 in
theorem c_X1_findRoom {l : Launch} {D : va_G} {cy : Nat → ClassId} {N d : Nat} {g : gp} (wt : WT g) (hl : l.stackTraces = false) (hd : 2 ≤ d) {a0 : Nat} {x1 : Int32} {δ : dp} (k0 : q_K g a0 = 1) : CalD l D cy m_X1_findRoom d 0 0 ei g [.ref a0, .int x1] δ (D_X1_findRoom N g a0 x1 δ) := by
  refine CalD.of (by decide +kernel) (Nat.le_of_ble_eq_true rfl) hl ?_
  unfold D_X1_findRoom
  refine w_iload_n 1 1 (μ := m_X1_findRoom) (pc := 0) dX1_findRoom_0 rfl rfl ?_
  refine w_aload_n 0 0 (μ := m_X1_findRoom) (pc := 1) dX1_findRoom_1 rfl rfl ?_
  refine w_getI (μ := m_X1_findRoom) (pc := 2) dX1_findRoom_2 fl_X1_89 ir_1_7 k0 ?_
  refine w_ishr (μ := m_X1_findRoom) (pc := 5) dX1_findRoom_5 ?_
  refine w_aload_n 0 0 (μ := m_X1_findRoom) (pc := 6) dX1_findRoom_6 rfl rfl ?_
  refine w_getI (μ := m_X1_findRoom) (pc := 7) dX1_findRoom_7 fl_X1_89 ir_1_7 k0 ?_
  refine w_ishl (μ := m_X1_findRoom) (pc := 10) dX1_findRoom_10 ?_
  refine w_bi (fun x_1 e_2 => ?_)
  refine w_istore_n [(2, .int x_1), (0, .ref a0), (1, .int x1)] (μ := m_X1_findRoom) (pc := 11) dX1_findRoom_11 rfl (by decide) rfl ?_
  refine w_aload_n 1 0 (μ := m_X1_findRoom) (pc := 12) dX1_findRoom_12 rfl rfl ?_
  refine w_aload_n 1 0 (μ := m_X1_findRoom) (pc := 13) dX1_findRoom_13 rfl rfl ?_
  refine w_aload_n 1 0 (μ := m_X1_findRoom) (pc := 14) dX1_findRoom_14 rfl rfl ?_
  refine w_getI (μ := m_X1_findRoom) (pc := 15) dX1_findRoom_15 fl_X1_96 ir_1_11 k0 ?_
  refine w_aload_n 1 0 (μ := m_X1_findRoom) (pc := 18) dX1_findRoom_18 rfl rfl ?_
  refine w_getI (μ := m_X1_findRoom) (pc := 19) dX1_findRoom_19 fl_X1_99 ir_1_12 k0 ?_
  refine w_iload_n 0 2 (μ := m_X1_findRoom) (pc := 22) dX1_findRoom_22 rfl rfl ?_
  refine w_callV (As := [.int (q_I δ 1 11 a0), .int (q_I δ 1 12 a0), .int x_1]) (rest := [.ref a0]) (μ := m_X1_findRoom) (pc := 23) dX1_findRoom_23 cv_X1_92 rfl rfl k0 (by decide) rfl (Nat.le_of_ble_eq_true rfl) (d' := d - 1) (by omega) he_i (c_X1_firstFrom wt hl (d := d - 1) (by omega) k0) (fun r_3 => ?_)
  refine w_putI (μ := m_X1_findRoom) (pc := 26) dX1_findRoom_26 fl_X1_102 flw_1_13 ir_1_13 k0 ?_
  refine w_bd (fun δ_4 e_5 => ?_)
  refine w_aload_n 1 0 (μ := m_X1_findRoom) (pc := 29) dX1_findRoom_29 rfl rfl ?_
  refine w_aload_n 1 0 (μ := m_X1_findRoom) (pc := 30) dX1_findRoom_30 rfl rfl ?_
  refine w_aload_n 1 0 (μ := m_X1_findRoom) (pc := 31) dX1_findRoom_31 rfl rfl ?_
  refine w_getI (μ := m_X1_findRoom) (pc := 32) dX1_findRoom_32 fl_X1_102 ir_1_13 k0 ?_
  refine w_aload_n 1 0 (μ := m_X1_findRoom) (pc := 35) dX1_findRoom_35 rfl rfl ?_
  refine w_getI (μ := m_X1_findRoom) (pc := 36) dX1_findRoom_36 fl_X1_99 ir_1_12 k0 ?_
  refine w_iload_n 0 2 (μ := m_X1_findRoom) (pc := 39) dX1_findRoom_39 rfl rfl ?_
  refine w_iconst (v := 1) (μ := m_X1_findRoom) (pc := 40) dX1_findRoom_40 (by decide) ?_
  refine w_aload_n 1 0 (μ := m_X1_findRoom) (pc := 41) dX1_findRoom_41 rfl rfl ?_
  refine w_getI (μ := m_X1_findRoom) (pc := 42) dX1_findRoom_42 fl_X1_89 ir_1_7 k0 ?_
  refine w_ishl (μ := m_X1_findRoom) (pc := 45) dX1_findRoom_45 ?_
  refine w_iadd (μ := m_X1_findRoom) (pc := 46) dX1_findRoom_46 ?_
  refine w_callV (As := [.int (q_I δ_4 1 13 a0), .int (q_I δ_4 1 12 a0), .int (x_1 + (1 <<< ((q_I δ_4 1 7 a0) &&& 31)))]) (rest := [.ref a0]) (μ := m_X1_findRoom) (pc := 47) dX1_findRoom_47 cv_X1_92 rfl rfl k0 (by decide) rfl (Nat.le_of_ble_eq_true rfl) (d' := d - 1) (by omega) he_i (c_X1_firstFrom wt hl (d := d - 1) (by omega) k0) (fun r_6 => ?_)
  refine w_putI (μ := m_X1_findRoom) (pc := 50) dX1_findRoom_50 fl_X1_105 flw_1_14 ir_1_14 k0 ?_
  refine w_bd (fun δ_7 e_8 => ?_)
  refine w_aload_n 1 0 (μ := m_X1_findRoom) (pc := 53) dX1_findRoom_53 rfl rfl ?_
  refine w_getI (μ := m_X1_findRoom) (pc := 54) dX1_findRoom_54 fl_X1_102 ir_1_13 k0 ?_
  refine w_aload_n 1 0 (μ := m_X1_findRoom) (pc := 57) dX1_findRoom_57 rfl rfl ?_
  refine w_getI (μ := m_X1_findRoom) (pc := 58) dX1_findRoom_58 fl_X1_105 ir_1_14 k0 ?_
  refine w_icmp_ge 68 (μ := m_X1_findRoom) (pc := 61) dX1_findRoom_61 (by decide) (fun c_9 => ?_) (fun c_9 => ?_)
  · refine w_iconst (v := 0) (μ := m_X1_findRoom) (pc := 68) dX1_findRoom_68 (by decide) ?_
    refine w_lv [] rfl ?_
    exact t_J_X1_findRoom_69 wt hl (by omega) k0 _ _
  · refine w_iconst (v := 1) (μ := m_X1_findRoom) (pc := 64) dX1_findRoom_64 (by decide) ?_
    refine w_goto 69 (μ := m_X1_findRoom) (pc := 65) dX1_findRoom_65 (by decide) ?_
    refine w_lv [] rfl ?_
    exact t_J_X1_findRoom_69 wt hl (by omega) k0 _ _
def D_X1_enterRoom (N : Nat) (g : gp) (a0 : Nat) (x1 : Int32) (δ : dp) : Option (dp) :=
  bd (s_I δ 1 3 a0 (q_I δ 1 13 a0)) fun δ_1 => bd (s_I δ_1 1 4 a0 (q_I δ_1 1 14 a0)) fun δ_3 => bd (s_I δ_3 1 6 a0 (q_I δ_3 1 7 a0)) fun δ_5 => bd (s_I δ_5 1 8 a0 (x1 &&& ((1 <<< ((q_I δ_5 1 7 a0) &&& 31)) - 1))) fun δ_7 => some δ_7
set_option maxHeartbeats 4000000 in
set_option maxRecDepth 100000 in
theorem c_X1_enterRoom {l : Launch} {D : va_G} {cy : Nat → ClassId} {N d : Nat} {g : gp} (wt : WT g) (hl : l.stackTraces = false) (hd : 1 ≤ d) {a0 : Nat} {x1 : Int32} {δ : dp} (k0 : q_K g a0 = 1) : CalD l D cy m_X1_enterRoom d 0 0 ev g [.ref a0, .int x1] δ (D_X1_enterRoom N g a0 x1 δ) := by
  refine CalD.of (by decide +kernel) (Nat.le_of_ble_eq_true rfl) hl ?_
  unfold D_X1_enterRoom
  refine w_aload_n 0 0 (μ := m_X1_enterRoom) (pc := 0) dX1_enterRoom_0 rfl rfl ?_
  refine w_aload_n 0 0 (μ := m_X1_enterRoom) (pc := 1) dX1_enterRoom_1 rfl rfl ?_
  refine w_getI (μ := m_X1_enterRoom) (pc := 2) dX1_enterRoom_2 fl_X1_102 ir_1_13 k0 ?_
  refine w_putI (μ := m_X1_enterRoom) (pc := 5) dX1_enterRoom_5 fl_X1_26 flw_1_3 ir_1_3 k0 ?_
  refine w_bd (fun δ_1 e_2 => ?_)
  refine w_aload_n 0 0 (μ := m_X1_enterRoom) (pc := 8) dX1_enterRoom_8 rfl rfl ?_
  refine w_aload_n 0 0 (μ := m_X1_enterRoom) (pc := 9) dX1_enterRoom_9 rfl rfl ?_
  refine w_getI (μ := m_X1_enterRoom) (pc := 10) dX1_enterRoom_10 fl_X1_105 ir_1_14 k0 ?_
  refine w_putI (μ := m_X1_enterRoom) (pc := 13) dX1_enterRoom_13 fl_X1_33 flw_1_4 ir_1_4 k0 ?_
  refine w_bd (fun δ_3 e_4 => ?_)
  refine w_aload_n 0 0 (μ := m_X1_enterRoom) (pc := 16) dX1_enterRoom_16 rfl rfl ?_
  refine w_aload_n 0 0 (μ := m_X1_enterRoom) (pc := 17) dX1_enterRoom_17 rfl rfl ?_
  refine w_getI (μ := m_X1_enterRoom) (pc := 18) dX1_enterRoom_18 fl_X1_89 ir_1_7 k0 ?_
  refine w_putI (μ := m_X1_enterRoom) (pc := 21) dX1_enterRoom_21 fl_X1_44 flw_1_6 ir_1_6 k0 ?_
  refine w_bd (fun δ_5 e_6 => ?_)
  refine w_aload_n 0 0 (μ := m_X1_enterRoom) (pc := 24) dX1_enterRoom_24 rfl rfl ?_
  refine w_iload_n 1 1 (μ := m_X1_enterRoom) (pc := 25) dX1_enterRoom_25 rfl rfl ?_
  refine w_iconst (v := 1) (μ := m_X1_enterRoom) (pc := 26) dX1_enterRoom_26 (by decide) ?_
  refine w_aload_n 0 0 (μ := m_X1_enterRoom) (pc := 27) dX1_enterRoom_27 rfl rfl ?_
  refine w_getI (μ := m_X1_enterRoom) (pc := 28) dX1_enterRoom_28 fl_X1_89 ir_1_7 k0 ?_
  refine w_ishl (μ := m_X1_enterRoom) (pc := 31) dX1_enterRoom_31 ?_
  refine w_iconst (v := 1) (μ := m_X1_enterRoom) (pc := 32) dX1_enterRoom_32 (by decide) ?_
  refine w_isub (μ := m_X1_enterRoom) (pc := 33) dX1_enterRoom_33 ?_
  refine w_iand (μ := m_X1_enterRoom) (pc := 34) dX1_enterRoom_34 ?_
  refine w_putI (μ := m_X1_enterRoom) (pc := 35) dX1_enterRoom_35 fl_X1_47 flw_1_8 ir_1_8 k0 ?_
  refine w_bd (fun δ_7 e_8 => ?_)
  exact w_vret (μ := m_X1_enterRoom) (pc := 38) dX1_enterRoom_38 rfl rfl
def D_X1_enterList (N : Nat) (g : gp) (a0 : Nat) (x1 : Int32) (δ : dp) : Option (dp) :=
  bd (s_I δ 1 3 a0 (q_I δ 1 11 a0)) fun δ_1 => bd (s_I δ_1 1 4 a0 (q_I δ_1 1 12 a0)) fun δ_3 => bd (s_I δ_3 1 5 a0 ((q_I δ_3 1 5 a0) + (q_I δ_3 1 7 a0))) fun δ_5 => bd (s_I δ_5 1 6 a0 ((q_I δ_5 1 6 a0) - (q_I δ_5 1 7 a0))) fun δ_7 => bd (s_I δ_7 1 8 a0 (x1 >>> ((q_I δ_7 1 7 a0) &&& 31))) fun δ_9 => some δ_9
set_option maxHeartbeats 4000000 in
set_option maxRecDepth 100000 in
theorem c_X1_enterList {l : Launch} {D : va_G} {cy : Nat → ClassId} {N d : Nat} {g : gp} (wt : WT g) (hl : l.stackTraces = false) (hd : 1 ≤ d) {a0 : Nat} {x1 : Int32} {δ : dp} (k0 : q_K g a0 = 1) : CalD l D cy m_X1_enterList d 0 0 ev g [.ref a0, .int x1] δ (D_X1_enterList N g a0 x1 δ) := by
  refine CalD.of (by decide +kernel) (Nat.le_of_ble_eq_true rfl) hl ?_
  unfold D_X1_enterList
  refine w_aload_n 0 0 (μ := m_X1_enterList) (pc := 0) dX1_enterList_0 rfl rfl ?_
  refine w_aload_n 0 0 (μ := m_X1_enterList) (pc := 1) dX1_enterList_1 rfl rfl ?_
  refine w_getI (μ := m_X1_enterList) (pc := 2) dX1_enterList_2 fl_X1_96 ir_1_11 k0 ?_
  refine w_putI (μ := m_X1_enterList) (pc := 5) dX1_enterList_5 fl_X1_26 flw_1_3 ir_1_3 k0 ?_
  refine w_bd (fun δ_1 e_2 => ?_)
  refine w_aload_n 0 0 (μ := m_X1_enterList) (pc := 8) dX1_enterList_8 rfl rfl ?_
  refine w_aload_n 0 0 (μ := m_X1_enterList) (pc := 9) dX1_enterList_9 rfl rfl ?_
  refine w_getI (μ := m_X1_enterList) (pc := 10) dX1_enterList_10 fl_X1_99 ir_1_12 k0 ?_
  refine w_putI (μ := m_X1_enterList) (pc := 13) dX1_enterList_13 fl_X1_33 flw_1_4 ir_1_4 k0 ?_
  refine w_bd (fun δ_3 e_4 => ?_)
  refine w_aload_n 0 0 (μ := m_X1_enterList) (pc := 16) dX1_enterList_16 rfl rfl ?_
  refine w_dup (μ := m_X1_enterList) (pc := 17) dX1_enterList_17 rfl ?_
  refine w_getI (μ := m_X1_enterList) (pc := 18) dX1_enterList_18 fl_X1_36 ir_1_5 k0 ?_
  refine w_aload_n 0 0 (μ := m_X1_enterList) (pc := 21) dX1_enterList_21 rfl rfl ?_
  refine w_getI (μ := m_X1_enterList) (pc := 22) dX1_enterList_22 fl_X1_89 ir_1_7 k0 ?_
  refine w_iadd (μ := m_X1_enterList) (pc := 25) dX1_enterList_25 ?_
  refine w_putI (μ := m_X1_enterList) (pc := 26) dX1_enterList_26 fl_X1_36 flw_1_5 ir_1_5 k0 ?_
  refine w_bd (fun δ_5 e_6 => ?_)
  refine w_aload_n 0 0 (μ := m_X1_enterList) (pc := 29) dX1_enterList_29 rfl rfl ?_
  refine w_dup (μ := m_X1_enterList) (pc := 30) dX1_enterList_30 rfl ?_
  refine w_getI (μ := m_X1_enterList) (pc := 31) dX1_enterList_31 fl_X1_44 ir_1_6 k0 ?_
  refine w_aload_n 0 0 (μ := m_X1_enterList) (pc := 34) dX1_enterList_34 rfl rfl ?_
  refine w_getI (μ := m_X1_enterList) (pc := 35) dX1_enterList_35 fl_X1_89 ir_1_7 k0 ?_
  refine w_isub (μ := m_X1_enterList) (pc := 38) dX1_enterList_38 ?_
  refine w_putI (μ := m_X1_enterList) (pc := 39) dX1_enterList_39 fl_X1_44 flw_1_6 ir_1_6 k0 ?_
  refine w_bd (fun δ_7 e_8 => ?_)
  refine w_aload_n 0 0 (μ := m_X1_enterList) (pc := 42) dX1_enterList_42 rfl rfl ?_
  refine w_iload_n 1 1 (μ := m_X1_enterList) (pc := 43) dX1_enterList_43 rfl rfl ?_
  refine w_aload_n 0 0 (μ := m_X1_enterList) (pc := 44) dX1_enterList_44 rfl rfl ?_
  refine w_getI (μ := m_X1_enterList) (pc := 45) dX1_enterList_45 fl_X1_89 ir_1_7 k0 ?_
  refine w_ishr (μ := m_X1_enterList) (pc := 48) dX1_enterList_48 ?_
  refine w_putI (μ := m_X1_enterList) (pc := 49) dX1_enterList_49 fl_X1_47 flw_1_8 ir_1_8 k0 ?_
  refine w_bd (fun δ_9 e_10 => ?_)
  exact w_vret (μ := m_X1_enterList) (pc := 52) dX1_enterList_52 rfl rfl
def J_X1_goOnPutting_22 (N : Nat) (g : gp) (a0 : Nat) (δ : dp) : Option (Int32 × dp) :=
  bd (s_I δ 1 15 a0 1) fun δ_2 => some (0, δ_2)
set_option maxHeartbeats 4000000 in
set_option maxRecDepth 100000 in
theorem t_J_X1_goOnPutting_22 {l : Launch} {D : va_G} {cy : Nat → ClassId} {N d : Nat} {g : gp} (wt : WT g) (hl : l.stackTraces = false) (hd : 3 ≤ d) {a0 : Nat} (k0 : q_K g a0 = 1) : ∀ (δ : dp), AWD l D cy m_X1_goOnPutting d 0 0 ei g 22 [(0, .ref a0)] [] δ (J_X1_goOnPutting_22 N g a0 δ) := by
    intro  δ 
    unfold J_X1_goOnPutting_22
    refine w_aload_n 0 0 (μ := m_X1_goOnPutting) (pc := 22) dX1_goOnPutting_22 rfl rfl ?_
    refine w_iconst (v := 1) (μ := m_X1_goOnPutting) (pc := 23) dX1_goOnPutting_23 (by decide) ?_
    refine w_putZ (μ := m_X1_goOnPutting) (pc := 24) dX1_goOnPutting_24 fl_X1_50 flw_1_15 ir_1_15 k0 (by decide) ?_
    refine w_bd (fun δ_2 e_3 => ?_)
    refine w_iconst (v := 0) (μ := m_X1_goOnPutting) (pc := 27) dX1_goOnPutting_27 (by decide) ?_
    exact w_iret (μ := m_X1_goOnPutting) (pc := 28) dX1_goOnPutting_28 rfl rfl
def D_X1_goOnPutting (N : Nat) (g : gp) (a0 : Nat) (δ : dp) : Option (Int32 × dp) :=
  if (q_I δ 1 8 a0) = (q_I δ 1 9 a0) then (J_X1_goOnPutting_22 N g a0 δ) else (if (q_I δ 1 8 a0) = (q_I δ 1 10 a0) then (J_X1_goOnPutting_22 N g a0 δ) else ((D_J9_max_7cf53 N g (q_I δ 1 8 a0) (q_I δ 1 9 a0) δ).bind fun r_5 => (D_J9_min_7cf53 N g r_5.1 (q_I r_5.2 1 10 a0) r_5.2).bind fun r_6 => (D_X1_findRoom N g a0 r_6.1 r_6.2).bind fun r_7 => if r_7.1 = 0 then ((D_X1_enterList N g a0 r_6.1 r_7.2).bind fun r_9 => some (1, r_9)) else ((D_X1_enterRoom N g a0 r_6.1 r_7.2).bind fun r_10 => some (0, r_10))))
set_option maxHeartbeats 4000000 in
set_option maxRecDepth 100000 in
theorem c_X1_goOnPutting {l : Launch} {D : va_G} {cy : Nat → ClassId} {N d : Nat} {g : gp} (wt : WT g) (hl : l.stackTraces = false) (hd : 3 ≤ d) {a0 : Nat} {δ : dp} (k0 : q_K g a0 = 1) : CalD l D cy m_X1_goOnPutting d 0 0 ei g [.ref a0] δ (D_X1_goOnPutting N g a0 δ) := by
  refine CalD.of (by decide +kernel) (Nat.le_of_ble_eq_true rfl) hl ?_
  unfold D_X1_goOnPutting
  refine w_aload_n 0 0 (μ := m_X1_goOnPutting) (pc := 0) dX1_goOnPutting_0 rfl rfl ?_
  refine w_getI (μ := m_X1_goOnPutting) (pc := 1) dX1_goOnPutting_1 fl_X1_47 ir_1_8 k0 ?_
  refine w_aload_n 0 0 (μ := m_X1_goOnPutting) (pc := 4) dX1_goOnPutting_4 rfl rfl ?_
  refine w_getI (μ := m_X1_goOnPutting) (pc := 5) dX1_goOnPutting_5 fl_X1_80 ir_1_9 k0 ?_
  refine w_icmp_eq 22 (μ := m_X1_goOnPutting) (pc := 8) dX1_goOnPutting_8 (by decide) (fun c_1 => ?_) (fun c_1 => ?_)
  · exact t_J_X1_goOnPutting_22 wt hl (by omega) k0 _
  · refine w_aload_n 0 0 (μ := m_X1_goOnPutting) (pc := 11) dX1_goOnPutting_11 rfl rfl ?_
    refine w_getI (μ := m_X1_goOnPutting) (pc := 12) dX1_goOnPutting_12 fl_X1_47 ir_1_8 k0 ?_
    refine w_aload_n 0 0 (μ := m_X1_goOnPutting) (pc := 15) dX1_goOnPutting_15 rfl rfl ?_
    refine w_getI (μ := m_X1_goOnPutting) (pc := 16) dX1_goOnPutting_16 fl_X1_83 ir_1_10 k0 ?_
    refine w_icmp_ne 29 (μ := m_X1_goOnPutting) (pc := 19) dX1_goOnPutting_19 (by decide) (fun c_4 => ?_) (fun c_4 => ?_)
    · refine w_aload_n 0 0 (μ := m_X1_goOnPutting) (pc := 29) dX1_goOnPutting_29 rfl rfl ?_
      refine w_getI (μ := m_X1_goOnPutting) (pc := 30) dX1_goOnPutting_30 fl_X1_47 ir_1_8 k0 ?_
      refine w_aload_n 0 0 (μ := m_X1_goOnPutting) (pc := 33) dX1_goOnPutting_33 rfl rfl ?_
      refine w_getI (μ := m_X1_goOnPutting) (pc := 34) dX1_goOnPutting_34 fl_X1_80 ir_1_9 k0 ?_
      refine w_callS (As := [.int (q_I δ 1 8 a0), .int (q_I δ 1 9 a0)]) (rest := []) (μ := m_X1_goOnPutting) (pc := 37) dX1_goOnPutting_37 cs_X1_108 rfl rfl (Nat.le_of_ble_eq_true rfl) (d' := d - 1) (by omega) he_i (c_J9_max_7cf53 wt hl (d := d - 1) (by omega) ) (fun r_5 => ?_)
      refine w_aload_n 0 0 (μ := m_X1_goOnPutting) (pc := 40) dX1_goOnPutting_40 rfl rfl ?_
      refine w_getI (μ := m_X1_goOnPutting) (pc := 41) dX1_goOnPutting_41 fl_X1_83 ir_1_10 k0 ?_
      refine w_callS (As := [.int r_5.1, .int (q_I r_5.2 1 10 a0)]) (rest := []) (μ := m_X1_goOnPutting) (pc := 44) dX1_goOnPutting_44 cs_X1_114 rfl rfl (Nat.le_of_ble_eq_true rfl) (d' := d - 1) (by omega) he_i (c_J9_min_7cf53 wt hl (d := d - 1) (by omega) ) (fun r_6 => ?_)
      refine w_istore_n [(1, .int r_6.1), (0, .ref a0)] (μ := m_X1_goOnPutting) (pc := 47) dX1_goOnPutting_47 rfl (by decide) rfl ?_
      refine w_aload_n 1 0 (μ := m_X1_goOnPutting) (pc := 48) dX1_goOnPutting_48 rfl rfl ?_
      refine w_iload_n 0 1 (μ := m_X1_goOnPutting) (pc := 49) dX1_goOnPutting_49 rfl rfl ?_
      refine w_callV (As := [.int r_6.1]) (rest := []) (μ := m_X1_goOnPutting) (pc := 50) dX1_goOnPutting_50 cv_X1_117 rfl rfl k0 (by decide) rfl (Nat.le_of_ble_eq_true rfl) (d' := d - 1) (by omega) he_i (c_X1_findRoom wt hl (d := d - 1) (by omega) k0) (fun r_7 => ?_)
      refine w_if_eq 63 (μ := m_X1_goOnPutting) (pc := 53) dX1_goOnPutting_53 (by decide) (fun c_8 => ?_) (fun c_8 => ?_)
      · refine w_aload_n 1 0 (μ := m_X1_goOnPutting) (pc := 63) dX1_goOnPutting_63 rfl rfl ?_
        refine w_iload_n 0 1 (μ := m_X1_goOnPutting) (pc := 64) dX1_goOnPutting_64 rfl rfl ?_
        refine w_callV (As := [.int r_6.1]) (rest := []) (μ := m_X1_goOnPutting) (pc := 65) dX1_goOnPutting_65 cv_X1_125 rfl rfl k0 (by decide) rfl (Nat.le_of_ble_eq_true rfl) (d' := d - 1) (by omega) he_v (c_X1_enterList wt hl (d := d - 1) (by omega) k0) (fun r_9 => ?_)
        refine w_iconst (v := 1) (μ := m_X1_goOnPutting) (pc := 68) dX1_goOnPutting_68 (by decide) ?_
        exact w_iret (μ := m_X1_goOnPutting) (pc := 69) dX1_goOnPutting_69 rfl rfl
      · refine w_aload_n 1 0 (μ := m_X1_goOnPutting) (pc := 56) dX1_goOnPutting_56 rfl rfl ?_
        refine w_iload_n 0 1 (μ := m_X1_goOnPutting) (pc := 57) dX1_goOnPutting_57 rfl rfl ?_
        refine w_callV (As := [.int r_6.1]) (rest := []) (μ := m_X1_goOnPutting) (pc := 58) dX1_goOnPutting_58 cv_X1_121 rfl rfl k0 (by decide) rfl (Nat.le_of_ble_eq_true rfl) (d' := d - 1) (by omega) he_v (c_X1_enterRoom wt hl (d := d - 1) (by omega) k0) (fun r_10 => ?_)
        refine w_iconst (v := 0) (μ := m_X1_goOnPutting) (pc := 61) dX1_goOnPutting_61 (by decide) ?_
        exact w_iret (μ := m_X1_goOnPutting) (pc := 62) dX1_goOnPutting_62 rfl rfl
    · exact t_J_X1_goOnPutting_22 wt hl (by omega) k0 _
def J_X1_goOnDropping_65 (N : Nat) (g : gp) (a0 : Nat) (δ : dp) : Option (Int32 × dp) :=
  bd (s_I δ 1 15 a0 1) fun δ_3 => some (0, δ_3)
set_option maxHeartbeats 4000000 in
set_option maxRecDepth 100000 in
theorem t_J_X1_goOnDropping_65 {l : Launch} {D : va_G} {cy : Nat → ClassId} {N d : Nat} {g : gp} (wt : WT g) (hl : l.stackTraces = false) (hd : 3 ≤ d) {a0 : Nat} (k0 : q_K g a0 = 1) : ∀ (δ : dp), AWD l D cy m_X1_goOnDropping d 0 0 ei g 65 [(0, .ref a0)] [] δ (J_X1_goOnDropping_65 N g a0 δ) := by
    intro  δ 
    unfold J_X1_goOnDropping_65
    refine w_aload_n 0 0 (μ := m_X1_goOnDropping) (pc := 65) dX1_goOnDropping_65 rfl rfl ?_
    refine w_iconst (v := 1) (μ := m_X1_goOnDropping) (pc := 66) dX1_goOnDropping_66 (by decide) ?_
    refine w_putZ (μ := m_X1_goOnDropping) (pc := 67) dX1_goOnDropping_67 fl_X1_50 flw_1_15 ir_1_15 k0 (by decide) ?_
    refine w_bd (fun δ_3 e_4 => ?_)
    refine w_iconst (v := 0) (μ := m_X1_goOnDropping) (pc := 70) dX1_goOnDropping_70 (by decide) ?_
    exact w_iret (μ := m_X1_goOnDropping) (pc := 71) dX1_goOnDropping_71 rfl rfl
def J_X1_goOnDropping_172 (N : Nat) (g : gp) (a0 : Nat) (x2v : Int32) (x3v : Int32) (δ : dp) : Option (Int32 × dp) :=
  (D_X1_enterRoom N g a0 x3v δ).bind fun r_15 => some (x2v, r_15)
set_option maxHeartbeats 4000000 in
set_option maxRecDepth 100000 in
theorem t_J_X1_goOnDropping_172 {l : Launch} {D : va_G} {cy : Nat → ClassId} {N d : Nat} {g : gp} (wt : WT g) (hl : l.stackTraces = false) (hd : 3 ≤ d) {a0 : Nat} (k0 : q_K g a0 = 1) : ∀ (x2v : Int32) (x3v : Int32) (δ : dp), AWD l D cy m_X1_goOnDropping d 0 0 ei g 172 [(0, .ref a0), (2, .int x2v), (3, .int x3v)] [] δ (J_X1_goOnDropping_172 N g a0 x2v x3v δ) := by
    intro x2v x3v δ 
    unfold J_X1_goOnDropping_172
    refine w_aload_n 0 0 (μ := m_X1_goOnDropping) (pc := 172) dX1_goOnDropping_172 rfl rfl ?_
    refine w_iload_n 2 3 (μ := m_X1_goOnDropping) (pc := 173) dX1_goOnDropping_173 rfl rfl ?_
    refine w_callV (As := [.int x3v]) (rest := []) (μ := m_X1_goOnDropping) (pc := 174) dX1_goOnDropping_174 cv_X1_121 rfl rfl k0 (by decide) rfl (Nat.le_of_ble_eq_true rfl) (d' := d - 1) (by omega) he_v (c_X1_enterRoom wt hl (d := d - 1) (by omega) k0) (fun r_15 => ?_)
    refine w_iload_n 1 2 (μ := m_X1_goOnDropping) (pc := 177) dX1_goOnDropping_177 rfl rfl ?_
    exact w_iret (μ := m_X1_goOnDropping) (pc := 178) dX1_goOnDropping_178 rfl rfl
def J_X1_goOnDropping_121 (N : Nat) (g : gp) (a0 : Nat) (xs0 : Int32) (x2v : Int32) (δ : dp) : Option (Int32 × dp) :=
  (D_X1_findRoom N g a0 xs0 δ).bind fun r_11 => if r_11.1 = 0 then (bd (s_I r_11.2 1 15 a0 1) fun δ_19 => some (x2v, δ_19)) else ((D_X1_valueAt N g a0 (q_I r_11.2 1 13 a0) r_11.2).bind fun r_13 => if r_13.1 = xs0 then ((D_X1_valueAt N g a0 ((q_I r_13.2 1 14 a0) - 1) r_13.2).bind fun r_16 => if r_16.1 = xs0 then ((D_X1_enterList N g a0 xs0 r_16.2).bind fun r_18 => some (x2v + 1, r_18)) else (J_X1_goOnDropping_172 N g a0 x2v xs0 r_16.2)) else (J_X1_goOnDropping_172 N g a0 x2v xs0 r_13.2))
set_option maxHeartbeats 4000000 in
set_option maxRecDepth 100000 in
theorem t_J_X1_goOnDropping_121 {l : Launch} {D : va_G} {cy : Nat → ClassId} {N d : Nat} {g : gp} (wt : WT g) (hl : l.stackTraces = false) (hd : 3 ≤ d) {a0 : Nat} (k0 : q_K g a0 = 1) : ∀ (xs0 : Int32) (x2v : Int32) (δ : dp), AWD l D cy m_X1_goOnDropping d 0 0 ei g 121 [(0, .ref a0), (2, .int x2v)] [.int xs0] δ (J_X1_goOnDropping_121 N g a0 xs0 x2v δ) := by
    intro xs0 x2v δ 
    unfold J_X1_goOnDropping_121
    refine w_istore_n [(3, .int xs0), (0, .ref a0), (2, .int x2v)] (μ := m_X1_goOnDropping) (pc := 121) dX1_goOnDropping_121 rfl (by decide) rfl ?_
    refine w_aload_n 1 0 (μ := m_X1_goOnDropping) (pc := 122) dX1_goOnDropping_122 rfl rfl ?_
    refine w_iload_n 0 3 (μ := m_X1_goOnDropping) (pc := 123) dX1_goOnDropping_123 rfl rfl ?_
    refine w_callV (As := [.int xs0]) (rest := []) (μ := m_X1_goOnDropping) (pc := 124) dX1_goOnDropping_124 cv_X1_117 rfl rfl k0 (by decide) rfl (Nat.le_of_ble_eq_true rfl) (d' := d - 1) (by omega) he_i (c_X1_findRoom wt hl (d := d - 1) (by omega) k0) (fun r_11 => ?_)
    refine w_if_ne 137 (μ := m_X1_goOnDropping) (pc := 127) dX1_goOnDropping_127 (by decide) (fun c_12 => ?_) (fun c_12 => ?_)
    · refine w_aload_n 1 0 (μ := m_X1_goOnDropping) (pc := 137) dX1_goOnDropping_137 rfl rfl ?_
      refine w_aload_n 1 0 (μ := m_X1_goOnDropping) (pc := 138) dX1_goOnDropping_138 rfl rfl ?_
      refine w_getI (μ := m_X1_goOnDropping) (pc := 139) dX1_goOnDropping_139 fl_X1_102 ir_1_13 k0 ?_
      refine w_callV (As := [.int (q_I r_11.2 1 13 a0)]) (rest := []) (μ := m_X1_goOnDropping) (pc := 142) dX1_goOnDropping_142 cv_X1_76 rfl rfl k0 (by decide) rfl (Nat.le_of_ble_eq_true rfl) (d' := d - 1) (by omega) he_i (c_X1_valueAt wt hl (d := d - 1) (by omega) k0) (fun r_13 => ?_)
      refine w_iload_n 0 3 (μ := m_X1_goOnDropping) (pc := 145) dX1_goOnDropping_145 rfl rfl ?_
      refine w_icmp_ne 172 (μ := m_X1_goOnDropping) (pc := 146) dX1_goOnDropping_146 (by decide) (fun c_14 => ?_) (fun c_14 => ?_)
      · refine w_lv [1, 2, 0] rfl ?_
        exact t_J_X1_goOnDropping_172 wt hl (by omega) k0 _ _ _
      · refine w_aload_n 1 0 (μ := m_X1_goOnDropping) (pc := 149) dX1_goOnDropping_149 rfl rfl ?_
        refine w_aload_n 1 0 (μ := m_X1_goOnDropping) (pc := 150) dX1_goOnDropping_150 rfl rfl ?_
        refine w_getI (μ := m_X1_goOnDropping) (pc := 151) dX1_goOnDropping_151 fl_X1_105 ir_1_14 k0 ?_
        refine w_iconst (v := 1) (μ := m_X1_goOnDropping) (pc := 154) dX1_goOnDropping_154 (by decide) ?_
        refine w_isub (μ := m_X1_goOnDropping) (pc := 155) dX1_goOnDropping_155 ?_
        refine w_callV (As := [.int ((q_I r_13.2 1 14 a0) - 1)]) (rest := []) (μ := m_X1_goOnDropping) (pc := 156) dX1_goOnDropping_156 cv_X1_76 rfl rfl k0 (by decide) rfl (Nat.le_of_ble_eq_true rfl) (d' := d - 1) (by omega) he_i (c_X1_valueAt wt hl (d := d - 1) (by omega) k0) (fun r_16 => ?_)
        refine w_iload_n 0 3 (μ := m_X1_goOnDropping) (pc := 159) dX1_goOnDropping_159 rfl rfl ?_
        refine w_icmp_ne 172 (μ := m_X1_goOnDropping) (pc := 160) dX1_goOnDropping_160 (by decide) (fun c_17 => ?_) (fun c_17 => ?_)
        · refine w_lv [1, 2, 0] rfl ?_
          exact t_J_X1_goOnDropping_172 wt hl (by omega) k0 _ _ _
        · refine w_aload_n 1 0 (μ := m_X1_goOnDropping) (pc := 163) dX1_goOnDropping_163 rfl rfl ?_
          refine w_iload_n 0 3 (μ := m_X1_goOnDropping) (pc := 164) dX1_goOnDropping_164 rfl rfl ?_
          refine w_callV (As := [.int xs0]) (rest := []) (μ := m_X1_goOnDropping) (pc := 165) dX1_goOnDropping_165 cv_X1_125 rfl rfl k0 (by decide) rfl (Nat.le_of_ble_eq_true rfl) (d' := d - 1) (by omega) he_v (c_X1_enterList wt hl (d := d - 1) (by omega) k0) (fun r_18 => ?_)
          refine w_iload_n 2 2 (μ := m_X1_goOnDropping) (pc := 168) dX1_goOnDropping_168 rfl rfl ?_
          refine w_iconst (v := 1) (μ := m_X1_goOnDropping) (pc := 169) dX1_goOnDropping_169 (by decide) ?_
          refine w_iadd (μ := m_X1_goOnDropping) (pc := 170) dX1_goOnDropping_170 ?_
          exact w_iret (μ := m_X1_goOnDropping) (pc := 171) dX1_goOnDropping_171 rfl rfl
    · refine w_aload_n 1 0 (μ := m_X1_goOnDropping) (pc := 130) dX1_goOnDropping_130 rfl rfl ?_
      refine w_iconst (v := 1) (μ := m_X1_goOnDropping) (pc := 131) dX1_goOnDropping_131 (by decide) ?_
      refine w_putZ (μ := m_X1_goOnDropping) (pc := 132) dX1_goOnDropping_132 fl_X1_50 flw_1_15 ir_1_15 k0 (by decide) ?_
      refine w_bd (fun δ_19 e_20 => ?_)
      refine w_iload_n 2 2 (μ := m_X1_goOnDropping) (pc := 135) dX1_goOnDropping_135 rfl rfl ?_
      exact w_iret (μ := m_X1_goOnDropping) (pc := 136) dX1_goOnDropping_136 rfl rfl
def J_X1_goOnDropping_118 (N : Nat) (g : gp) (a0 : Nat) (xs0 : Int32) (as1 : Nat) (x2v : Int32) (δ : dp) : Option (Int32 × dp) :=
  (D_X1_valueAt N g as1 xs0 δ).bind fun r_10 => J_X1_goOnDropping_121 N g a0 r_10.1 x2v r_10.2
set_option maxHeartbeats 4000000 in
set_option maxRecDepth 100000 in
theorem t_J_X1_goOnDropping_118 {l : Launch} {D : va_G} {cy : Nat → ClassId} {N d : Nat} {g : gp} (wt : WT g) (hl : l.stackTraces = false) (hd : 3 ≤ d) {a0 : Nat} (k0 : q_K g a0 = 1) : ∀ (xs0 : Int32) (as1 : Nat) (x2v : Int32) (δ : dp), q_K g as1 = 1 → AWD l D cy m_X1_goOnDropping d 0 0 ei g 118 [(0, .ref a0), (2, .int x2v)] [.int xs0, .ref as1] δ (J_X1_goOnDropping_118 N g a0 xs0 as1 x2v δ) := by
    intro xs0 as1 x2v δ has1
    unfold J_X1_goOnDropping_118
    refine w_callV (As := [.int xs0]) (rest := []) (μ := m_X1_goOnDropping) (pc := 118) dX1_goOnDropping_118 cv_X1_76 rfl rfl has1 (by decide) rfl (Nat.le_of_ble_eq_true rfl) (d' := d - 1) (by omega) he_i (c_X1_valueAt wt hl (d := d - 1) (by omega) has1) (fun r_10 => ?_)
    exact t_J_X1_goOnDropping_121 wt hl (by omega) k0 _ _ _
def J_X1_goOnDropping_81 (N : Nat) (g : gp) (a0 : Nat) (xs0 : Int32) (x1v : Int32) (δ : dp) : Option (Int32 × dp) :=
  if x1v = 0 then (J_X1_goOnDropping_121 N g a0 (q_I δ 1 8 a0) xs0 δ) else (if (q_I δ 1 8 a0) = (q_I δ 1 9 a0) then (J_X1_goOnDropping_118 N g a0 (q_I δ 1 11 a0) a0 xs0 δ) else (J_X1_goOnDropping_118 N g a0 ((q_I δ 1 12 a0) - 1) a0 xs0 δ))
set_option maxHeartbeats 4000000 in
set_option maxRecDepth 100000 in
theorem t_J_X1_goOnDropping_81 {l : Launch} {D : va_G} {cy : Nat → ClassId} {N d : Nat} {g : gp} (wt : WT g) (hl : l.stackTraces = false) (hd : 3 ≤ d) {a0 : Nat} (k0 : q_K g a0 = 1) : ∀ (xs0 : Int32) (x1v : Int32) (δ : dp), AWD l D cy m_X1_goOnDropping d 0 0 ei g 81 [(0, .ref a0), (1, .int x1v)] [.int xs0] δ (J_X1_goOnDropping_81 N g a0 xs0 x1v δ) := by
    intro xs0 x1v δ 
    unfold J_X1_goOnDropping_81
    refine w_istore_n [(2, .int xs0), (0, .ref a0), (1, .int x1v)] (μ := m_X1_goOnDropping) (pc := 81) dX1_goOnDropping_81 rfl (by decide) rfl ?_
    refine w_iload_n 2 1 (μ := m_X1_goOnDropping) (pc := 82) dX1_goOnDropping_82 rfl rfl ?_
    refine w_if_ne 93 (μ := m_X1_goOnDropping) (pc := 83) dX1_goOnDropping_83 (by decide) (fun c_8 => ?_) (fun c_8 => ?_)
    · refine w_aload_n 1 0 (μ := m_X1_goOnDropping) (pc := 93) dX1_goOnDropping_93 rfl rfl ?_
      refine w_aload_n 1 0 (μ := m_X1_goOnDropping) (pc := 94) dX1_goOnDropping_94 rfl rfl ?_
      refine w_getI (μ := m_X1_goOnDropping) (pc := 95) dX1_goOnDropping_95 fl_X1_47 ir_1_8 k0 ?_
      refine w_aload_n 1 0 (μ := m_X1_goOnDropping) (pc := 98) dX1_goOnDropping_98 rfl rfl ?_
      refine w_getI (μ := m_X1_goOnDropping) (pc := 99) dX1_goOnDropping_99 fl_X1_80 ir_1_9 k0 ?_
      refine w_icmp_ne 112 (μ := m_X1_goOnDropping) (pc := 102) dX1_goOnDropping_102 (by decide) (fun c_9 => ?_) (fun c_9 => ?_)
      · refine w_aload_n 1 0 (μ := m_X1_goOnDropping) (pc := 112) dX1_goOnDropping_112 rfl rfl ?_
        refine w_getI (μ := m_X1_goOnDropping) (pc := 113) dX1_goOnDropping_113 fl_X1_99 ir_1_12 k0 ?_
        refine w_iconst (v := 1) (μ := m_X1_goOnDropping) (pc := 116) dX1_goOnDropping_116 (by decide) ?_
        refine w_isub (μ := m_X1_goOnDropping) (pc := 117) dX1_goOnDropping_117 ?_
        refine w_lv [1, 0] rfl ?_
        exact t_J_X1_goOnDropping_118 wt hl (by omega) k0 _ _ _ _ k0
      · refine w_aload_n 1 0 (μ := m_X1_goOnDropping) (pc := 105) dX1_goOnDropping_105 rfl rfl ?_
        refine w_getI (μ := m_X1_goOnDropping) (pc := 106) dX1_goOnDropping_106 fl_X1_96 ir_1_11 k0 ?_
        refine w_goto 118 (μ := m_X1_goOnDropping) (pc := 109) dX1_goOnDropping_109 (by decide) ?_
        refine w_lv [1, 0] rfl ?_
        exact t_J_X1_goOnDropping_118 wt hl (by omega) k0 _ _ _ _ k0
    · refine w_aload_n 1 0 (μ := m_X1_goOnDropping) (pc := 86) dX1_goOnDropping_86 rfl rfl ?_
      refine w_getI (μ := m_X1_goOnDropping) (pc := 87) dX1_goOnDropping_87 fl_X1_47 ir_1_8 k0 ?_
      refine w_goto 121 (μ := m_X1_goOnDropping) (pc := 90) dX1_goOnDropping_90 (by decide) ?_
      refine w_lv [1, 0] rfl ?_
      exact t_J_X1_goOnDropping_121 wt hl (by omega) k0 _ _ _
def J_X1_goOnDropping_72 (N : Nat) (g : gp) (a0 : Nat) (x1v : Int32) (δ : dp) : Option (Int32 × dp) :=
  if x1v = 0 then (J_X1_goOnDropping_81 N g a0 0 x1v δ) else (J_X1_goOnDropping_81 N g a0 2 x1v δ)
set_option maxHeartbeats 4000000 in
set_option maxRecDepth 100000 in
theorem t_J_X1_goOnDropping_72 {l : Launch} {D : va_G} {cy : Nat → ClassId} {N d : Nat} {g : gp} (wt : WT g) (hl : l.stackTraces = false) (hd : 3 ≤ d) {a0 : Nat} (k0 : q_K g a0 = 1) : ∀ (x1v : Int32) (δ : dp), AWD l D cy m_X1_goOnDropping d 0 0 ei g 72 [(0, .ref a0), (1, .int x1v)] [] δ (J_X1_goOnDropping_72 N g a0 x1v δ) := by
    intro x1v δ 
    unfold J_X1_goOnDropping_72
    refine w_iload_n 1 1 (μ := m_X1_goOnDropping) (pc := 72) dX1_goOnDropping_72 rfl rfl ?_
    refine w_if_eq 80 (μ := m_X1_goOnDropping) (pc := 73) dX1_goOnDropping_73 (by decide) (fun c_7 => ?_) (fun c_7 => ?_)
    · refine w_iconst (v := 0) (μ := m_X1_goOnDropping) (pc := 80) dX1_goOnDropping_80 (by decide) ?_
      exact t_J_X1_goOnDropping_81 wt hl (by omega) k0 _ _ _
    · refine w_iconst (v := 2) (μ := m_X1_goOnDropping) (pc := 76) dX1_goOnDropping_76 (by decide) ?_
      refine w_goto 81 (μ := m_X1_goOnDropping) (pc := 77) dX1_goOnDropping_77 (by decide) ?_
      exact t_J_X1_goOnDropping_81 wt hl (by omega) k0 _ _ _
def J_X1_goOnDropping_27 (N : Nat) (g : gp) (a0 : Nat) (xs0 : Int32) (δ : dp) : Option (Int32 × dp) :=
  if (q_I δ 1 8 a0) < (q_I δ 1 9 a0) then (J_X1_goOnDropping_65 N g a0 δ) else (if (q_I δ 1 10 a0) < (q_I δ 1 8 a0) then (J_X1_goOnDropping_65 N g a0 δ) else (if xs0 = 0 then (J_X1_goOnDropping_72 N g a0 xs0 δ) else (if (q_I δ 1 11 a0) < (q_I δ 1 12 a0) then (J_X1_goOnDropping_72 N g a0 xs0 δ) else (J_X1_goOnDropping_65 N g a0 δ))))
set_option maxHeartbeats 4000000 in
set_option maxRecDepth 100000 in
theorem t_J_X1_goOnDropping_27 {l : Launch} {D : va_G} {cy : Nat → ClassId} {N d : Nat} {g : gp} (wt : WT g) (hl : l.stackTraces = false) (hd : 3 ≤ d) {a0 : Nat} (k0 : q_K g a0 = 1) : ∀ (xs0 : Int32) (δ : dp), AWD l D cy m_X1_goOnDropping d 0 0 ei g 27 [(0, .ref a0)] [.int xs0] δ (J_X1_goOnDropping_27 N g a0 xs0 δ) := by
    intro xs0 δ 
    unfold J_X1_goOnDropping_27
    refine w_istore_n [(1, .int xs0), (0, .ref a0)] (μ := m_X1_goOnDropping) (pc := 27) dX1_goOnDropping_27 rfl (by decide) rfl ?_
    refine w_aload_n 1 0 (μ := m_X1_goOnDropping) (pc := 28) dX1_goOnDropping_28 rfl rfl ?_
    refine w_getI (μ := m_X1_goOnDropping) (pc := 29) dX1_goOnDropping_29 fl_X1_47 ir_1_8 k0 ?_
    refine w_aload_n 1 0 (μ := m_X1_goOnDropping) (pc := 32) dX1_goOnDropping_32 rfl rfl ?_
    refine w_getI (μ := m_X1_goOnDropping) (pc := 33) dX1_goOnDropping_33 fl_X1_80 ir_1_9 k0 ?_
    refine w_icmp_lt 65 (μ := m_X1_goOnDropping) (pc := 36) dX1_goOnDropping_36 (by decide) (fun c_2 => ?_) (fun c_2 => ?_)
    · refine w_lv [1] rfl ?_
      exact t_J_X1_goOnDropping_65 wt hl (by omega) k0 _
    · refine w_aload_n 1 0 (μ := m_X1_goOnDropping) (pc := 39) dX1_goOnDropping_39 rfl rfl ?_
      refine w_getI (μ := m_X1_goOnDropping) (pc := 40) dX1_goOnDropping_40 fl_X1_47 ir_1_8 k0 ?_
      refine w_aload_n 1 0 (μ := m_X1_goOnDropping) (pc := 43) dX1_goOnDropping_43 rfl rfl ?_
      refine w_getI (μ := m_X1_goOnDropping) (pc := 44) dX1_goOnDropping_44 fl_X1_83 ir_1_10 k0 ?_
      refine w_icmp_gt 65 (μ := m_X1_goOnDropping) (pc := 47) dX1_goOnDropping_47 (by decide) (fun c_5 => ?_) (fun c_5 => ?_)
      · refine w_lv [1] rfl ?_
        exact t_J_X1_goOnDropping_65 wt hl (by omega) k0 _
      · refine w_iload_n 0 1 (μ := m_X1_goOnDropping) (pc := 50) dX1_goOnDropping_50 rfl rfl ?_
        refine w_if_eq 72 (μ := m_X1_goOnDropping) (pc := 51) dX1_goOnDropping_51 (by decide) (fun c_6 => ?_) (fun c_6 => ?_)
        · refine w_lv [1, 0] rfl ?_
          exact t_J_X1_goOnDropping_72 wt hl (by omega) k0 _ _
        · refine w_aload_n 1 0 (μ := m_X1_goOnDropping) (pc := 54) dX1_goOnDropping_54 rfl rfl ?_
          refine w_getI (μ := m_X1_goOnDropping) (pc := 55) dX1_goOnDropping_55 fl_X1_96 ir_1_11 k0 ?_
          refine w_aload_n 1 0 (μ := m_X1_goOnDropping) (pc := 58) dX1_goOnDropping_58 rfl rfl ?_
          refine w_getI (μ := m_X1_goOnDropping) (pc := 59) dX1_goOnDropping_59 fl_X1_99 ir_1_12 k0 ?_
          refine w_icmp_lt 72 (μ := m_X1_goOnDropping) (pc := 62) dX1_goOnDropping_62 (by decide) (fun c_21 => ?_) (fun c_21 => ?_)
          · refine w_lv [1, 0] rfl ?_
            exact t_J_X1_goOnDropping_72 wt hl (by omega) k0 _ _
          · refine w_lv [1] rfl ?_
            exact t_J_X1_goOnDropping_65 wt hl (by omega) k0 _
def J_X1_goOnDropping_22 (N : Nat) (g : gp) (a0 : Nat) (δ : dp) : Option (Int32 × dp) :=
  J_X1_goOnDropping_27 N g a0 1 δ
set_option maxHeartbeats 4000000 in
set_option maxRecDepth 100000 in
theorem t_J_X1_goOnDropping_22 {l : Launch} {D : va_G} {cy : Nat → ClassId} {N d : Nat} {g : gp} (wt : WT g) (hl : l.stackTraces = false) (hd : 3 ≤ d) {a0 : Nat} (k0 : q_K g a0 = 1) : ∀ (δ : dp), AWD l D cy m_X1_goOnDropping d 0 0 ei g 22 [(0, .ref a0)] [] δ (J_X1_goOnDropping_22 N g a0 δ) := by
    intro  δ 
    unfold J_X1_goOnDropping_22
    refine w_iconst (v := 1) (μ := m_X1_goOnDropping) (pc := 22) dX1_goOnDropping_22 (by decide) ?_
    refine w_goto 27 (μ := m_X1_goOnDropping) (pc := 23) dX1_goOnDropping_23 (by decide) ?_
    exact t_J_X1_goOnDropping_27 wt hl (by omega) k0 _ _
def D_X1_goOnDropping (N : Nat) (g : gp) (a0 : Nat) (δ : dp) : Option (Int32 × dp) :=
  if (q_I δ 1 8 a0) = (q_I δ 1 9 a0) then (J_X1_goOnDropping_22 N g a0 δ) else (if (q_I δ 1 8 a0) = (q_I δ 1 10 a0) then (J_X1_goOnDropping_22 N g a0 δ) else (J_X1_goOnDropping_27 N g a0 0 δ))
set_option maxHeartbeats 4000000 in
set_option maxRecDepth 100000 in
theorem c_X1_goOnDropping {l : Launch} {D : va_G} {cy : Nat → ClassId} {N d : Nat} {g : gp} (wt : WT g) (hl : l.stackTraces = false) (hd : 3 ≤ d) {a0 : Nat} {δ : dp} (k0 : q_K g a0 = 1) : CalD l D cy m_X1_goOnDropping d 0 0 ei g [.ref a0] δ (D_X1_goOnDropping N g a0 δ) := by
  refine CalD.of (by decide +kernel) (Nat.le_of_ble_eq_true rfl) hl ?_
  unfold D_X1_goOnDropping
  refine w_aload_n 0 0 (μ := m_X1_goOnDropping) (pc := 0) dX1_goOnDropping_0 rfl rfl ?_
  refine w_getI (μ := m_X1_goOnDropping) (pc := 1) dX1_goOnDropping_1 fl_X1_47 ir_1_8 k0 ?_
  refine w_aload_n 0 0 (μ := m_X1_goOnDropping) (pc := 4) dX1_goOnDropping_4 rfl rfl ?_
  refine w_getI (μ := m_X1_goOnDropping) (pc := 5) dX1_goOnDropping_5 fl_X1_80 ir_1_9 k0 ?_
  refine w_icmp_eq 22 (μ := m_X1_goOnDropping) (pc := 8) dX1_goOnDropping_8 (by decide) (fun c_1 => ?_) (fun c_1 => ?_)
  · exact t_J_X1_goOnDropping_22 wt hl (by omega) k0 _
  · refine w_aload_n 0 0 (μ := m_X1_goOnDropping) (pc := 11) dX1_goOnDropping_11 rfl rfl ?_
    refine w_getI (μ := m_X1_goOnDropping) (pc := 12) dX1_goOnDropping_12 fl_X1_47 ir_1_8 k0 ?_
    refine w_aload_n 0 0 (μ := m_X1_goOnDropping) (pc := 15) dX1_goOnDropping_15 rfl rfl ?_
    refine w_getI (μ := m_X1_goOnDropping) (pc := 16) dX1_goOnDropping_16 fl_X1_83 ir_1_10 k0 ?_
    refine w_icmp_ne 26 (μ := m_X1_goOnDropping) (pc := 19) dX1_goOnDropping_19 (by decide) (fun c_22 => ?_) (fun c_22 => ?_)
    · refine w_iconst (v := 0) (μ := m_X1_goOnDropping) (pc := 26) dX1_goOnDropping_26 (by decide) ?_
      exact t_J_X1_goOnDropping_27 wt hl (by omega) k0 _ _
    · exact t_J_X1_goOnDropping_22 wt hl (by omega) k0 _
def J_X1_goOnAsking_49 (N : Nat) (g : gp) (a0 : Nat) (δ : dp) : Option (dp) :=
  some δ
set_option maxHeartbeats 4000000 in
set_option maxRecDepth 100000 in
theorem t_J_X1_goOnAsking_49 {l : Launch} {D : va_G} {cy : Nat → ClassId} {N d : Nat} {g : gp} (wt : WT g) (hl : l.stackTraces = false) (hd : 3 ≤ d) {a0 : Nat} (k0 : q_K g a0 = 1) : ∀ (δ : dp), AWD l D cy m_X1_goOnAsking d 0 0 ev g 49 [] [] δ (J_X1_goOnAsking_49 N g a0 δ) := by
    intro  δ 
    unfold J_X1_goOnAsking_49
    exact w_vret (μ := m_X1_goOnAsking) (pc := 49) dX1_goOnAsking_49 rfl rfl
def J_X1_goOnAsking_33 (N : Nat) (g : gp) (a0 : Nat) (δ : dp) : Option (dp) :=
  bd (s_I δ 1 15 a0 1) fun δ_2 => J_X1_goOnAsking_49 N g a0 δ_2
set_option maxHeartbeats 4000000 in
set_option maxRecDepth 100000 in
theorem t_J_X1_goOnAsking_33 {l : Launch} {D : va_G} {cy : Nat → ClassId} {N d : Nat} {g : gp} (wt : WT g) (hl : l.stackTraces = false) (hd : 3 ≤ d) {a0 : Nat} (k0 : q_K g a0 = 1) : ∀ (δ : dp), AWD l D cy m_X1_goOnAsking d 0 0 ev g 33 [(0, .ref a0)] [] δ (J_X1_goOnAsking_33 N g a0 δ) := by
    intro  δ 
    unfold J_X1_goOnAsking_33
    refine w_aload_n 0 0 (μ := m_X1_goOnAsking) (pc := 33) dX1_goOnAsking_33 rfl rfl ?_
    refine w_iconst (v := 1) (μ := m_X1_goOnAsking) (pc := 34) dX1_goOnAsking_34 (by decide) ?_
    refine w_putZ (μ := m_X1_goOnAsking) (pc := 35) dX1_goOnAsking_35 fl_X1_50 flw_1_15 ir_1_15 k0 (by decide) ?_
    refine w_bd (fun δ_2 e_3 => ?_)
    refine w_goto 49 (μ := m_X1_goOnAsking) (pc := 38) dX1_goOnAsking_38 (by decide) ?_
    refine w_lv [] rfl ?_
    exact t_J_X1_goOnAsking_49 wt hl (by omega) k0 _
def D_X1_goOnAsking (N : Nat) (g : gp) (a0 : Nat) (δ : dp) : Option (dp) :=
  if (q_I δ 1 8 a0) ≤ (q_I δ 1 9 a0) then (J_X1_goOnAsking_33 N g a0 δ) else (if (q_I δ 1 10 a0) ≤ (q_I δ 1 8 a0) then (J_X1_goOnAsking_33 N g a0 δ) else ((D_X1_findRoom N g a0 (q_I δ 1 8 a0) δ).bind fun r_5 => if r_5.1 = 0 then (J_X1_goOnAsking_33 N g a0 r_5.2) else ((D_X1_enterRoom N g a0 (q_I r_5.2 1 8 a0) r_5.2).bind fun r_7 => J_X1_goOnAsking_49 N g a0 r_7)))
set_option maxHeartbeats 4000000 in
set_option maxRecDepth 100000 in
theorem c_X1_goOnAsking {l : Launch} {D : va_G} {cy : Nat → ClassId} {N d : Nat} {g : gp} (wt : WT g) (hl : l.stackTraces = false) (hd : 3 ≤ d) {a0 : Nat} {δ : dp} (k0 : q_K g a0 = 1) : CalD l D cy m_X1_goOnAsking d 0 0 ev g [.ref a0] δ (D_X1_goOnAsking N g a0 δ) := by
  refine CalD.of (by decide +kernel) (Nat.le_of_ble_eq_true rfl) hl ?_
  unfold D_X1_goOnAsking
  refine w_aload_n 0 0 (μ := m_X1_goOnAsking) (pc := 0) dX1_goOnAsking_0 rfl rfl ?_
  refine w_getI (μ := m_X1_goOnAsking) (pc := 1) dX1_goOnAsking_1 fl_X1_47 ir_1_8 k0 ?_
  refine w_aload_n 0 0 (μ := m_X1_goOnAsking) (pc := 4) dX1_goOnAsking_4 rfl rfl ?_
  refine w_getI (μ := m_X1_goOnAsking) (pc := 5) dX1_goOnAsking_5 fl_X1_80 ir_1_9 k0 ?_
  refine w_icmp_le 33 (μ := m_X1_goOnAsking) (pc := 8) dX1_goOnAsking_8 (by decide) (fun c_1 => ?_) (fun c_1 => ?_)
  · exact t_J_X1_goOnAsking_33 wt hl (by omega) k0 _
  · refine w_aload_n 0 0 (μ := m_X1_goOnAsking) (pc := 11) dX1_goOnAsking_11 rfl rfl ?_
    refine w_getI (μ := m_X1_goOnAsking) (pc := 12) dX1_goOnAsking_12 fl_X1_47 ir_1_8 k0 ?_
    refine w_aload_n 0 0 (μ := m_X1_goOnAsking) (pc := 15) dX1_goOnAsking_15 rfl rfl ?_
    refine w_getI (μ := m_X1_goOnAsking) (pc := 16) dX1_goOnAsking_16 fl_X1_83 ir_1_10 k0 ?_
    refine w_icmp_ge 33 (μ := m_X1_goOnAsking) (pc := 19) dX1_goOnAsking_19 (by decide) (fun c_4 => ?_) (fun c_4 => ?_)
    · exact t_J_X1_goOnAsking_33 wt hl (by omega) k0 _
    · refine w_aload_n 0 0 (μ := m_X1_goOnAsking) (pc := 22) dX1_goOnAsking_22 rfl rfl ?_
      refine w_aload_n 0 0 (μ := m_X1_goOnAsking) (pc := 23) dX1_goOnAsking_23 rfl rfl ?_
      refine w_getI (μ := m_X1_goOnAsking) (pc := 24) dX1_goOnAsking_24 fl_X1_47 ir_1_8 k0 ?_
      refine w_callV (As := [.int (q_I δ 1 8 a0)]) (rest := []) (μ := m_X1_goOnAsking) (pc := 27) dX1_goOnAsking_27 cv_X1_117 rfl rfl k0 (by decide) rfl (Nat.le_of_ble_eq_true rfl) (d' := d - 1) (by omega) he_i (c_X1_findRoom wt hl (d := d - 1) (by omega) k0) (fun r_5 => ?_)
      refine w_if_ne 41 (μ := m_X1_goOnAsking) (pc := 30) dX1_goOnAsking_30 (by decide) (fun c_6 => ?_) (fun c_6 => ?_)
      · refine w_aload_n 0 0 (μ := m_X1_goOnAsking) (pc := 41) dX1_goOnAsking_41 rfl rfl ?_
        refine w_aload_n 0 0 (μ := m_X1_goOnAsking) (pc := 42) dX1_goOnAsking_42 rfl rfl ?_
        refine w_getI (μ := m_X1_goOnAsking) (pc := 43) dX1_goOnAsking_43 fl_X1_47 ir_1_8 k0 ?_
        refine w_callV (As := [.int (q_I r_5.2 1 8 a0)]) (rest := []) (μ := m_X1_goOnAsking) (pc := 46) dX1_goOnAsking_46 cv_X1_121 rfl rfl k0 (by decide) rfl (Nat.le_of_ble_eq_true rfl) (d' := d - 1) (by omega) he_v (c_X1_enterRoom wt hl (d := d - 1) (by omega) k0) (fun r_7 => ?_)
        refine w_lv [] rfl ?_
        exact t_J_X1_goOnAsking_49 wt hl (by omega) k0 _
      · exact t_J_X1_goOnAsking_33 wt hl (by omega) k0 _
def J_X1_goOnUp_33 (N : Nat) (g : gp) (a0 : Nat) (δ : dp) : Option (Int32 × dp) :=
  bd (s_I δ 1 15 a0 1) fun δ_2 => some (0, δ_2)
set_option maxHeartbeats 4000000 in
set_option maxRecDepth 100000 in
theorem t_J_X1_goOnUp_33 {l : Launch} {D : va_G} {cy : Nat → ClassId} {N d : Nat} {g : gp} (wt : WT g) (hl : l.stackTraces = false) (hd : 3 ≤ d) {a0 : Nat} (k0 : q_K g a0 = 1) : ∀ (δ : dp), AWD l D cy m_X1_goOnUp d 0 0 ei g 33 [(0, .ref a0)] [] δ (J_X1_goOnUp_33 N g a0 δ) := by
    intro  δ 
    unfold J_X1_goOnUp_33
    refine w_aload_n 0 0 (μ := m_X1_goOnUp) (pc := 33) dX1_goOnUp_33 rfl rfl ?_
    refine w_iconst (v := 1) (μ := m_X1_goOnUp) (pc := 34) dX1_goOnUp_34 (by decide) ?_
    refine w_putZ (μ := m_X1_goOnUp) (pc := 35) dX1_goOnUp_35 fl_X1_50 flw_1_15 ir_1_15 k0 (by decide) ?_
    refine w_bd (fun δ_2 e_3 => ?_)
    refine w_iconst (v := 0) (μ := m_X1_goOnUp) (pc := 38) dX1_goOnUp_38 (by decide) ?_
    exact w_iret (μ := m_X1_goOnUp) (pc := 39) dX1_goOnUp_39 rfl rfl
def J_X1_goOnUp_112 (N : Nat) (g : gp) (a0 : Nat) (x1v : Int32) (δ : dp) : Option (Int32 × dp) :=
  (D_X1_enterList N g a0 (q_I δ 1 8 a0) δ).bind fun r_10 => some (x1v, r_10)
set_option maxHeartbeats 4000000 in
set_option maxRecDepth 100000 in
theorem t_J_X1_goOnUp_112 {l : Launch} {D : va_G} {cy : Nat → ClassId} {N d : Nat} {g : gp} (wt : WT g) (hl : l.stackTraces = false) (hd : 3 ≤ d) {a0 : Nat} (k0 : q_K g a0 = 1) : ∀ (x1v : Int32) (δ : dp), AWD l D cy m_X1_goOnUp d 0 0 ei g 112 [(0, .ref a0), (1, .int x1v)] [] δ (J_X1_goOnUp_112 N g a0 x1v δ) := by
    intro x1v δ 
    unfold J_X1_goOnUp_112
    refine w_aload_n 0 0 (μ := m_X1_goOnUp) (pc := 112) dX1_goOnUp_112 rfl rfl ?_
    refine w_aload_n 0 0 (μ := m_X1_goOnUp) (pc := 113) dX1_goOnUp_113 rfl rfl ?_
    refine w_getI (μ := m_X1_goOnUp) (pc := 114) dX1_goOnUp_114 fl_X1_47 ir_1_8 k0 ?_
    refine w_callV (As := [.int (q_I δ 1 8 a0)]) (rest := []) (μ := m_X1_goOnUp) (pc := 117) dX1_goOnUp_117 cv_X1_125 rfl rfl k0 (by decide) rfl (Nat.le_of_ble_eq_true rfl) (d' := d - 1) (by omega) he_v (c_X1_enterList wt hl (d := d - 1) (by omega) k0) (fun r_10 => ?_)
    refine w_iload_n 1 1 (μ := m_X1_goOnUp) (pc := 120) dX1_goOnUp_120 rfl rfl ?_
    exact w_iret (μ := m_X1_goOnUp) (pc := 121) dX1_goOnUp_121 rfl rfl
def J_X1_goOnUp_82 (N : Nat) (g : gp) (a0 : Nat) (x1v : Int32) (δ : dp) : Option (Int32 × dp) :=
  (D_X1_valueAt N g a0 ((q_I δ 1 12 a0) - 1) δ).bind fun r_8 => if (r_8.1 >>> ((q_I r_8.2 1 7 a0) &&& 31)) ≤ ((q_I r_8.2 1 8 a0) >>> ((q_I r_8.2 1 7 a0) &&& 31)) then (J_X1_goOnUp_112 N g a0 x1v r_8.2) else (bi (x1v + 1) fun x_11 => J_X1_goOnUp_112 N g a0 x_11 r_8.2)
set_option maxHeartbeats 4000000 in
set_option maxRecDepth 100000 in
theorem t_J_X1_goOnUp_82 {l : Launch} {D : va_G} {cy : Nat → ClassId} {N d : Nat} {g : gp} (wt : WT g) (hl : l.stackTraces = false) (hd : 3 ≤ d) {a0 : Nat} (k0 : q_K g a0 = 1) : ∀ (x1v : Int32) (δ : dp), AWD l D cy m_X1_goOnUp d 0 0 ei g 82 [(0, .ref a0), (1, .int x1v)] [] δ (J_X1_goOnUp_82 N g a0 x1v δ) := by
    intro x1v δ 
    unfold J_X1_goOnUp_82
    refine w_aload_n 0 0 (μ := m_X1_goOnUp) (pc := 82) dX1_goOnUp_82 rfl rfl ?_
    refine w_aload_n 0 0 (μ := m_X1_goOnUp) (pc := 83) dX1_goOnUp_83 rfl rfl ?_
    refine w_getI (μ := m_X1_goOnUp) (pc := 84) dX1_goOnUp_84 fl_X1_99 ir_1_12 k0 ?_
    refine w_iconst (v := 1) (μ := m_X1_goOnUp) (pc := 87) dX1_goOnUp_87 (by decide) ?_
    refine w_isub (μ := m_X1_goOnUp) (pc := 88) dX1_goOnUp_88 ?_
    refine w_callV (As := [.int ((q_I δ 1 12 a0) - 1)]) (rest := []) (μ := m_X1_goOnUp) (pc := 89) dX1_goOnUp_89 cv_X1_76 rfl rfl k0 (by decide) rfl (Nat.le_of_ble_eq_true rfl) (d' := d - 1) (by omega) he_i (c_X1_valueAt wt hl (d := d - 1) (by omega) k0) (fun r_8 => ?_)
    refine w_aload_n 0 0 (μ := m_X1_goOnUp) (pc := 92) dX1_goOnUp_92 rfl rfl ?_
    refine w_getI (μ := m_X1_goOnUp) (pc := 93) dX1_goOnUp_93 fl_X1_89 ir_1_7 k0 ?_
    refine w_ishr (μ := m_X1_goOnUp) (pc := 96) dX1_goOnUp_96 ?_
    refine w_aload_n 0 0 (μ := m_X1_goOnUp) (pc := 97) dX1_goOnUp_97 rfl rfl ?_
    refine w_getI (μ := m_X1_goOnUp) (pc := 98) dX1_goOnUp_98 fl_X1_47 ir_1_8 k0 ?_
    refine w_aload_n 0 0 (μ := m_X1_goOnUp) (pc := 101) dX1_goOnUp_101 rfl rfl ?_
    refine w_getI (μ := m_X1_goOnUp) (pc := 102) dX1_goOnUp_102 fl_X1_89 ir_1_7 k0 ?_
    refine w_ishr (μ := m_X1_goOnUp) (pc := 105) dX1_goOnUp_105 ?_
    refine w_icmp_le 112 (μ := m_X1_goOnUp) (pc := 106) dX1_goOnUp_106 (by decide) (fun c_9 => ?_) (fun c_9 => ?_)
    · exact t_J_X1_goOnUp_112 wt hl (by omega) k0 _ _
    · refine w_inb (fun x_11 e_12 => ?_)
      refine w_iinc 1 [(1, .int x_11), (0, .ref a0)] (μ := m_X1_goOnUp) (pc := 109) dX1_goOnUp_109 rfl (by rw [e_12]; rfl) (by decide) rfl ?_
      refine w_lv [1, 0] rfl ?_
      exact t_J_X1_goOnUp_112 wt hl (by omega) k0 _ _
def D_X1_goOnUp (N : Nat) (g : gp) (a0 : Nat) (δ : dp) : Option (Int32 × dp) :=
  if (q_I δ 1 8 a0) < (q_I δ 1 9 a0) then (J_X1_goOnUp_33 N g a0 δ) else (if (q_I δ 1 10 a0) ≤ (q_I δ 1 8 a0) then (J_X1_goOnUp_33 N g a0 δ) else (if (q_I δ 1 11 a0) < (q_I δ 1 12 a0) then ((D_X1_findRoom N g a0 (q_I δ 1 8 a0) δ).bind fun r_6 => if r_6.1 = 0 then (J_X1_goOnUp_82 N g a0 0 r_6.2) else ((D_X1_valueAt N g a0 ((q_I r_6.2 1 14 a0) - 1) r_6.2).bind fun r_13 => if r_13.1 ≤ (q_I r_6.2 1 8 a0) then (J_X1_goOnUp_82 N g a0 1 r_13.2) else ((D_X1_enterRoom N g a0 (q_I r_13.2 1 8 a0) r_13.2).bind fun r_15 => some (1, r_15)))) else (J_X1_goOnUp_33 N g a0 δ)))
set_option maxHeartbeats 4000000 in
set_option maxRecDepth 100000 in
theorem c_X1_goOnUp {l : Launch} {D : va_G} {cy : Nat → ClassId} {N d : Nat} {g : gp} (wt : WT g) (hl : l.stackTraces = false) (hd : 3 ≤ d) {a0 : Nat} {δ : dp} (k0 : q_K g a0 = 1) : CalD l D cy m_X1_goOnUp d 0 0 ei g [.ref a0] δ (D_X1_goOnUp N g a0 δ) := by
  refine CalD.of (by decide +kernel) (Nat.le_of_ble_eq_true rfl) hl ?_
  unfold D_X1_goOnUp
  refine w_aload_n 0 0 (μ := m_X1_goOnUp) (pc := 0) dX1_goOnUp_0 rfl rfl ?_
  refine w_getI (μ := m_X1_goOnUp) (pc := 1) dX1_goOnUp_1 fl_X1_47 ir_1_8 k0 ?_
  refine w_aload_n 0 0 (μ := m_X1_goOnUp) (pc := 4) dX1_goOnUp_4 rfl rfl ?_
  refine w_getI (μ := m_X1_goOnUp) (pc := 5) dX1_goOnUp_5 fl_X1_80 ir_1_9 k0 ?_
  refine w_icmp_lt 33 (μ := m_X1_goOnUp) (pc := 8) dX1_goOnUp_8 (by decide) (fun c_1 => ?_) (fun c_1 => ?_)
  · exact t_J_X1_goOnUp_33 wt hl (by omega) k0 _
  · refine w_aload_n 0 0 (μ := m_X1_goOnUp) (pc := 11) dX1_goOnUp_11 rfl rfl ?_
    refine w_getI (μ := m_X1_goOnUp) (pc := 12) dX1_goOnUp_12 fl_X1_47 ir_1_8 k0 ?_
    refine w_aload_n 0 0 (μ := m_X1_goOnUp) (pc := 15) dX1_goOnUp_15 rfl rfl ?_
    refine w_getI (μ := m_X1_goOnUp) (pc := 16) dX1_goOnUp_16 fl_X1_83 ir_1_10 k0 ?_
    refine w_icmp_ge 33 (μ := m_X1_goOnUp) (pc := 19) dX1_goOnUp_19 (by decide) (fun c_4 => ?_) (fun c_4 => ?_)
    · exact t_J_X1_goOnUp_33 wt hl (by omega) k0 _
    · refine w_aload_n 0 0 (μ := m_X1_goOnUp) (pc := 22) dX1_goOnUp_22 rfl rfl ?_
      refine w_getI (μ := m_X1_goOnUp) (pc := 23) dX1_goOnUp_23 fl_X1_96 ir_1_11 k0 ?_
      refine w_aload_n 0 0 (μ := m_X1_goOnUp) (pc := 26) dX1_goOnUp_26 rfl rfl ?_
      refine w_getI (μ := m_X1_goOnUp) (pc := 27) dX1_goOnUp_27 fl_X1_99 ir_1_12 k0 ?_
      refine w_icmp_lt 40 (μ := m_X1_goOnUp) (pc := 30) dX1_goOnUp_30 (by decide) (fun c_5 => ?_) (fun c_5 => ?_)
      · refine w_iconst (v := 0) (μ := m_X1_goOnUp) (pc := 40) dX1_goOnUp_40 (by decide) ?_
        refine w_istore_n [(1, .int 0), (0, .ref a0)] (μ := m_X1_goOnUp) (pc := 41) dX1_goOnUp_41 rfl (by decide) rfl ?_
        refine w_aload_n 1 0 (μ := m_X1_goOnUp) (pc := 42) dX1_goOnUp_42 rfl rfl ?_
        refine w_aload_n 1 0 (μ := m_X1_goOnUp) (pc := 43) dX1_goOnUp_43 rfl rfl ?_
        refine w_getI (μ := m_X1_goOnUp) (pc := 44) dX1_goOnUp_44 fl_X1_47 ir_1_8 k0 ?_
        refine w_callV (As := [.int (q_I δ 1 8 a0)]) (rest := []) (μ := m_X1_goOnUp) (pc := 47) dX1_goOnUp_47 cv_X1_117 rfl rfl k0 (by decide) rfl (Nat.le_of_ble_eq_true rfl) (d' := d - 1) (by omega) he_i (c_X1_findRoom wt hl (d := d - 1) (by omega) k0) (fun r_6 => ?_)
        refine w_if_eq 82 (μ := m_X1_goOnUp) (pc := 50) dX1_goOnUp_50 (by decide) (fun c_7 => ?_) (fun c_7 => ?_)
        · refine w_lv [1, 0] rfl ?_
          exact t_J_X1_goOnUp_82 wt hl (by omega) k0 _ _
        · refine w_iconst (v := 1) (μ := m_X1_goOnUp) (pc := 53) dX1_goOnUp_53 (by decide) ?_
          refine w_istore_n [(1, .int 1), (0, .ref a0)] (μ := m_X1_goOnUp) (pc := 54) dX1_goOnUp_54 rfl (by decide) rfl ?_
          refine w_aload_n 1 0 (μ := m_X1_goOnUp) (pc := 55) dX1_goOnUp_55 rfl rfl ?_
          refine w_getI (μ := m_X1_goOnUp) (pc := 56) dX1_goOnUp_56 fl_X1_47 ir_1_8 k0 ?_
          refine w_aload_n 1 0 (μ := m_X1_goOnUp) (pc := 59) dX1_goOnUp_59 rfl rfl ?_
          refine w_aload_n 1 0 (μ := m_X1_goOnUp) (pc := 60) dX1_goOnUp_60 rfl rfl ?_
          refine w_getI (μ := m_X1_goOnUp) (pc := 61) dX1_goOnUp_61 fl_X1_105 ir_1_14 k0 ?_
          refine w_iconst (v := 1) (μ := m_X1_goOnUp) (pc := 64) dX1_goOnUp_64 (by decide) ?_
          refine w_isub (μ := m_X1_goOnUp) (pc := 65) dX1_goOnUp_65 ?_
          refine w_callV (As := [.int ((q_I r_6.2 1 14 a0) - 1)]) (rest := [.int (q_I r_6.2 1 8 a0)]) (μ := m_X1_goOnUp) (pc := 66) dX1_goOnUp_66 cv_X1_76 rfl rfl k0 (by decide) rfl (Nat.le_of_ble_eq_true rfl) (d' := d - 1) (by omega) he_i (c_X1_valueAt wt hl (d := d - 1) (by omega) k0) (fun r_13 => ?_)
          refine w_icmp_ge 82 (μ := m_X1_goOnUp) (pc := 69) dX1_goOnUp_69 (by decide) (fun c_14 => ?_) (fun c_14 => ?_)
          · refine w_lv [1, 0] rfl ?_
            exact t_J_X1_goOnUp_82 wt hl (by omega) k0 _ _
          · refine w_aload_n 1 0 (μ := m_X1_goOnUp) (pc := 72) dX1_goOnUp_72 rfl rfl ?_
            refine w_aload_n 1 0 (μ := m_X1_goOnUp) (pc := 73) dX1_goOnUp_73 rfl rfl ?_
            refine w_getI (μ := m_X1_goOnUp) (pc := 74) dX1_goOnUp_74 fl_X1_47 ir_1_8 k0 ?_
            refine w_callV (As := [.int (q_I r_13.2 1 8 a0)]) (rest := []) (μ := m_X1_goOnUp) (pc := 77) dX1_goOnUp_77 cv_X1_121 rfl rfl k0 (by decide) rfl (Nat.le_of_ble_eq_true rfl) (d' := d - 1) (by omega) he_v (c_X1_enterRoom wt hl (d := d - 1) (by omega) k0) (fun r_15 => ?_)
            refine w_iload_n 0 1 (μ := m_X1_goOnUp) (pc := 80) dX1_goOnUp_80 rfl rfl ?_
            exact w_iret (μ := m_X1_goOnUp) (pc := 81) dX1_goOnUp_81 rfl rfl
      · exact t_J_X1_goOnUp_33 wt hl (by omega) k0 _
def J_X1_goOnDown_33 (N : Nat) (g : gp) (a0 : Nat) (δ : dp) : Option (Int32 × dp) :=
  bd (s_I δ 1 15 a0 1) fun δ_2 => some (0, δ_2)
set_option maxHeartbeats 4000000 in
set_option maxRecDepth 100000 in
theorem t_J_X1_goOnDown_33 {l : Launch} {D : va_G} {cy : Nat → ClassId} {N d : Nat} {g : gp} (wt : WT g) (hl : l.stackTraces = false) (hd : 3 ≤ d) {a0 : Nat} (k0 : q_K g a0 = 1) : ∀ (δ : dp), AWD l D cy m_X1_goOnDown d 0 0 ei g 33 [(0, .ref a0)] [] δ (J_X1_goOnDown_33 N g a0 δ) := by
    intro  δ 
    unfold J_X1_goOnDown_33
    refine w_aload_n 0 0 (μ := m_X1_goOnDown) (pc := 33) dX1_goOnDown_33 rfl rfl ?_
    refine w_iconst (v := 1) (μ := m_X1_goOnDown) (pc := 34) dX1_goOnDown_34 (by decide) ?_
    refine w_putZ (μ := m_X1_goOnDown) (pc := 35) dX1_goOnDown_35 fl_X1_50 flw_1_15 ir_1_15 k0 (by decide) ?_
    refine w_bd (fun δ_2 e_3 => ?_)
    refine w_iconst (v := 0) (μ := m_X1_goOnDown) (pc := 38) dX1_goOnDown_38 (by decide) ?_
    exact w_iret (μ := m_X1_goOnDown) (pc := 39) dX1_goOnDown_39 rfl rfl
def J_X1_goOnDown_108 (N : Nat) (g : gp) (a0 : Nat) (x1v : Int32) (δ : dp) : Option (Int32 × dp) :=
  (D_X1_enterList N g a0 (q_I δ 1 8 a0) δ).bind fun r_10 => some (x1v, r_10)
set_option maxHeartbeats 4000000 in
set_option maxRecDepth 100000 in
theorem t_J_X1_goOnDown_108 {l : Launch} {D : va_G} {cy : Nat → ClassId} {N d : Nat} {g : gp} (wt : WT g) (hl : l.stackTraces = false) (hd : 3 ≤ d) {a0 : Nat} (k0 : q_K g a0 = 1) : ∀ (x1v : Int32) (δ : dp), AWD l D cy m_X1_goOnDown d 0 0 ei g 108 [(0, .ref a0), (1, .int x1v)] [] δ (J_X1_goOnDown_108 N g a0 x1v δ) := by
    intro x1v δ 
    unfold J_X1_goOnDown_108
    refine w_aload_n 0 0 (μ := m_X1_goOnDown) (pc := 108) dX1_goOnDown_108 rfl rfl ?_
    refine w_aload_n 0 0 (μ := m_X1_goOnDown) (pc := 109) dX1_goOnDown_109 rfl rfl ?_
    refine w_getI (μ := m_X1_goOnDown) (pc := 110) dX1_goOnDown_110 fl_X1_47 ir_1_8 k0 ?_
    refine w_callV (As := [.int (q_I δ 1 8 a0)]) (rest := []) (μ := m_X1_goOnDown) (pc := 113) dX1_goOnDown_113 cv_X1_125 rfl rfl k0 (by decide) rfl (Nat.le_of_ble_eq_true rfl) (d' := d - 1) (by omega) he_v (c_X1_enterList wt hl (d := d - 1) (by omega) k0) (fun r_10 => ?_)
    refine w_iload_n 1 1 (μ := m_X1_goOnDown) (pc := 116) dX1_goOnDown_116 rfl rfl ?_
    exact w_iret (μ := m_X1_goOnDown) (pc := 117) dX1_goOnDown_117 rfl rfl
def J_X1_goOnDown_80 (N : Nat) (g : gp) (a0 : Nat) (x1v : Int32) (δ : dp) : Option (Int32 × dp) :=
  (D_X1_valueAt N g a0 (q_I δ 1 11 a0) δ).bind fun r_8 => if ((q_I r_8.2 1 8 a0) >>> ((q_I r_8.2 1 7 a0) &&& 31)) ≤ (r_8.1 >>> ((q_I r_8.2 1 7 a0) &&& 31)) then (J_X1_goOnDown_108 N g a0 x1v r_8.2) else (bi (x1v + 1) fun x_11 => J_X1_goOnDown_108 N g a0 x_11 r_8.2)
set_option maxHeartbeats 4000000 in
set_option maxRecDepth 100000 in
theorem t_J_X1_goOnDown_80 {l : Launch} {D : va_G} {cy : Nat → ClassId} {N d : Nat} {g : gp} (wt : WT g) (hl : l.stackTraces = false) (hd : 3 ≤ d) {a0 : Nat} (k0 : q_K g a0 = 1) : ∀ (x1v : Int32) (δ : dp), AWD l D cy m_X1_goOnDown d 0 0 ei g 80 [(0, .ref a0), (1, .int x1v)] [] δ (J_X1_goOnDown_80 N g a0 x1v δ) := by
    intro x1v δ 
    unfold J_X1_goOnDown_80
    refine w_aload_n 0 0 (μ := m_X1_goOnDown) (pc := 80) dX1_goOnDown_80 rfl rfl ?_
    refine w_aload_n 0 0 (μ := m_X1_goOnDown) (pc := 81) dX1_goOnDown_81 rfl rfl ?_
    refine w_getI (μ := m_X1_goOnDown) (pc := 82) dX1_goOnDown_82 fl_X1_96 ir_1_11 k0 ?_
    refine w_callV (As := [.int (q_I δ 1 11 a0)]) (rest := []) (μ := m_X1_goOnDown) (pc := 85) dX1_goOnDown_85 cv_X1_76 rfl rfl k0 (by decide) rfl (Nat.le_of_ble_eq_true rfl) (d' := d - 1) (by omega) he_i (c_X1_valueAt wt hl (d := d - 1) (by omega) k0) (fun r_8 => ?_)
    refine w_aload_n 0 0 (μ := m_X1_goOnDown) (pc := 88) dX1_goOnDown_88 rfl rfl ?_
    refine w_getI (μ := m_X1_goOnDown) (pc := 89) dX1_goOnDown_89 fl_X1_89 ir_1_7 k0 ?_
    refine w_ishr (μ := m_X1_goOnDown) (pc := 92) dX1_goOnDown_92 ?_
    refine w_aload_n 0 0 (μ := m_X1_goOnDown) (pc := 93) dX1_goOnDown_93 rfl rfl ?_
    refine w_getI (μ := m_X1_goOnDown) (pc := 94) dX1_goOnDown_94 fl_X1_47 ir_1_8 k0 ?_
    refine w_aload_n 0 0 (μ := m_X1_goOnDown) (pc := 97) dX1_goOnDown_97 rfl rfl ?_
    refine w_getI (μ := m_X1_goOnDown) (pc := 98) dX1_goOnDown_98 fl_X1_89 ir_1_7 k0 ?_
    refine w_ishr (μ := m_X1_goOnDown) (pc := 101) dX1_goOnDown_101 ?_
    refine w_icmp_ge 108 (μ := m_X1_goOnDown) (pc := 102) dX1_goOnDown_102 (by decide) (fun c_9 => ?_) (fun c_9 => ?_)
    · exact t_J_X1_goOnDown_108 wt hl (by omega) k0 _ _
    · refine w_inb (fun x_11 e_12 => ?_)
      refine w_iinc 1 [(1, .int x_11), (0, .ref a0)] (μ := m_X1_goOnDown) (pc := 105) dX1_goOnDown_105 rfl (by rw [e_12]; rfl) (by decide) rfl ?_
      refine w_lv [1, 0] rfl ?_
      exact t_J_X1_goOnDown_108 wt hl (by omega) k0 _ _
def D_X1_goOnDown (N : Nat) (g : gp) (a0 : Nat) (δ : dp) : Option (Int32 × dp) :=
  if (q_I δ 1 10 a0) < (q_I δ 1 8 a0) then (J_X1_goOnDown_33 N g a0 δ) else (if (q_I δ 1 8 a0) ≤ (q_I δ 1 9 a0) then (J_X1_goOnDown_33 N g a0 δ) else (if (q_I δ 1 11 a0) < (q_I δ 1 12 a0) then ((D_X1_findRoom N g a0 (q_I δ 1 8 a0) δ).bind fun r_6 => if r_6.1 = 0 then (J_X1_goOnDown_80 N g a0 0 r_6.2) else ((D_X1_valueAt N g a0 (q_I r_6.2 1 13 a0) r_6.2).bind fun r_13 => if (q_I r_6.2 1 8 a0) ≤ r_13.1 then (J_X1_goOnDown_80 N g a0 1 r_13.2) else ((D_X1_enterRoom N g a0 (q_I r_13.2 1 8 a0) r_13.2).bind fun r_15 => some (1, r_15)))) else (J_X1_goOnDown_33 N g a0 δ)))
set_option maxHeartbeats 4000000 in
set_option maxRecDepth 100000 in
theorem c_X1_goOnDown {l : Launch} {D : va_G} {cy : Nat → ClassId} {N d : Nat} {g : gp} (wt : WT g) (hl : l.stackTraces = false) (hd : 3 ≤ d) {a0 : Nat} {δ : dp} (k0 : q_K g a0 = 1) : CalD l D cy m_X1_goOnDown d 0 0 ei g [.ref a0] δ (D_X1_goOnDown N g a0 δ) := by
  refine CalD.of (by decide +kernel) (Nat.le_of_ble_eq_true rfl) hl ?_
  unfold D_X1_goOnDown
  refine w_aload_n 0 0 (μ := m_X1_goOnDown) (pc := 0) dX1_goOnDown_0 rfl rfl ?_
  refine w_getI (μ := m_X1_goOnDown) (pc := 1) dX1_goOnDown_1 fl_X1_47 ir_1_8 k0 ?_
  refine w_aload_n 0 0 (μ := m_X1_goOnDown) (pc := 4) dX1_goOnDown_4 rfl rfl ?_
  refine w_getI (μ := m_X1_goOnDown) (pc := 5) dX1_goOnDown_5 fl_X1_83 ir_1_10 k0 ?_
  refine w_icmp_gt 33 (μ := m_X1_goOnDown) (pc := 8) dX1_goOnDown_8 (by decide) (fun c_1 => ?_) (fun c_1 => ?_)
  · exact t_J_X1_goOnDown_33 wt hl (by omega) k0 _
  · refine w_aload_n 0 0 (μ := m_X1_goOnDown) (pc := 11) dX1_goOnDown_11 rfl rfl ?_
    refine w_getI (μ := m_X1_goOnDown) (pc := 12) dX1_goOnDown_12 fl_X1_47 ir_1_8 k0 ?_
    refine w_aload_n 0 0 (μ := m_X1_goOnDown) (pc := 15) dX1_goOnDown_15 rfl rfl ?_
    refine w_getI (μ := m_X1_goOnDown) (pc := 16) dX1_goOnDown_16 fl_X1_80 ir_1_9 k0 ?_
    refine w_icmp_le 33 (μ := m_X1_goOnDown) (pc := 19) dX1_goOnDown_19 (by decide) (fun c_4 => ?_) (fun c_4 => ?_)
    · exact t_J_X1_goOnDown_33 wt hl (by omega) k0 _
    · refine w_aload_n 0 0 (μ := m_X1_goOnDown) (pc := 22) dX1_goOnDown_22 rfl rfl ?_
      refine w_getI (μ := m_X1_goOnDown) (pc := 23) dX1_goOnDown_23 fl_X1_96 ir_1_11 k0 ?_
      refine w_aload_n 0 0 (μ := m_X1_goOnDown) (pc := 26) dX1_goOnDown_26 rfl rfl ?_
      refine w_getI (μ := m_X1_goOnDown) (pc := 27) dX1_goOnDown_27 fl_X1_99 ir_1_12 k0 ?_
      refine w_icmp_lt 40 (μ := m_X1_goOnDown) (pc := 30) dX1_goOnDown_30 (by decide) (fun c_5 => ?_) (fun c_5 => ?_)
      · refine w_iconst (v := 0) (μ := m_X1_goOnDown) (pc := 40) dX1_goOnDown_40 (by decide) ?_
        refine w_istore_n [(1, .int 0), (0, .ref a0)] (μ := m_X1_goOnDown) (pc := 41) dX1_goOnDown_41 rfl (by decide) rfl ?_
        refine w_aload_n 1 0 (μ := m_X1_goOnDown) (pc := 42) dX1_goOnDown_42 rfl rfl ?_
        refine w_aload_n 1 0 (μ := m_X1_goOnDown) (pc := 43) dX1_goOnDown_43 rfl rfl ?_
        refine w_getI (μ := m_X1_goOnDown) (pc := 44) dX1_goOnDown_44 fl_X1_47 ir_1_8 k0 ?_
        refine w_callV (As := [.int (q_I δ 1 8 a0)]) (rest := []) (μ := m_X1_goOnDown) (pc := 47) dX1_goOnDown_47 cv_X1_117 rfl rfl k0 (by decide) rfl (Nat.le_of_ble_eq_true rfl) (d' := d - 1) (by omega) he_i (c_X1_findRoom wt hl (d := d - 1) (by omega) k0) (fun r_6 => ?_)
        refine w_if_eq 80 (μ := m_X1_goOnDown) (pc := 50) dX1_goOnDown_50 (by decide) (fun c_7 => ?_) (fun c_7 => ?_)
        · refine w_lv [1, 0] rfl ?_
          exact t_J_X1_goOnDown_80 wt hl (by omega) k0 _ _
        · refine w_iconst (v := 1) (μ := m_X1_goOnDown) (pc := 53) dX1_goOnDown_53 (by decide) ?_
          refine w_istore_n [(1, .int 1), (0, .ref a0)] (μ := m_X1_goOnDown) (pc := 54) dX1_goOnDown_54 rfl (by decide) rfl ?_
          refine w_aload_n 1 0 (μ := m_X1_goOnDown) (pc := 55) dX1_goOnDown_55 rfl rfl ?_
          refine w_getI (μ := m_X1_goOnDown) (pc := 56) dX1_goOnDown_56 fl_X1_47 ir_1_8 k0 ?_
          refine w_aload_n 1 0 (μ := m_X1_goOnDown) (pc := 59) dX1_goOnDown_59 rfl rfl ?_
          refine w_aload_n 1 0 (μ := m_X1_goOnDown) (pc := 60) dX1_goOnDown_60 rfl rfl ?_
          refine w_getI (μ := m_X1_goOnDown) (pc := 61) dX1_goOnDown_61 fl_X1_102 ir_1_13 k0 ?_
          refine w_callV (As := [.int (q_I r_6.2 1 13 a0)]) (rest := [.int (q_I r_6.2 1 8 a0)]) (μ := m_X1_goOnDown) (pc := 64) dX1_goOnDown_64 cv_X1_76 rfl rfl k0 (by decide) rfl (Nat.le_of_ble_eq_true rfl) (d' := d - 1) (by omega) he_i (c_X1_valueAt wt hl (d := d - 1) (by omega) k0) (fun r_13 => ?_)
          refine w_icmp_le 80 (μ := m_X1_goOnDown) (pc := 67) dX1_goOnDown_67 (by decide) (fun c_14 => ?_) (fun c_14 => ?_)
          · refine w_lv [1, 0] rfl ?_
            exact t_J_X1_goOnDown_80 wt hl (by omega) k0 _ _
          · refine w_aload_n 1 0 (μ := m_X1_goOnDown) (pc := 70) dX1_goOnDown_70 rfl rfl ?_
            refine w_aload_n 1 0 (μ := m_X1_goOnDown) (pc := 71) dX1_goOnDown_71 rfl rfl ?_
            refine w_getI (μ := m_X1_goOnDown) (pc := 72) dX1_goOnDown_72 fl_X1_47 ir_1_8 k0 ?_
            refine w_callV (As := [.int (q_I r_13.2 1 8 a0)]) (rest := []) (μ := m_X1_goOnDown) (pc := 75) dX1_goOnDown_75 cv_X1_121 rfl rfl k0 (by decide) rfl (Nat.le_of_ble_eq_true rfl) (d' := d - 1) (by omega) he_v (c_X1_enterRoom wt hl (d := d - 1) (by omega) k0) (fun r_15 => ?_)
            refine w_iload_n 0 1 (μ := m_X1_goOnDown) (pc := 78) dX1_goOnDown_78 rfl rfl ?_
            exact w_iret (μ := m_X1_goOnDown) (pc := 79) dX1_goOnDown_79 rfl rfl
      · exact t_J_X1_goOnDown_33 wt hl (by omega) k0 _
def J_X1_cellsOf_27 (N : Nat) (g : gp) (T : Nat → Int32 → Int32 → Int32 → Int32 → dp → Option (Int32 × dp)) (a0 : Nat) (x1 : Int32) (x2 : Int32) (x3 : Int32) (x4 : Int32) (xs0 : Int32) (δ : dp) : Option (Int32 × dp) :=
  some (xs0, δ)
set_option maxHeartbeats 4000000 in
set_option maxRecDepth 100000 in
theorem t_J_X1_cellsOf_27 {l : Launch} {D : va_G} {cy : Nat → ClassId} {N d : Nat} {g : gp} (wt : WT g) (hl : l.stackTraces = false) {T : Nat → Int32 → Int32 → Int32 → Int32 → dp → Option (Int32 × dp)} {dh : Nat} (hT : ∀ (a0 : Nat) (x1 : Int32) (x2 : Int32) (x3 : Int32) (x4 : Int32) (δ : dp), q_K g a0 = 1 → CalD l D cy m_X1_cellsOf dh 0 0 ei g [.ref a0, .int x1, .int x2, .int x3, .int x4] δ (T a0 x1 x2 x3 x4 δ)) (hh : dh + 1 ≤ d) (hd : 2 ≤ d) {a0 : Nat} {x1 : Int32} {x2 : Int32} {x3 : Int32} {x4 : Int32} (k0 : q_K g a0 = 1) : ∀ (xs0 : Int32) (δ : dp), AWD l D cy m_X1_cellsOf d 0 0 ei g 27 [] [.int xs0] δ (J_X1_cellsOf_27 N g T a0 x1 x2 x3 x4 xs0 δ) := by
    intro xs0 δ 
    unfold J_X1_cellsOf_27
    exact w_iret (μ := m_X1_cellsOf) (pc := 27) dX1_cellsOf_27 rfl rfl
def J_X1_cellsOf_17 (N : Nat) (g : gp) (T : Nat → Int32 → Int32 → Int32 → Int32 → dp → Option (Int32 × dp)) (a0 : Nat) (x1 : Int32) (x2 : Int32) (x3 : Int32) (x4 : Int32) (δ : dp) : Option (Int32 × dp) :=
  if x1 < x2 then (J_X1_cellsOf_27 N g T a0 x1 x2 x3 x4 1 δ) else (J_X1_cellsOf_27 N g T a0 x1 x2 x3 x4 0 δ)
set_option maxHeartbeats 4000000 in
set_option maxRecDepth 100000 in
theorem t_J_X1_cellsOf_17 {l : Launch} {D : va_G} {cy : Nat → ClassId} {N d : Nat} {g : gp} (wt : WT g) (hl : l.stackTraces = false) {T : Nat → Int32 → Int32 → Int32 → Int32 → dp → Option (Int32 × dp)} {dh : Nat} (hT : ∀ (a0 : Nat) (x1 : Int32) (x2 : Int32) (x3 : Int32) (x4 : Int32) (δ : dp), q_K g a0 = 1 → CalD l D cy m_X1_cellsOf dh 0 0 ei g [.ref a0, .int x1, .int x2, .int x3, .int x4] δ (T a0 x1 x2 x3 x4 δ)) (hh : dh + 1 ≤ d) (hd : 2 ≤ d) {a0 : Nat} {x1 : Int32} {x2 : Int32} {x3 : Int32} {x4 : Int32} (k0 : q_K g a0 = 1) : ∀ (δ : dp), AWD l D cy m_X1_cellsOf d 0 0 ei g 17 [(1, .int x1), (2, .int x2)] [] δ (J_X1_cellsOf_17 N g T a0 x1 x2 x3 x4 δ) := by
    intro  δ 
    unfold J_X1_cellsOf_17
    refine w_iload_n 0 1 (μ := m_X1_cellsOf) (pc := 17) dX1_cellsOf_17 rfl rfl ?_
    refine w_iload_n 1 2 (μ := m_X1_cellsOf) (pc := 18) dX1_cellsOf_18 rfl rfl ?_
    refine w_icmp_lt 26 (μ := m_X1_cellsOf) (pc := 19) dX1_cellsOf_19 (by decide) (fun c_2 => ?_) (fun c_2 => ?_)
    · refine w_iconst (v := 1) (μ := m_X1_cellsOf) (pc := 26) dX1_cellsOf_26 (by decide) ?_
      refine w_lv [] rfl ?_
      exact t_J_X1_cellsOf_27 wt hl hT (by omega) (by omega) k0 _ _
    · refine w_iconst (v := 0) (μ := m_X1_cellsOf) (pc := 22) dX1_cellsOf_22 (by decide) ?_
      refine w_goto 27 (μ := m_X1_cellsOf) (pc := 23) dX1_cellsOf_23 (by decide) ?_
      refine w_lv [] rfl ?_
      exact t_J_X1_cellsOf_27 wt hl hT (by omega) (by omega) k0 _ _
def J_X1_cellsOf_244 (N : Nat) (g : gp) (T : Nat → Int32 → Int32 → Int32 → Int32 → dp → Option (Int32 × dp)) (a0 : Nat) (x1 : Int32) (x2 : Int32) (x3 : Int32) (x4 : Int32) (kt163 : Int32 → Int32 → Int32 → Int32 → Int32 → dp → Option (Int32 × dp)) (x7v : Int32) (x8v : Int32) (x9v : Int32) (x10v : Int32) (x11v : Int32) (δ : dp) : Option (Int32 × dp) :=
  bi (x11v + 1) fun x_19 => kt163 x7v x8v x9v x10v x_19 δ
set_option maxHeartbeats 4000000 in
set_option maxRecDepth 100000 in
theorem t_J_X1_cellsOf_244 {l : Launch} {D : va_G} {cy : Nat → ClassId} {N d : Nat} {g : gp} (wt : WT g) (hl : l.stackTraces = false) {T : Nat → Int32 → Int32 → Int32 → Int32 → dp → Option (Int32 × dp)} {dh : Nat} (hT : ∀ (a0 : Nat) (x1 : Int32) (x2 : Int32) (x3 : Int32) (x4 : Int32) (δ : dp), q_K g a0 = 1 → CalD l D cy m_X1_cellsOf dh 0 0 ei g [.ref a0, .int x1, .int x2, .int x3, .int x4] δ (T a0 x1 x2 x3 x4 δ)) (hh : dh + 1 ≤ d) (hd : 2 ≤ d) {a0 : Nat} {x1 : Int32} {x2 : Int32} {x3 : Int32} {x4 : Int32} (k0 : q_K g a0 = 1) {kt163 : Int32 → Int32 → Int32 → Int32 → Int32 → dp → Option (Int32 × dp)} (hk163 : ∀ (x7v : Int32) (x8v : Int32) (x9v : Int32) (x10v : Int32) (x11v : Int32) (δ : dp), AWD l D cy m_X1_cellsOf d 0 0 ei g 163 [(0, .ref a0), (3, .int x3), (7, .int x7v), (8, .int x8v), (9, .int x9v), (10, .int x10v), (11, .int x11v)] [] δ (kt163 x7v x8v x9v x10v x11v δ)) : ∀ (x7v : Int32) (x8v : Int32) (x9v : Int32) (x10v : Int32) (x11v : Int32) (δ : dp), AWD l D cy m_X1_cellsOf d 0 0 ei g 244 [(0, .ref a0), (3, .int x3), (7, .int x7v), (8, .int x8v), (9, .int x9v), (10, .int x10v), (11, .int x11v)] [] δ (J_X1_cellsOf_244 N g T a0 x1 x2 x3 x4 kt163 x7v x8v x9v x10v x11v δ) := by
    intro x7v x8v x9v x10v x11v δ 
    unfold J_X1_cellsOf_244
    refine w_inb (fun x_19 e_20 => ?_)
    refine w_iinc 6 [(11, .int x_19), (0, .ref a0), (3, .int x3), (7, .int x7v), (8, .int x8v), (9, .int x9v), (10, .int x10v)] (μ := m_X1_cellsOf) (pc := 244) dX1_cellsOf_244 rfl (by rw [e_20]; rfl) (by decide) rfl ?_
    refine w_goto 163 (μ := m_X1_cellsOf) (pc := 247) dX1_cellsOf_247 (by decide) ?_
    refine w_lv [1, 2, 3, 4, 5, 6, 0] rfl ?_
    exact hk163 _ _ _ _ _ _
def J_X1_cellsOf_213 (N : Nat) (g : gp) (T : Nat → Int32 → Int32 → Int32 → Int32 → dp → Option (Int32 × dp)) (a0 : Nat) (x1 : Int32) (x2 : Int32) (x3 : Int32) (x4 : Int32) (kt163 : Int32 → Int32 → Int32 → Int32 → Int32 → dp → Option (Int32 × dp)) (xs0 : Int32) (x7v : Int32) (x8v : Int32) (x9v : Int32) (x10v : Int32) (x11v : Int32) (δ : dp) : Option (Int32 × dp) :=
  if xs0 = 0 then (J_X1_cellsOf_244 N g T a0 x1 x2 x3 x4 kt163 x7v x8v x9v x10v x11v δ) else ((T a0 x10v (x11v + 1) x3 x8v δ).bind fun r_21 => bi (x9v + r_21.1) fun x_22 => bi (x11v + 1) fun x_24 => J_X1_cellsOf_244 N g T a0 x1 x2 x3 x4 kt163 x7v x8v x_22 x_24 x11v r_21.2)
set_option maxHeartbeats 4000000 in
set_option maxRecDepth 100000 in
theorem t_J_X1_cellsOf_213 {l : Launch} {D : va_G} {cy : Nat → ClassId} {N d : Nat} {g : gp} (wt : WT g) (hl : l.stackTraces = false) {T : Nat → Int32 → Int32 → Int32 → Int32 → dp → Option (Int32 × dp)} {dh : Nat} (hT : ∀ (a0 : Nat) (x1 : Int32) (x2 : Int32) (x3 : Int32) (x4 : Int32) (δ : dp), q_K g a0 = 1 → CalD l D cy m_X1_cellsOf dh 0 0 ei g [.ref a0, .int x1, .int x2, .int x3, .int x4] δ (T a0 x1 x2 x3 x4 δ)) (hh : dh + 1 ≤ d) (hd : 2 ≤ d) {a0 : Nat} {x1 : Int32} {x2 : Int32} {x3 : Int32} {x4 : Int32} (k0 : q_K g a0 = 1) {kt163 : Int32 → Int32 → Int32 → Int32 → Int32 → dp → Option (Int32 × dp)} (hk163 : ∀ (x7v : Int32) (x8v : Int32) (x9v : Int32) (x10v : Int32) (x11v : Int32) (δ : dp), AWD l D cy m_X1_cellsOf d 0 0 ei g 163 [(0, .ref a0), (3, .int x3), (7, .int x7v), (8, .int x8v), (9, .int x9v), (10, .int x10v), (11, .int x11v)] [] δ (kt163 x7v x8v x9v x10v x11v δ)) : ∀ (xs0 : Int32) (x7v : Int32) (x8v : Int32) (x9v : Int32) (x10v : Int32) (x11v : Int32) (δ : dp), AWD l D cy m_X1_cellsOf d 0 0 ei g 213 [(0, .ref a0), (3, .int x3), (7, .int x7v), (8, .int x8v), (9, .int x9v), (10, .int x10v), (11, .int x11v)] [.int xs0] δ (J_X1_cellsOf_213 N g T a0 x1 x2 x3 x4 kt163 xs0 x7v x8v x9v x10v x11v δ) := by
    intro xs0 x7v x8v x9v x10v x11v δ 
    unfold J_X1_cellsOf_213
    refine w_istore [(12, .int xs0), (0, .ref a0), (3, .int x3), (7, .int x7v), (8, .int x8v), (9, .int x9v), (10, .int x10v), (11, .int x11v)] (μ := m_X1_cellsOf) (pc := 213) dX1_cellsOf_213 (by decide) rfl ?_
    refine w_iload 0 (μ := m_X1_cellsOf) (pc := 215) dX1_cellsOf_215 rfl ?_
    refine w_if_eq 244 (μ := m_X1_cellsOf) (pc := 217) dX1_cellsOf_217 (by decide) (fun c_18 => ?_) (fun c_18 => ?_)
    · refine w_lv [1, 2, 3, 4, 5, 6, 7] rfl ?_
      exact t_J_X1_cellsOf_244 wt hl hT (by omega) (by omega) k0 hk163 _ _ _ _ _ _
    · refine w_iload 5 (μ := m_X1_cellsOf) (pc := 220) dX1_cellsOf_220 rfl ?_
      refine w_aload_n 1 0 (μ := m_X1_cellsOf) (pc := 222) dX1_cellsOf_222 rfl rfl ?_
      refine w_iload 6 (μ := m_X1_cellsOf) (pc := 223) dX1_cellsOf_223 rfl ?_
      refine w_iload 7 (μ := m_X1_cellsOf) (pc := 225) dX1_cellsOf_225 rfl ?_
      refine w_iconst (v := 1) (μ := m_X1_cellsOf) (pc := 227) dX1_cellsOf_227 (by decide) ?_
      refine w_iadd (μ := m_X1_cellsOf) (pc := 228) dX1_cellsOf_228 ?_
      refine w_iload_n 2 3 (μ := m_X1_cellsOf) (pc := 229) dX1_cellsOf_229 rfl rfl ?_
      refine w_iload 4 (μ := m_X1_cellsOf) (pc := 230) dX1_cellsOf_230 rfl ?_
      refine w_callV (As := [.int x10v, .int (x11v + 1), .int x3, .int x8v]) (rest := [.int x9v]) (μ := m_X1_cellsOf) (pc := 232) dX1_cellsOf_232 cv_X1_128 rfl rfl k0 (by decide) rfl (Nat.le_of_ble_eq_true rfl) (d' := dh) (by omega) he_i (hT _ _ _ _ _ _ k0) (fun r_21 => ?_)
      refine w_iadd (μ := m_X1_cellsOf) (pc := 235) dX1_cellsOf_235 ?_
      refine w_bi (fun x_22 e_23 => ?_)
      refine w_istore [(9, .int x_22), (12, .int xs0), (0, .ref a0), (3, .int x3), (7, .int x7v), (8, .int x8v), (10, .int x10v), (11, .int x11v)] (μ := m_X1_cellsOf) (pc := 236) dX1_cellsOf_236 (by decide) rfl ?_
      refine w_iload 7 (μ := m_X1_cellsOf) (pc := 238) dX1_cellsOf_238 rfl ?_
      refine w_iconst (v := 1) (μ := m_X1_cellsOf) (pc := 240) dX1_cellsOf_240 (by decide) ?_
      refine w_iadd (μ := m_X1_cellsOf) (pc := 241) dX1_cellsOf_241 ?_
      refine w_bi (fun x_24 e_25 => ?_)
      refine w_istore [(10, .int x_24), (9, .int x_22), (12, .int xs0), (0, .ref a0), (3, .int x3), (7, .int x7v), (8, .int x8v), (11, .int x11v)] (μ := m_X1_cellsOf) (pc := 242) dX1_cellsOf_242 (by decide) rfl ?_
      refine w_lv [3, 4, 5, 6, 1, 0, 7] rfl ?_
      exact t_J_X1_cellsOf_244 wt hl hT (by omega) (by omega) k0 hk163 _ _ _ _ _ _
def J_X1_cellsOf_208 (N : Nat) (g : gp) (T : Nat → Int32 → Int32 → Int32 → Int32 → dp → Option (Int32 × dp)) (a0 : Nat) (x1 : Int32) (x2 : Int32) (x3 : Int32) (x4 : Int32) (kt163 : Int32 → Int32 → Int32 → Int32 → Int32 → dp → Option (Int32 × dp)) (x7v : Int32) (x8v : Int32) (x9v : Int32) (x10v : Int32) (x11v : Int32) (δ : dp) : Option (Int32 × dp) :=
  J_X1_cellsOf_213 N g T a0 x1 x2 x3 x4 kt163 1 x7v x8v x9v x10v x11v δ
set_option maxHeartbeats 4000000 in
set_option maxRecDepth 100000 in
theorem t_J_X1_cellsOf_208 {l : Launch} {D : va_G} {cy : Nat → ClassId} {N d : Nat} {g : gp} (wt : WT g) (hl : l.stackTraces = false) {T : Nat → Int32 → Int32 → Int32 → Int32 → dp → Option (Int32 × dp)} {dh : Nat} (hT : ∀ (a0 : Nat) (x1 : Int32) (x2 : Int32) (x3 : Int32) (x4 : Int32) (δ : dp), q_K g a0 = 1 → CalD l D cy m_X1_cellsOf dh 0 0 ei g [.ref a0, .int x1, .int x2, .int x3, .int x4] δ (T a0 x1 x2 x3 x4 δ)) (hh : dh + 1 ≤ d) (hd : 2 ≤ d) {a0 : Nat} {x1 : Int32} {x2 : Int32} {x3 : Int32} {x4 : Int32} (k0 : q_K g a0 = 1) {kt163 : Int32 → Int32 → Int32 → Int32 → Int32 → dp → Option (Int32 × dp)} (hk163 : ∀ (x7v : Int32) (x8v : Int32) (x9v : Int32) (x10v : Int32) (x11v : Int32) (δ : dp), AWD l D cy m_X1_cellsOf d 0 0 ei g 163 [(0, .ref a0), (3, .int x3), (7, .int x7v), (8, .int x8v), (9, .int x9v), (10, .int x10v), (11, .int x11v)] [] δ (kt163 x7v x8v x9v x10v x11v δ)) : ∀ (x7v : Int32) (x8v : Int32) (x9v : Int32) (x10v : Int32) (x11v : Int32) (δ : dp), AWD l D cy m_X1_cellsOf d 0 0 ei g 208 [(0, .ref a0), (3, .int x3), (7, .int x7v), (8, .int x8v), (9, .int x9v), (10, .int x10v), (11, .int x11v)] [] δ (J_X1_cellsOf_208 N g T a0 x1 x2 x3 x4 kt163 x7v x8v x9v x10v x11v δ) := by
    intro x7v x8v x9v x10v x11v δ 
    unfold J_X1_cellsOf_208
    refine w_iconst (v := 1) (μ := m_X1_cellsOf) (pc := 208) dX1_cellsOf_208 (by decide) ?_
    refine w_goto 213 (μ := m_X1_cellsOf) (pc := 209) dX1_cellsOf_209 (by decide) ?_
    exact t_J_X1_cellsOf_213 wt hl hT (by omega) (by omega) k0 hk163 _ _ _ _ _ _ _
def L_X1_cellsOf_163 (N : Nat) (g : gp) (T : Nat → Int32 → Int32 → Int32 → Int32 → dp → Option (Int32 × dp)) (a0 : Nat) (x1 : Int32) (x2 : Int32) (x3 : Int32) (x4 : Int32) : Nat → Int32 → Int32 → Int32 → Int32 → Int32 → dp → Option (Int32 × dp)
  | 0, _, _, _, _, _, _ => none
  | n + 1, x7v, x8v, x9v, x10v, x11v, δ => if x7v ≤ x11v then (some (x9v, δ)) else (if x7v ≤ (x11v + 1) then (J_X1_cellsOf_208 N g T a0 x1 x2 x3 x4 (L_X1_cellsOf_163 N g T a0 x1 x2 x3 x4 n) x7v x8v x9v x10v x11v δ) else ((q_O g 1 2 a0).bind fun b_26 => if x11v < 0 ∨ q_N g b_26 ≤ x11v.toNatClampNeg then none else (q_O g 1 2 a0).bind fun b_28 => if (x11v + 1) < 0 ∨ q_N g b_28 ≤ (x11v + 1).toNatClampNeg then none else if ((q_R δ b_26 x11v.toNatClampNeg) >>> ((x3 + x8v) &&& 31)) = ((q_R δ b_28 (x11v + 1).toNatClampNeg) >>> ((x3 + x8v) &&& 31)) then (J_X1_cellsOf_213 N g T a0 x1 x2 x3 x4 (L_X1_cellsOf_163 N g T a0 x1 x2 x3 x4 n) 0 x7v x8v x9v x10v x11v δ) else (J_X1_cellsOf_208 N g T a0 x1 x2 x3 x4 (L_X1_cellsOf_163 N g T a0 x1 x2 x3 x4 n) x7v x8v x9v x10v x11v δ)))
set_option maxHeartbeats 4000000 in
set_option maxRecDepth 100000 in
theorem t_L_X1_cellsOf_163 {l : Launch} {D : va_G} {cy : Nat → ClassId} {N d : Nat} {g : gp} (wt : WT g) (hl : l.stackTraces = false) {T : Nat → Int32 → Int32 → Int32 → Int32 → dp → Option (Int32 × dp)} {dh : Nat} (hT : ∀ (a0 : Nat) (x1 : Int32) (x2 : Int32) (x3 : Int32) (x4 : Int32) (δ : dp), q_K g a0 = 1 → CalD l D cy m_X1_cellsOf dh 0 0 ei g [.ref a0, .int x1, .int x2, .int x3, .int x4] δ (T a0 x1 x2 x3 x4 δ)) (hh : dh + 1 ≤ d) (hd : 2 ≤ d) {a0 : Nat} {x1 : Int32} {x2 : Int32} {x3 : Int32} {x4 : Int32} (k0 : q_K g a0 = 1) : ∀ (n : Nat) (x7v : Int32) (x8v : Int32) (x9v : Int32) (x10v : Int32) (x11v : Int32) (δ : dp), AWD l D cy m_X1_cellsOf d 0 0 ei g 163 [(0, .ref a0), (3, .int x3), (7, .int x7v), (8, .int x8v), (9, .int x9v), (10, .int x10v), (11, .int x11v)] [] δ (L_X1_cellsOf_163 N g T a0 x1 x2 x3 x4 n x7v x8v x9v x10v x11v δ) := by
  intro n
  induction n with
  | zero => intro x7v x8v x9v x10v x11v δ ; exact w_none
  | succ n ih =>
    intro x7v x8v x9v x10v x11v δ 
    unfold L_X1_cellsOf_163
    refine w_iload 6 (μ := m_X1_cellsOf) (pc := 163) dX1_cellsOf_163 rfl ?_
    refine w_iload 2 (μ := m_X1_cellsOf) (pc := 165) dX1_cellsOf_165 rfl ?_
    refine w_icmp_ge 250 (μ := m_X1_cellsOf) (pc := 167) dX1_cellsOf_167 (by decide) (fun c_16 => ?_) (fun c_16 => ?_)
    · refine w_iload 4 (μ := m_X1_cellsOf) (pc := 250) dX1_cellsOf_250 rfl ?_
      exact w_iret (μ := m_X1_cellsOf) (pc := 252) dX1_cellsOf_252 rfl rfl
    · refine w_iload 6 (μ := m_X1_cellsOf) (pc := 170) dX1_cellsOf_170 rfl ?_
      refine w_iconst (v := 1) (μ := m_X1_cellsOf) (pc := 172) dX1_cellsOf_172 (by decide) ?_
      refine w_iadd (μ := m_X1_cellsOf) (pc := 173) dX1_cellsOf_173 ?_
      refine w_iload 2 (μ := m_X1_cellsOf) (pc := 174) dX1_cellsOf_174 rfl ?_
      refine w_icmp_ge 208 (μ := m_X1_cellsOf) (pc := 176) dX1_cellsOf_176 (by decide) (fun c_17 => ?_) (fun c_17 => ?_)
      · exact t_J_X1_cellsOf_208 wt hl hT (by omega) (by omega) k0 ih _ _ _ _ _ _
      · refine w_aload_n 0 0 (μ := m_X1_cellsOf) (pc := 179) dX1_cellsOf_179 rfl rfl ?_
        refine w_getO (μ := m_X1_cellsOf) (pc := 180) dX1_cellsOf_180 fl_X1_25 ir_1_2 id_1_2 k0 (fun b_26 e_27 => ?_)
        refine w_iload 6 (μ := m_X1_cellsOf) (pc := 183) dX1_cellsOf_183 rfl ?_
        refine w_ald (μ := m_X1_cellsOf) (pc := 185) dX1_cellsOf_185 (wt_1_2 wt k0 e_27) ?_
        refine w_iload_n 1 3 (μ := m_X1_cellsOf) (pc := 186) dX1_cellsOf_186 rfl rfl ?_
        refine w_iload 3 (μ := m_X1_cellsOf) (pc := 187) dX1_cellsOf_187 rfl ?_
        refine w_iadd (μ := m_X1_cellsOf) (pc := 189) dX1_cellsOf_189 ?_
        refine w_ishr (μ := m_X1_cellsOf) (pc := 190) dX1_cellsOf_190 ?_
        refine w_aload_n 0 0 (μ := m_X1_cellsOf) (pc := 191) dX1_cellsOf_191 rfl rfl ?_
        refine w_getO (μ := m_X1_cellsOf) (pc := 192) dX1_cellsOf_192 fl_X1_25 ir_1_2 id_1_2 k0 (fun b_28 e_29 => ?_)
        refine w_iload 6 (μ := m_X1_cellsOf) (pc := 195) dX1_cellsOf_195 rfl ?_
        refine w_iconst (v := 1) (μ := m_X1_cellsOf) (pc := 197) dX1_cellsOf_197 (by decide) ?_
        refine w_iadd (μ := m_X1_cellsOf) (pc := 198) dX1_cellsOf_198 ?_
        refine w_ald (μ := m_X1_cellsOf) (pc := 199) dX1_cellsOf_199 (wt_1_2 wt k0 e_29) ?_
        refine w_iload_n 1 3 (μ := m_X1_cellsOf) (pc := 200) dX1_cellsOf_200 rfl rfl ?_
        refine w_iload 3 (μ := m_X1_cellsOf) (pc := 201) dX1_cellsOf_201 rfl ?_
        refine w_iadd (μ := m_X1_cellsOf) (pc := 203) dX1_cellsOf_203 ?_
        refine w_ishr (μ := m_X1_cellsOf) (pc := 204) dX1_cellsOf_204 ?_
        refine w_icmp_eq 212 (μ := m_X1_cellsOf) (pc := 205) dX1_cellsOf_205 (by decide) (fun c_30 => ?_) (fun c_30 => ?_)
        · refine w_iconst (v := 0) (μ := m_X1_cellsOf) (pc := 212) dX1_cellsOf_212 (by decide) ?_
          exact t_J_X1_cellsOf_213 wt hl hT (by omega) (by omega) k0 ih _ _ _ _ _ _ _
        · exact t_J_X1_cellsOf_208 wt hl hT (by omega) (by omega) k0 ih _ _ _ _ _ _
def J_X1_cellsOf_123 (N : Nat) (g : gp) (T : Nat → Int32 → Int32 → Int32 → Int32 → dp → Option (Int32 × dp)) (a0 : Nat) (x1 : Int32) (x2 : Int32) (x3 : Int32) (x4 : Int32) (x6v : Int32) (x7v : Int32) (δ : dp) : Option (Int32 × dp) :=
  (q_O g 1 0 a0).bind fun b_10 => (D_X5_lowerBits N g b_10 x4 δ).bind fun r_12 => (T a0 x6v x7v (x3 + r_12.1) (x4 - r_12.1) r_12.2).bind fun r_13 => bi (2 + r_13.1) fun x_14 => L_X1_cellsOf_163 N g T a0 x1 x2 x3 x4 N x7v r_12.1 x_14 x6v x6v r_13.2
set_option maxHeartbeats 4000000 in
set_option maxRecDepth 100000 in
theorem t_J_X1_cellsOf_123 {l : Launch} {D : va_G} {cy : Nat → ClassId} {N d : Nat} {g : gp} (wt : WT g) (hl : l.stackTraces = false) {T : Nat → Int32 → Int32 → Int32 → Int32 → dp → Option (Int32 × dp)} {dh : Nat} (hT : ∀ (a0 : Nat) (x1 : Int32) (x2 : Int32) (x3 : Int32) (x4 : Int32) (δ : dp), q_K g a0 = 1 → CalD l D cy m_X1_cellsOf dh 0 0 ei g [.ref a0, .int x1, .int x2, .int x3, .int x4] δ (T a0 x1 x2 x3 x4 δ)) (hh : dh + 1 ≤ d) (hd : 2 ≤ d) {a0 : Nat} {x1 : Int32} {x2 : Int32} {x3 : Int32} {x4 : Int32} (k0 : q_K g a0 = 1) : ∀ (x6v : Int32) (x7v : Int32) (δ : dp), AWD l D cy m_X1_cellsOf d 0 0 ei g 123 [(0, .ref a0), (3, .int x3), (4, .int x4), (6, .int x6v), (7, .int x7v)] [] δ (J_X1_cellsOf_123 N g T a0 x1 x2 x3 x4 x6v x7v δ) := by
    intro x6v x7v δ 
    unfold J_X1_cellsOf_123
    refine w_aload_n 0 0 (μ := m_X1_cellsOf) (pc := 123) dX1_cellsOf_123 rfl rfl ?_
    refine w_getO (μ := m_X1_cellsOf) (pc := 124) dX1_cellsOf_124 fl_X1_9 ir_1_0 id_1_0 k0 (fun b_10 e_11 => ?_)
    refine w_iload 2 (μ := m_X1_cellsOf) (pc := 127) dX1_cellsOf_127 rfl ?_
    refine w_callV (As := [.int x4]) (rest := []) (μ := m_X1_cellsOf) (pc := 129) dX1_cellsOf_129 cv_X1_86 rfl rfl (wt_1_0 wt k0 e_11) (by decide) rfl (Nat.le_of_ble_eq_true rfl) (d' := d - 1) (by omega) he_i (c_X5_lowerBits wt hl (d := d - 1) (by omega) (wt_1_0 wt k0 e_11)) (fun r_12 => ?_)
    refine w_istore [(8, .int r_12.1), (0, .ref a0), (3, .int x3), (4, .int x4), (6, .int x6v), (7, .int x7v)] (μ := m_X1_cellsOf) (pc := 132) dX1_cellsOf_132 (by decide) rfl ?_
    refine w_iconst (v := 2) (μ := m_X1_cellsOf) (pc := 134) dX1_cellsOf_134 (by decide) ?_
    refine w_aload_n 1 0 (μ := m_X1_cellsOf) (pc := 135) dX1_cellsOf_135 rfl rfl ?_
    refine w_iload 4 (μ := m_X1_cellsOf) (pc := 136) dX1_cellsOf_136 rfl ?_
    refine w_iload 5 (μ := m_X1_cellsOf) (pc := 138) dX1_cellsOf_138 rfl ?_
    refine w_iload_n 2 3 (μ := m_X1_cellsOf) (pc := 140) dX1_cellsOf_140 rfl rfl ?_
    refine w_iload 0 (μ := m_X1_cellsOf) (pc := 141) dX1_cellsOf_141 rfl ?_
    refine w_iadd (μ := m_X1_cellsOf) (pc := 143) dX1_cellsOf_143 ?_
    refine w_iload 3 (μ := m_X1_cellsOf) (pc := 144) dX1_cellsOf_144 rfl ?_
    refine w_iload 0 (μ := m_X1_cellsOf) (pc := 146) dX1_cellsOf_146 rfl ?_
    refine w_isub (μ := m_X1_cellsOf) (pc := 148) dX1_cellsOf_148 ?_
    refine w_callV (As := [.int x6v, .int x7v, .int (x3 + r_12.1), .int (x4 - r_12.1)]) (rest := [.int 2]) (μ := m_X1_cellsOf) (pc := 149) dX1_cellsOf_149 cv_X1_128 rfl rfl k0 (by decide) rfl (Nat.le_of_ble_eq_true rfl) (d' := dh) (by omega) he_i (hT _ _ _ _ _ _ k0) (fun r_13 => ?_)
    refine w_iadd (μ := m_X1_cellsOf) (pc := 152) dX1_cellsOf_152 ?_
    refine w_bi (fun x_14 e_15 => ?_)
    refine w_istore [(9, .int x_14), (8, .int r_12.1), (0, .ref a0), (3, .int x3), (4, .int x4), (6, .int x6v), (7, .int x7v)] (μ := m_X1_cellsOf) (pc := 153) dX1_cellsOf_153 (by decide) rfl ?_
    refine w_iload 5 (μ := m_X1_cellsOf) (pc := 155) dX1_cellsOf_155 rfl ?_
    refine w_istore [(10, .int x6v), (9, .int x_14), (8, .int r_12.1), (0, .ref a0), (3, .int x3), (4, .int x4), (6, .int x6v), (7, .int x7v)] (μ := m_X1_cellsOf) (pc := 157) dX1_cellsOf_157 (by decide) rfl ?_
    refine w_iload 6 (μ := m_X1_cellsOf) (pc := 159) dX1_cellsOf_159 rfl ?_
    refine w_istore [(11, .int x6v), (10, .int x6v), (9, .int x_14), (8, .int r_12.1), (0, .ref a0), (3, .int x3), (4, .int x4), (6, .int x6v), (7, .int x7v)] (μ := m_X1_cellsOf) (pc := 161) dX1_cellsOf_161 (by decide) rfl ?_
    refine w_lv [4, 5, 8, 3, 2, 1, 0] rfl ?_
    exact t_L_X1_cellsOf_163 wt hl hT (by omega) (by omega) k0 N _ _ _ _ _ _
def L_X1_cellsOf_80 (N : Nat) (g : gp) (T : Nat → Int32 → Int32 → Int32 → Int32 → dp → Option (Int32 × dp)) (a0 : Nat) (x1 : Int32) (x2 : Int32) (x3 : Int32) (x4 : Int32) : Nat → Int32 → Int32 → Int32 → dp → Option (Int32 × dp)
  | 0, _, _, _, _ => none
  | n + 1, x5v, x6v, x7v, δ => if x7v ≤ x6v then (J_X1_cellsOf_123 N g T a0 x1 x2 x3 x4 x6v x7v δ) else ((q_O g 1 2 a0).bind fun b_31 => if (x7v - 1) < 0 ∨ q_N g b_31 ≤ (x7v - 1).toNatClampNeg then none else (q_O g 1 2 a0).bind fun b_33 => if (x2 - 1) < 0 ∨ q_N g b_33 ≤ (x2 - 1).toNatClampNeg then none else if (((q_R δ b_31 (x7v - 1).toNatClampNeg) >>> (x3 &&& 31)) &&& x5v) = (((q_R δ b_33 (x2 - 1).toNatClampNeg) >>> (x3 &&& 31)) &&& x5v) then (bi (x7v + (-1)) fun x_36 => L_X1_cellsOf_80 N g T a0 x1 x2 x3 x4 n x5v x6v x_36 δ) else (J_X1_cellsOf_123 N g T a0 x1 x2 x3 x4 x6v x7v δ))
set_option maxHeartbeats 4000000 in
set_option maxRecDepth 100000 in
theorem t_L_X1_cellsOf_80 {l : Launch} {D : va_G} {cy : Nat → ClassId} {N d : Nat} {g : gp} (wt : WT g) (hl : l.stackTraces = false) {T : Nat → Int32 → Int32 → Int32 → Int32 → dp → Option (Int32 × dp)} {dh : Nat} (hT : ∀ (a0 : Nat) (x1 : Int32) (x2 : Int32) (x3 : Int32) (x4 : Int32) (δ : dp), q_K g a0 = 1 → CalD l D cy m_X1_cellsOf dh 0 0 ei g [.ref a0, .int x1, .int x2, .int x3, .int x4] δ (T a0 x1 x2 x3 x4 δ)) (hh : dh + 1 ≤ d) (hd : 2 ≤ d) {a0 : Nat} {x1 : Int32} {x2 : Int32} {x3 : Int32} {x4 : Int32} (k0 : q_K g a0 = 1) : ∀ (n : Nat) (x5v : Int32) (x6v : Int32) (x7v : Int32) (δ : dp), AWD l D cy m_X1_cellsOf d 0 0 ei g 80 [(0, .ref a0), (2, .int x2), (3, .int x3), (4, .int x4), (5, .int x5v), (6, .int x6v), (7, .int x7v)] [] δ (L_X1_cellsOf_80 N g T a0 x1 x2 x3 x4 n x5v x6v x7v δ) := by
  intro n
  induction n with
  | zero => intro x5v x6v x7v δ ; exact w_none
  | succ n ih =>
    intro x5v x6v x7v δ 
    unfold L_X1_cellsOf_80
    refine w_iload 6 (μ := m_X1_cellsOf) (pc := 80) dX1_cellsOf_80 rfl ?_
    refine w_iload 5 (μ := m_X1_cellsOf) (pc := 82) dX1_cellsOf_82 rfl ?_
    refine w_icmp_le 123 (μ := m_X1_cellsOf) (pc := 84) dX1_cellsOf_84 (by decide) (fun c_9 => ?_) (fun c_9 => ?_)
    · refine w_lv [0, 2, 3, 5, 6] rfl ?_
      exact t_J_X1_cellsOf_123 wt hl hT (by omega) (by omega) k0 _ _ _
    · refine w_aload_n 0 0 (μ := m_X1_cellsOf) (pc := 87) dX1_cellsOf_87 rfl rfl ?_
      refine w_getO (μ := m_X1_cellsOf) (pc := 88) dX1_cellsOf_88 fl_X1_25 ir_1_2 id_1_2 k0 (fun b_31 e_32 => ?_)
      refine w_iload 6 (μ := m_X1_cellsOf) (pc := 91) dX1_cellsOf_91 rfl ?_
      refine w_iconst (v := 1) (μ := m_X1_cellsOf) (pc := 93) dX1_cellsOf_93 (by decide) ?_
      refine w_isub (μ := m_X1_cellsOf) (pc := 94) dX1_cellsOf_94 ?_
      refine w_ald (μ := m_X1_cellsOf) (pc := 95) dX1_cellsOf_95 (wt_1_2 wt k0 e_32) ?_
      refine w_iload_n 2 3 (μ := m_X1_cellsOf) (pc := 96) dX1_cellsOf_96 rfl rfl ?_
      refine w_ishr (μ := m_X1_cellsOf) (pc := 97) dX1_cellsOf_97 ?_
      refine w_iload 4 (μ := m_X1_cellsOf) (pc := 98) dX1_cellsOf_98 rfl ?_
      refine w_iand (μ := m_X1_cellsOf) (pc := 100) dX1_cellsOf_100 ?_
      refine w_aload_n 0 0 (μ := m_X1_cellsOf) (pc := 101) dX1_cellsOf_101 rfl rfl ?_
      refine w_getO (μ := m_X1_cellsOf) (pc := 102) dX1_cellsOf_102 fl_X1_25 ir_1_2 id_1_2 k0 (fun b_33 e_34 => ?_)
      refine w_iload_n 1 2 (μ := m_X1_cellsOf) (pc := 105) dX1_cellsOf_105 rfl rfl ?_
      refine w_iconst (v := 1) (μ := m_X1_cellsOf) (pc := 106) dX1_cellsOf_106 (by decide) ?_
      refine w_isub (μ := m_X1_cellsOf) (pc := 107) dX1_cellsOf_107 ?_
      refine w_ald (μ := m_X1_cellsOf) (pc := 108) dX1_cellsOf_108 (wt_1_2 wt k0 e_34) ?_
      refine w_iload_n 2 3 (μ := m_X1_cellsOf) (pc := 109) dX1_cellsOf_109 rfl rfl ?_
      refine w_ishr (μ := m_X1_cellsOf) (pc := 110) dX1_cellsOf_110 ?_
      refine w_iload 4 (μ := m_X1_cellsOf) (pc := 111) dX1_cellsOf_111 rfl ?_
      refine w_iand (μ := m_X1_cellsOf) (pc := 113) dX1_cellsOf_113 ?_
      refine w_icmp_ne 123 (μ := m_X1_cellsOf) (pc := 114) dX1_cellsOf_114 (by decide) (fun c_35 => ?_) (fun c_35 => ?_)
      · refine w_lv [0, 2, 3, 5, 6] rfl ?_
        exact t_J_X1_cellsOf_123 wt hl hT (by omega) (by omega) k0 _ _ _
      · refine w_inb (fun x_36 e_37 => ?_)
        refine w_iinc 6 [(7, .int x_36), (0, .ref a0), (2, .int x2), (3, .int x3), (4, .int x4), (5, .int x5v), (6, .int x6v)] (μ := m_X1_cellsOf) (pc := 117) dX1_cellsOf_117 rfl (by rw [e_37]; rfl) (by decide) rfl ?_
        refine w_goto 80 (μ := m_X1_cellsOf) (pc := 120) dX1_cellsOf_120 (by decide) ?_
        refine w_lv [1, 2, 3, 4, 5, 6, 0] rfl ?_
        exact ih _ _ _ _
def J_X1_cellsOf_77 (N : Nat) (g : gp) (T : Nat → Int32 → Int32 → Int32 → Int32 → dp → Option (Int32 × dp)) (a0 : Nat) (x1 : Int32) (x2 : Int32) (x3 : Int32) (x4 : Int32) (x5v : Int32) (x6v : Int32) (δ : dp) : Option (Int32 × dp) :=
  L_X1_cellsOf_80 N g T a0 x1 x2 x3 x4 N x5v x6v x2 δ
set_option maxHeartbeats 4000000 in
set_option maxRecDepth 100000 in
theorem t_J_X1_cellsOf_77 {l : Launch} {D : va_G} {cy : Nat → ClassId} {N d : Nat} {g : gp} (wt : WT g) (hl : l.stackTraces = false) {T : Nat → Int32 → Int32 → Int32 → Int32 → dp → Option (Int32 × dp)} {dh : Nat} (hT : ∀ (a0 : Nat) (x1 : Int32) (x2 : Int32) (x3 : Int32) (x4 : Int32) (δ : dp), q_K g a0 = 1 → CalD l D cy m_X1_cellsOf dh 0 0 ei g [.ref a0, .int x1, .int x2, .int x3, .int x4] δ (T a0 x1 x2 x3 x4 δ)) (hh : dh + 1 ≤ d) (hd : 2 ≤ d) {a0 : Nat} {x1 : Int32} {x2 : Int32} {x3 : Int32} {x4 : Int32} (k0 : q_K g a0 = 1) : ∀ (x5v : Int32) (x6v : Int32) (δ : dp), AWD l D cy m_X1_cellsOf d 0 0 ei g 77 [(0, .ref a0), (2, .int x2), (3, .int x3), (4, .int x4), (5, .int x5v), (6, .int x6v)] [] δ (J_X1_cellsOf_77 N g T a0 x1 x2 x3 x4 x5v x6v δ) := by
    intro x5v x6v δ 
    unfold J_X1_cellsOf_77
    refine w_iload_n 1 2 (μ := m_X1_cellsOf) (pc := 77) dX1_cellsOf_77 rfl rfl ?_
    refine w_istore [(7, .int x2), (0, .ref a0), (2, .int x2), (3, .int x3), (4, .int x4), (5, .int x5v), (6, .int x6v)] (μ := m_X1_cellsOf) (pc := 78) dX1_cellsOf_78 (by decide) rfl ?_
    refine w_lv [1, 2, 3, 4, 5, 6, 0] rfl ?_
    exact t_L_X1_cellsOf_80 wt hl hT (by omega) (by omega) k0 N _ _ _ _
def L_X1_cellsOf_39 (N : Nat) (g : gp) (T : Nat → Int32 → Int32 → Int32 → Int32 → dp → Option (Int32 × dp)) (a0 : Nat) (x1 : Int32) (x2 : Int32) (x3 : Int32) (x4 : Int32) : Nat → Int32 → Int32 → dp → Option (Int32 × dp)
  | 0, _, _, _ => none
  | n + 1, x5v, x6v, δ => if x2 ≤ x6v then (J_X1_cellsOf_77 N g T a0 x1 x2 x3 x4 x5v x6v δ) else ((q_O g 1 2 a0).bind fun b_38 => if x6v < 0 ∨ q_N g b_38 ≤ x6v.toNatClampNeg then none else (q_O g 1 2 a0).bind fun b_40 => if x1 < 0 ∨ q_N g b_40 ≤ x1.toNatClampNeg then none else if (((q_R δ b_38 x6v.toNatClampNeg) >>> (x3 &&& 31)) &&& x5v) = (((q_R δ b_40 x1.toNatClampNeg) >>> (x3 &&& 31)) &&& x5v) then (bi (x6v + 1) fun x_43 => L_X1_cellsOf_39 N g T a0 x1 x2 x3 x4 n x5v x_43 δ) else (J_X1_cellsOf_77 N g T a0 x1 x2 x3 x4 x5v x6v δ))
set_option maxHeartbeats 4000000 in
set_option maxRecDepth 100000 in
theorem t_L_X1_cellsOf_39 {l : Launch} {D : va_G} {cy : Nat → ClassId} {N d : Nat} {g : gp} (wt : WT g) (hl : l.stackTraces = false) {T : Nat → Int32 → Int32 → Int32 → Int32 → dp → Option (Int32 × dp)} {dh : Nat} (hT : ∀ (a0 : Nat) (x1 : Int32) (x2 : Int32) (x3 : Int32) (x4 : Int32) (δ : dp), q_K g a0 = 1 → CalD l D cy m_X1_cellsOf dh 0 0 ei g [.ref a0, .int x1, .int x2, .int x3, .int x4] δ (T a0 x1 x2 x3 x4 δ)) (hh : dh + 1 ≤ d) (hd : 2 ≤ d) {a0 : Nat} {x1 : Int32} {x2 : Int32} {x3 : Int32} {x4 : Int32} (k0 : q_K g a0 = 1) : ∀ (n : Nat) (x5v : Int32) (x6v : Int32) (δ : dp), AWD l D cy m_X1_cellsOf d 0 0 ei g 39 [(0, .ref a0), (1, .int x1), (2, .int x2), (3, .int x3), (4, .int x4), (5, .int x5v), (6, .int x6v)] [] δ (L_X1_cellsOf_39 N g T a0 x1 x2 x3 x4 n x5v x6v δ) := by
  intro n
  induction n with
  | zero => intro x5v x6v δ ; exact w_none
  | succ n ih =>
    intro x5v x6v δ 
    unfold L_X1_cellsOf_39
    refine w_iload 6 (μ := m_X1_cellsOf) (pc := 39) dX1_cellsOf_39 rfl ?_
    refine w_iload_n 2 2 (μ := m_X1_cellsOf) (pc := 41) dX1_cellsOf_41 rfl rfl ?_
    refine w_icmp_ge 77 (μ := m_X1_cellsOf) (pc := 42) dX1_cellsOf_42 (by decide) (fun c_8 => ?_) (fun c_8 => ?_)
    · refine w_lv [0, 2, 3, 4, 5, 6] rfl ?_
      exact t_J_X1_cellsOf_77 wt hl hT (by omega) (by omega) k0 _ _ _
    · refine w_aload_n 0 0 (μ := m_X1_cellsOf) (pc := 45) dX1_cellsOf_45 rfl rfl ?_
      refine w_getO (μ := m_X1_cellsOf) (pc := 46) dX1_cellsOf_46 fl_X1_25 ir_1_2 id_1_2 k0 (fun b_38 e_39 => ?_)
      refine w_iload 6 (μ := m_X1_cellsOf) (pc := 49) dX1_cellsOf_49 rfl ?_
      refine w_ald (μ := m_X1_cellsOf) (pc := 51) dX1_cellsOf_51 (wt_1_2 wt k0 e_39) ?_
      refine w_iload_n 3 3 (μ := m_X1_cellsOf) (pc := 52) dX1_cellsOf_52 rfl rfl ?_
      refine w_ishr (μ := m_X1_cellsOf) (pc := 53) dX1_cellsOf_53 ?_
      refine w_iload 5 (μ := m_X1_cellsOf) (pc := 54) dX1_cellsOf_54 rfl ?_
      refine w_iand (μ := m_X1_cellsOf) (pc := 56) dX1_cellsOf_56 ?_
      refine w_aload_n 0 0 (μ := m_X1_cellsOf) (pc := 57) dX1_cellsOf_57 rfl rfl ?_
      refine w_getO (μ := m_X1_cellsOf) (pc := 58) dX1_cellsOf_58 fl_X1_25 ir_1_2 id_1_2 k0 (fun b_40 e_41 => ?_)
      refine w_iload_n 1 1 (μ := m_X1_cellsOf) (pc := 61) dX1_cellsOf_61 rfl rfl ?_
      refine w_ald (μ := m_X1_cellsOf) (pc := 62) dX1_cellsOf_62 (wt_1_2 wt k0 e_41) ?_
      refine w_iload_n 3 3 (μ := m_X1_cellsOf) (pc := 63) dX1_cellsOf_63 rfl rfl ?_
      refine w_ishr (μ := m_X1_cellsOf) (pc := 64) dX1_cellsOf_64 ?_
      refine w_iload 5 (μ := m_X1_cellsOf) (pc := 65) dX1_cellsOf_65 rfl ?_
      refine w_iand (μ := m_X1_cellsOf) (pc := 67) dX1_cellsOf_67 ?_
      refine w_icmp_ne 77 (μ := m_X1_cellsOf) (pc := 68) dX1_cellsOf_68 (by decide) (fun c_42 => ?_) (fun c_42 => ?_)
      · refine w_lv [0, 2, 3, 4, 5, 6] rfl ?_
        exact t_J_X1_cellsOf_77 wt hl hT (by omega) (by omega) k0 _ _ _
      · refine w_inb (fun x_43 e_44 => ?_)
        refine w_iinc 6 [(6, .int x_43), (0, .ref a0), (1, .int x1), (2, .int x2), (3, .int x3), (4, .int x4), (5, .int x5v)] (μ := m_X1_cellsOf) (pc := 71) dX1_cellsOf_71 rfl (by rw [e_44]; rfl) (by decide) rfl ?_
        refine w_goto 39 (μ := m_X1_cellsOf) (pc := 74) dX1_cellsOf_74 (by decide) ?_
        refine w_lv [1, 2, 3, 4, 5, 6, 0] rfl ?_
        exact ih _ _ _
def B_X1_cellsOf (N : Nat) (g : gp) (T : Nat → Int32 → Int32 → Int32 → Int32 → dp → Option (Int32 × dp)) (a0 : Nat) (x1 : Int32) (x2 : Int32) (x3 : Int32) (x4 : Int32) (δ : dp) : Option (Int32 × dp) :=
  if x2 ≤ x1 then (J_X1_cellsOf_17 N g T a0 x1 x2 x3 x4 δ) else ((q_O g 1 0 a0).bind fun b_3 => if (q_I δ 5 2 b_3) < x4 then (bi ((1 <<< (x4 &&& 31)) - 1) fun x_6 => L_X1_cellsOf_39 N g T a0 x1 x2 x3 x4 N x_6 x1 δ) else (J_X1_cellsOf_17 N g T a0 x1 x2 x3 x4 δ))
set_option maxHeartbeats 4000000 in
set_option maxRecDepth 100000 in
theorem c_b_X1_cellsOf {l : Launch} {D : va_G} {cy : Nat → ClassId} {N d : Nat} {g : gp} (wt : WT g) (hl : l.stackTraces = false) {T : Nat → Int32 → Int32 → Int32 → Int32 → dp → Option (Int32 × dp)} {dh : Nat} (hT : ∀ (a0 : Nat) (x1 : Int32) (x2 : Int32) (x3 : Int32) (x4 : Int32) (δ : dp), q_K g a0 = 1 → CalD l D cy m_X1_cellsOf dh 0 0 ei g [.ref a0, .int x1, .int x2, .int x3, .int x4] δ (T a0 x1 x2 x3 x4 δ)) (hh : dh + 1 ≤ d) (hd : 2 ≤ d) {a0 : Nat} {x1 : Int32} {x2 : Int32} {x3 : Int32} {x4 : Int32} {δ : dp} (k0 : q_K g a0 = 1) : CalD l D cy m_X1_cellsOf d 0 0 ei g [.ref a0, .int x1, .int x2, .int x3, .int x4] δ (B_X1_cellsOf N g T a0 x1 x2 x3 x4 δ) := by
  refine CalD.of (by decide +kernel) (Nat.le_of_ble_eq_true rfl) hl ?_
  unfold B_X1_cellsOf
  refine w_iload_n 1 1 (μ := m_X1_cellsOf) (pc := 0) dX1_cellsOf_0 rfl rfl ?_
  refine w_iload_n 2 2 (μ := m_X1_cellsOf) (pc := 1) dX1_cellsOf_1 rfl rfl ?_
  refine w_icmp_ge 17 (μ := m_X1_cellsOf) (pc := 2) dX1_cellsOf_2 (by decide) (fun c_1 => ?_) (fun c_1 => ?_)
  · refine w_lv [1, 2] rfl ?_
    exact t_J_X1_cellsOf_17 wt hl hT (by omega) (by omega) k0 _
  · refine w_iload 4 (μ := m_X1_cellsOf) (pc := 5) dX1_cellsOf_5 rfl ?_
    refine w_aload_n 0 0 (μ := m_X1_cellsOf) (pc := 7) dX1_cellsOf_7 rfl rfl ?_
    refine w_getO (μ := m_X1_cellsOf) (pc := 8) dX1_cellsOf_8 fl_X1_9 ir_1_0 id_1_0 k0 (fun b_3 e_4 => ?_)
    refine w_getI (μ := m_X1_cellsOf) (pc := 11) dX1_cellsOf_11 fl_X1_73 ir_5_2 (wt_1_0 wt k0 e_4) ?_
    refine w_icmp_gt 28 (μ := m_X1_cellsOf) (pc := 14) dX1_cellsOf_14 (by decide) (fun c_5 => ?_) (fun c_5 => ?_)
    · refine w_iconst (v := 1) (μ := m_X1_cellsOf) (pc := 28) dX1_cellsOf_28 (by decide) ?_
      refine w_iload 4 (μ := m_X1_cellsOf) (pc := 29) dX1_cellsOf_29 rfl ?_
      refine w_ishl (μ := m_X1_cellsOf) (pc := 31) dX1_cellsOf_31 ?_
      refine w_iconst (v := 1) (μ := m_X1_cellsOf) (pc := 32) dX1_cellsOf_32 (by decide) ?_
      refine w_isub (μ := m_X1_cellsOf) (pc := 33) dX1_cellsOf_33 ?_
      refine w_bi (fun x_6 e_7 => ?_)
      refine w_istore [(5, .int x_6), (0, .ref a0), (1, .int x1), (2, .int x2), (3, .int x3), (4, .int x4)] (μ := m_X1_cellsOf) (pc := 34) dX1_cellsOf_34 (by decide) rfl ?_
      refine w_iload_n 2 1 (μ := m_X1_cellsOf) (pc := 36) dX1_cellsOf_36 rfl rfl ?_
      refine w_istore [(6, .int x1), (5, .int x_6), (0, .ref a0), (1, .int x1), (2, .int x2), (3, .int x3), (4, .int x4)] (μ := m_X1_cellsOf) (pc := 37) dX1_cellsOf_37 (by decide) rfl ?_
      refine w_lv [2, 3, 4, 5, 6, 1, 0] rfl ?_
      exact t_L_X1_cellsOf_39 wt hl hT (by omega) (by omega) k0 N _ _ _
    · refine w_lv [1, 2] rfl ?_
      exact t_J_X1_cellsOf_17 wt hl hT (by omega) (by omega) k0 _
def E_X1_cellsOf (N : Nat) (g : gp) : Nat → Nat → Int32 → Int32 → Int32 → Int32 → dp → Option (Int32 × dp)
  | 0, _, _, _, _, _, _ => none
  | k + 1, a0, x1, x2, x3, x4, δ => B_X1_cellsOf N g (E_X1_cellsOf N g k) a0 x1 x2 x3 x4 δ
theorem e_X1_cellsOf {l : Launch} {D : va_G} {cy : Nat → ClassId} {N : Nat} {g : gp} (wt : WT g) (hl : l.stackTraces = false) : ∀ (k d : Nat), 2 + 1 * k ≤ d → ∀ (a0 : Nat) (x1 : Int32) (x2 : Int32) (x3 : Int32) (x4 : Int32) (δ : dp), q_K g a0 = 1 → CalD l D cy m_X1_cellsOf d 0 0 ei g [.ref a0, .int x1, .int x2, .int x3, .int x4] δ (E_X1_cellsOf N g k a0 x1 x2 x3 x4 δ) := by
  intro k
  induction k with
  | zero => intro d _ a0 x1 x2 x3 x4 δ k0 r hr; cases hr
  | succ k ih =>
    intro d hd a0 x1 x2 x3 x4 δ k0
    unfold E_X1_cellsOf
    exact c_b_X1_cellsOf wt hl (ih (2 + 1 * k) (Nat.le_refl _)) (by omega) (by omega) k0
def D_X1_cellsOf (N : Nat) (g : gp) (a0 : Nat) (x1 : Int32) (x2 : Int32) (x3 : Int32) (x4 : Int32) (δ : dp) : Option (Int32 × dp) := E_X1_cellsOf N g 20 a0 x1 x2 x3 x4 δ
theorem c_X1_cellsOf {l : Launch} {D : va_G} {cy : Nat → ClassId} {N d : Nat} {g : gp} (wt : WT g) (hl : l.stackTraces = false) (hd : 22 ≤ d) {a0 : Nat} {x1 : Int32} {x2 : Int32} {x3 : Int32} {x4 : Int32} {δ : dp} (k0 : q_K g a0 = 1) : CalD l D cy m_X1_cellsOf d 0 0 ei g [.ref a0, .int x1, .int x2, .int x3, .int x4] δ (D_X1_cellsOf N g a0 x1 x2 x3 x4 δ) := e_X1_cellsOf wt hl 20 d (by omega) _ _ _ _ _ _ k0
def J_X1_look_154 (N : Nat) (g : gp) (a0 : Nat) (δ : dp) : Option (dp) :=
  some δ
set_option maxHeartbeats 4000000 in
set_option maxRecDepth 100000 in
theorem t_J_X1_look_154 {l : Launch} {D : va_G} {cy : Nat → ClassId} {N d : Nat} {g : gp} (wt : WT g) (hl : l.stackTraces = false) (hd : 2 ≤ d) {a0 : Nat} (k0 : q_K g a0 = 1) : ∀ (δ : dp), AWD l D cy m_X1_look d 0 0 ev g 154 [] [] δ (J_X1_look_154 N g a0 δ) := by
    intro  δ 
    unfold J_X1_look_154
    exact w_vret (μ := m_X1_look) (pc := 154) dX1_look_154 rfl rfl
def J_X1_look_85 (N : Nat) (g : gp) (a0 : Nat) (xs0 : Int32) (as1 : Nat) (δ : dp) : Option (dp) :=
  if xs0 = 0 ∨ xs0 = 1 then bd (s_I δ 1 15 as1 xs0) fun δ_14 => if (q_I δ_14 1 15 a0) = 0 then ((q_O g 1 0 a0).bind fun b_17 => (D_X5_lowerBits N g b_17 (q_I δ_14 1 6 a0) δ_14).bind fun r_19 => bd (s_I r_19.2 1 7 a0 r_19.1) fun δ_20 => (D_X1_firstFrom N g a0 ((q_I δ_20 1 3 a0) + 1) (q_I δ_20 1 4 a0) ((q_I δ_20 1 9 a0) + 1) δ_20).bind fun r_22 => bd (s_I r_22.2 1 11 a0 r_22.1) fun δ_23 => (D_X1_firstFrom N g a0 (q_I δ_23 1 11 a0) (q_I δ_23 1 4 a0) (q_I δ_23 1 10 a0) δ_23).bind fun r_25 => bd (s_I r_25.2 1 12 a0 r_25.1) fun δ_26 => J_X1_look_154 N g a0 δ_26) else (J_X1_look_154 N g a0 δ_14) else none
set_option maxHeartbeats 4000000 in
set_option maxRecDepth 100000 in
theorem t_J_X1_look_85 {l : Launch} {D : va_G} {cy : Nat → ClassId} {N d : Nat} {g : gp} (wt : WT g) (hl : l.stackTraces = false) (hd : 2 ≤ d) {a0 : Nat} (k0 : q_K g a0 = 1) : ∀ (xs0 : Int32) (as1 : Nat) (δ : dp), q_K g as1 = 1 → AWD l D cy m_X1_look d 0 0 ev g 85 [(0, .ref a0)] [.int xs0, .ref as1] δ (J_X1_look_85 N g a0 xs0 as1 δ) := by
    intro xs0 as1 δ has1
    unfold J_X1_look_85
    refine w_gd (fun z_28 => ?_)
    refine w_putZ (μ := m_X1_look) (pc := 85) dX1_look_85 fl_X1_50 flw_1_15 ir_1_15 has1 z_28 ?_
    refine w_bd (fun δ_14 e_15 => ?_)
    refine w_aload_n 0 0 (μ := m_X1_look) (pc := 88) dX1_look_88 rfl rfl ?_
    refine w_getI (μ := m_X1_look) (pc := 89) dX1_look_89 fl_X1_50 ir_1_15 k0 ?_
    refine w_if_ne 154 (μ := m_X1_look) (pc := 92) dX1_look_92 (by decide) (fun c_16 => ?_) (fun c_16 => ?_)
    · refine w_lv [] rfl ?_
      exact t_J_X1_look_154 wt hl (by omega) k0 _
    · refine w_aload_n 0 0 (μ := m_X1_look) (pc := 95) dX1_look_95 rfl rfl ?_
      refine w_aload_n 0 0 (μ := m_X1_look) (pc := 96) dX1_look_96 rfl rfl ?_
      refine w_getO (μ := m_X1_look) (pc := 97) dX1_look_97 fl_X1_9 ir_1_0 id_1_0 k0 (fun b_17 e_18 => ?_)
      refine w_aload_n 0 0 (μ := m_X1_look) (pc := 100) dX1_look_100 rfl rfl ?_
      refine w_getI (μ := m_X1_look) (pc := 101) dX1_look_101 fl_X1_44 ir_1_6 k0 ?_
      refine w_callV (As := [.int (q_I δ_14 1 6 a0)]) (rest := [.ref a0]) (μ := m_X1_look) (pc := 104) dX1_look_104 cv_X1_86 rfl rfl (wt_1_0 wt k0 e_18) (by decide) rfl (Nat.le_of_ble_eq_true rfl) (d' := d - 1) (by omega) he_i (c_X5_lowerBits wt hl (d := d - 1) (by omega) (wt_1_0 wt k0 e_18)) (fun r_19 => ?_)
      refine w_putI (μ := m_X1_look) (pc := 107) dX1_look_107 fl_X1_89 flw_1_7 ir_1_7 k0 ?_
      refine w_bd (fun δ_20 e_21 => ?_)
      refine w_aload_n 0 0 (μ := m_X1_look) (pc := 110) dX1_look_110 rfl rfl ?_
      refine w_aload_n 0 0 (μ := m_X1_look) (pc := 111) dX1_look_111 rfl rfl ?_
      refine w_aload_n 0 0 (μ := m_X1_look) (pc := 112) dX1_look_112 rfl rfl ?_
      refine w_getI (μ := m_X1_look) (pc := 113) dX1_look_113 fl_X1_26 ir_1_3 k0 ?_
      refine w_iconst (v := 1) (μ := m_X1_look) (pc := 116) dX1_look_116 (by decide) ?_
      refine w_iadd (μ := m_X1_look) (pc := 117) dX1_look_117 ?_
      refine w_aload_n 0 0 (μ := m_X1_look) (pc := 118) dX1_look_118 rfl rfl ?_
      refine w_getI (μ := m_X1_look) (pc := 119) dX1_look_119 fl_X1_33 ir_1_4 k0 ?_
      refine w_aload_n 0 0 (μ := m_X1_look) (pc := 122) dX1_look_122 rfl rfl ?_
      refine w_getI (μ := m_X1_look) (pc := 123) dX1_look_123 fl_X1_80 ir_1_9 k0 ?_
      refine w_iconst (v := 1) (μ := m_X1_look) (pc := 126) dX1_look_126 (by decide) ?_
      refine w_iadd (μ := m_X1_look) (pc := 127) dX1_look_127 ?_
      refine w_callV (As := [.int ((q_I δ_20 1 3 a0) + 1), .int (q_I δ_20 1 4 a0), .int ((q_I δ_20 1 9 a0) + 1)]) (rest := [.ref a0]) (μ := m_X1_look) (pc := 128) dX1_look_128 cv_X1_92 rfl rfl k0 (by decide) rfl (Nat.le_of_ble_eq_true rfl) (d' := d - 1) (by omega) he_i (c_X1_firstFrom wt hl (d := d - 1) (by omega) k0) (fun r_22 => ?_)
      refine w_putI (μ := m_X1_look) (pc := 131) dX1_look_131 fl_X1_96 flw_1_11 ir_1_11 k0 ?_
      refine w_bd (fun δ_23 e_24 => ?_)
      refine w_aload_n 0 0 (μ := m_X1_look) (pc := 134) dX1_look_134 rfl rfl ?_
      refine w_aload_n 0 0 (μ := m_X1_look) (pc := 135) dX1_look_135 rfl rfl ?_
      refine w_aload_n 0 0 (μ := m_X1_look) (pc := 136) dX1_look_136 rfl rfl ?_
      refine w_getI (μ := m_X1_look) (pc := 137) dX1_look_137 fl_X1_96 ir_1_11 k0 ?_
      refine w_aload_n 0 0 (μ := m_X1_look) (pc := 140) dX1_look_140 rfl rfl ?_
      refine w_getI (μ := m_X1_look) (pc := 141) dX1_look_141 fl_X1_33 ir_1_4 k0 ?_
      refine w_aload_n 0 0 (μ := m_X1_look) (pc := 144) dX1_look_144 rfl rfl ?_
      refine w_getI (μ := m_X1_look) (pc := 145) dX1_look_145 fl_X1_83 ir_1_10 k0 ?_
      refine w_callV (As := [.int (q_I δ_23 1 11 a0), .int (q_I δ_23 1 4 a0), .int (q_I δ_23 1 10 a0)]) (rest := [.ref a0]) (μ := m_X1_look) (pc := 148) dX1_look_148 cv_X1_92 rfl rfl k0 (by decide) rfl (Nat.le_of_ble_eq_true rfl) (d' := d - 1) (by omega) he_i (c_X1_firstFrom wt hl (d := d - 1) (by omega) k0) (fun r_25 => ?_)
      refine w_putI (μ := m_X1_look) (pc := 151) dX1_look_151 fl_X1_99 flw_1_12 ir_1_12 k0 ?_
      refine w_bd (fun δ_26 e_27 => ?_)
      refine w_lv [] rfl ?_
      exact t_J_X1_look_154 wt hl (by omega) k0 _
def J_X1_look_31 (N : Nat) (g : gp) (a0 : Nat) (xs0 : Int32) (as1 : Nat) (δ : dp) : Option (dp) :=
  if xs0 = 0 ∨ xs0 = 1 then bd (s_I δ 1 15 as1 xs0) fun δ_4 => if (q_I δ_4 1 15 a0) = 0 then ((D_X1_valueAt N g a0 (q_I δ_4 1 3 a0) δ_4).bind fun r_7 => bd (s_I r_7.2 1 9 a0 r_7.1) fun δ_8 => (D_X1_valueAt N g a0 ((q_I δ_8 1 4 a0) - 1) δ_8).bind fun r_10 => bd (s_I r_10.2 1 10 a0 r_10.1) fun δ_11 => if (q_I δ_11 1 9 a0) = (q_I δ_11 1 10 a0) then (J_X1_look_85 N g a0 1 a0 δ_11) else (J_X1_look_85 N g a0 0 a0 δ_11)) else (some δ_4) else none
set_option maxHeartbeats 4000000 in
set_option maxRecDepth 100000 in
theorem t_J_X1_look_31 {l : Launch} {D : va_G} {cy : Nat → ClassId} {N d : Nat} {g : gp} (wt : WT g) (hl : l.stackTraces = false) (hd : 2 ≤ d) {a0 : Nat} (k0 : q_K g a0 = 1) : ∀ (xs0 : Int32) (as1 : Nat) (δ : dp), q_K g as1 = 1 → AWD l D cy m_X1_look d 0 0 ev g 31 [(0, .ref a0)] [.int xs0, .ref as1] δ (J_X1_look_31 N g a0 xs0 as1 δ) := by
    intro xs0 as1 δ has1
    unfold J_X1_look_31
    refine w_gd (fun z_29 => ?_)
    refine w_putZ (μ := m_X1_look) (pc := 31) dX1_look_31 fl_X1_50 flw_1_15 ir_1_15 has1 z_29 ?_
    refine w_bd (fun δ_4 e_5 => ?_)
    refine w_aload_n 0 0 (μ := m_X1_look) (pc := 34) dX1_look_34 rfl rfl ?_
    refine w_getI (μ := m_X1_look) (pc := 35) dX1_look_35 fl_X1_50 ir_1_15 k0 ?_
    refine w_if_eq 42 (μ := m_X1_look) (pc := 38) dX1_look_38 (by decide) (fun c_6 => ?_) (fun c_6 => ?_)
    · refine w_aload_n 0 0 (μ := m_X1_look) (pc := 42) dX1_look_42 rfl rfl ?_
      refine w_aload_n 0 0 (μ := m_X1_look) (pc := 43) dX1_look_43 rfl rfl ?_
      refine w_aload_n 0 0 (μ := m_X1_look) (pc := 44) dX1_look_44 rfl rfl ?_
      refine w_getI (μ := m_X1_look) (pc := 45) dX1_look_45 fl_X1_26 ir_1_3 k0 ?_
      refine w_callV (As := [.int (q_I δ_4 1 3 a0)]) (rest := [.ref a0]) (μ := m_X1_look) (pc := 48) dX1_look_48 cv_X1_76 rfl rfl k0 (by decide) rfl (Nat.le_of_ble_eq_true rfl) (d' := d - 1) (by omega) he_i (c_X1_valueAt wt hl (d := d - 1) (by omega) k0) (fun r_7 => ?_)
      refine w_putI (μ := m_X1_look) (pc := 51) dX1_look_51 fl_X1_80 flw_1_9 ir_1_9 k0 ?_
      refine w_bd (fun δ_8 e_9 => ?_)
      refine w_aload_n 0 0 (μ := m_X1_look) (pc := 54) dX1_look_54 rfl rfl ?_
      refine w_aload_n 0 0 (μ := m_X1_look) (pc := 55) dX1_look_55 rfl rfl ?_
      refine w_aload_n 0 0 (μ := m_X1_look) (pc := 56) dX1_look_56 rfl rfl ?_
      refine w_getI (μ := m_X1_look) (pc := 57) dX1_look_57 fl_X1_33 ir_1_4 k0 ?_
      refine w_iconst (v := 1) (μ := m_X1_look) (pc := 60) dX1_look_60 (by decide) ?_
      refine w_isub (μ := m_X1_look) (pc := 61) dX1_look_61 ?_
      refine w_callV (As := [.int ((q_I δ_8 1 4 a0) - 1)]) (rest := [.ref a0]) (μ := m_X1_look) (pc := 62) dX1_look_62 cv_X1_76 rfl rfl k0 (by decide) rfl (Nat.le_of_ble_eq_true rfl) (d' := d - 1) (by omega) he_i (c_X1_valueAt wt hl (d := d - 1) (by omega) k0) (fun r_10 => ?_)
      refine w_putI (μ := m_X1_look) (pc := 65) dX1_look_65 fl_X1_83 flw_1_10 ir_1_10 k0 ?_
      refine w_bd (fun δ_11 e_12 => ?_)
      refine w_aload_n 0 0 (μ := m_X1_look) (pc := 68) dX1_look_68 rfl rfl ?_
      refine w_aload_n 0 0 (μ := m_X1_look) (pc := 69) dX1_look_69 rfl rfl ?_
      refine w_getI (μ := m_X1_look) (pc := 70) dX1_look_70 fl_X1_80 ir_1_9 k0 ?_
      refine w_aload_n 0 0 (μ := m_X1_look) (pc := 73) dX1_look_73 rfl rfl ?_
      refine w_getI (μ := m_X1_look) (pc := 74) dX1_look_74 fl_X1_83 ir_1_10 k0 ?_
      refine w_icmp_ne 84 (μ := m_X1_look) (pc := 77) dX1_look_77 (by decide) (fun c_13 => ?_) (fun c_13 => ?_)
      · refine w_iconst (v := 0) (μ := m_X1_look) (pc := 84) dX1_look_84 (by decide) ?_
        exact t_J_X1_look_85 wt hl (by omega) k0 _ _ _ k0
      · refine w_iconst (v := 1) (μ := m_X1_look) (pc := 80) dX1_look_80 (by decide) ?_
        refine w_goto 85 (μ := m_X1_look) (pc := 81) dX1_look_81 (by decide) ?_
        exact t_J_X1_look_85 wt hl (by omega) k0 _ _ _ k0
    · exact w_vret (μ := m_X1_look) (pc := 41) dX1_look_41 rfl rfl
def J_X1_look_26 (N : Nat) (g : gp) (a0 : Nat) (as0 : Nat) (δ : dp) : Option (dp) :=
  J_X1_look_31 N g a0 1 as0 δ
set_option maxHeartbeats 4000000 in
set_option maxRecDepth 100000 in
theorem t_J_X1_look_26 {l : Launch} {D : va_G} {cy : Nat → ClassId} {N d : Nat} {g : gp} (wt : WT g) (hl : l.stackTraces = false) (hd : 2 ≤ d) {a0 : Nat} (k0 : q_K g a0 = 1) : ∀ (as0 : Nat) (δ : dp), q_K g as0 = 1 → AWD l D cy m_X1_look d 0 0 ev g 26 [(0, .ref a0)] [.ref as0] δ (J_X1_look_26 N g a0 as0 δ) := by
    intro as0 δ has0
    unfold J_X1_look_26
    refine w_iconst (v := 1) (μ := m_X1_look) (pc := 26) dX1_look_26 (by decide) ?_
    refine w_goto 31 (μ := m_X1_look) (pc := 27) dX1_look_27 (by decide) ?_
    exact t_J_X1_look_31 wt hl (by omega) k0 _ _ _ has0
def D_X1_look (N : Nat) (g : gp) (a0 : Nat) (δ : dp) : Option (dp) :=
  (q_O g 1 0 a0).bind fun b_1 => if (q_I δ 1 6 a0) ≤ (q_I δ 5 2 b_1) then (J_X1_look_26 N g a0 a0 δ) else (if (q_I δ 1 3 a0) < (q_I δ 1 4 a0) then (J_X1_look_31 N g a0 0 a0 δ) else (J_X1_look_26 N g a0 a0 δ))
set_option maxHeartbeats 4000000 in
set_option maxRecDepth 100000 in
theorem c_X1_look {l : Launch} {D : va_G} {cy : Nat → ClassId} {N d : Nat} {g : gp} (wt : WT g) (hl : l.stackTraces = false) (hd : 2 ≤ d) {a0 : Nat} {δ : dp} (k0 : q_K g a0 = 1) : CalD l D cy m_X1_look d 0 0 ev g [.ref a0] δ (D_X1_look N g a0 δ) := by
  refine CalD.of (by decide +kernel) (Nat.le_of_ble_eq_true rfl) hl ?_
  unfold D_X1_look
  refine w_aload_n 0 0 (μ := m_X1_look) (pc := 0) dX1_look_0 rfl rfl ?_
  refine w_aload_n 0 0 (μ := m_X1_look) (pc := 1) dX1_look_1 rfl rfl ?_
  refine w_getI (μ := m_X1_look) (pc := 2) dX1_look_2 fl_X1_44 ir_1_6 k0 ?_
  refine w_aload_n 0 0 (μ := m_X1_look) (pc := 5) dX1_look_5 rfl rfl ?_
  refine w_getO (μ := m_X1_look) (pc := 6) dX1_look_6 fl_X1_9 ir_1_0 id_1_0 k0 (fun b_1 e_2 => ?_)
  refine w_getI (μ := m_X1_look) (pc := 9) dX1_look_9 fl_X1_73 ir_5_2 (wt_1_0 wt k0 e_2) ?_
  refine w_icmp_le 26 (μ := m_X1_look) (pc := 12) dX1_look_12 (by decide) (fun c_3 => ?_) (fun c_3 => ?_)
  · exact t_J_X1_look_26 wt hl (by omega) k0 _ _ k0
  · refine w_aload_n 0 0 (μ := m_X1_look) (pc := 15) dX1_look_15 rfl rfl ?_
    refine w_getI (μ := m_X1_look) (pc := 16) dX1_look_16 fl_X1_26 ir_1_3 k0 ?_
    refine w_aload_n 0 0 (μ := m_X1_look) (pc := 19) dX1_look_19 rfl rfl ?_
    refine w_getI (μ := m_X1_look) (pc := 20) dX1_look_20 fl_X1_33 ir_1_4 k0 ?_
    refine w_icmp_lt 30 (μ := m_X1_look) (pc := 23) dX1_look_23 (by decide) (fun c_30 => ?_) (fun c_30 => ?_)
    · refine w_iconst (v := 0) (μ := m_X1_look) (pc := 30) dX1_look_30 (by decide) ?_
      exact t_J_X1_look_31 wt hl (by omega) k0 _ _ _ k0
    · exact t_J_X1_look_26 wt hl (by omega) k0 _ _ k0
def D_X1_allCells (N : Nat) (g : gp) (a0 : Nat) (δ : dp) : Option (Int32 × dp) :=
  (q_O g 1 1 a0).bind fun b_1 => (q_O g 1 0 a0).bind fun b_3 => (D_X1_cellsOf N g a0 0 (q_I δ 3 1 b_1) 0 (q_I δ 5 0 b_3) δ).bind fun r_5 => some (r_5.1, r_5.2)
set_option maxHeartbeats 4000000 in
set_option maxRecDepth 100000 in
theorem c_X1_allCells {l : Launch} {D : va_G} {cy : Nat → ClassId} {N d : Nat} {g : gp} (wt : WT g) (hl : l.stackTraces = false) (hd : 23 ≤ d) {a0 : Nat} {δ : dp} (k0 : q_K g a0 = 1) : CalD l D cy m_X1_allCells d 0 0 ei g [.ref a0] δ (D_X1_allCells N g a0 δ) := by
  refine CalD.of (by decide +kernel) (Nat.le_of_ble_eq_true rfl) hl ?_
  unfold D_X1_allCells
  refine w_aload_n 0 0 (μ := m_X1_allCells) (pc := 0) dX1_allCells_0 rfl rfl ?_
  refine w_iconst (v := 0) (μ := m_X1_allCells) (pc := 1) dX1_allCells_1 (by decide) ?_
  refine w_aload_n 0 0 (μ := m_X1_allCells) (pc := 2) dX1_allCells_2 rfl rfl ?_
  refine w_getO (μ := m_X1_allCells) (pc := 3) dX1_allCells_3 fl_X1_15 ir_1_1 id_1_1 k0 (fun b_1 e_2 => ?_)
  refine w_getI (μ := m_X1_allCells) (pc := 6) dX1_allCells_6 fl_X1_30 ir_3_1 (wt_1_1 wt k0 e_2) ?_
  refine w_iconst (v := 0) (μ := m_X1_allCells) (pc := 9) dX1_allCells_9 (by decide) ?_
  refine w_aload_n 0 0 (μ := m_X1_allCells) (pc := 10) dX1_allCells_10 rfl rfl ?_
  refine w_getO (μ := m_X1_allCells) (pc := 11) dX1_allCells_11 fl_X1_9 ir_1_0 id_1_0 k0 (fun b_3 e_4 => ?_)
  refine w_getI (μ := m_X1_allCells) (pc := 14) dX1_allCells_14 fl_X1_39 ir_5_0 (wt_1_0 wt k0 e_4) ?_
  refine w_callV (As := [.int 0, .int (q_I δ 3 1 b_1), .int 0, .int (q_I δ 5 0 b_3)]) (rest := []) (μ := m_X1_allCells) (pc := 17) dX1_allCells_17 cv_X1_128 rfl rfl k0 (by decide) rfl (Nat.le_of_ble_eq_true rfl) (d' := d - 1) (by omega) he_i (c_X1_cellsOf wt hl (d := d - 1) (by omega) k0) (fun r_5 => ?_)
  exact w_iret (μ := m_X1_allCells) (pc := 20) dX1_allCells_20 rfl rfl
def J_X1_touchesOf_162 (N : Nat) (g : gp) (a0 : Nat) (x1 : Int32) (x2 : Int32) (x3v : Int32) (δ : dp) : Option (Int32 × dp) :=
  some (x3v, δ)
set_option maxHeartbeats 4000000 in
set_option maxRecDepth 100000 in
theorem t_J_X1_touchesOf_162 {l : Launch} {D : va_G} {cy : Nat → ClassId} {N d : Nat} {g : gp} (wt : WT g) (hl : l.stackTraces = false) (hd : 4 ≤ d) {a0 : Nat} {x1 : Int32} {x2 : Int32} (k0 : q_K g a0 = 1) : ∀ (x3v : Int32) (δ : dp), AWD l D cy m_X1_touchesOf d 0 0 ei g 162 [(3, .int x3v)] [] δ (J_X1_touchesOf_162 N g a0 x1 x2 x3v δ) := by
    intro x3v δ 
    unfold J_X1_touchesOf_162
    refine w_iload_n 0 3 (μ := m_X1_touchesOf) (pc := 162) dX1_touchesOf_162 rfl rfl ?_
    exact w_iret (μ := m_X1_touchesOf) (pc := 163) dX1_touchesOf_163 rfl rfl
def J_X1_touchesOf_156 (N : Nat) (g : gp) (a0 : Nat) (x1 : Int32) (x2 : Int32) (kt47 : Int32 → Int32 → dp → Option (Int32 × dp)) (x3v : Int32) (x4v : Int32) (δ : dp) : Option (Int32 × dp) :=
  bi (x4v + 1) fun x_27 => kt47 x3v x_27 δ
set_option maxHeartbeats 4000000 in
set_option maxRecDepth 100000 in
theorem t_J_X1_touchesOf_156 {l : Launch} {D : va_G} {cy : Nat → ClassId} {N d : Nat} {g : gp} (wt : WT g) (hl : l.stackTraces = false) (hd : 4 ≤ d) {a0 : Nat} {x1 : Int32} {x2 : Int32} (k0 : q_K g a0 = 1) {kt47 : Int32 → Int32 → dp → Option (Int32 × dp)} (hk47 : ∀ (x3v : Int32) (x4v : Int32) (δ : dp), AWD l D cy m_X1_touchesOf d 0 0 ei g 47 [(0, .ref a0), (1, .int x1), (3, .int x3v), (4, .int x4v)] [] δ (kt47 x3v x4v δ)) : ∀ (x3v : Int32) (x4v : Int32) (δ : dp), AWD l D cy m_X1_touchesOf d 0 0 ei g 156 [(0, .ref a0), (1, .int x1), (3, .int x3v), (4, .int x4v)] [] δ (J_X1_touchesOf_156 N g a0 x1 x2 kt47 x3v x4v δ) := by
    intro x3v x4v δ 
    unfold J_X1_touchesOf_156
    refine w_inb (fun x_27 e_28 => ?_)
    refine w_iinc 3 [(4, .int x_27), (0, .ref a0), (1, .int x1), (3, .int x3v)] (μ := m_X1_touchesOf) (pc := 156) dX1_touchesOf_156 rfl (by rw [e_28]; rfl) (by decide) rfl ?_
    refine w_goto 47 (μ := m_X1_touchesOf) (pc := 159) dX1_touchesOf_159 (by decide) ?_
    refine w_lv [1, 2, 3, 0] rfl ?_
    exact hk47 _ _ _
def J_X1_touchesOf_152 (N : Nat) (g : gp) (a0 : Nat) (x1 : Int32) (x2 : Int32) (kt47 : Int32 → Int32 → dp → Option (Int32 × dp)) (x3v : Int32) (x4v : Int32) (δ : dp) : Option (Int32 × dp) :=
  (D_X1_goOnAsking N g a0 δ).bind fun r_34 => J_X1_touchesOf_156 N g a0 x1 x2 kt47 x3v x4v r_34
set_option maxHeartbeats 4000000 in
set_option maxRecDepth 100000 in
theorem t_J_X1_touchesOf_152 {l : Launch} {D : va_G} {cy : Nat → ClassId} {N d : Nat} {g : gp} (wt : WT g) (hl : l.stackTraces = false) (hd : 4 ≤ d) {a0 : Nat} {x1 : Int32} {x2 : Int32} (k0 : q_K g a0 = 1) {kt47 : Int32 → Int32 → dp → Option (Int32 × dp)} (hk47 : ∀ (x3v : Int32) (x4v : Int32) (δ : dp), AWD l D cy m_X1_touchesOf d 0 0 ei g 47 [(0, .ref a0), (1, .int x1), (3, .int x3v), (4, .int x4v)] [] δ (kt47 x3v x4v δ)) : ∀ (x3v : Int32) (x4v : Int32) (δ : dp), AWD l D cy m_X1_touchesOf d 0 0 ei g 152 [(0, .ref a0), (1, .int x1), (3, .int x3v), (4, .int x4v)] [] δ (J_X1_touchesOf_152 N g a0 x1 x2 kt47 x3v x4v δ) := by
    intro x3v x4v δ 
    unfold J_X1_touchesOf_152
    refine w_aload_n 0 0 (μ := m_X1_touchesOf) (pc := 152) dX1_touchesOf_152 rfl rfl ?_
    refine w_callV (As := []) (rest := []) (μ := m_X1_touchesOf) (pc := 153) dX1_touchesOf_153 cv_X1_70 rfl rfl k0 (by decide) rfl (Nat.le_of_ble_eq_true rfl) (d' := d - 1) (by omega) he_v (c_X1_goOnAsking wt hl (d := d - 1) (by omega) k0) (fun r_34 => ?_)
    exact t_J_X1_touchesOf_156 wt hl (by omega) k0 hk47 _ _ _
def L_X1_touchesOf_47 (N : Nat) (g : gp) (a0 : Nat) (x1 : Int32) (x2 : Int32) : Nat → Int32 → Int32 → dp → Option (Int32 × dp)
  | 0, _, _, _ => none
  | n + 1, x3v, x4v, δ => if (16 : Int32) ≤ x4v then (J_X1_touchesOf_162 N g a0 x1 x2 x3v δ) else (if (q_I δ 1 15 a0) = 0 then (bi (x3v + 1) fun x_19 => (D_X1_look N g a0 δ).bind fun r_21 => if (q_I r_21 1 15 a0) = 0 then (if x1 = 0 then ((D_X1_goOnPutting N g a0 r_21).bind fun r_24 => bi (x_19 + r_24.1) fun x_25 => J_X1_touchesOf_156 N g a0 x1 x2 (L_X1_touchesOf_47 N g a0 x1 x2 n) x_25 x4v r_24.2) else (if x1 = 1 then ((D_X1_goOnDropping N g a0 r_21).bind fun r_30 => bi (x_19 + r_30.1) fun x_31 => J_X1_touchesOf_156 N g a0 x1 x2 (L_X1_touchesOf_47 N g a0 x1 x2 n) x_31 x4v r_30.2) else (if x1 = 2 then (J_X1_touchesOf_152 N g a0 x1 x2 (L_X1_touchesOf_47 N g a0 x1 x2 n) x_19 x4v r_21) else (if x1 = 3 then ((D_X1_goOnUp N g a0 r_21).bind fun r_36 => bi (x_19 + r_36.1) fun x_37 => J_X1_touchesOf_156 N g a0 x1 x2 (L_X1_touchesOf_47 N g a0 x1 x2 n) x_37 x4v r_36.2) else (if x1 = 4 then ((D_X1_goOnDown N g a0 r_21).bind fun r_40 => bi (x_19 + r_40.1) fun x_41 => J_X1_touchesOf_156 N g a0 x1 x2 (L_X1_touchesOf_47 N g a0 x1 x2 n) x_41 x4v r_40.2) else (J_X1_touchesOf_152 N g a0 x1 x2 (L_X1_touchesOf_47 N g a0 x1 x2 n) x_19 x4v r_21)))))) else (some (x_19, r_21))) else (J_X1_touchesOf_162 N g a0 x1 x2 x3v δ))
set_option maxHeartbeats 4000000 in
set_option maxRecDepth 100000 in
theorem t_L_X1_touchesOf_47 {l : Launch} {D : va_G} {cy : Nat → ClassId} {N d : Nat} {g : gp} (wt : WT g) (hl : l.stackTraces = false) (hd : 4 ≤ d) {a0 : Nat} {x1 : Int32} {x2 : Int32} (k0 : q_K g a0 = 1) : ∀ (n : Nat) (x3v : Int32) (x4v : Int32) (δ : dp), AWD l D cy m_X1_touchesOf d 0 0 ei g 47 [(0, .ref a0), (1, .int x1), (3, .int x3v), (4, .int x4v)] [] δ (L_X1_touchesOf_47 N g a0 x1 x2 n x3v x4v δ) := by
  intro n
  induction n with
  | zero => intro x3v x4v δ ; exact w_none
  | succ n ih =>
    intro x3v x4v δ 
    unfold L_X1_touchesOf_47
    refine w_iload 3 (μ := m_X1_touchesOf) (pc := 47) dX1_touchesOf_47 rfl ?_
    refine w_bipush (v := 16) (μ := m_X1_touchesOf) (pc := 49) dX1_touchesOf_49 (by decide) ?_
    refine w_icmp_ge 162 (μ := m_X1_touchesOf) (pc := 51) dX1_touchesOf_51 (by decide) (fun c_17 => ?_) (fun c_17 => ?_)
    · refine w_lv [2] rfl ?_
      exact t_J_X1_touchesOf_162 wt hl (by omega) k0 _ _
    · refine w_aload_n 0 0 (μ := m_X1_touchesOf) (pc := 54) dX1_touchesOf_54 rfl rfl ?_
      refine w_getI (μ := m_X1_touchesOf) (pc := 55) dX1_touchesOf_55 fl_X1_50 ir_1_15 k0 ?_
      refine w_if_ne 162 (μ := m_X1_touchesOf) (pc := 58) dX1_touchesOf_58 (by decide) (fun c_18 => ?_) (fun c_18 => ?_)
      · refine w_lv [2] rfl ?_
        exact t_J_X1_touchesOf_162 wt hl (by omega) k0 _ _
      · refine w_inb (fun x_19 e_20 => ?_)
        refine w_iinc 2 [(3, .int x_19), (0, .ref a0), (1, .int x1), (4, .int x4v)] (μ := m_X1_touchesOf) (pc := 61) dX1_touchesOf_61 rfl (by rw [e_20]; rfl) (by decide) rfl ?_
        refine w_aload_n 1 0 (μ := m_X1_touchesOf) (pc := 64) dX1_touchesOf_64 rfl rfl ?_
        refine w_callV (As := []) (rest := []) (μ := m_X1_touchesOf) (pc := 65) dX1_touchesOf_65 cv_X1_54 rfl rfl k0 (by decide) rfl (Nat.le_of_ble_eq_true rfl) (d' := d - 1) (by omega) he_v (c_X1_look wt hl (d := d - 1) (by omega) k0) (fun r_21 => ?_)
        refine w_aload_n 1 0 (μ := m_X1_touchesOf) (pc := 68) dX1_touchesOf_68 rfl rfl ?_
        refine w_getI (μ := m_X1_touchesOf) (pc := 69) dX1_touchesOf_69 fl_X1_50 ir_1_15 k0 ?_
        refine w_if_eq 77 (μ := m_X1_touchesOf) (pc := 72) dX1_touchesOf_72 (by decide) (fun c_22 => ?_) (fun c_22 => ?_)
        · refine w_iload_n 2 1 (μ := m_X1_touchesOf) (pc := 77) dX1_touchesOf_77 rfl rfl ?_
          refine w_by (fun c_23 => ?_) (fun c_23 => ?_)
          · refine w_tabIn (off := 34) 112 0 c_23 (μ := m_X1_touchesOf) (pc := 78) dX1_touchesOf_78 (by decide) (by decide) (by decide +kernel) (by decide) ?_
            refine w_iload_n 0 3 (μ := m_X1_touchesOf) (pc := 112) dX1_touchesOf_112 rfl rfl ?_
            refine w_aload_n 1 0 (μ := m_X1_touchesOf) (pc := 113) dX1_touchesOf_113 rfl rfl ?_
            refine w_callV (As := []) (rest := [.int x_19]) (μ := m_X1_touchesOf) (pc := 114) dX1_touchesOf_114 cv_X1_57 rfl rfl k0 (by decide) rfl (Nat.le_of_ble_eq_true rfl) (d' := d - 1) (by omega) he_i (c_X1_goOnPutting wt hl (d := d - 1) (by omega) k0) (fun r_24 => ?_)
            refine w_iadd (μ := m_X1_touchesOf) (pc := 117) dX1_touchesOf_117 ?_
            refine w_bi (fun x_25 e_26 => ?_)
            refine w_istore_n [(3, .int x_25), (0, .ref a0), (1, .int x1), (4, .int x4v)] (μ := m_X1_touchesOf) (pc := 118) dX1_touchesOf_118 rfl (by decide) rfl ?_
            refine w_goto 156 (μ := m_X1_touchesOf) (pc := 119) dX1_touchesOf_119 (by decide) ?_
            refine w_lv [1, 2, 0, 3] rfl ?_
            exact t_J_X1_touchesOf_156 wt hl (by omega) k0 ih _ _ _
          · skip
            refine w_by (fun c_29 => ?_) (fun c_29 => ?_)
            · refine w_tabIn (off := 44) 122 1 c_29 (μ := m_X1_touchesOf) (pc := 78) dX1_touchesOf_78 (by decide) (by decide) (by decide +kernel) (by decide) ?_
              refine w_iload_n 0 3 (μ := m_X1_touchesOf) (pc := 122) dX1_touchesOf_122 rfl rfl ?_
              refine w_aload_n 1 0 (μ := m_X1_touchesOf) (pc := 123) dX1_touchesOf_123 rfl rfl ?_
              refine w_callV (As := []) (rest := [.int x_19]) (μ := m_X1_touchesOf) (pc := 124) dX1_touchesOf_124 cv_X1_61 rfl rfl k0 (by decide) rfl (Nat.le_of_ble_eq_true rfl) (d' := d - 1) (by omega) he_i (c_X1_goOnDropping wt hl (d := d - 1) (by omega) k0) (fun r_30 => ?_)
              refine w_iadd (μ := m_X1_touchesOf) (pc := 127) dX1_touchesOf_127 ?_
              refine w_bi (fun x_31 e_32 => ?_)
              refine w_istore_n [(3, .int x_31), (0, .ref a0), (1, .int x1), (4, .int x4v)] (μ := m_X1_touchesOf) (pc := 128) dX1_touchesOf_128 rfl (by decide) rfl ?_
              refine w_goto 156 (μ := m_X1_touchesOf) (pc := 129) dX1_touchesOf_129 (by decide) ?_
              refine w_lv [1, 2, 0, 3] rfl ?_
              exact t_J_X1_touchesOf_156 wt hl (by omega) k0 ih _ _ _
            · skip
              refine w_by (fun c_33 => ?_) (fun c_33 => ?_)
              · refine w_tabIn (off := 74) 152 2 c_33 (μ := m_X1_touchesOf) (pc := 78) dX1_touchesOf_78 (by decide) (by decide) (by decide +kernel) (by decide) ?_
                refine w_lv [1, 2, 0, 3] rfl ?_
                exact t_J_X1_touchesOf_152 wt hl (by omega) k0 ih _ _ _
              · skip
                refine w_by (fun c_35 => ?_) (fun c_35 => ?_)
                · refine w_tabIn (off := 54) 132 3 c_35 (μ := m_X1_touchesOf) (pc := 78) dX1_touchesOf_78 (by decide) (by decide) (by decide +kernel) (by decide) ?_
                  refine w_iload_n 0 3 (μ := m_X1_touchesOf) (pc := 132) dX1_touchesOf_132 rfl rfl ?_
                  refine w_aload_n 1 0 (μ := m_X1_touchesOf) (pc := 133) dX1_touchesOf_133 rfl rfl ?_
                  refine w_callV (As := []) (rest := [.int x_19]) (μ := m_X1_touchesOf) (pc := 134) dX1_touchesOf_134 cv_X1_64 rfl rfl k0 (by decide) rfl (Nat.le_of_ble_eq_true rfl) (d' := d - 1) (by omega) he_i (c_X1_goOnUp wt hl (d := d - 1) (by omega) k0) (fun r_36 => ?_)
                  refine w_iadd (μ := m_X1_touchesOf) (pc := 137) dX1_touchesOf_137 ?_
                  refine w_bi (fun x_37 e_38 => ?_)
                  refine w_istore_n [(3, .int x_37), (0, .ref a0), (1, .int x1), (4, .int x4v)] (μ := m_X1_touchesOf) (pc := 138) dX1_touchesOf_138 rfl (by decide) rfl ?_
                  refine w_goto 156 (μ := m_X1_touchesOf) (pc := 139) dX1_touchesOf_139 (by decide) ?_
                  refine w_lv [1, 2, 0, 3] rfl ?_
                  exact t_J_X1_touchesOf_156 wt hl (by omega) k0 ih _ _ _
                · skip
                  refine w_by (fun c_39 => ?_) (fun c_39 => ?_)
                  · refine w_tabIn (off := 64) 142 4 c_39 (μ := m_X1_touchesOf) (pc := 78) dX1_touchesOf_78 (by decide) (by decide) (by decide +kernel) (by decide) ?_
                    refine w_iload_n 0 3 (μ := m_X1_touchesOf) (pc := 142) dX1_touchesOf_142 rfl rfl ?_
                    refine w_aload_n 1 0 (μ := m_X1_touchesOf) (pc := 143) dX1_touchesOf_143 rfl rfl ?_
                    refine w_callV (As := []) (rest := [.int x_19]) (μ := m_X1_touchesOf) (pc := 144) dX1_touchesOf_144 cv_X1_67 rfl rfl k0 (by decide) rfl (Nat.le_of_ble_eq_true rfl) (d' := d - 1) (by omega) he_i (c_X1_goOnDown wt hl (d := d - 1) (by omega) k0) (fun r_40 => ?_)
                    refine w_iadd (μ := m_X1_touchesOf) (pc := 147) dX1_touchesOf_147 ?_
                    refine w_bi (fun x_41 e_42 => ?_)
                    refine w_istore_n [(3, .int x_41), (0, .ref a0), (1, .int x1), (4, .int x4v)] (μ := m_X1_touchesOf) (pc := 148) dX1_touchesOf_148 rfl (by decide) rfl ?_
                    refine w_goto 156 (μ := m_X1_touchesOf) (pc := 149) dX1_touchesOf_149 (by decide) ?_
                    refine w_lv [1, 2, 0, 3] rfl ?_
                    exact t_J_X1_touchesOf_156 wt hl (by omega) k0 ih _ _ _
                  · skip
                    refine w_tabOut 152 (μ := m_X1_touchesOf) (pc := 78) dX1_touchesOf_78 (by have c_23i : _ ≠ (0 : Int) := tabne c_23; have c_29i : _ ≠ (1 : Int) := tabne c_29; have c_33i : _ ≠ (2 : Int) := tabne c_33; have c_35i : _ ≠ (3 : Int) := tabne c_35; have c_39i : _ ≠ (4 : Int) := tabne c_39; omega) (by decide) ?_
                    refine w_lv [1, 2, 0, 3] rfl ?_
                    exact t_J_X1_touchesOf_152 wt hl (by omega) k0 ih _ _ _
        · refine w_iload_n 0 3 (μ := m_X1_touchesOf) (pc := 75) dX1_touchesOf_75 rfl rfl ?_
          exact w_iret (μ := m_X1_touchesOf) (pc := 76) dX1_touchesOf_76 rfl rfl
def D_X1_touchesOf (N : Nat) (g : gp) (a0 : Nat) (x1 : Int32) (x2 : Int32) (δ : dp) : Option (Int32 × dp) :=
  bd (s_I δ 1 3 a0 0) fun δ_1 => (q_O g 1 1 a0).bind fun b_3 => bd (s_I δ_1 1 4 a0 (q_I δ_1 3 1 b_3)) fun δ_5 => bd (s_I δ_5 1 5 a0 0) fun δ_7 => (q_O g 1 0 a0).bind fun b_9 => bd (s_I δ_7 1 6 a0 (q_I δ_7 5 0 b_9)) fun δ_11 => bd (s_I δ_11 1 8 a0 x2) fun δ_13 => bd (s_I δ_13 1 15 a0 0) fun δ_15 => L_X1_touchesOf_47 N g a0 x1 x2 N 0 0 δ_15
set_option maxHeartbeats 4000000 in
set_option maxRecDepth 100000 in
theorem c_X1_touchesOf {l : Launch} {D : va_G} {cy : Nat → ClassId} {N d : Nat} {g : gp} (wt : WT g) (hl : l.stackTraces = false) (hd : 4 ≤ d) {a0 : Nat} {x1 : Int32} {x2 : Int32} {δ : dp} (k0 : q_K g a0 = 1) : CalD l D cy m_X1_touchesOf d 0 0 ei g [.ref a0, .int x1, .int x2] δ (D_X1_touchesOf N g a0 x1 x2 δ) := by
  refine CalD.of (by decide +kernel) (Nat.le_of_ble_eq_true rfl) hl ?_
  unfold D_X1_touchesOf
  refine w_aload_n 0 0 (μ := m_X1_touchesOf) (pc := 0) dX1_touchesOf_0 rfl rfl ?_
  refine w_iconst (v := 0) (μ := m_X1_touchesOf) (pc := 1) dX1_touchesOf_1 (by decide) ?_
  refine w_putI (μ := m_X1_touchesOf) (pc := 2) dX1_touchesOf_2 fl_X1_26 flw_1_3 ir_1_3 k0 ?_
  refine w_bd (fun δ_1 e_2 => ?_)
  refine w_aload_n 0 0 (μ := m_X1_touchesOf) (pc := 5) dX1_touchesOf_5 rfl rfl ?_
  refine w_aload_n 0 0 (μ := m_X1_touchesOf) (pc := 6) dX1_touchesOf_6 rfl rfl ?_
  refine w_getO (μ := m_X1_touchesOf) (pc := 7) dX1_touchesOf_7 fl_X1_15 ir_1_1 id_1_1 k0 (fun b_3 e_4 => ?_)
  refine w_getI (μ := m_X1_touchesOf) (pc := 10) dX1_touchesOf_10 fl_X1_30 ir_3_1 (wt_1_1 wt k0 e_4) ?_
  refine w_putI (μ := m_X1_touchesOf) (pc := 13) dX1_touchesOf_13 fl_X1_33 flw_1_4 ir_1_4 k0 ?_
  refine w_bd (fun δ_5 e_6 => ?_)
  refine w_aload_n 0 0 (μ := m_X1_touchesOf) (pc := 16) dX1_touchesOf_16 rfl rfl ?_
  refine w_iconst (v := 0) (μ := m_X1_touchesOf) (pc := 17) dX1_touchesOf_17 (by decide) ?_
  refine w_putI (μ := m_X1_touchesOf) (pc := 18) dX1_touchesOf_18 fl_X1_36 flw_1_5 ir_1_5 k0 ?_
  refine w_bd (fun δ_7 e_8 => ?_)
  refine w_aload_n 0 0 (μ := m_X1_touchesOf) (pc := 21) dX1_touchesOf_21 rfl rfl ?_
  refine w_aload_n 0 0 (μ := m_X1_touchesOf) (pc := 22) dX1_touchesOf_22 rfl rfl ?_
  refine w_getO (μ := m_X1_touchesOf) (pc := 23) dX1_touchesOf_23 fl_X1_9 ir_1_0 id_1_0 k0 (fun b_9 e_10 => ?_)
  refine w_getI (μ := m_X1_touchesOf) (pc := 26) dX1_touchesOf_26 fl_X1_39 ir_5_0 (wt_1_0 wt k0 e_10) ?_
  refine w_putI (μ := m_X1_touchesOf) (pc := 29) dX1_touchesOf_29 fl_X1_44 flw_1_6 ir_1_6 k0 ?_
  refine w_bd (fun δ_11 e_12 => ?_)
  refine w_aload_n 0 0 (μ := m_X1_touchesOf) (pc := 32) dX1_touchesOf_32 rfl rfl ?_
  refine w_iload_n 2 2 (μ := m_X1_touchesOf) (pc := 33) dX1_touchesOf_33 rfl rfl ?_
  refine w_putI (μ := m_X1_touchesOf) (pc := 34) dX1_touchesOf_34 fl_X1_47 flw_1_8 ir_1_8 k0 ?_
  refine w_bd (fun δ_13 e_14 => ?_)
  refine w_iconst (v := 0) (μ := m_X1_touchesOf) (pc := 37) dX1_touchesOf_37 (by decide) ?_
  refine w_istore_n [(3, .int 0), (0, .ref a0), (1, .int x1), (2, .int x2)] (μ := m_X1_touchesOf) (pc := 38) dX1_touchesOf_38 rfl (by decide) rfl ?_
  refine w_aload_n 1 0 (μ := m_X1_touchesOf) (pc := 39) dX1_touchesOf_39 rfl rfl ?_
  refine w_iconst (v := 0) (μ := m_X1_touchesOf) (pc := 40) dX1_touchesOf_40 (by decide) ?_
  refine w_putZ (μ := m_X1_touchesOf) (pc := 41) dX1_touchesOf_41 fl_X1_50 flw_1_15 ir_1_15 k0 (by decide) ?_
  refine w_bd (fun δ_15 e_16 => ?_)
  refine w_iconst (v := 0) (μ := m_X1_touchesOf) (pc := 44) dX1_touchesOf_44 (by decide) ?_
  refine w_istore [(4, .int 0), (3, .int 0), (0, .ref a0), (1, .int x1), (2, .int x2)] (μ := m_X1_touchesOf) (pc := 45) dX1_touchesOf_45 (by decide) rfl ?_
  refine w_lv [2, 3, 1, 0] rfl ?_
  exact t_L_X1_touchesOf_47 wt hl (by omega) k0 N _ _ _
