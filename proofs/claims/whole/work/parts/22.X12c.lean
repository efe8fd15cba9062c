theorem dX12_inList_0 : decode cX12_inList 0 = .ok (.aload_n 0, 1) := by decide +kernel
theorem dX12_inList_1 : decode cX12_inList 1 = .ok (.iload_n 3, 1) := by decide +kernel
theorem dX12_inList_2 : decode cX12_inList 2 = .ok (.invokevirtual 293, 3) := by decide +kernel
theorem dX12_inList_5 : decode cX12_inList 5 = .ok (.istore 6, 2) := by decide +kernel
theorem dX12_inList_7 : decode cX12_inList 7 = .ok (.aload_n 0, 1) := by decide +kernel
theorem dX12_inList_8 : decode cX12_inList 8 = .ok (.iload 4, 2) := by decide +kernel
theorem dX12_inList_10 : decode cX12_inList 10 = .ok (.iload 5, 2) := by decide +kernel
theorem dX12_inList_12 : decode cX12_inList 12 = .ok (.iload 6, 2) := by decide +kernel
theorem dX12_inList_14 : decode cX12_inList 14 = .ok (.invokevirtual 296, 3) := by decide +kernel
theorem dX12_inList_17 : decode cX12_inList 17 = .ok (.istore 7, 2) := by decide +kernel
theorem dX12_inList_19 : decode cX12_inList 19 = .ok (.aload_n 0, 1) := by decide +kernel
theorem dX12_inList_20 : decode cX12_inList 20 = .ok (.iload_n 1, 1) := by decide +kernel
theorem dX12_inList_21 : decode cX12_inList 21 = .ok (.iload_n 2, 1) := by decide +kernel
theorem dX12_inList_22 : decode cX12_inList 22 = .ok (.iload 6, 2) := by decide +kernel
theorem dX12_inList_24 : decode cX12_inList 24 = .ok (.ishr, 1) := by decide +kernel
theorem dX12_inList_25 : decode cX12_inList 25 = .ok (.iload_n 3, 1) := by decide +kernel
theorem dX12_inList_26 : decode cX12_inList 26 = .ok (.iload 6, 2) := by decide +kernel
theorem dX12_inList_28 : decode cX12_inList 28 = .ok (.isub, 1) := by decide +kernel
theorem dX12_inList_29 : decode cX12_inList 29 = .ok (.iload 7, 2) := by decide +kernel
theorem dX12_inList_31 : decode cX12_inList 31 = .ok (.aload_n 0, 1) := by decide +kernel
theorem dX12_inList_32 : decode cX12_inList 32 = .ok (.getfield 290, 3) := by decide +kernel
theorem dX12_inList_35 : decode cX12_inList 35 = .ok (.invokevirtual 299, 3) := by decide +kernel
theorem dX12_inList_38 : decode cX12_inList 38 = .ok (.istore 8, 2) := by decide +kernel
theorem dX12_inList_40 : decode cX12_inList 40 = .ok (.aload_n 0, 1) := by decide +kernel
theorem dX12_inList_41 : decode cX12_inList 41 = .ok (.iload 7, 2) := by decide +kernel
theorem dX12_inList_43 : decode cX12_inList 43 = .ok (.putfield 290, 3) := by decide +kernel
theorem dX12_inList_46 : decode cX12_inList 46 = .ok (.iload 8, 2) := by decide +kernel
theorem dX12_inList_48 : decode cX12_inList 48 = .ok (.ireturn, 1) := by decide +kernel
theorem dX12_inRoom_0 : decode cX12_inRoom 0 = .ok (.aload_n 0, 1) := by decide +kernel
theorem dX12_inRoom_1 : decode cX12_inRoom 1 = .ok (.iload_n 3, 1) := by decide +kernel
theorem dX12_inRoom_2 : decode cX12_inRoom 2 = .ok (.invokevirtual 293, 3) := by decide +kernel
theorem dX12_inRoom_5 : decode cX12_inRoom 5 = .ok (.istore 6, 2) := by decide +kernel
theorem dX12_inRoom_7 : decode cX12_inRoom 7 = .ok (.aload_n 0, 1) := by decide +kernel
theorem dX12_inRoom_8 : decode cX12_inRoom 8 = .ok (.iload 4, 2) := by decide +kernel
theorem dX12_inRoom_10 : decode cX12_inRoom 10 = .ok (.iload 5, 2) := by decide +kernel
theorem dX12_inRoom_12 : decode cX12_inRoom 12 = .ok (.iload 6, 2) := by decide +kernel
theorem dX12_inRoom_14 : decode cX12_inRoom 14 = .ok (.iload_n 2, 1) := by decide +kernel
theorem dX12_inRoom_15 : decode cX12_inRoom 15 = .ok (.iload 6, 2) := by decide +kernel
theorem dX12_inRoom_17 : decode cX12_inRoom 17 = .ok (.ishr, 1) := by decide +kernel
theorem dX12_inRoom_18 : decode cX12_inRoom 18 = .ok (.invokevirtual 303, 3) := by decide +kernel
theorem dX12_inRoom_21 : decode cX12_inRoom 21 = .ok (.istore 7, 2) := by decide +kernel
theorem dX12_inRoom_23 : decode cX12_inRoom 23 = .ok (.aload_n 0, 1) := by decide +kernel
theorem dX12_inRoom_24 : decode cX12_inRoom 24 = .ok (.iload_n 1, 1) := by decide +kernel
theorem dX12_inRoom_25 : decode cX12_inRoom 25 = .ok (.iload_n 2, 1) := by decide +kernel
theorem dX12_inRoom_26 : decode cX12_inRoom 26 = .ok (.iconst 1, 1) := by decide +kernel
theorem dX12_inRoom_27 : decode cX12_inRoom 27 = .ok (.iload 6, 2) := by decide +kernel
theorem dX12_inRoom_29 : decode cX12_inRoom 29 = .ok (.ishl, 1) := by decide +kernel
theorem dX12_inRoom_30 : decode cX12_inRoom 30 = .ok (.iconst 1, 1) := by decide +kernel
theorem dX12_inRoom_31 : decode cX12_inRoom 31 = .ok (.isub, 1) := by decide +kernel
theorem dX12_inRoom_32 : decode cX12_inRoom 32 = .ok (.iand, 1) := by decide +kernel
theorem dX12_inRoom_33 : decode cX12_inRoom 33 = .ok (.iload 6, 2) := by decide +kernel
theorem dX12_inRoom_35 : decode cX12_inRoom 35 = .ok (.iload 7, 2) := by decide +kernel
theorem dX12_inRoom_37 : decode cX12_inRoom 37 = .ok (.aload_n 0, 1) := by decide +kernel
theorem dX12_inRoom_38 : decode cX12_inRoom 38 = .ok (.getfield 290, 3) := by decide +kernel
theorem dX12_inRoom_41 : decode cX12_inRoom 41 = .ok (.invokevirtual 299, 3) := by decide +kernel
theorem dX12_inRoom_44 : decode cX12_inRoom 44 = .ok (.istore 8, 2) := by decide +kernel
theorem dX12_inRoom_46 : decode cX12_inRoom 46 = .ok (.aload_n 0, 1) := by decide +kernel
theorem dX12_inRoom_47 : decode cX12_inRoom 47 = .ok (.iload 7, 2) := by decide +kernel
theorem dX12_inRoom_49 : decode cX12_inRoom 49 = .ok (.putfield 290, 3) := by decide +kernel
theorem dX12_inRoom_52 : decode cX12_inRoom 52 = .ok (.iload 8, 2) := by decide +kernel
theorem dX12_inRoom_54 : decode cX12_inRoom 54 = .ok (.ireturn, 1) := by decide +kernel
theorem dX12_touch_0 : decode cX12_touch 0 = .ok (.iload_n 3, 1) := by decide +kernel
theorem dX12_touch_1 : decode cX12_touch 1 = .ok (.aload_n 0, 1) := by decide +kernel
theorem dX12_touch_2 : decode cX12_touch 2 = .ok (.getfield 26, 3) := by decide +kernel
theorem dX12_touch_5 : decode cX12_touch 5 = .ok (.if_icmp .le 10, 3) := by decide +kernel
theorem dX12_touch_8 : decode cX12_touch 8 = .ok (.iload 4, 2) := by decide +kernel
theorem dX12_touch_10 : decode cX12_touch 10 = .ok (.iload 5, 2) := by decide +kernel
theorem dX12_touch_12 : decode cX12_touch 12 = .ok (.if_icmp .ne 5, 3) := by decide +kernel
theorem dX12_touch_15 : decode cX12_touch 15 = .ok (.iconst 1, 1) := by decide +kernel
theorem dX12_touch_16 : decode cX12_touch 16 = .ok (.ireturn, 1) := by decide +kernel
theorem dX12_touch_17 : decode cX12_touch 17 = .ok (.iload_n 1, 1) := by decide +kernel
theorem dX12_touch_18 : decode cX12_touch 18 = .ok (.ifCond .ne 14, 3) := by decide +kernel
theorem dX12_touch_21 : decode cX12_touch 21 = .ok (.aload_n 0, 1) := by decide +kernel
theorem dX12_touch_22 : decode cX12_touch 22 = .ok (.iload_n 2, 1) := by decide +kernel
theorem dX12_touch_23 : decode cX12_touch 23 = .ok (.iload_n 3, 1) := by decide +kernel
theorem dX12_touch_24 : decode cX12_touch 24 = .ok (.iload 4, 2) := by decide +kernel
theorem dX12_touch_26 : decode cX12_touch 26 = .ok (.iload 5, 2) := by decide +kernel
theorem dX12_touch_28 : decode cX12_touch 28 = .ok (.invokevirtual 307, 3) := by decide +kernel
theorem dX12_touch_31 : decode cX12_touch 31 = .ok (.ireturn, 1) := by decide +kernel
theorem dX12_touch_32 : decode cX12_touch 32 = .ok (.iload_n 1, 1) := by decide +kernel
theorem dX12_touch_33 : decode cX12_touch 33 = .ok (.iconst 1, 1) := by decide +kernel
theorem dX12_touch_34 : decode cX12_touch 34 = .ok (.if_icmp .ne 14, 3) := by decide +kernel
theorem dX12_touch_37 : decode cX12_touch 37 = .ok (.aload_n 0, 1) := by decide +kernel
theorem dX12_touch_38 : decode cX12_touch 38 = .ok (.iload_n 2, 1) := by decide +kernel
theorem dX12_touch_39 : decode cX12_touch 39 = .ok (.iload_n 3, 1) := by decide +kernel
theorem dX12_touch_40 : decode cX12_touch 40 = .ok (.iload 4, 2) := by decide +kernel
theorem dX12_touch_42 : decode cX12_touch 42 = .ok (.iload 5, 2) := by decide +kernel
theorem dX12_touch_44 : decode cX12_touch 44 = .ok (.invokevirtual 310, 3) := by decide +kernel
theorem dX12_touch_47 : decode cX12_touch 47 = .ok (.ireturn, 1) := by decide +kernel
theorem dX12_touch_48 : decode cX12_touch 48 = .ok (.aload_n 0, 1) := by decide +kernel
theorem dX12_touch_49 : decode cX12_touch 49 = .ok (.getfield 84, 3) := by decide +kernel
theorem dX12_touch_52 : decode cX12_touch 52 = .ok (.iload 4, 2) := by decide +kernel
theorem dX12_touch_54 : decode cX12_touch 54 = .ok (.iaload, 1) := by decide +kernel
theorem dX12_touch_55 : decode cX12_touch 55 = .ok (.istore 6, 2) := by decide +kernel
theorem dX12_touch_57 : decode cX12_touch 57 = .ok (.aload_n 0, 1) := by decide +kernel
theorem dX12_touch_58 : decode cX12_touch 58 = .ok (.getfield 84, 3) := by decide +kernel
theorem dX12_touch_61 : decode cX12_touch 61 = .ok (.iload 5, 2) := by decide +kernel
theorem dX12_touch_63 : decode cX12_touch 63 = .ok (.iconst 1, 1) := by decide +kernel
theorem dX12_touch_64 : decode cX12_touch 64 = .ok (.isub, 1) := by decide +kernel
theorem dX12_touch_65 : decode cX12_touch 65 = .ok (.iaload, 1) := by decide +kernel
theorem dX12_touch_66 : decode cX12_touch 66 = .ok (.istore 7, 2) := by decide +kernel
theorem dX12_touch_68 : decode cX12_touch 68 = .ok (.iload_n 1, 1) := by decide +kernel
theorem dX12_touch_69 : decode cX12_touch 69 = .ok (.iconst 2, 1) := by decide +kernel
theorem dX12_touch_70 : decode cX12_touch 70 = .ok (.if_icmp .ne 46, 3) := by decide +kernel
theorem dX12_touch_73 : decode cX12_touch 73 = .ok (.iload_n 2, 1) := by decide +kernel
theorem dX12_touch_74 : decode cX12_touch 74 = .ok (.iload 6, 2) := by decide +kernel
theorem dX12_touch_76 : decode cX12_touch 76 = .ok (.if_icmp .le 22, 3) := by decide +kernel
theorem dX12_touch_79 : decode cX12_touch 79 = .ok (.iload_n 2, 1) := by decide +kernel
theorem dX12_touch_80 : decode cX12_touch 80 = .ok (.iload 7, 2) := by decide +kernel
theorem dX12_touch_82 : decode cX12_touch 82 = .ok (.if_icmp .ge 16, 3) := by decide +kernel
theorem dX12_touch_85 : decode cX12_touch 85 = .ok (.aload_n 0, 1) := by decide +kernel
theorem dX12_touch_86 : decode cX12_touch 86 = .ok (.iload_n 2, 1) := by decide +kernel
theorem dX12_touch_87 : decode cX12_touch 87 = .ok (.iload_n 3, 1) := by decide +kernel
theorem dX12_touch_88 : decode cX12_touch 88 = .ok (.iload 4, 2) := by decide +kernel
theorem dX12_touch_90 : decode cX12_touch 90 = .ok (.iload 5, 2) := by decide +kernel
theorem dX12_touch_92 : decode cX12_touch 92 = .ok (.invokevirtual 313, 3) := by decide +kernel
theorem dX12_touch_95 : decode cX12_touch 95 = .ok (.ifCond .ne 7, 3) := by decide +kernel
theorem dX12_touch_98 : decode cX12_touch 98 = .ok (.iconst 1, 1) := by decide +kernel
theorem dX12_touch_99 : decode cX12_touch 99 = .ok (.goto 16, 3) := by decide +kernel
theorem dX12_touch_102 : decode cX12_touch 102 = .ok (.iconst 1, 1) := by decide +kernel
theorem dX12_touch_103 : decode cX12_touch 103 = .ok (.aload_n 0, 1) := by decide +kernel
theorem dX12_touch_104 : decode cX12_touch 104 = .ok (.iconst 2, 1) := by decide +kernel
theorem dX12_touch_105 : decode cX12_touch 105 = .ok (.iload_n 2, 1) := by decide +kernel
theorem dX12_touch_106 : decode cX12_touch 106 = .ok (.iload_n 3, 1) := by decide +kernel
theorem dX12_touch_107 : decode cX12_touch 107 = .ok (.iload 4, 2) := by decide +kernel
theorem dX12_touch_109 : decode cX12_touch 109 = .ok (.iload 5, 2) := by decide +kernel
theorem dX12_touch_111 : decode cX12_touch 111 = .ok (.invokevirtual 316, 3) := by decide +kernel
theorem dX12_touch_114 : decode cX12_touch 114 = .ok (.iadd, 1) := by decide +kernel
theorem dX12_touch_115 : decode cX12_touch 115 = .ok (.ireturn, 1) := by decide +kernel
theorem dX12_touch_116 : decode cX12_touch 116 = .ok (.iload_n 1, 1) := by decide +kernel
theorem dX12_touch_117 : decode cX12_touch 117 = .ok (.iconst 3, 1) := by decide +kernel
theorem dX12_touch_118 : decode cX12_touch 118 = .ok (.if_icmp .ne 23, 3) := by decide +kernel
theorem dX12_touch_121 : decode cX12_touch 121 = .ok (.iload_n 2, 1) := by decide +kernel
theorem dX12_touch_122 : decode cX12_touch 122 = .ok (.iload 6, 2) := by decide +kernel
theorem dX12_touch_124 : decode cX12_touch 124 = .ok (.if_icmp .lt 9, 3) := by decide +kernel
theorem dX12_touch_127 : decode cX12_touch 127 = .ok (.iload_n 2, 1) := by decide +kernel
theorem dX12_touch_128 : decode cX12_touch 128 = .ok (.iload 7, 2) := by decide +kernel
theorem dX12_touch_130 : decode cX12_touch 130 = .ok (.if_icmp .lt 7, 3) := by decide +kernel
theorem dX12_touch_133 : decode cX12_touch 133 = .ok (.iconst 1, 1) := by decide +kernel
theorem dX12_touch_134 : decode cX12_touch 134 = .ok (.goto 24, 3) := by decide +kernel
theorem dX12_touch_137 : decode cX12_touch 137 = .ok (.iconst 0, 1) := by decide +kernel
theorem dX12_touch_138 : decode cX12_touch 138 = .ok (.goto 20, 3) := by decide +kernel
theorem dX12_touch_141 : decode cX12_touch 141 = .ok (.iload_n 2, 1) := by decide +kernel
theorem dX12_touch_142 : decode cX12_touch 142 = .ok (.iload 7, 2) := by decide +kernel
theorem dX12_touch_144 : decode cX12_touch 144 = .ok (.if_icmp .gt 9, 3) := by decide +kernel
theorem dX12_touch_147 : decode cX12_touch 147 = .ok (.iload_n 2, 1) := by decide +kernel
theorem dX12_touch_148 : decode cX12_touch 148 = .ok (.iload 6, 2) := by decide +kernel
theorem dX12_touch_150 : decode cX12_touch 150 = .ok (.if_icmp .gt 7, 3) := by decide +kernel
theorem dX12_touch_153 : decode cX12_touch 153 = .ok (.iconst 1, 1) := by decide +kernel
theorem dX12_touch_154 : decode cX12_touch 154 = .ok (.goto 4, 3) := by decide +kernel
theorem dX12_touch_157 : decode cX12_touch 157 = .ok (.iconst 0, 1) := by decide +kernel
theorem dX12_touch_158 : decode cX12_touch 158 = .ok (.istore 8, 2) := by decide +kernel
theorem dX12_touch_160 : decode cX12_touch 160 = .ok (.iload 8, 2) := by decide +kernel
theorem dX12_touch_162 : decode cX12_touch 162 = .ok (.ifCond .ne 12, 3) := by decide +kernel
theorem dX12_touch_165 : decode cX12_touch 165 = .ok (.iload 5, 2) := by decide +kernel
theorem dX12_touch_167 : decode cX12_touch 167 = .ok (.iload 4, 2) := by decide +kernel
theorem dX12_touch_169 : decode cX12_touch 169 = .ok (.isub, 1) := by decide +kernel
theorem dX12_touch_170 : decode cX12_touch 170 = .ok (.iconst 3, 1) := by decide +kernel
theorem dX12_touch_171 : decode cX12_touch 171 = .ok (.if_icmp .ge 5, 3) := by decide +kernel
theorem dX12_touch_174 : decode cX12_touch 174 = .ok (.iconst 1, 1) := by decide +kernel
theorem dX12_touch_175 : decode cX12_touch 175 = .ok (.ireturn, 1) := by decide +kernel
theorem dX12_touch_176 : decode cX12_touch 176 = .ok (.iconst 1, 1) := by decide +kernel
theorem dX12_touch_177 : decode cX12_touch 177 = .ok (.istore 9, 2) := by decide +kernel
theorem dX12_touch_179 : decode cX12_touch 179 = .ok (.aload_n 0, 1) := by decide +kernel
theorem dX12_touch_180 : decode cX12_touch 180 = .ok (.iload_n 3, 1) := by decide +kernel
theorem dX12_touch_181 : decode cX12_touch 181 = .ok (.invokevirtual 293, 3) := by decide +kernel
theorem dX12_touch_184 : decode cX12_touch 184 = .ok (.istore 10, 2) := by decide +kernel
theorem dX12_touch_186 : decode cX12_touch 186 = .ok (.aload_n 0, 1) := by decide +kernel
theorem dX12_touch_187 : decode cX12_touch 187 = .ok (.iload_n 2, 1) := by decide +kernel
theorem dX12_touch_188 : decode cX12_touch 188 = .ok (.iload_n 3, 1) := by decide +kernel
theorem dX12_touch_189 : decode cX12_touch 189 = .ok (.iload 4, 2) := by decide +kernel
theorem dX12_touch_191 : decode cX12_touch 191 = .ok (.iload 5, 2) := by decide +kernel
theorem dX12_touch_193 : decode cX12_touch 193 = .ok (.invokevirtual 313, 3) := by decide +kernel
theorem dX12_touch_196 : decode cX12_touch 196 = .ok (.ifCond .le 71, 3) := by decide +kernel
theorem dX12_touch_199 : decode cX12_touch 199 = .ok (.iinc 9 1, 3) := by decide +kernel
theorem dX12_touch_202 : decode cX12_touch 202 = .ok (.iload_n 2, 1) := by decide +kernel
theorem dX12_touch_203 : decode cX12_touch 203 = .ok (.iconst 1, 1) := by decide +kernel
theorem dX12_touch_204 : decode cX12_touch 204 = .ok (.iload 10, 2) := by decide +kernel
theorem dX12_touch_206 : decode cX12_touch 206 = .ok (.ishl, 1) := by decide +kernel
theorem dX12_touch_207 : decode cX12_touch 207 = .ok (.iconst 1, 1) := by decide +kernel
theorem dX12_touch_208 : decode cX12_touch 208 = .ok (.isub, 1) := by decide +kernel
theorem dX12_touch_209 : decode cX12_touch 209 = .ok (.iand, 1) := by decide +kernel
theorem dX12_touch_210 : decode cX12_touch 210 = .ok (.istore 11, 2) := by decide +kernel
theorem dX12_touch_212 : decode cX12_touch 212 = .ok (.iload_n 1, 1) := by decide +kernel
theorem dX12_touch_213 : decode cX12_touch 213 = .ok (.iconst 3, 1) := by decide +kernel
theorem dX12_touch_214 : decode cX12_touch 214 = .ok (.if_icmp .ne 22, 3) := by decide +kernel
theorem dX12_touch_217 : decode cX12_touch 217 = .ok (.iload 11, 2) := by decide +kernel
theorem dX12_touch_219 : decode cX12_touch 219 = .ok (.aload_n 0, 1) := by decide +kernel
theorem dX12_touch_220 : decode cX12_touch 220 = .ok (.iload_n 2, 1) := by decide +kernel
theorem dX12_touch_221 : decode cX12_touch 221 = .ok (.iload_n 3, 1) := by decide +kernel
theorem dX12_touch_222 : decode cX12_touch 222 = .ok (.iload 4, 2) := by decide +kernel
theorem dX12_touch_224 : decode cX12_touch 224 = .ok (.iload 5, 2) := by decide +kernel
theorem dX12_touch_226 : decode cX12_touch 226 = .ok (.iconst 0, 1) := by decide +kernel
theorem dX12_touch_227 : decode cX12_touch 227 = .ok (.invokevirtual 319, 3) := by decide +kernel
theorem dX12_touch_230 : decode cX12_touch 230 = .ok (.if_icmp .ge 37, 3) := by decide +kernel
theorem dX12_touch_233 : decode cX12_touch 233 = .ok (.goto 19, 3) := by decide +kernel
theorem dX12_touch_236 : decode cX12_touch 236 = .ok (.iload 11, 2) := by decide +kernel
theorem dX12_touch_238 : decode cX12_touch 238 = .ok (.aload_n 0, 1) := by decide +kernel
theorem dX12_touch_239 : decode cX12_touch 239 = .ok (.iload_n 2, 1) := by decide +kernel
theorem dX12_touch_240 : decode cX12_touch 240 = .ok (.iload_n 3, 1) := by decide +kernel
theorem dX12_touch_241 : decode cX12_touch 241 = .ok (.iload 4, 2) := by decide +kernel
theorem dX12_touch_243 : decode cX12_touch 243 = .ok (.iload 5, 2) := by decide +kernel
theorem dX12_touch_245 : decode cX12_touch 245 = .ok (.iconst 1, 1) := by decide +kernel
theorem dX12_touch_246 : decode cX12_touch 246 = .ok (.invokevirtual 319, 3) := by decide +kernel
theorem dX12_touch_249 : decode cX12_touch 249 = .ok (.if_icmp .le 18, 3) := by decide +kernel
theorem dX12_touch_252 : decode cX12_touch 252 = .ok (.iload 9, 2) := by decide +kernel
theorem dX12_touch_254 : decode cX12_touch 254 = .ok (.aload_n 0, 1) := by decide +kernel
theorem dX12_touch_255 : decode cX12_touch 255 = .ok (.iload_n 1, 1) := by decide +kernel
theorem dX12_touch_256 : decode cX12_touch 256 = .ok (.iload_n 2, 1) := by decide +kernel
theorem dX12_touch_257 : decode cX12_touch 257 = .ok (.iload_n 3, 1) := by decide +kernel
theorem dX12_touch_258 : decode cX12_touch 258 = .ok (.iload 4, 2) := by decide +kernel
theorem dX12_touch_260 : decode cX12_touch 260 = .ok (.iload 5, 2) := by decide +kernel
theorem dX12_touch_262 : decode cX12_touch 262 = .ok (.invokevirtual 316, 3) := by decide +kernel
theorem dX12_touch_265 : decode cX12_touch 265 = .ok (.iadd, 1) := by decide +kernel
theorem dX12_touch_266 : decode cX12_touch 266 = .ok (.ireturn, 1) := by decide +kernel
theorem dX12_touch_267 : decode cX12_touch 267 = .ok (.iload_n 1, 1) := by decide +kernel
theorem dX12_touch_268 : decode cX12_touch 268 = .ok (.iconst 3, 1) := by decide +kernel
theorem dX12_touch_269 : decode cX12_touch 269 = .ok (.if_icmp .ne 30, 3) := by decide +kernel
theorem dX12_touch_272 : decode cX12_touch 272 = .ok (.aload_n 0, 1) := by decide +kernel
theorem dX12_touch_273 : decode cX12_touch 273 = .ok (.getfield 84, 3) := by decide +kernel
theorem dX12_touch_276 : decode cX12_touch 276 = .ok (.iload 5, 2) := by decide +kernel
theorem dX12_touch_278 : decode cX12_touch 278 = .ok (.iconst 2, 1) := by decide +kernel
theorem dX12_touch_279 : decode cX12_touch 279 = .ok (.isub, 1) := by decide +kernel
theorem dX12_touch_280 : decode cX12_touch 280 = .ok (.iaload, 1) := by decide +kernel
theorem dX12_touch_281 : decode cX12_touch 281 = .ok (.iload 10, 2) := by decide +kernel
theorem dX12_touch_283 : decode cX12_touch 283 = .ok (.ishr, 1) := by decide +kernel
theorem dX12_touch_284 : decode cX12_touch 284 = .ok (.iload_n 2, 1) := by decide +kernel
theorem dX12_touch_285 : decode cX12_touch 285 = .ok (.iload 10, 2) := by decide +kernel
theorem dX12_touch_287 : decode cX12_touch 287 = .ok (.ishr, 1) := by decide +kernel
theorem dX12_touch_288 : decode cX12_touch 288 = .ok (.if_icmp .le 7, 3) := by decide +kernel
theorem dX12_touch_291 : decode cX12_touch 291 = .ok (.iconst 1, 1) := by decide +kernel
theorem dX12_touch_292 : decode cX12_touch 292 = .ok (.goto 31, 3) := by decide +kernel
theorem dX12_touch_295 : decode cX12_touch 295 = .ok (.iconst 0, 1) := by decide +kernel
theorem dX12_touch_296 : decode cX12_touch 296 = .ok (.goto 27, 3) := by decide +kernel
theorem dX12_touch_299 : decode cX12_touch 299 = .ok (.aload_n 0, 1) := by decide +kernel
theorem dX12_touch_300 : decode cX12_touch 300 = .ok (.getfield 84, 3) := by decide +kernel
theorem dX12_touch_303 : decode cX12_touch 303 = .ok (.iload 4, 2) := by decide +kernel
theorem dX12_touch_305 : decode cX12_touch 305 = .ok (.iconst 1, 1) := by decide +kernel
theorem dX12_touch_306 : decode cX12_touch 306 = .ok (.iadd, 1) := by decide +kernel
theorem dX12_touch_307 : decode cX12_touch 307 = .ok (.iaload, 1) := by decide +kernel
theorem dX12_touch_308 : decode cX12_touch 308 = .ok (.iload 10, 2) := by decide +kernel
theorem dX12_touch_310 : decode cX12_touch 310 = .ok (.ishr, 1) := by decide +kernel
theorem dX12_touch_311 : decode cX12_touch 311 = .ok (.iload_n 2, 1) := by decide +kernel
theorem dX12_touch_312 : decode cX12_touch 312 = .ok (.iload 10, 2) := by decide +kernel
theorem dX12_touch_314 : decode cX12_touch 314 = .ok (.ishr, 1) := by decide +kernel
theorem dX12_touch_315 : decode cX12_touch 315 = .ok (.if_icmp .ge 7, 3) := by decide +kernel
theorem dX12_touch_318 : decode cX12_touch 318 = .ok (.iconst 1, 1) := by decide +kernel
theorem dX12_touch_319 : decode cX12_touch 319 = .ok (.goto 4, 3) := by decide +kernel
theorem dX12_touch_322 : decode cX12_touch 322 = .ok (.iconst 0, 1) := by decide +kernel
theorem dX12_touch_323 : decode cX12_touch 323 = .ok (.istore 11, 2) := by decide +kernel
theorem dX12_touch_325 : decode cX12_touch 325 = .ok (.iload 9, 2) := by decide +kernel
theorem dX12_touch_327 : decode cX12_touch 327 = .ok (.aload_n 0, 1) := by decide +kernel
theorem dX12_touch_328 : decode cX12_touch 328 = .ok (.iload_n 1, 1) := by decide +kernel
theorem dX12_touch_329 : decode cX12_touch 329 = .ok (.iload_n 2, 1) := by decide +kernel
theorem dX12_touch_330 : decode cX12_touch 330 = .ok (.iload_n 3, 1) := by decide +kernel
theorem dX12_touch_331 : decode cX12_touch 331 = .ok (.iload 4, 2) := by decide +kernel
theorem dX12_touch_333 : decode cX12_touch 333 = .ok (.iload 5, 2) := by decide +kernel
theorem dX12_touch_335 : decode cX12_touch 335 = .ok (.invokevirtual 323, 3) := by decide +kernel
theorem dX12_touch_338 : decode cX12_touch 338 = .ok (.iadd, 1) := by decide +kernel
theorem dX12_touch_339 : decode cX12_touch 339 = .ok (.iload 11, 2) := by decide +kernel
theorem dX12_touch_341 : decode cX12_touch 341 = .ok (.ifCond .eq 7, 3) := by decide +kernel
theorem dX12_touch_344 : decode cX12_touch 344 = .ok (.iconst 1, 1) := by decide +kernel
theorem dX12_touch_345 : decode cX12_touch 345 = .ok (.goto 4, 3) := by decide +kernel
theorem dX12_touch_348 : decode cX12_touch 348 = .ok (.iconst 0, 1) := by decide +kernel
theorem dX12_touch_349 : decode cX12_touch 349 = .ok (.iadd, 1) := by decide +kernel
theorem dX12_touch_350 : decode cX12_touch 350 = .ok (.ireturn, 1) := by decide +kernel
theorem dX12_touchPut_0 : decode cX12_touchPut 0 = .ok (.aload_n 0, 1) := by decide +kernel
theorem dX12_touchPut_1 : decode cX12_touchPut 1 = .ok (.getfield 84, 3) := by decide +kernel
theorem dX12_touchPut_4 : decode cX12_touchPut 4 = .ok (.iload_n 3, 1) := by decide +kernel
theorem dX12_touchPut_5 : decode cX12_touchPut 5 = .ok (.iaload, 1) := by decide +kernel
theorem dX12_touchPut_6 : decode cX12_touchPut 6 = .ok (.istore 5, 2) := by decide +kernel
theorem dX12_touchPut_8 : decode cX12_touchPut 8 = .ok (.aload_n 0, 1) := by decide +kernel
theorem dX12_touchPut_9 : decode cX12_touchPut 9 = .ok (.getfield 84, 3) := by decide +kernel
theorem dX12_touchPut_12 : decode cX12_touchPut 12 = .ok (.iload 4, 2) := by decide +kernel
theorem dX12_touchPut_14 : decode cX12_touchPut 14 = .ok (.iconst 1, 1) := by decide +kernel
theorem dX12_touchPut_15 : decode cX12_touchPut 15 = .ok (.isub, 1) := by decide +kernel
theorem dX12_touchPut_16 : decode cX12_touchPut 16 = .ok (.iaload, 1) := by decide +kernel
theorem dX12_touchPut_17 : decode cX12_touchPut 17 = .ok (.istore 6, 2) := by decide +kernel
theorem dX12_touchPut_19 : decode cX12_touchPut 19 = .ok (.iload_n 1, 1) := by decide +kernel
theorem dX12_touchPut_20 : decode cX12_touchPut 20 = .ok (.iload 5, 2) := by decide +kernel
theorem dX12_touchPut_22 : decode cX12_touchPut 22 = .ok (.if_icmp .eq 17, 3) := by decide +kernel
theorem dX12_touchPut_25 : decode cX12_touchPut 25 = .ok (.iload_n 1, 1) := by decide +kernel
theorem dX12_touchPut_26 : decode cX12_touchPut 26 = .ok (.iload 6, 2) := by decide +kernel
theorem dX12_touchPut_28 : decode cX12_touchPut 28 = .ok (.if_icmp .eq 11, 3) := by decide +kernel
theorem dX12_touchPut_31 : decode cX12_touchPut 31 = .ok (.iload 4, 2) := by decide +kernel
theorem dX12_touchPut_33 : decode cX12_touchPut 33 = .ok (.iload_n 3, 1) := by decide +kernel
theorem dX12_touchPut_34 : decode cX12_touchPut 34 = .ok (.isub, 1) := by decide +kernel
theorem dX12_touchPut_35 : decode cX12_touchPut 35 = .ok (.iconst 1, 1) := by decide +kernel
theorem dX12_touchPut_36 : decode cX12_touchPut 36 = .ok (.if_icmp .ne 5, 3) := by decide +kernel
theorem dX12_touchPut_39 : decode cX12_touchPut 39 = .ok (.iconst 1, 1) := by decide +kernel
theorem dX12_touchPut_40 : decode cX12_touchPut 40 = .ok (.ireturn, 1) := by decide +kernel
theorem dX12_touchPut_41 : decode cX12_touchPut 41 = .ok (.iload_n 1, 1) := by decide +kernel
theorem dX12_touchPut_42 : decode cX12_touchPut 42 = .ok (.iload 5, 2) := by decide +kernel
theorem dX12_touchPut_44 : decode cX12_touchPut 44 = .ok (.if_icmp .ge 8, 3) := by decide +kernel
theorem dX12_touchPut_47 : decode cX12_touchPut 47 = .ok (.iload 5, 2) := by decide +kernel
theorem dX12_touchPut_49 : decode cX12_touchPut 49 = .ok (.goto 15, 3) := by decide +kernel
theorem dX12_touchPut_52 : decode cX12_touchPut 52 = .ok (.iload_n 1, 1) := by decide +kernel
theorem dX12_touchPut_53 : decode cX12_touchPut 53 = .ok (.iload 6, 2) := by decide +kernel
theorem dX12_touchPut_55 : decode cX12_touchPut 55 = .ok (.if_icmp .le 8, 3) := by decide +kernel
theorem dX12_touchPut_58 : decode cX12_touchPut 58 = .ok (.iload 6, 2) := by decide +kernel
theorem dX12_touchPut_60 : decode cX12_touchPut 60 = .ok (.goto 4, 3) := by decide +kernel
theorem dX12_touchPut_63 : decode cX12_touchPut 63 = .ok (.iload_n 1, 1) := by decide +kernel
theorem dX12_touchPut_64 : decode cX12_touchPut 64 = .ok (.istore 7, 2) := by decide +kernel
theorem dX12_touchPut_66 : decode cX12_touchPut 66 = .ok (.aload_n 0, 1) := by decide +kernel
theorem dX12_touchPut_67 : decode cX12_touchPut 67 = .ok (.iload 7, 2) := by decide +kernel
theorem dX12_touchPut_69 : decode cX12_touchPut 69 = .ok (.iload_n 2, 1) := by decide +kernel
theorem dX12_touchPut_70 : decode cX12_touchPut 70 = .ok (.iload_n 3, 1) := by decide +kernel
theorem dX12_touchPut_71 : decode cX12_touchPut 71 = .ok (.iload 4, 2) := by decide +kernel
theorem dX12_touchPut_73 : decode cX12_touchPut 73 = .ok (.invokevirtual 313, 3) := by decide +kernel
theorem dX12_touchPut_76 : decode cX12_touchPut 76 = .ok (.ifCond .ne 19, 3) := by decide +kernel
theorem dX12_touchPut_79 : decode cX12_touchPut 79 = .ok (.iconst 2, 1) := by decide +kernel
theorem dX12_touchPut_80 : decode cX12_touchPut 80 = .ok (.aload_n 0, 1) := by decide +kernel
theorem dX12_touchPut_81 : decode cX12_touchPut 81 = .ok (.iconst 0, 1) := by decide +kernel
theorem dX12_touchPut_82 : decode cX12_touchPut 82 = .ok (.iload 7, 2) := by decide +kernel
theorem dX12_touchPut_84 : decode cX12_touchPut 84 = .ok (.iload_n 2, 1) := by decide +kernel
theorem dX12_touchPut_85 : decode cX12_touchPut 85 = .ok (.iload_n 3, 1) := by decide +kernel
theorem dX12_touchPut_86 : decode cX12_touchPut 86 = .ok (.iload 4, 2) := by decide +kernel
theorem dX12_touchPut_88 : decode cX12_touchPut 88 = .ok (.invokevirtual 323, 3) := by decide +kernel
theorem dX12_touchPut_91 : decode cX12_touchPut 91 = .ok (.iadd, 1) := by decide +kernel
theorem dX12_touchPut_92 : decode cX12_touchPut 92 = .ok (.goto 16, 3) := by decide +kernel
theorem dX12_touchPut_95 : decode cX12_touchPut 95 = .ok (.iconst 1, 1) := by decide +kernel
theorem dX12_touchPut_96 : decode cX12_touchPut 96 = .ok (.aload_n 0, 1) := by decide +kernel
theorem dX12_touchPut_97 : decode cX12_touchPut 97 = .ok (.iconst 0, 1) := by decide +kernel
theorem dX12_touchPut_98 : decode cX12_touchPut 98 = .ok (.iload 7, 2) := by decide +kernel
theorem dX12_touchPut_100 : decode cX12_touchPut 100 = .ok (.iload_n 2, 1) := by decide +kernel
theorem dX12_touchPut_101 : decode cX12_touchPut 101 = .ok (.iload_n 3, 1) := by decide +kernel
theorem dX12_touchPut_102 : decode cX12_touchPut 102 = .ok (.iload 4, 2) := by decide +kernel
theorem dX12_touchPut_104 : decode cX12_touchPut 104 = .ok (.invokevirtual 316, 3) := by decide +kernel
theorem dX12_touchPut_107 : decode cX12_touchPut 107 = .ok (.iadd, 1) := by decide +kernel
theorem dX12_touchPut_108 : decode cX12_touchPut 108 = .ok (.ireturn, 1) := by decide +kernel
theorem dX12_touchDrop_0 : decode cX12_touchDrop 0 = .ok (.aload_n 0, 1) := by decide +kernel
theorem dX12_touchDrop_1 : decode cX12_touchDrop 1 = .ok (.getfield 84, 3) := by decide +kernel
theorem dX12_touchDrop_4 : decode cX12_touchDrop 4 = .ok (.iload_n 3, 1) := by decide +kernel
theorem dX12_touchDrop_5 : decode cX12_touchDrop 5 = .ok (.iaload, 1) := by decide +kernel
theorem dX12_touchDrop_6 : decode cX12_touchDrop 6 = .ok (.istore 5, 2) := by decide +kernel
theorem dX12_touchDrop_8 : decode cX12_touchDrop 8 = .ok (.aload_n 0, 1) := by decide +kernel
theorem dX12_touchDrop_9 : decode cX12_touchDrop 9 = .ok (.getfield 84, 3) := by decide +kernel
theorem dX12_touchDrop_12 : decode cX12_touchDrop 12 = .ok (.iload 4, 2) := by decide +kernel
theorem dX12_touchDrop_14 : decode cX12_touchDrop 14 = .ok (.iconst 1, 1) := by decide +kernel
theorem dX12_touchDrop_15 : decode cX12_touchDrop 15 = .ok (.isub, 1) := by decide +kernel
theorem dX12_touchDrop_16 : decode cX12_touchDrop 16 = .ok (.iaload, 1) := by decide +kernel
theorem dX12_touchDrop_17 : decode cX12_touchDrop 17 = .ok (.istore 6, 2) := by decide +kernel
theorem dX12_touchDrop_19 : decode cX12_touchDrop 19 = .ok (.iload_n 1, 1) := by decide +kernel
theorem dX12_touchDrop_20 : decode cX12_touchDrop 20 = .ok (.iload 5, 2) := by decide +kernel
theorem dX12_touchDrop_22 : decode cX12_touchDrop 22 = .ok (.if_icmp .eq 9, 3) := by decide +kernel
theorem dX12_touchDrop_25 : decode cX12_touchDrop 25 = .ok (.iload_n 1, 1) := by decide +kernel
theorem dX12_touchDrop_26 : decode cX12_touchDrop 26 = .ok (.iload 6, 2) := by decide +kernel
theorem dX12_touchDrop_28 : decode cX12_touchDrop 28 = .ok (.if_icmp .ne 7, 3) := by decide +kernel
theorem dX12_touchDrop_31 : decode cX12_touchDrop 31 = .ok (.iconst 1, 1) := by decide +kernel
theorem dX12_touchDrop_32 : decode cX12_touchDrop 32 = .ok (.goto 4, 3) := by decide +kernel
theorem dX12_touchDrop_35 : decode cX12_touchDrop 35 = .ok (.iconst 0, 1) := by decide +kernel
theorem dX12_touchDrop_36 : decode cX12_touchDrop 36 = .ok (.istore 7, 2) := by decide +kernel
theorem dX12_touchDrop_38 : decode cX12_touchDrop 38 = .ok (.iload_n 1, 1) := by decide +kernel
theorem dX12_touchDrop_39 : decode cX12_touchDrop 39 = .ok (.iload 5, 2) := by decide +kernel
theorem dX12_touchDrop_41 : decode cX12_touchDrop 41 = .ok (.if_icmp .lt 30, 3) := by decide +kernel
theorem dX12_touchDrop_44 : decode cX12_touchDrop 44 = .ok (.iload_n 1, 1) := by decide +kernel
theorem dX12_touchDrop_45 : decode cX12_touchDrop 45 = .ok (.iload 6, 2) := by decide +kernel
theorem dX12_touchDrop_47 : decode cX12_touchDrop 47 = .ok (.if_icmp .gt 24, 3) := by decide +kernel
theorem dX12_touchDrop_50 : decode cX12_touchDrop 50 = .ok (.iload 4, 2) := by decide +kernel
theorem dX12_touchDrop_52 : decode cX12_touchDrop 52 = .ok (.iload_n 3, 1) := by decide +kernel
theorem dX12_touchDrop_53 : decode cX12_touchDrop 53 = .ok (.isub, 1) := by decide +kernel
theorem dX12_touchDrop_54 : decode cX12_touchDrop 54 = .ok (.iconst 1, 1) := by decide +kernel
theorem dX12_touchDrop_55 : decode cX12_touchDrop 55 = .ok (.if_icmp .eq 16, 3) := by decide +kernel
theorem dX12_touchDrop_58 : decode cX12_touchDrop 58 = .ok (.iload 7, 2) := by decide +kernel
theorem dX12_touchDrop_60 : decode cX12_touchDrop 60 = .ok (.ifCond .eq 13, 3) := by decide +kernel
theorem dX12_touchDrop_63 : decode cX12_touchDrop 63 = .ok (.iload 4, 2) := by decide +kernel
theorem dX12_touchDrop_65 : decode cX12_touchDrop 65 = .ok (.iload_n 3, 1) := by decide +kernel
theorem dX12_touchDrop_66 : decode cX12_touchDrop 66 = .ok (.isub, 1) := by decide +kernel
theorem dX12_touchDrop_67 : decode cX12_touchDrop 67 = .ok (.iconst 2, 1) := by decide +kernel
theorem dX12_touchDrop_68 : decode cX12_touchDrop 68 = .ok (.if_icmp .ne 5, 3) := by decide +kernel
theorem dX12_touchDrop_71 : decode cX12_touchDrop 71 = .ok (.iconst 1, 1) := by decide +kernel
theorem dX12_touchDrop_72 : decode cX12_touchDrop 72 = .ok (.ireturn, 1) := by decide +kernel
theorem dX12_touchDrop_73 : decode cX12_touchDrop 73 = .ok (.iload 7, 2) := by decide +kernel
theorem dX12_touchDrop_75 : decode cX12_touchDrop 75 = .ok (.ifCond .eq 7, 3) := by decide +kernel
theorem dX12_touchDrop_78 : decode cX12_touchDrop 78 = .ok (.iconst 3, 1) := by decide +kernel
theorem dX12_touchDrop_79 : decode cX12_touchDrop 79 = .ok (.goto 4, 3) := by decide +kernel
theorem dX12_touchDrop_82 : decode cX12_touchDrop 82 = .ok (.iconst 1, 1) := by decide +kernel
theorem dX12_touchDrop_83 : decode cX12_touchDrop 83 = .ok (.istore 8, 2) := by decide +kernel
theorem dX12_touchDrop_85 : decode cX12_touchDrop 85 = .ok (.iload_n 1, 1) := by decide +kernel
theorem dX12_touchDrop_86 : decode cX12_touchDrop 86 = .ok (.iload 5, 2) := by decide +kernel
theorem dX12_touchDrop_88 : decode cX12_touchDrop 88 = .ok (.if_icmp .ne 14, 3) := by decide +kernel
theorem dX12_touchDrop_91 : decode cX12_touchDrop 91 = .ok (.aload_n 0, 1) := by decide +kernel
theorem dX12_touchDrop_92 : decode cX12_touchDrop 92 = .ok (.getfield 84, 3) := by decide +kernel
theorem dX12_touchDrop_95 : decode cX12_touchDrop 95 = .ok (.iload_n 3, 1) := by decide +kernel
theorem dX12_touchDrop_96 : decode cX12_touchDrop 96 = .ok (.iconst 1, 1) := by decide +kernel
theorem dX12_touchDrop_97 : decode cX12_touchDrop 97 = .ok (.iadd, 1) := by decide +kernel
theorem dX12_touchDrop_98 : decode cX12_touchDrop 98 = .ok (.iaload, 1) := by decide +kernel
theorem dX12_touchDrop_99 : decode cX12_touchDrop 99 = .ok (.goto 22, 3) := by decide +kernel
theorem dX12_touchDrop_102 : decode cX12_touchDrop 102 = .ok (.iload_n 1, 1) := by decide +kernel
theorem dX12_touchDrop_103 : decode cX12_touchDrop 103 = .ok (.iload 6, 2) := by decide +kernel
theorem dX12_touchDrop_105 : decode cX12_touchDrop 105 = .ok (.if_icmp .ne 15, 3) := by decide +kernel
theorem dX12_touchDrop_108 : decode cX12_touchDrop 108 = .ok (.aload_n 0, 1) := by decide +kernel
theorem dX12_touchDrop_109 : decode cX12_touchDrop 109 = .ok (.getfield 84, 3) := by decide +kernel
theorem dX12_touchDrop_112 : decode cX12_touchDrop 112 = .ok (.iload 4, 2) := by decide +kernel
theorem dX12_touchDrop_114 : decode cX12_touchDrop 114 = .ok (.iconst 2, 1) := by decide +kernel
theorem dX12_touchDrop_115 : decode cX12_touchDrop 115 = .ok (.isub, 1) := by decide +kernel
theorem dX12_touchDrop_116 : decode cX12_touchDrop 116 = .ok (.iaload, 1) := by decide +kernel
theorem dX12_touchDrop_117 : decode cX12_touchDrop 117 = .ok (.goto 4, 3) := by decide +kernel
theorem dX12_touchDrop_120 : decode cX12_touchDrop 120 = .ok (.iload_n 1, 1) := by decide +kernel
theorem dX12_touchDrop_121 : decode cX12_touchDrop 121 = .ok (.istore 9, 2) := by decide +kernel
theorem dX12_touchDrop_123 : decode cX12_touchDrop 123 = .ok (.aload_n 0, 1) := by decide +kernel
theorem dX12_touchDrop_124 : decode cX12_touchDrop 124 = .ok (.iload 9, 2) := by decide +kernel
theorem dX12_touchDrop_126 : decode cX12_touchDrop 126 = .ok (.iload_n 2, 1) := by decide +kernel
theorem dX12_touchDrop_127 : decode cX12_touchDrop 127 = .ok (.iload_n 3, 1) := by decide +kernel
theorem dX12_touchDrop_128 : decode cX12_touchDrop 128 = .ok (.iload 4, 2) := by decide +kernel
theorem dX12_touchDrop_130 : decode cX12_touchDrop 130 = .ok (.invokevirtual 313, 3) := by decide +kernel
theorem dX12_touchDrop_133 : decode cX12_touchDrop 133 = .ok (.istore 10, 2) := by decide +kernel
theorem dX12_touchDrop_135 : decode cX12_touchDrop 135 = .ok (.iload 10, 2) := by decide +kernel
theorem dX12_touchDrop_137 : decode cX12_touchDrop 137 = .ok (.ifCond .ne 6, 3) := by decide +kernel
theorem dX12_touchDrop_140 : decode cX12_touchDrop 140 = .ok (.iload 8, 2) := by decide +kernel
theorem dX12_touchDrop_142 : decode cX12_touchDrop 142 = .ok (.ireturn, 1) := by decide +kernel
theorem dX12_touchDrop_143 : decode cX12_touchDrop 143 = .ok (.iload 10, 2) := by decide +kernel
theorem dX12_touchDrop_145 : decode cX12_touchDrop 145 = .ok (.iconst 1, 1) := by decide +kernel
theorem dX12_touchDrop_146 : decode cX12_touchDrop 146 = .ok (.if_icmp .ne 19, 3) := by decide +kernel
theorem dX12_touchDrop_149 : decode cX12_touchDrop 149 = .ok (.aload_n 0, 1) := by decide +kernel
theorem dX12_touchDrop_150 : decode cX12_touchDrop 150 = .ok (.iload 9, 2) := by decide +kernel
theorem dX12_touchDrop_152 : decode cX12_touchDrop 152 = .ok (.iload_n 3, 1) := by decide +kernel
theorem dX12_touchDrop_153 : decode cX12_touchDrop 153 = .ok (.iload 4, 2) := by decide +kernel
theorem dX12_touchDrop_155 : decode cX12_touchDrop 155 = .ok (.invokevirtual 326, 3) := by decide +kernel
theorem dX12_touchDrop_158 : decode cX12_touchDrop 158 = .ok (.ifCond .eq 7, 3) := by decide +kernel
theorem dX12_touchDrop_161 : decode cX12_touchDrop 161 = .ok (.iconst 1, 1) := by decide +kernel
theorem dX12_touchDrop_162 : decode cX12_touchDrop 162 = .ok (.goto 4, 3) := by decide +kernel
theorem dX12_touchDrop_165 : decode cX12_touchDrop 165 = .ok (.iconst 0, 1) := by decide +kernel
theorem dX12_touchDrop_166 : decode cX12_touchDrop 166 = .ok (.istore 11, 2) := by decide +kernel
theorem dX12_touchDrop_168 : decode cX12_touchDrop 168 = .ok (.iload 8, 2) := by decide +kernel
theorem dX12_touchDrop_170 : decode cX12_touchDrop 170 = .ok (.aload_n 0, 1) := by decide +kernel
theorem dX12_touchDrop_171 : decode cX12_touchDrop 171 = .ok (.iconst 1, 1) := by decide +kernel
theorem dX12_touchDrop_172 : decode cX12_touchDrop 172 = .ok (.iload 9, 2) := by decide +kernel
theorem dX12_touchDrop_174 : decode cX12_touchDrop 174 = .ok (.iload_n 2, 1) := by decide +kernel
theorem dX12_touchDrop_175 : decode cX12_touchDrop 175 = .ok (.iload_n 3, 1) := by decide +kernel
theorem dX12_touchDrop_176 : decode cX12_touchDrop 176 = .ok (.iload 4, 2) := by decide +kernel
theorem dX12_touchDrop_178 : decode cX12_touchDrop 178 = .ok (.invokevirtual 316, 3) := by decide +kernel
theorem dX12_touchDrop_181 : decode cX12_touchDrop 181 = .ok (.iadd, 1) := by decide +kernel
theorem dX12_touchDrop_182 : decode cX12_touchDrop 182 = .ok (.iload 11, 2) := by decide +kernel
theorem dX12_touchDrop_184 : decode cX12_touchDrop 184 = .ok (.ifCond .eq 17, 3) := by decide +kernel
theorem dX12_touchDrop_187 : decode cX12_touchDrop 187 = .ok (.aload_n 0, 1) := by decide +kernel
theorem dX12_touchDrop_188 : decode cX12_touchDrop 188 = .ok (.iconst 1, 1) := by decide +kernel
theorem dX12_touchDrop_189 : decode cX12_touchDrop 189 = .ok (.iload 9, 2) := by decide +kernel
theorem dX12_touchDrop_191 : decode cX12_touchDrop 191 = .ok (.iload_n 2, 1) := by decide +kernel
theorem dX12_touchDrop_192 : decode cX12_touchDrop 192 = .ok (.iload_n 3, 1) := by decide +kernel
theorem dX12_touchDrop_193 : decode cX12_touchDrop 193 = .ok (.iload 4, 2) := by decide +kernel
theorem dX12_touchDrop_195 : decode cX12_touchDrop 195 = .ok (.invokevirtual 323, 3) := by decide +kernel
theorem dX12_touchDrop_198 : decode cX12_touchDrop 198 = .ok (.goto 4, 3) := by decide +kernel
theorem dX12_touchDrop_201 : decode cX12_touchDrop 201 = .ok (.iconst 0, 1) := by decide +kernel
theorem dX12_touchDrop_202 : decode cX12_touchDrop 202 = .ok (.iadd, 1) := by decide +kernel
theorem dX12_touchDrop_203 : decode cX12_touchDrop 203 = .ok (.ireturn, 1) := by decide +kernel
theorem dX12_halves_0 : decode cX12_halves 0 = .ok (.aload_n 0, 1) := by decide +kernel
theorem dX12_halves_1 : decode cX12_halves 1 = .ok (.iload_n 1, 1) := by decide +kernel
theorem dX12_halves_2 : decode cX12_halves 2 = .ok (.invokevirtual 329, 3) := by decide +kernel
theorem dX12_halves_5 : decode cX12_halves 5 = .ok (.aload_n 0, 1) := by decide +kernel
theorem dX12_halves_6 : decode cX12_halves 6 = .ok (.iload_n 2, 1) := by decide +kernel
theorem dX12_halves_7 : decode cX12_halves 7 = .ok (.iload_n 3, 1) := by decide +kernel
theorem dX12_halves_8 : decode cX12_halves 8 = .ok (.aload_n 0, 1) := by decide +kernel
theorem dX12_halves_9 : decode cX12_halves 9 = .ok (.getfield 23, 3) := by decide +kernel
theorem dX12_halves_12 : decode cX12_halves 12 = .ok (.iconst 0, 1) := by decide +kernel
theorem dX12_halves_13 : decode cX12_halves 13 = .ok (.aload_n 0, 1) := by decide +kernel
theorem dX12_halves_14 : decode cX12_halves 14 = .ok (.getfield 290, 3) := by decide +kernel
theorem dX12_halves_17 : decode cX12_halves 17 = .ok (.invokevirtual 299, 3) := by decide +kernel
theorem dX12_halves_20 : decode cX12_halves 20 = .ok (.ireturn, 1) := by decide +kernel
theorem dX12_touched_0 : decode cX12_touched 0 = .ok (.iload 4, 2) := by decide +kernel
theorem dX12_touched_2 : decode cX12_touched 2 = .ok (.ifCond .ne 13, 3) := by decide +kernel
theorem dX12_touched_5 : decode cX12_touched 5 = .ok (.aload_n 0, 1) := by decide +kernel
theorem dX12_touched_6 : decode cX12_touched 6 = .ok (.iload_n 1, 1) := by decide +kernel
theorem dX12_touched_7 : decode cX12_touched 7 = .ok (.iload_n 2, 1) := by decide +kernel
theorem dX12_touched_8 : decode cX12_touched 8 = .ok (.iload_n 3, 1) := by decide +kernel
theorem dX12_touched_9 : decode cX12_touched 9 = .ok (.invokevirtual 335, 3) := by decide +kernel
theorem dX12_touched_12 : decode cX12_touched 12 = .ok (.goto 26, 3) := by decide +kernel
theorem dX12_touched_15 : decode cX12_touched 15 = .ok (.iload 4, 2) := by decide +kernel
theorem dX12_touched_17 : decode cX12_touched 17 = .ok (.iconst 1, 1) := by decide +kernel
theorem dX12_touched_18 : decode cX12_touched 18 = .ok (.if_icmp .ne 13, 3) := by decide +kernel
theorem dX12_touched_21 : decode cX12_touched 21 = .ok (.aload_n 0, 1) := by decide +kernel
theorem dX12_touched_22 : decode cX12_touched 22 = .ok (.iload_n 1, 1) := by decide +kernel
theorem dX12_touched_23 : decode cX12_touched 23 = .ok (.iload_n 2, 1) := by decide +kernel
theorem dX12_touched_24 : decode cX12_touched 24 = .ok (.iload_n 3, 1) := by decide +kernel
theorem dX12_touched_25 : decode cX12_touched 25 = .ok (.invokevirtual 338, 3) := by decide +kernel
theorem dX12_touched_28 : decode cX12_touched 28 = .ok (.goto 10, 3) := by decide +kernel
theorem dX12_touched_31 : decode cX12_touched 31 = .ok (.aload_n 0, 1) := by decide +kernel
theorem dX12_touched_32 : decode cX12_touched 32 = .ok (.iload_n 1, 1) := by decide +kernel
theorem dX12_touched_33 : decode cX12_touched 33 = .ok (.iload_n 2, 1) := by decide +kernel
theorem dX12_touched_34 : decode cX12_touched 34 = .ok (.iload_n 3, 1) := by decide +kernel
theorem dX12_touched_35 : decode cX12_touched 35 = .ok (.invokevirtual 341, 3) := by decide +kernel
theorem dX12_touched_38 : decode cX12_touched 38 = .ok (.ireturn, 1) := by decide +kernel
theorem dX12_touches_0 : decode cX12_touches 0 = .ok (.aload_n 0, 1) := by decide +kernel
theorem dX12_touches_1 : decode cX12_touches 1 = .ok (.iconst 0, 1) := by decide +kernel
theorem dX12_touches_2 : decode cX12_touches 2 = .ok (.putfield 1, 3) := by decide +kernel
theorem dX12_touches_5 : decode cX12_touches 5 = .ok (.aload_n 0, 1) := by decide +kernel
theorem dX12_touches_6 : decode cX12_touches 6 = .ok (.iload_n 1, 1) := by decide +kernel
theorem dX12_touches_7 : decode cX12_touches 7 = .ok (.iconst 1, 1) := by decide +kernel
theorem dX12_touches_8 : decode cX12_touches 8 = .ok (.invokevirtual 260, 3) := by decide +kernel
theorem dX12_touches_11 : decode cX12_touches 11 = .ok (.ifCond .eq 43, 3) := by decide +kernel
theorem dX12_touches_14 : decode cX12_touches 14 = .ok (.aload_n 0, 1) := by decide +kernel
theorem dX12_touches_15 : decode cX12_touches 15 = .ok (.iload_n 2, 1) := by decide +kernel
theorem dX12_touches_16 : decode cX12_touches 16 = .ok (.invokestatic 344, 3) := by decide +kernel
theorem dX12_touches_19 : decode cX12_touches 19 = .ok (.ifCond .eq 26, 3) := by decide +kernel
theorem dX12_touches_22 : decode cX12_touches 22 = .ok (.iload 4, 2) := by decide +kernel
theorem dX12_touches_24 : decode cX12_touches 24 = .ok (.iconst 0, 1) := by decide +kernel
theorem dX12_touches_25 : decode cX12_touches 25 = .ok (.iconst 2, 1) := by decide +kernel
theorem dX12_touches_26 : decode cX12_touches 26 = .ok (.invokestatic 250, 3) := by decide +kernel
theorem dX12_touches_29 : decode cX12_touches 29 = .ok (.ifCond .eq 16, 3) := by decide +kernel
theorem dX12_touches_32 : decode cX12_touches 32 = .ok (.aload_n 0, 1) := by decide +kernel
theorem dX12_touches_33 : decode cX12_touches 33 = .ok (.iload_n 2, 1) := by decide +kernel
theorem dX12_touches_34 : decode cX12_touches 34 = .ok (.iload_n 3, 1) := by decide +kernel
theorem dX12_touches_35 : decode cX12_touches 35 = .ok (.invokevirtual 283, 3) := by decide +kernel
theorem dX12_touches_38 : decode cX12_touches 38 = .ok (.ifCond .eq 7, 3) := by decide +kernel
theorem dX12_touches_41 : decode cX12_touches 41 = .ok (.iconst 1, 1) := by decide +kernel
theorem dX12_touches_42 : decode cX12_touches 42 = .ok (.goto 4, 3) := by decide +kernel
theorem dX12_touches_45 : decode cX12_touches 45 = .ok (.iconst 0, 1) := by decide +kernel
theorem dX12_touches_46 : decode cX12_touches 46 = .ok (.iconst 2, 1) := by decide +kernel
theorem dX12_touches_47 : decode cX12_touches 47 = .ok (.iconst 2, 1) := by decide +kernel
theorem dX12_touches_48 : decode cX12_touches 48 = .ok (.invokevirtual 157, 3) := by decide +kernel
theorem dX12_touches_51 : decode cX12_touches 51 = .ok (.ifCond .ne 5, 3) := by decide +kernel
theorem dX12_touches_54 : decode cX12_touches 54 = .ok (.iconst 0, 1) := by decide +kernel
theorem dX12_touches_55 : decode cX12_touches 55 = .ok (.ireturn, 1) := by decide +kernel
theorem dX12_touches_56 : decode cX12_touches 56 = .ok (.aload_n 0, 1) := by decide +kernel
theorem dX12_touches_57 : decode cX12_touches 57 = .ok (.iload_n 1, 1) := by decide +kernel
theorem dX12_touches_58 : decode cX12_touches 58 = .ok (.iload_n 2, 1) := by decide +kernel
theorem dX12_touches_59 : decode cX12_touches 59 = .ok (.iload_n 3, 1) := by decide +kernel
theorem dX12_touches_60 : decode cX12_touches 60 = .ok (.iload 4, 2) := by decide +kernel
theorem dX12_touches_62 : decode cX12_touches 62 = .ok (.invokevirtual 347, 3) := by decide +kernel
theorem dX12_touches_65 : decode cX12_touches 65 = .ok (.ireturn, 1) := by decide +kernel
theorem dX12_asks_0 : decode cX12_asks 0 = .ok (.iconst 0, 1) := by decide +kernel
theorem dX12_asks_1 : decode cX12_asks 1 = .ok (.istore_n 3, 1) := by decide +kernel
theorem dX12_asks_2 : decode cX12_asks 2 = .ok (.iload_n 3, 1) := by decide +kernel
theorem dX12_asks_3 : decode cX12_asks 3 = .ok (.aload_n 0, 1) := by decide +kernel
theorem dX12_asks_4 : decode cX12_asks 4 = .ok (.invokevirtual 257, 3) := by decide +kernel
theorem dX12_asks_7 : decode cX12_asks 7 = .ok (.if_icmp .ge 129, 3) := by decide +kernel
theorem dX12_asks_10 : decode cX12_asks 10 = .ok (.aload_n 0, 1) := by decide +kernel
theorem dX12_asks_11 : decode cX12_asks 11 = .ok (.iconst 0, 1) := by decide +kernel
theorem dX12_asks_12 : decode cX12_asks 12 = .ok (.putfield 290, 3) := by decide +kernel
theorem dX12_asks_15 : decode cX12_asks 15 = .ok (.iconst 0, 1) := by decide +kernel
theorem dX12_asks_16 : decode cX12_asks 16 = .ok (.istore 4, 2) := by decide +kernel
theorem dX12_asks_18 : decode cX12_asks 18 = .ok (.iload 4, 2) := by decide +kernel
theorem dX12_asks_20 : decode cX12_asks 20 = .ok (.iload_n 2, 1) := by decide +kernel
theorem dX12_asks_21 : decode cX12_asks 21 = .ok (.if_icmp .ge 35, 3) := by decide +kernel
theorem dX12_asks_24 : decode cX12_asks 24 = .ok (.aload_n 0, 1) := by decide +kernel
theorem dX12_asks_25 : decode cX12_asks 25 = .ok (.getfield 84, 3) := by decide +kernel
theorem dX12_asks_28 : decode cX12_asks 28 = .ok (.aload_n 0, 1) := by decide +kernel
theorem dX12_asks_29 : decode cX12_asks 29 = .ok (.getfield 290, 3) := by decide +kernel
theorem dX12_asks_32 : decode cX12_asks 32 = .ok (.aload_n 0, 1) := by decide +kernel
theorem dX12_asks_33 : decode cX12_asks 33 = .ok (.getfield 90, 3) := by decide +kernel
theorem dX12_asks_36 : decode cX12_asks 36 = .ok (.iload 4, 2) := by decide +kernel
theorem dX12_asks_38 : decode cX12_asks 38 = .ok (.iaload, 1) := by decide +kernel
theorem dX12_asks_39 : decode cX12_asks 39 = .ok (.iastore, 1) := by decide +kernel
theorem dX12_asks_40 : decode cX12_asks 40 = .ok (.aload_n 0, 1) := by decide +kernel
theorem dX12_asks_41 : decode cX12_asks 41 = .ok (.dup, 1) := by decide +kernel
theorem dX12_asks_42 : decode cX12_asks 42 = .ok (.getfield 290, 3) := by decide +kernel
theorem dX12_asks_45 : decode cX12_asks 45 = .ok (.iconst 1, 1) := by decide +kernel
theorem dX12_asks_46 : decode cX12_asks 46 = .ok (.iadd, 1) := by decide +kernel
theorem dX12_asks_47 : decode cX12_asks 47 = .ok (.putfield 290, 3) := by decide +kernel
theorem dX12_asks_50 : decode cX12_asks 50 = .ok (.iinc 4 1, 3) := by decide +kernel
theorem dX12_asks_53 : decode cX12_asks 53 = .ok (.goto (-35), 3) := by decide +kernel
theorem dX12_asks_56 : decode cX12_asks 56 = .ok (.aload_n 0, 1) := by decide +kernel
theorem dX12_asks_57 : decode cX12_asks 57 = .ok (.iload_n 1, 1) := by decide +kernel
theorem dX12_asks_58 : decode cX12_asks 58 = .ok (.iload_n 3, 1) := by decide +kernel
theorem dX12_asks_59 : decode cX12_asks 59 = .ok (.aload_n 0, 1) := by decide +kernel
theorem dX12_asks_60 : decode cX12_asks 60 = .ok (.getfield 23, 3) := by decide +kernel
theorem dX12_asks_63 : decode cX12_asks 63 = .ok (.iconst 0, 1) := by decide +kernel
theorem dX12_asks_64 : decode cX12_asks 64 = .ok (.aload_n 0, 1) := by decide +kernel
theorem dX12_asks_65 : decode cX12_asks 65 = .ok (.getfield 290, 3) := by decide +kernel
theorem dX12_asks_68 : decode cX12_asks 68 = .ok (.invokevirtual 299, 3) := by decide +kernel
theorem dX12_asks_71 : decode cX12_asks 71 = .ok (.istore 4, 2) := by decide +kernel
theorem dX12_asks_73 : decode cX12_asks 73 = .ok (.iload 4, 2) := by decide +kernel
theorem dX12_asks_75 : decode cX12_asks 75 = .ok (.aload_n 0, 1) := by decide +kernel
theorem dX12_asks_76 : decode cX12_asks 76 = .ok (.getfield 356, 3) := by decide +kernel
theorem dX12_asks_79 : decode cX12_asks 79 = .ok (.if_icmp .gt 6, 3) := by decide +kernel
theorem dX12_asks_82 : decode cX12_asks 82 = .ok (.goto 48, 3) := by decide +kernel
theorem dX12_asks_85 : decode cX12_asks 85 = .ok (.aload_n 0, 1) := by decide +kernel
theorem dX12_asks_86 : decode cX12_asks 86 = .ok (.iload 4, 2) := by decide +kernel
theorem dX12_asks_88 : decode cX12_asks 88 = .ok (.putfield 356, 3) := by decide +kernel
theorem dX12_asks_91 : decode cX12_asks 91 = .ok (.aload_n 0, 1) := by decide +kernel
theorem dX12_asks_92 : decode cX12_asks 92 = .ok (.iload_n 2, 1) := by decide +kernel
theorem dX12_asks_93 : decode cX12_asks 93 = .ok (.putfield 359, 3) := by decide +kernel
theorem dX12_asks_96 : decode cX12_asks 96 = .ok (.aload_n 0, 1) := by decide +kernel
theorem dX12_asks_97 : decode cX12_asks 97 = .ok (.iload_n 3, 1) := by decide +kernel
theorem dX12_asks_98 : decode cX12_asks 98 = .ok (.putfield 362, 3) := by decide +kernel
theorem dX12_asks_101 : decode cX12_asks 101 = .ok (.iconst 0, 1) := by decide +kernel
theorem dX12_asks_102 : decode cX12_asks 102 = .ok (.istore 5, 2) := by decide +kernel
theorem dX12_asks_104 : decode cX12_asks 104 = .ok (.iload 5, 2) := by decide +kernel
theorem dX12_asks_106 : decode cX12_asks 106 = .ok (.iload_n 2, 1) := by decide +kernel
theorem dX12_asks_107 : decode cX12_asks 107 = .ok (.if_icmp .ge 23, 3) := by decide +kernel
theorem dX12_asks_110 : decode cX12_asks 110 = .ok (.aload_n 0, 1) := by decide +kernel
theorem dX12_asks_111 : decode cX12_asks 111 = .ok (.getfield 87, 3) := by decide +kernel
theorem dX12_asks_114 : decode cX12_asks 114 = .ok (.iload 5, 2) := by decide +kernel
theorem dX12_asks_116 : decode cX12_asks 116 = .ok (.aload_n 0, 1) := by decide +kernel
theorem dX12_asks_117 : decode cX12_asks 117 = .ok (.getfield 90, 3) := by decide +kernel
theorem dX12_asks_120 : decode cX12_asks 120 = .ok (.iload 5, 2) := by decide +kernel
theorem dX12_asks_122 : decode cX12_asks 122 = .ok (.iaload, 1) := by decide +kernel
theorem dX12_asks_123 : decode cX12_asks 123 = .ok (.iastore, 1) := by decide +kernel
theorem dX12_asks_124 : decode cX12_asks 124 = .ok (.iinc 5 1, 3) := by decide +kernel
theorem dX12_asks_127 : decode cX12_asks 127 = .ok (.goto (-23), 3) := by decide +kernel
theorem dX12_asks_130 : decode cX12_asks 130 = .ok (.iinc 3 1, 3) := by decide +kernel
theorem dX12_asks_133 : decode cX12_asks 133 = .ok (.goto (-131), 3) := by decide +kernel
theorem dX12_asks_136 : decode cX12_asks 136 = .ok (.return_, 1) := by decide +kernel
theorem dX12_sets_0 : decode cX12_sets 0 = .ok (.iload_n 3, 1) := by decide +kernel
theorem dX12_sets_1 : decode cX12_sets 1 = .ok (.ifCond .ge 10, 3) := by decide +kernel
theorem dX12_sets_4 : decode cX12_sets 4 = .ok (.aload_n 0, 1) := by decide +kernel
theorem dX12_sets_5 : decode cX12_sets 5 = .ok (.iload_n 1, 1) := by decide +kernel
theorem dX12_sets_6 : decode cX12_sets 6 = .ok (.iload_n 2, 1) := by decide +kernel
theorem dX12_sets_7 : decode cX12_sets 7 = .ok (.invokevirtual 365, 3) := by decide +kernel
theorem dX12_sets_10 : decode cX12_sets 10 = .ok (.return_, 1) := by decide +kernel
theorem dX12_sets_11 : decode cX12_sets 11 = .ok (.iload_n 3, 1) := by decide +kernel
theorem dX12_sets_12 : decode cX12_sets 12 = .ok (.istore 5, 2) := by decide +kernel
theorem dX12_sets_14 : decode cX12_sets 14 = .ok (.iload 5, 2) := by decide +kernel
theorem dX12_sets_16 : decode cX12_sets 16 = .ok (.iload 4, 2) := by decide +kernel
theorem dX12_sets_18 : decode cX12_sets 18 = .ok (.if_icmp .ge 28, 3) := by decide +kernel
theorem dX12_sets_21 : decode cX12_sets 21 = .ok (.aload_n 0, 1) := by decide +kernel
theorem dX12_sets_22 : decode cX12_sets 22 = .ok (.getfield 90, 3) := by decide +kernel
theorem dX12_sets_25 : decode cX12_sets 25 = .ok (.iload_n 3, 1) := by decide +kernel
theorem dX12_sets_26 : decode cX12_sets 26 = .ok (.iload 5, 2) := by decide +kernel
theorem dX12_sets_28 : decode cX12_sets 28 = .ok (.iastore, 1) := by decide +kernel
theorem dX12_sets_29 : decode cX12_sets 29 = .ok (.aload_n 0, 1) := by decide +kernel
theorem dX12_sets_30 : decode cX12_sets 30 = .ok (.iload_n 1, 1) := by decide +kernel
theorem dX12_sets_31 : decode cX12_sets 31 = .ok (.iload_n 2, 1) := by decide +kernel
theorem dX12_sets_32 : decode cX12_sets 32 = .ok (.iload_n 3, 1) := by decide +kernel
theorem dX12_sets_33 : decode cX12_sets 33 = .ok (.iconst 1, 1) := by decide +kernel
theorem dX12_sets_34 : decode cX12_sets 34 = .ok (.isub, 1) := by decide +kernel
theorem dX12_sets_35 : decode cX12_sets 35 = .ok (.iload 5, 2) := by decide +kernel
theorem dX12_sets_37 : decode cX12_sets 37 = .ok (.invokevirtual 368, 3) := by decide +kernel
theorem dX12_sets_40 : decode cX12_sets 40 = .ok (.iinc 5 1, 3) := by decide +kernel
theorem dX12_sets_43 : decode cX12_sets 43 = .ok (.goto (-29), 3) := by decide +kernel
theorem dX12_sets_46 : decode cX12_sets 46 = .ok (.return_, 1) := by decide +kernel
theorem dX12_findWorst_0 : decode cX12_findWorst 0 = .ok (.aload_n 0, 1) := by decide +kernel
theorem dX12_findWorst_1 : decode cX12_findWorst 1 = .ok (.iconst 0, 1) := by decide +kernel
theorem dX12_findWorst_2 : decode cX12_findWorst 2 = .ok (.putfield 356, 3) := by decide +kernel
theorem dX12_findWorst_5 : decode cX12_findWorst 5 = .ok (.iconst 0, 1) := by decide +kernel
theorem dX12_findWorst_6 : decode cX12_findWorst 6 = .ok (.istore_n 3, 1) := by decide +kernel
theorem dX12_findWorst_7 : decode cX12_findWorst 7 = .ok (.iload_n 3, 1) := by decide +kernel
theorem dX12_findWorst_8 : decode cX12_findWorst 8 = .ok (.iload_n 2, 1) := by decide +kernel
theorem dX12_findWorst_9 : decode cX12_findWorst 9 = .ok (.if_icmp .gt 30, 3) := by decide +kernel
theorem dX12_findWorst_12 : decode cX12_findWorst 12 = .ok (.iload_n 3, 1) := by decide +kernel
theorem dX12_findWorst_13 : decode cX12_findWorst 13 = .ok (.aload_n 0, 1) := by decide +kernel
theorem dX12_findWorst_14 : decode cX12_findWorst 14 = .ok (.invokevirtual 257, 3) := by decide +kernel
theorem dX12_findWorst_17 : decode cX12_findWorst 17 = .ok (.if_icmp .gt 22, 3) := by decide +kernel
theorem dX12_findWorst_20 : decode cX12_findWorst 20 = .ok (.aload_n 0, 1) := by decide +kernel
theorem dX12_findWorst_21 : decode cX12_findWorst 21 = .ok (.iload_n 1, 1) := by decide +kernel
theorem dX12_findWorst_22 : decode cX12_findWorst 22 = .ok (.iload_n 3, 1) := by decide +kernel
theorem dX12_findWorst_23 : decode cX12_findWorst 23 = .ok (.iload_n 3, 1) := by decide +kernel
theorem dX12_findWorst_24 : decode cX12_findWorst 24 = .ok (.iconst 1, 1) := by decide +kernel
theorem dX12_findWorst_25 : decode cX12_findWorst 25 = .ok (.isub, 1) := by decide +kernel
theorem dX12_findWorst_26 : decode cX12_findWorst 26 = .ok (.aload_n 0, 1) := by decide +kernel
theorem dX12_findWorst_27 : decode cX12_findWorst 27 = .ok (.invokevirtual 257, 3) := by decide +kernel
theorem dX12_findWorst_30 : decode cX12_findWorst 30 = .ok (.invokevirtual 368, 3) := by decide +kernel
theorem dX12_findWorst_33 : decode cX12_findWorst 33 = .ok (.iinc 3 1, 3) := by decide +kernel
theorem dX12_findWorst_36 : decode cX12_findWorst 36 = .ok (.goto (-29), 3) := by decide +kernel
theorem dX12_findWorst_39 : decode cX12_findWorst 39 = .ok (.return_, 1) := by decide +kernel
theorem dX12_worst_0 : decode cX12_worst 0 = .ok (.aload_n 0, 1) := by decide +kernel
theorem dX12_worst_1 : decode cX12_worst 1 = .ok (.iconst 0, 1) := by decide +kernel
theorem dX12_worst_2 : decode cX12_worst 2 = .ok (.putfield 1, 3) := by decide +kernel
theorem dX12_worst_5 : decode cX12_worst 5 = .ok (.aload_n 0, 1) := by decide +kernel
theorem dX12_worst_6 : decode cX12_worst 6 = .ok (.iload_n 1, 1) := by decide +kernel
theorem dX12_worst_7 : decode cX12_worst 7 = .ok (.invokestatic 344, 3) := by decide +kernel
theorem dX12_worst_10 : decode cX12_worst 10 = .ok (.ifCond .eq 24, 3) := by decide +kernel
theorem dX12_worst_13 : decode cX12_worst 13 = .ok (.aload_n 0, 1) := by decide +kernel
theorem dX12_worst_14 : decode cX12_worst 14 = .ok (.iload_n 2, 1) := by decide +kernel
theorem dX12_worst_15 : decode cX12_worst 15 = .ok (.invokevirtual 375, 3) := by decide +kernel
theorem dX12_worst_18 : decode cX12_worst 18 = .ok (.ifCond .eq 16, 3) := by decide +kernel
theorem dX12_worst_21 : decode cX12_worst 21 = .ok (.iload_n 3, 1) := by decide +kernel
theorem dX12_worst_22 : decode cX12_worst 22 = .ok (.iconst 0, 1) := by decide +kernel
theorem dX12_worst_23 : decode cX12_worst 23 = .ok (.iconst 2, 1) := by decide +kernel
theorem dX12_worst_24 : decode cX12_worst 24 = .ok (.invokestatic 250, 3) := by decide +kernel
theorem dX12_worst_27 : decode cX12_worst 27 = .ok (.ifCond .eq 7, 3) := by decide +kernel
theorem dX12_worst_30 : decode cX12_worst 30 = .ok (.iconst 1, 1) := by decide +kernel
theorem dX12_worst_31 : decode cX12_worst 31 = .ok (.goto 4, 3) := by decide +kernel
theorem dX12_worst_34 : decode cX12_worst 34 = .ok (.iconst 0, 1) := by decide +kernel
theorem dX12_worst_35 : decode cX12_worst 35 = .ok (.iconst 1, 1) := by decide +kernel
theorem dX12_worst_36 : decode cX12_worst 36 = .ok (.iconst 2, 1) := by decide +kernel
theorem dX12_worst_37 : decode cX12_worst 37 = .ok (.invokevirtual 157, 3) := by decide +kernel
theorem dX12_worst_40 : decode cX12_worst 40 = .ok (.ifCond .ne 5, 3) := by decide +kernel
theorem dX12_worst_43 : decode cX12_worst 43 = .ok (.iconst 0, 1) := by decide +kernel
theorem dX12_worst_44 : decode cX12_worst 44 = .ok (.ireturn, 1) := by decide +kernel
theorem dX12_worst_45 : decode cX12_worst 45 = .ok (.aload_n 0, 1) := by decide +kernel
theorem dX12_worst_46 : decode cX12_worst 46 = .ok (.iload_n 1, 1) := by decide +kernel
theorem dX12_worst_47 : decode cX12_worst 47 = .ok (.iload_n 2, 1) := by decide +kernel
theorem dX12_worst_48 : decode cX12_worst 48 = .ok (.invokevirtual 378, 3) := by decide +kernel
theorem dX12_worst_51 : decode cX12_worst 51 = .ok (.iload_n 3, 1) := by decide +kernel
theorem dX12_worst_52 : decode cX12_worst 52 = .ok (.ifCond .ne 10, 3) := by decide +kernel
theorem dX12_worst_55 : decode cX12_worst 55 = .ok (.aload_n 0, 1) := by decide +kernel
theorem dX12_worst_56 : decode cX12_worst 56 = .ok (.getfield 356, 3) := by decide +kernel
theorem dX12_worst_59 : decode cX12_worst 59 = .ok (.goto 19, 3) := by decide +kernel
theorem dX12_worst_62 : decode cX12_worst 62 = .ok (.iload_n 3, 1) := by decide +kernel
theorem dX12_worst_63 : decode cX12_worst 63 = .ok (.iconst 1, 1) := by decide +kernel
theorem dX12_worst_64 : decode cX12_worst 64 = .ok (.if_icmp .ne 10, 3) := by decide +kernel
theorem dX12_worst_67 : decode cX12_worst 67 = .ok (.aload_n 0, 1) := by decide +kernel
theorem dX12_worst_68 : decode cX12_worst 68 = .ok (.getfield 359, 3) := by decide +kernel
theorem dX12_worst_71 : decode cX12_worst 71 = .ok (.goto 7, 3) := by decide +kernel
theorem dX12_worst_74 : decode cX12_worst 74 = .ok (.aload_n 0, 1) := by decide +kernel
theorem dX12_worst_75 : decode cX12_worst 75 = .ok (.getfield 362, 3) := by decide +kernel
theorem dX12_worst_78 : decode cX12_worst 78 = .ok (.ireturn, 1) := by decide +kernel
theorem dX12_bad_0 : decode cX12_bad 0 = .ok (.aload_n 0, 1) := by decide +kernel
theorem dX12_bad_1 : decode cX12_bad 1 = .ok (.iconst 0, 1) := by decide +kernel
theorem dX12_bad_2 : decode cX12_bad 2 = .ok (.putfield 1, 3) := by decide +kernel
theorem dX12_bad_5 : decode cX12_bad 5 = .ok (.aload_n 0, 1) := by decide +kernel
theorem dX12_bad_6 : decode cX12_bad 6 = .ok (.iload_n 1, 1) := by decide +kernel
theorem dX12_bad_7 : decode cX12_bad 7 = .ok (.invokestatic 344, 3) := by decide +kernel
theorem dX12_bad_10 : decode cX12_bad 10 = .ok (.ifCond .eq 15, 3) := by decide +kernel
theorem dX12_bad_13 : decode cX12_bad 13 = .ok (.aload_n 0, 1) := by decide +kernel
theorem dX12_bad_14 : decode cX12_bad 14 = .ok (.iload_n 2, 1) := by decide +kernel
theorem dX12_bad_15 : decode cX12_bad 15 = .ok (.invokevirtual 375, 3) := by decide +kernel
theorem dX12_bad_18 : decode cX12_bad 18 = .ok (.ifCond .eq 7, 3) := by decide +kernel
theorem dX12_bad_21 : decode cX12_bad 21 = .ok (.iconst 1, 1) := by decide +kernel
theorem dX12_bad_22 : decode cX12_bad 22 = .ok (.goto 4, 3) := by decide +kernel
theorem dX12_bad_25 : decode cX12_bad 25 = .ok (.iconst 0, 1) := by decide +kernel
theorem dX12_bad_26 : decode cX12_bad 26 = .ok (.iconst 1, 1) := by decide +kernel
theorem dX12_bad_27 : decode cX12_bad 27 = .ok (.iconst 2, 1) := by decide +kernel
theorem dX12_bad_28 : decode cX12_bad 28 = .ok (.invokevirtual 157, 3) := by decide +kernel
theorem dX12_bad_31 : decode cX12_bad 31 = .ok (.ifCond .ne 5, 3) := by decide +kernel
theorem dX12_bad_34 : decode cX12_bad 34 = .ok (.iconst 0, 1) := by decide +kernel
theorem dX12_bad_35 : decode cX12_bad 35 = .ok (.ireturn, 1) := by decide +kernel
theorem dX12_bad_36 : decode cX12_bad 36 = .ok (.aload_n 0, 1) := by decide +kernel
theorem dX12_bad_37 : decode cX12_bad 37 = .ok (.iload_n 1, 1) := by decide +kernel
theorem dX12_bad_38 : decode cX12_bad 38 = .ok (.iload_n 2, 1) := by decide +kernel
theorem dX12_bad_39 : decode cX12_bad 39 = .ok (.invokevirtual 378, 3) := by decide +kernel
theorem dX12_bad_42 : decode cX12_bad 42 = .ok (.iload_n 3, 1) := by decide +kernel
theorem dX12_bad_43 : decode cX12_bad 43 = .ok (.iconst 0, 1) := by decide +kernel
theorem dX12_bad_44 : decode cX12_bad 44 = .ok (.aload_n 0, 1) := by decide +kernel
theorem dX12_bad_45 : decode cX12_bad 45 = .ok (.getfield 359, 3) := by decide +kernel
theorem dX12_bad_48 : decode cX12_bad 48 = .ok (.iconst 1, 1) := by decide +kernel
theorem dX12_bad_49 : decode cX12_bad 49 = .ok (.isub, 1) := by decide +kernel
theorem dX12_bad_50 : decode cX12_bad 50 = .ok (.invokestatic 250, 3) := by decide +kernel
theorem dX12_bad_53 : decode cX12_bad 53 = .ok (.ifCond .eq 12, 3) := by decide +kernel
theorem dX12_bad_56 : decode cX12_bad 56 = .ok (.aload_n 0, 1) := by decide +kernel
theorem dX12_bad_57 : decode cX12_bad 57 = .ok (.getfield 87, 3) := by decide +kernel
theorem dX12_bad_60 : decode cX12_bad 60 = .ok (.iload_n 3, 1) := by decide +kernel
theorem dX12_bad_61 : decode cX12_bad 61 = .ok (.iaload, 1) := by decide +kernel
theorem dX12_bad_62 : decode cX12_bad 62 = .ok (.goto 4, 3) := by decide +kernel
theorem dX12_bad_65 : decode cX12_bad 65 = .ok (.iconst (-1), 1) := by decide +kernel
theorem dX12_bad_66 : decode cX12_bad 66 = .ok (.ireturn, 1) := by decide +kernel
theorem dX12_reached_0 : decode cX12_reached 0 = .ok (.aload_n 0, 1) := by decide +kernel
theorem dX12_reached_1 : decode cX12_reached 1 = .ok (.iconst 0, 1) := by decide +kernel
theorem dX12_reached_2 : decode cX12_reached 2 = .ok (.putfield 1, 3) := by decide +kernel
theorem dX12_reached_5 : decode cX12_reached 5 = .ok (.aload_n 0, 1) := by decide +kernel
theorem dX12_reached_6 : decode cX12_reached 6 = .ok (.iload_n 1, 1) := by decide +kernel
theorem dX12_reached_7 : decode cX12_reached 7 = .ok (.invokestatic 344, 3) := by decide +kernel
theorem dX12_reached_10 : decode cX12_reached 10 = .ok (.ifCond .eq 16, 3) := by decide +kernel
theorem dX12_reached_13 : decode cX12_reached 13 = .ok (.aload_n 0, 1) := by decide +kernel
theorem dX12_reached_14 : decode cX12_reached 14 = .ok (.getfield 23, 3) := by decide +kernel
theorem dX12_reached_17 : decode cX12_reached 17 = .ok (.bipush 6, 2) := by decide +kernel
theorem dX12_reached_19 : decode cX12_reached 19 = .ok (.if_icmp .gt 7, 3) := by decide +kernel
theorem dX12_reached_22 : decode cX12_reached 22 = .ok (.iconst 1, 1) := by decide +kernel
theorem dX12_reached_23 : decode cX12_reached 23 = .ok (.goto 4, 3) := by decide +kernel
theorem dX12_reached_26 : decode cX12_reached 26 = .ok (.iconst 0, 1) := by decide +kernel
theorem dX12_reached_27 : decode cX12_reached 27 = .ok (.iconst 1, 1) := by decide +kernel
theorem dX12_reached_28 : decode cX12_reached 28 = .ok (.iconst 2, 1) := by decide +kernel
theorem dX12_reached_29 : decode cX12_reached 29 = .ok (.invokevirtual 157, 3) := by decide +kernel
theorem dX12_reached_32 : decode cX12_reached 32 = .ok (.ifCond .ne 5, 3) := by decide +kernel
theorem dX12_reached_35 : decode cX12_reached 35 = .ok (.iconst 0, 1) := by decide +kernel
theorem dX12_reached_36 : decode cX12_reached 36 = .ok (.ireturn, 1) := by decide +kernel
theorem dX12_reached_37 : decode cX12_reached 37 = .ok (.aload_n 0, 1) := by decide +kernel
theorem dX12_reached_38 : decode cX12_reached 38 = .ok (.iload_n 1, 1) := by decide +kernel
theorem dX12_reached_39 : decode cX12_reached 39 = .ok (.aload_n 0, 1) := by decide +kernel
theorem dX12_reached_40 : decode cX12_reached 40 = .ok (.invokevirtual 372, 3) := by decide +kernel
theorem dX12_reached_43 : decode cX12_reached 43 = .ok (.invokevirtual 378, 3) := by decide +kernel
theorem dX12_reached_46 : decode cX12_reached 46 = .ok (.aload_n 0, 1) := by decide +kernel
theorem dX12_reached_47 : decode cX12_reached 47 = .ok (.getfield 356, 3) := by decide +kernel
theorem dX12_reached_50 : decode cX12_reached 50 = .ok (.aload_n 0, 1) := by decide +kernel
theorem dX12_reached_51 : decode cX12_reached 51 = .ok (.iload_n 1, 1) := by decide +kernel
theorem dX12_reached_52 : decode cX12_reached 52 = .ok (.aload_n 0, 1) := by decide +kernel
theorem dX12_reached_53 : decode cX12_reached 53 = .ok (.getfield 23, 3) := by decide +kernel
theorem dX12_reached_56 : decode cX12_reached 56 = .ok (.invokevirtual 353, 3) := by decide +kernel
theorem dX12_reached_59 : decode cX12_reached 59 = .ok (.if_icmp .ne 10, 3) := by decide +kernel
theorem dX12_reached_62 : decode cX12_reached 62 = .ok (.aload_n 0, 1) := by decide +kernel
theorem dX12_reached_63 : decode cX12_reached 63 = .ok (.getfield 359, 3) := by decide +kernel
theorem dX12_reached_66 : decode cX12_reached 66 = .ok (.goto 4, 3) := by decide +kernel
theorem dX12_reached_69 : decode cX12_reached 69 = .ok (.iconst (-1), 1) := by decide +kernel
theorem dX12_reached_70 : decode cX12_reached 70 = .ok (.ireturn, 1) := by decide +kernel
theorem dX12_touchSet_0 : decode cX12_touchSet 0 = .ok (.aload_n 0, 1) := by decide +kernel
theorem dX12_touchSet_1 : decode cX12_touchSet 1 = .ok (.iconst 0, 1) := by decide +kernel
theorem dX12_touchSet_2 : decode cX12_touchSet 2 = .ok (.putfield 290, 3) := by decide +kernel
theorem dX12_touchSet_5 : decode cX12_touchSet 5 = .ok (.iconst 0, 1) := by decide +kernel
theorem dX12_touchSet_6 : decode cX12_touchSet 6 = .ok (.istore 4, 2) := by decide +kernel
theorem dX12_touchSet_8 : decode cX12_touchSet 8 = .ok (.iload 4, 2) := by decide +kernel
theorem dX12_touchSet_10 : decode cX12_touchSet 10 = .ok (.bipush 16, 2) := by decide +kernel
theorem dX12_touchSet_12 : decode cX12_touchSet 12 = .ok (.if_icmp .ge 42, 3) := by decide +kernel
theorem dX12_touchSet_15 : decode cX12_touchSet 15 = .ok (.iload_n 3, 1) := by decide +kernel
theorem dX12_touchSet_16 : decode cX12_touchSet 16 = .ok (.iload 4, 2) := by decide +kernel
theorem dX12_touchSet_18 : decode cX12_touchSet 18 = .ok (.ishr, 1) := by decide +kernel
theorem dX12_touchSet_19 : decode cX12_touchSet 19 = .ok (.iconst 1, 1) := by decide +kernel
theorem dX12_touchSet_20 : decode cX12_touchSet 20 = .ok (.iand, 1) := by decide +kernel
theorem dX12_touchSet_21 : decode cX12_touchSet 21 = .ok (.ifCond .ne 6, 3) := by decide +kernel
theorem dX12_touchSet_24 : decode cX12_touchSet 24 = .ok (.goto 24, 3) := by decide +kernel
theorem dX12_touchSet_27 : decode cX12_touchSet 27 = .ok (.aload_n 0, 1) := by decide +kernel
theorem dX12_touchSet_28 : decode cX12_touchSet 28 = .ok (.getfield 84, 3) := by decide +kernel
theorem dX12_touchSet_31 : decode cX12_touchSet 31 = .ok (.aload_n 0, 1) := by decide +kernel
theorem dX12_touchSet_32 : decode cX12_touchSet 32 = .ok (.getfield 290, 3) := by decide +kernel
theorem dX12_touchSet_35 : decode cX12_touchSet 35 = .ok (.iload 4, 2) := by decide +kernel
theorem dX12_touchSet_37 : decode cX12_touchSet 37 = .ok (.iastore, 1) := by decide +kernel
theorem dX12_touchSet_38 : decode cX12_touchSet 38 = .ok (.aload_n 0, 1) := by decide +kernel
theorem dX12_touchSet_39 : decode cX12_touchSet 39 = .ok (.dup, 1) := by decide +kernel
theorem dX12_touchSet_40 : decode cX12_touchSet 40 = .ok (.getfield 290, 3) := by decide +kernel
theorem dX12_touchSet_43 : decode cX12_touchSet 43 = .ok (.iconst 1, 1) := by decide +kernel
theorem dX12_touchSet_44 : decode cX12_touchSet 44 = .ok (.iadd, 1) := by decide +kernel
theorem dX12_touchSet_45 : decode cX12_touchSet 45 = .ok (.putfield 290, 3) := by decide +kernel
theorem dX12_touchSet_48 : decode cX12_touchSet 48 = .ok (.iinc 4 1, 3) := by decide +kernel
theorem dX12_touchSet_51 : decode cX12_touchSet 51 = .ok (.goto (-43), 3) := by decide +kernel
theorem dX12_touchSet_54 : decode cX12_touchSet 54 = .ok (.aload_n 0, 1) := by decide +kernel
theorem dX12_touchSet_55 : decode cX12_touchSet 55 = .ok (.iload_n 1, 1) := by decide +kernel
theorem dX12_touchSet_56 : decode cX12_touchSet 56 = .ok (.iload_n 2, 1) := by decide +kernel
theorem dX12_touchSet_57 : decode cX12_touchSet 57 = .ok (.aload_n 0, 1) := by decide +kernel
theorem dX12_touchSet_58 : decode cX12_touchSet 58 = .ok (.getfield 23, 3) := by decide +kernel
theorem dX12_touchSet_61 : decode cX12_touchSet 61 = .ok (.iconst 0, 1) := by decide +kernel
theorem dX12_touchSet_62 : decode cX12_touchSet 62 = .ok (.aload_n 0, 1) := by decide +kernel
theorem dX12_touchSet_63 : decode cX12_touchSet 63 = .ok (.getfield 290, 3) := by decide +kernel
theorem dX12_touchSet_66 : decode cX12_touchSet 66 = .ok (.invokevirtual 299, 3) := by decide +kernel
theorem dX12_touchSet_69 : decode cX12_touchSet 69 = .ok (.ireturn, 1) := by decide +kernel
theorem dX12_gap_0 : decode cX12_gap 0 = .ok (.aload_n 0, 1) := by decide +kernel
theorem dX12_gap_1 : decode cX12_gap 1 = .ok (.iconst 0, 1) := by decide +kernel
theorem dX12_gap_2 : decode cX12_gap 2 = .ok (.putfield 1, 3) := by decide +kernel
theorem dX12_gap_5 : decode cX12_gap 5 = .ok (.aload_n 0, 1) := by decide +kernel
theorem dX12_gap_6 : decode cX12_gap 6 = .ok (.iload_n 1, 1) := by decide +kernel
theorem dX12_gap_7 : decode cX12_gap 7 = .ok (.iconst 1, 1) := by decide +kernel
theorem dX12_gap_8 : decode cX12_gap 8 = .ok (.invokevirtual 260, 3) := by decide +kernel
theorem dX12_gap_11 : decode cX12_gap 11 = .ok (.ifCond .eq 18, 3) := by decide +kernel
theorem dX12_gap_14 : decode cX12_gap 14 = .ok (.aload_n 0, 1) := by decide +kernel
theorem dX12_gap_15 : decode cX12_gap 15 = .ok (.iload_n 2, 1) := by decide +kernel
theorem dX12_gap_16 : decode cX12_gap 16 = .ok (.iconst 0, 1) := by decide +kernel
theorem dX12_gap_17 : decode cX12_gap 17 = .ok (.iconst 1, 1) := by decide +kernel
theorem dX12_gap_18 : decode cX12_gap 18 = .ok (.invokestatic 250, 3) := by decide +kernel
theorem dX12_gap_21 : decode cX12_gap 21 = .ok (.iconst 2, 1) := by decide +kernel
theorem dX12_gap_22 : decode cX12_gap 22 = .ok (.iconst 2, 1) := by decide +kernel
theorem dX12_gap_23 : decode cX12_gap 23 = .ok (.invokevirtual 157, 3) := by decide +kernel
theorem dX12_gap_26 : decode cX12_gap 26 = .ok (.ifCond .ne 5, 3) := by decide +kernel
theorem dX12_gap_29 : decode cX12_gap 29 = .ok (.iconst 0, 1) := by decide +kernel
theorem dX12_gap_30 : decode cX12_gap 30 = .ok (.ireturn, 1) := by decide +kernel
theorem dX12_gap_31 : decode cX12_gap 31 = .ok (.iconst (-1), 1) := by decide +kernel
theorem dX12_gap_32 : decode cX12_gap 32 = .ok (.istore_n 3, 1) := by decide +kernel
theorem dX12_gap_33 : decode cX12_gap 33 = .ok (.iconst (-1), 1) := by decide +kernel
theorem dX12_gap_34 : decode cX12_gap 34 = .ok (.istore 4, 2) := by decide +kernel
theorem dX12_gap_36 : decode cX12_gap 36 = .ok (.iconst 1, 1) := by decide +kernel
theorem dX12_gap_37 : decode cX12_gap 37 = .ok (.istore 5, 2) := by decide +kernel
theorem dX12_gap_39 : decode cX12_gap 39 = .ok (.iload 5, 2) := by decide +kernel
theorem dX12_gap_41 : decode cX12_gap 41 = .ok (.aload_n 0, 1) := by decide +kernel
theorem dX12_gap_42 : decode cX12_gap 42 = .ok (.getfield 36, 3) := by decide +kernel
theorem dX12_gap_45 : decode cX12_gap 45 = .ok (.iload_n 1, 1) := by decide +kernel
theorem dX12_gap_46 : decode cX12_gap 46 = .ok (.iaload, 1) := by decide +kernel
theorem dX12_gap_47 : decode cX12_gap 47 = .ok (.if_icmp .ge 51, 3) := by decide +kernel
theorem dX12_gap_50 : decode cX12_gap 50 = .ok (.aload_n 0, 1) := by decide +kernel
theorem dX12_gap_51 : decode cX12_gap 51 = .ok (.iload_n 1, 1) := by decide +kernel
theorem dX12_gap_52 : decode cX12_gap 52 = .ok (.iload 5, 2) := by decide +kernel
theorem dX12_gap_54 : decode cX12_gap 54 = .ok (.invokevirtual 280, 3) := by decide +kernel
theorem dX12_gap_57 : decode cX12_gap 57 = .ok (.aload_n 0, 1) := by decide +kernel
theorem dX12_gap_58 : decode cX12_gap 58 = .ok (.iload_n 1, 1) := by decide +kernel
theorem dX12_gap_59 : decode cX12_gap 59 = .ok (.iload 5, 2) := by decide +kernel
theorem dX12_gap_61 : decode cX12_gap 61 = .ok (.iconst 1, 1) := by decide +kernel
theorem dX12_gap_62 : decode cX12_gap 62 = .ok (.isub, 1) := by decide +kernel
theorem dX12_gap_63 : decode cX12_gap 63 = .ok (.invokevirtual 280, 3) := by decide +kernel
theorem dX12_gap_66 : decode cX12_gap 66 = .ok (.isub, 1) := by decide +kernel
theorem dX12_gap_67 : decode cX12_gap 67 = .ok (.istore 6, 2) := by decide +kernel
theorem dX12_gap_69 : decode cX12_gap 69 = .ok (.iload 6, 2) := by decide +kernel
theorem dX12_gap_71 : decode cX12_gap 71 = .ok (.iload_n 3, 1) := by decide +kernel
theorem dX12_gap_72 : decode cX12_gap 72 = .ok (.if_icmp .gt 6, 3) := by decide +kernel
theorem dX12_gap_75 : decode cX12_gap 75 = .ok (.goto 17, 3) := by decide +kernel
theorem dX12_gap_78 : decode cX12_gap 78 = .ok (.iload 6, 2) := by decide +kernel
theorem dX12_gap_80 : decode cX12_gap 80 = .ok (.istore_n 3, 1) := by decide +kernel
theorem dX12_gap_81 : decode cX12_gap 81 = .ok (.aload_n 0, 1) := by decide +kernel
theorem dX12_gap_82 : decode cX12_gap 82 = .ok (.iload_n 1, 1) := by decide +kernel
theorem dX12_gap_83 : decode cX12_gap 83 = .ok (.iload 5, 2) := by decide +kernel
theorem dX12_gap_85 : decode cX12_gap 85 = .ok (.iconst 1, 1) := by decide +kernel
theorem dX12_gap_86 : decode cX12_gap 86 = .ok (.isub, 1) := by decide +kernel
theorem dX12_gap_87 : decode cX12_gap 87 = .ok (.invokevirtual 280, 3) := by decide +kernel
theorem dX12_gap_90 : decode cX12_gap 90 = .ok (.istore 4, 2) := by decide +kernel
theorem dX12_gap_92 : decode cX12_gap 92 = .ok (.iinc 5 1, 3) := by decide +kernel
theorem dX12_gap_95 : decode cX12_gap 95 = .ok (.goto (-56), 3) := by decide +kernel
theorem dX12_gap_98 : decode cX12_gap 98 = .ok (.iload_n 2, 1) := by decide +kernel
theorem dX12_gap_99 : decode cX12_gap 99 = .ok (.ifCond .ne 7, 3) := by decide +kernel
theorem dX12_gap_102 : decode cX12_gap 102 = .ok (.iload_n 3, 1) := by decide +kernel
theorem dX12_gap_103 : decode cX12_gap 103 = .ok (.goto 5, 3) := by decide +kernel
theorem dX12_gap_106 : decode cX12_gap 106 = .ok (.iload 4, 2) := by decide +kernel
theorem dX12_gap_108 : decode cX12_gap 108 = .ok (.ireturn, 1) := by decide +kernel
theorem dX12_worked_0 : decode cX12_worked 0 = .ok (.iconst 0, 1) := by decide +kernel
theorem dX12_worked_1 : decode cX12_worked 1 = .ok (.istore 4, 2) := by decide +kernel
theorem dX12_worked_3 : decode cX12_worked 3 = .ok (.iload_n 2, 1) := by decide +kernel
theorem dX12_worked_4 : decode cX12_worked 4 = .ok (.istore 5, 2) := by decide +kernel
theorem dX12_worked_6 : decode cX12_worked 6 = .ok (.iload 5, 2) := by decide +kernel
theorem dX12_worked_8 : decode cX12_worked 8 = .ok (.iload_n 3, 1) := by decide +kernel
theorem dX12_worked_9 : decode cX12_worked 9 = .ok (.if_icmp .ge 325, 3) := by decide +kernel
theorem dX12_worked_12 : decode cX12_worked 12 = .ok (.aload_n 0, 1) := by decide +kernel
theorem dX12_worked_13 : decode cX12_worked 13 = .ok (.getfield 75, 3) := by decide +kernel
theorem dX12_worked_16 : decode cX12_worked 16 = .ok (.iload 5, 2) := by decide +kernel
theorem dX12_worked_18 : decode cX12_worked 18 = .ok (.iaload, 1) := by decide +kernel
theorem dX12_worked_19 : decode cX12_worked 19 = .ok (.istore 6, 2) := by decide +kernel
theorem dX12_worked_21 : decode cX12_worked 21 = .ok (.iload 6, 2) := by decide +kernel
theorem dX12_worked_23 : decode cX12_worked 23 = .ok (.tableswitch 161 0 5 #[37, 49, 76, 104, 113, 124], 37) := by decide +kernel
theorem dX12_worked_60 : decode cX12_worked 60 = .ok (.aload_n 0, 1) := by decide +kernel
theorem dX12_worked_61 : decode cX12_worked 61 = .ok (.getfield 78, 3) := by decide +kernel
theorem dX12_worked_64 : decode cX12_worked 64 = .ok (.iload 5, 2) := by decide +kernel
theorem dX12_worked_66 : decode cX12_worked 66 = .ok (.iaload, 1) := by decide +kernel
theorem dX12_worked_67 : decode cX12_worked 67 = .ok (.istore 7, 2) := by decide +kernel
theorem dX12_worked_69 : decode cX12_worked 69 = .ok (.goto 247, 3) := by decide +kernel
theorem dX12_worked_72 : decode cX12_worked 72 = .ok (.aload_n 0, 1) := by decide +kernel
theorem dX12_worked_73 : decode cX12_worked 73 = .ok (.getfield 427, 3) := by decide +kernel
theorem dX12_worked_76 : decode cX12_worked 76 = .ok (.ifCond .le 17, 3) := by decide +kernel
theorem dX12_worked_79 : decode cX12_worked 79 = .ok (.aload_n 0, 1) := by decide +kernel
theorem dX12_worked_80 : decode cX12_worked 80 = .ok (.getfield 106, 3) := by decide +kernel
theorem dX12_worked_83 : decode cX12_worked 83 = .ok (.aload_n 0, 1) := by decide +kernel
theorem dX12_worked_84 : decode cX12_worked 84 = .ok (.getfield 427, 3) := by decide +kernel
theorem dX12_worked_87 : decode cX12_worked 87 = .ok (.iconst 1, 1) := by decide +kernel
theorem dX12_worked_88 : decode cX12_worked 88 = .ok (.isub, 1) := by decide +kernel
theorem dX12_worked_89 : decode cX12_worked 89 = .ok (.iaload, 1) := by decide +kernel
theorem dX12_worked_90 : decode cX12_worked 90 = .ok (.goto 4, 3) := by decide +kernel
theorem dX12_worked_93 : decode cX12_worked 93 = .ok (.iconst 0, 1) := by decide +kernel
theorem dX12_worked_94 : decode cX12_worked 94 = .ok (.istore 7, 2) := by decide +kernel
theorem dX12_worked_96 : decode cX12_worked 96 = .ok (.goto 220, 3) := by decide +kernel
theorem dX12_worked_99 : decode cX12_worked 99 = .ok (.aload_n 0, 1) := by decide +kernel
theorem dX12_worked_100 : decode cX12_worked 100 = .ok (.getfield 427, 3) := by decide +kernel
theorem dX12_worked_103 : decode cX12_worked 103 = .ok (.iconst 1, 1) := by decide +kernel
theorem dX12_worked_104 : decode cX12_worked 104 = .ok (.if_icmp .le 17, 3) := by decide +kernel
theorem dX12_worked_107 : decode cX12_worked 107 = .ok (.aload_n 0, 1) := by decide +kernel
theorem dX12_worked_108 : decode cX12_worked 108 = .ok (.getfield 106, 3) := by decide +kernel
theorem dX12_worked_111 : decode cX12_worked 111 = .ok (.aload_n 0, 1) := by decide +kernel
theorem dX12_worked_112 : decode cX12_worked 112 = .ok (.getfield 427, 3) := by decide +kernel
theorem dX12_worked_115 : decode cX12_worked 115 = .ok (.iconst 2, 1) := by decide +kernel
theorem dX12_worked_116 : decode cX12_worked 116 = .ok (.isub, 1) := by decide +kernel
theorem dX12_worked_117 : decode cX12_worked 117 = .ok (.iaload, 1) := by decide +kernel
theorem dX12_worked_118 : decode cX12_worked 118 = .ok (.goto 4, 3) := by decide +kernel
theorem dX12_worked_121 : decode cX12_worked 121 = .ok (.iconst 0, 1) := by decide +kernel
theorem dX12_worked_122 : decode cX12_worked 122 = .ok (.istore 7, 2) := by decide +kernel
theorem dX12_worked_124 : decode cX12_worked 124 = .ok (.goto 192, 3) := by decide +kernel
theorem dX12_worked_127 : decode cX12_worked 127 = .ok (.aload_n 0, 1) := by decide +kernel
theorem dX12_worked_128 : decode cX12_worked 128 = .ok (.getfield 430, 3) := by decide +kernel
theorem dX12_worked_131 : decode cX12_worked 131 = .ok (.istore 7, 2) := by decide +kernel
theorem dX12_worked_133 : decode cX12_worked 133 = .ok (.goto 183, 3) := by decide +kernel
theorem dX12_worked_136 : decode cX12_worked 136 = .ok (.aload_n 0, 1) := by decide +kernel
theorem dX12_worked_137 : decode cX12_worked 137 = .ok (.getfield 36, 3) := by decide +kernel
theorem dX12_worked_140 : decode cX12_worked 140 = .ok (.iload_n 1, 1) := by decide +kernel
theorem dX12_worked_141 : decode cX12_worked 141 = .ok (.iaload, 1) := by decide +kernel
theorem dX12_worked_142 : decode cX12_worked 142 = .ok (.istore 7, 2) := by decide +kernel
theorem dX12_worked_144 : decode cX12_worked 144 = .ok (.goto 172, 3) := by decide +kernel
theorem dX12_worked_147 : decode cX12_worked 147 = .ok (.aload_n 0, 1) := by decide +kernel
theorem dX12_worked_148 : decode cX12_worked 148 = .ok (.aload_n 0, 1) := by decide +kernel
theorem dX12_worked_149 : decode cX12_worked 149 = .ok (.getfield 433, 3) := by decide +kernel
theorem dX12_worked_152 : decode cX12_worked 152 = .ok (.ldc_w 436, 3) := by decide +kernel
theorem dX12_worked_155 : decode cX12_worked 155 = .ok (.imul, 1) := by decide +kernel
theorem dX12_worked_156 : decode cX12_worked 156 = .ok (.sipush 12345, 3) := by decide +kernel
theorem dX12_worked_159 : decode cX12_worked 159 = .ok (.iadd, 1) := by decide +kernel
theorem dX12_worked_160 : decode cX12_worked 160 = .ok (.putfield 433, 3) := by decide +kernel
theorem dX12_worked_163 : decode cX12_worked 163 = .ok (.aload_n 0, 1) := by decide +kernel
theorem dX12_worked_164 : decode cX12_worked 164 = .ok (.getfield 433, 3) := by decide +kernel
theorem dX12_worked_167 : decode cX12_worked 167 = .ok (.bipush 8, 2) := by decide +kernel
theorem dX12_worked_169 : decode cX12_worked 169 = .ok (.ishr, 1) := by decide +kernel
theorem dX12_worked_170 : decode cX12_worked 170 = .ok (.ldc_w 437, 3) := by decide +kernel
theorem dX12_worked_173 : decode cX12_worked 173 = .ok (.iand, 1) := by decide +kernel
theorem dX12_worked_174 : decode cX12_worked 174 = .ok (.aload_n 0, 1) := by decide +kernel
theorem dX12_worked_175 : decode cX12_worked 175 = .ok (.invokevirtual 257, 3) := by decide +kernel
theorem dX12_worked_178 : decode cX12_worked 178 = .ok (.irem, 1) := by decide +kernel
theorem dX12_worked_179 : decode cX12_worked 179 = .ok (.istore 7, 2) := by decide +kernel
theorem dX12_worked_181 : decode cX12_worked 181 = .ok (.goto 135, 3) := by decide +kernel
theorem dX12_worked_184 : decode cX12_worked 184 = .ok (.iinc 4 (-2), 3) := by decide +kernel
theorem dX12_worked_187 : decode cX12_worked 187 = .ok (.iload 6, 2) := by decide +kernel
theorem dX12_worked_189 : decode cX12_worked 189 = .ok (.bipush 6, 2) := by decide +kernel
theorem dX12_worked_191 : decode cX12_worked 191 = .ok (.if_icmp .ne 23, 3) := by decide +kernel
theorem dX12_worked_194 : decode cX12_worked 194 = .ok (.aload_n 0, 1) := by decide +kernel
theorem dX12_worked_195 : decode cX12_worked 195 = .ok (.getfield 81, 3) := by decide +kernel
theorem dX12_worked_198 : decode cX12_worked 198 = .ok (.iload 4, 2) := by decide +kernel
theorem dX12_worked_200 : decode cX12_worked 200 = .ok (.iaload, 1) := by decide +kernel
theorem dX12_worked_201 : decode cX12_worked 201 = .ok (.aload_n 0, 1) := by decide +kernel
theorem dX12_worked_202 : decode cX12_worked 202 = .ok (.getfield 81, 3) := by decide +kernel
theorem dX12_worked_205 : decode cX12_worked 205 = .ok (.iload 4, 2) := by decide +kernel
theorem dX12_worked_207 : decode cX12_worked 207 = .ok (.iconst 1, 1) := by decide +kernel
theorem dX12_worked_208 : decode cX12_worked 208 = .ok (.iadd, 1) := by decide +kernel
theorem dX12_worked_209 : decode cX12_worked 209 = .ok (.iaload, 1) := by decide +kernel
theorem dX12_worked_210 : decode cX12_worked 210 = .ok (.iadd, 1) := by decide +kernel
theorem dX12_worked_211 : decode cX12_worked 211 = .ok (.goto 103, 3) := by decide +kernel
theorem dX12_worked_214 : decode cX12_worked 214 = .ok (.iload 6, 2) := by decide +kernel
theorem dX12_worked_216 : decode cX12_worked 216 = .ok (.bipush 7, 2) := by decide +kernel
theorem dX12_worked_218 : decode cX12_worked 218 = .ok (.if_icmp .ne 23, 3) := by decide +kernel
theorem dX12_worked_221 : decode cX12_worked 221 = .ok (.aload_n 0, 1) := by decide +kernel
theorem dX12_worked_222 : decode cX12_worked 222 = .ok (.getfield 81, 3) := by decide +kernel
theorem dX12_worked_225 : decode cX12_worked 225 = .ok (.iload 4, 2) := by decide +kernel
theorem dX12_worked_227 : decode cX12_worked 227 = .ok (.iaload, 1) := by decide +kernel
theorem dX12_worked_228 : decode cX12_worked 228 = .ok (.aload_n 0, 1) := by decide +kernel
theorem dX12_worked_229 : decode cX12_worked 229 = .ok (.getfield 81, 3) := by decide +kernel
theorem dX12_worked_232 : decode cX12_worked 232 = .ok (.iload 4, 2) := by decide +kernel
theorem dX12_worked_234 : decode cX12_worked 234 = .ok (.iconst 1, 1) := by decide +kernel
theorem dX12_worked_235 : decode cX12_worked 235 = .ok (.iadd, 1) := by decide +kernel
theorem dX12_worked_236 : decode cX12_worked 236 = .ok (.iaload, 1) := by decide +kernel
theorem dX12_worked_237 : decode cX12_worked 237 = .ok (.isub, 1) := by decide +kernel
theorem dX12_worked_238 : decode cX12_worked 238 = .ok (.goto 76, 3) := by decide +kernel
theorem dX12_worked_241 : decode cX12_worked 241 = .ok (.iload 6, 2) := by decide +kernel
theorem dX12_worked_243 : decode cX12_worked 243 = .ok (.bipush 8, 2) := by decide +kernel
theorem dX12_worked_245 : decode cX12_worked 245 = .ok (.if_icmp .ne 23, 3) := by decide +kernel
theorem dX12_worked_248 : decode cX12_worked 248 = .ok (.aload_n 0, 1) := by decide +kernel
theorem dX12_worked_249 : decode cX12_worked 249 = .ok (.getfield 81, 3) := by decide +kernel
theorem dX12_worked_252 : decode cX12_worked 252 = .ok (.iload 4, 2) := by decide +kernel
theorem dX12_worked_254 : decode cX12_worked 254 = .ok (.iaload, 1) := by decide +kernel
theorem dX12_worked_255 : decode cX12_worked 255 = .ok (.aload_n 0, 1) := by decide +kernel
theorem dX12_worked_256 : decode cX12_worked 256 = .ok (.getfield 81, 3) := by decide +kernel
theorem dX12_worked_259 : decode cX12_worked 259 = .ok (.iload 4, 2) := by decide +kernel
theorem dX12_worked_261 : decode cX12_worked 261 = .ok (.iconst 1, 1) := by decide +kernel
theorem dX12_worked_262 : decode cX12_worked 262 = .ok (.iadd, 1) := by decide +kernel
theorem dX12_worked_263 : decode cX12_worked 263 = .ok (.iaload, 1) := by decide +kernel
theorem dX12_worked_264 : decode cX12_worked 264 = .ok (.imul, 1) := by decide +kernel
theorem dX12_worked_265 : decode cX12_worked 265 = .ok (.goto 49, 3) := by decide +kernel
theorem dX12_worked_268 : decode cX12_worked 268 = .ok (.aload_n 0, 1) := by decide +kernel
theorem dX12_worked_269 : decode cX12_worked 269 = .ok (.getfield 81, 3) := by decide +kernel
theorem dX12_worked_272 : decode cX12_worked 272 = .ok (.iload 4, 2) := by decide +kernel
theorem dX12_worked_274 : decode cX12_worked 274 = .ok (.iconst 1, 1) := by decide +kernel
theorem dX12_worked_275 : decode cX12_worked 275 = .ok (.iadd, 1) := by decide +kernel
theorem dX12_worked_276 : decode cX12_worked 276 = .ok (.iaload, 1) := by decide +kernel
theorem dX12_worked_277 : decode cX12_worked 277 = .ok (.ifCond .eq 16, 3) := by decide +kernel
theorem dX12_worked_280 : decode cX12_worked 280 = .ok (.aload_n 0, 1) := by decide +kernel
theorem dX12_worked_281 : decode cX12_worked 281 = .ok (.getfield 81, 3) := by decide +kernel
theorem dX12_worked_284 : decode cX12_worked 284 = .ok (.iload 4, 2) := by decide +kernel
theorem dX12_worked_286 : decode cX12_worked 286 = .ok (.iconst 1, 1) := by decide +kernel
theorem dX12_worked_287 : decode cX12_worked 287 = .ok (.iadd, 1) := by decide +kernel
theorem dX12_worked_288 : decode cX12_worked 288 = .ok (.iaload, 1) := by decide +kernel
theorem dX12_worked_289 : decode cX12_worked 289 = .ok (.iconst (-1), 1) := by decide +kernel
theorem dX12_worked_290 : decode cX12_worked 290 = .ok (.if_icmp .ne 7, 3) := by decide +kernel
theorem dX12_worked_293 : decode cX12_worked 293 = .ok (.iconst 0, 1) := by decide +kernel
theorem dX12_worked_294 : decode cX12_worked 294 = .ok (.goto 20, 3) := by decide +kernel
theorem dX12_worked_297 : decode cX12_worked 297 = .ok (.aload_n 0, 1) := by decide +kernel
theorem dX12_worked_298 : decode cX12_worked 298 = .ok (.getfield 81, 3) := by decide +kernel
theorem dX12_worked_301 : decode cX12_worked 301 = .ok (.iload 4, 2) := by decide +kernel
theorem dX12_worked_303 : decode cX12_worked 303 = .ok (.iaload, 1) := by decide +kernel
theorem dX12_worked_304 : decode cX12_worked 304 = .ok (.aload_n 0, 1) := by decide +kernel
theorem dX12_worked_305 : decode cX12_worked 305 = .ok (.getfield 81, 3) := by decide +kernel
theorem dX12_worked_308 : decode cX12_worked 308 = .ok (.iload 4, 2) := by decide +kernel
theorem dX12_worked_310 : decode cX12_worked 310 = .ok (.iconst 1, 1) := by decide +kernel
theorem dX12_worked_311 : decode cX12_worked 311 = .ok (.iadd, 1) := by decide +kernel
theorem dX12_worked_312 : decode cX12_worked 312 = .ok (.iaload, 1) := by decide +kernel
theorem dX12_worked_313 : decode cX12_worked 313 = .ok (.irem, 1) := by decide +kernel
theorem dX12_worked_314 : decode cX12_worked 314 = .ok (.istore 7, 2) := by decide +kernel
theorem dX12_worked_316 : decode cX12_worked 316 = .ok (.aload_n 0, 1) := by decide +kernel
theorem dX12_worked_317 : decode cX12_worked 317 = .ok (.getfield 81, 3) := by decide +kernel
theorem dX12_worked_320 : decode cX12_worked 320 = .ok (.iload 4, 2) := by decide +kernel
theorem dX12_worked_322 : decode cX12_worked 322 = .ok (.iload 7, 2) := by decide +kernel
theorem dX12_worked_324 : decode cX12_worked 324 = .ok (.iastore, 1) := by decide +kernel
theorem dX12_worked_325 : decode cX12_worked 325 = .ok (.iinc 4 1, 3) := by decide +kernel
theorem dX12_worked_328 : decode cX12_worked 328 = .ok (.iinc 5 1, 3) := by decide +kernel
theorem dX12_worked_331 : decode cX12_worked 331 = .ok (.goto (-325), 3) := by decide +kernel
theorem dX12_worked_334 : decode cX12_worked 334 = .ok (.aload_n 0, 1) := by decide +kernel
theorem dX12_worked_335 : decode cX12_worked 335 = .ok (.getfield 81, 3) := by decide +kernel
theorem dX12_worked_338 : decode cX12_worked 338 = .ok (.iconst 0, 1) := by decide +kernel
theorem dX12_worked_339 : decode cX12_worked 339 = .ok (.iaload, 1) := by decide +kernel
theorem dX12_worked_340 : decode cX12_worked 340 = .ok (.ireturn, 1) := by decide +kernel
theorem dX12_isThief_0 : decode cX12_isThief 0 = .ok (.aload_n 0, 1) := by decide +kernel
theorem dX12_isThief_1 : decode cX12_isThief 1 = .ok (.iload_n 1, 1) := by decide +kernel
theorem dX12_isThief_2 : decode cX12_isThief 2 = .ok (.iconst 0, 1) := by decide +kernel
theorem dX12_isThief_3 : decode cX12_isThief 3 = .ok (.aload_n 0, 1) := by decide +kernel
theorem dX12_isThief_4 : decode cX12_isThief 4 = .ok (.getfield 199, 3) := by decide +kernel
theorem dX12_isThief_7 : decode cX12_isThief 7 = .ok (.iconst 1, 1) := by decide +kernel
theorem dX12_isThief_8 : decode cX12_isThief 8 = .ok (.isub, 1) := by decide +kernel
theorem dX12_isThief_9 : decode cX12_isThief 9 = .ok (.invokestatic 250, 3) := by decide +kernel
theorem dX12_isThief_12 : decode cX12_isThief 12 = .ok (.iconst 2, 1) := by decide +kernel
theorem dX12_isThief_13 : decode cX12_isThief 13 = .ok (.iconst 1, 1) := by decide +kernel
theorem dX12_isThief_14 : decode cX12_isThief 14 = .ok (.invokevirtual 157, 3) := by decide +kernel
theorem dX12_isThief_17 : decode cX12_isThief 17 = .ok (.ireturn, 1) := by decide +kernel
theorem dX12_image_0 : decode cX12_image 0 = .ok (.aload_n 0, 1) := by decide +kernel
theorem dX12_image_1 : decode cX12_image 1 = .ok (.iconst 0, 1) := by decide +kernel
theorem dX12_image_2 : decode cX12_image 2 = .ok (.putfield 1, 3) := by decide +kernel
theorem dX12_image_5 : decode cX12_image 5 = .ok (.aload_n 0, 1) := by decide +kernel
theorem dX12_image_6 : decode cX12_image 6 = .ok (.getfield 196, 3) := by decide +kernel
theorem dX12_image_9 : decode cX12_image 9 = .ok (.iconst 3, 1) := by decide +kernel
theorem dX12_image_10 : decode cX12_image 10 = .ok (.if_icmp .ne 5, 3) := by decide +kernel
theorem dX12_image_13 : decode cX12_image 13 = .ok (.iconst (-1), 1) := by decide +kernel
theorem dX12_image_14 : decode cX12_image 14 = .ok (.ireturn, 1) := by decide +kernel
theorem dX12_image_15 : decode cX12_image 15 = .ok (.iconst 0, 1) := by decide +kernel
theorem dX12_image_16 : decode cX12_image 16 = .ok (.istore_n 1, 1) := by decide +kernel
theorem dX12_image_17 : decode cX12_image 17 = .ok (.iload_n 1, 1) := by decide +kernel
theorem dX12_image_18 : decode cX12_image 18 = .ok (.sipush 8000, 3) := by decide +kernel
theorem dX12_image_21 : decode cX12_image 21 = .ok (.if_icmp .ge 30, 3) := by decide +kernel
theorem dX12_image_24 : decode cX12_image 24 = .ok (.aload_n 0, 1) := by decide +kernel
theorem dX12_image_25 : decode cX12_image 25 = .ok (.getfield 48, 3) := by decide +kernel
theorem dX12_image_28 : decode cX12_image 28 = .ok (.sipush 8000, 3) := by decide +kernel
theorem dX12_image_31 : decode cX12_image 31 = .ok (.aload_n 0, 1) := by decide +kernel
theorem dX12_image_32 : decode cX12_image 32 = .ok (.getfield 196, 3) := by decide +kernel
theorem dX12_image_35 : decode cX12_image 35 = .ok (.imul, 1) := by decide +kernel
theorem dX12_image_36 : decode cX12_image 36 = .ok (.iload_n 1, 1) := by decide +kernel
theorem dX12_image_37 : decode cX12_image 37 = .ok (.iadd, 1) := by decide +kernel
theorem dX12_image_38 : decode cX12_image 38 = .ok (.aload_n 0, 1) := by decide +kernel
theorem dX12_image_39 : decode cX12_image 39 = .ok (.getfield 33, 3) := by decide +kernel
theorem dX12_image_42 : decode cX12_image 42 = .ok (.iload_n 1, 1) := by decide +kernel
theorem dX12_image_43 : decode cX12_image 43 = .ok (.iaload, 1) := by decide +kernel
theorem dX12_image_44 : decode cX12_image 44 = .ok (.iastore, 1) := by decide +kernel
theorem dX12_image_45 : decode cX12_image 45 = .ok (.iinc 1 1, 3) := by decide +kernel
theorem dX12_image_48 : decode cX12_image 48 = .ok (.goto (-31), 3) := by decide +kernel
theorem dX12_image_51 : decode cX12_image 51 = .ok (.iconst 0, 1) := by decide +kernel
theorem dX12_image_52 : decode cX12_image 52 = .ok (.istore_n 1, 1) := by decide +kernel
theorem dX12_image_53 : decode cX12_image 53 = .ok (.iload_n 1, 1) := by decide +kernel
theorem dX12_image_54 : decode cX12_image 54 = .ok (.sipush 4000, 3) := by decide +kernel
theorem dX12_image_57 : decode cX12_image 57 = .ok (.if_icmp .ge 51, 3) := by decide +kernel
theorem dX12_image_60 : decode cX12_image 60 = .ok (.aload_n 0, 1) := by decide +kernel
theorem dX12_image_61 : decode cX12_image 61 = .ok (.getfield 54, 3) := by decide +kernel
theorem dX12_image_64 : decode cX12_image 64 = .ok (.sipush 4000, 3) := by decide +kernel
theorem dX12_image_67 : decode cX12_image 67 = .ok (.aload_n 0, 1) := by decide +kernel
theorem dX12_image_68 : decode cX12_image 68 = .ok (.getfield 196, 3) := by decide +kernel
theorem dX12_image_71 : decode cX12_image 71 = .ok (.imul, 1) := by decide +kernel
theorem dX12_image_72 : decode cX12_image 72 = .ok (.iload_n 1, 1) := by decide +kernel
theorem dX12_image_73 : decode cX12_image 73 = .ok (.iadd, 1) := by decide +kernel
theorem dX12_image_74 : decode cX12_image 74 = .ok (.aload_n 0, 1) := by decide +kernel
theorem dX12_image_75 : decode cX12_image 75 = .ok (.getfield 39, 3) := by decide +kernel
theorem dX12_image_78 : decode cX12_image 78 = .ok (.iload_n 1, 1) := by decide +kernel
theorem dX12_image_79 : decode cX12_image 79 = .ok (.iaload, 1) := by decide +kernel
theorem dX12_image_80 : decode cX12_image 80 = .ok (.iastore, 1) := by decide +kernel
theorem dX12_image_81 : decode cX12_image 81 = .ok (.aload_n 0, 1) := by decide +kernel
theorem dX12_image_82 : decode cX12_image 82 = .ok (.getfield 57, 3) := by decide +kernel
theorem dX12_image_85 : decode cX12_image 85 = .ok (.sipush 4000, 3) := by decide +kernel
theorem dX12_image_88 : decode cX12_image 88 = .ok (.aload_n 0, 1) := by decide +kernel
theorem dX12_image_89 : decode cX12_image 89 = .ok (.getfield 196, 3) := by decide +kernel
theorem dX12_image_92 : decode cX12_image 92 = .ok (.imul, 1) := by decide +kernel
theorem dX12_image_93 : decode cX12_image 93 = .ok (.iload_n 1, 1) := by decide +kernel
theorem dX12_image_94 : decode cX12_image 94 = .ok (.iadd, 1) := by decide +kernel
theorem dX12_image_95 : decode cX12_image 95 = .ok (.aload_n 0, 1) := by decide +kernel
theorem dX12_image_96 : decode cX12_image 96 = .ok (.getfield 42, 3) := by decide +kernel
theorem dX12_image_99 : decode cX12_image 99 = .ok (.iload_n 1, 1) := by decide +kernel
theorem dX12_image_100 : decode cX12_image 100 = .ok (.iaload, 1) := by decide +kernel
theorem dX12_image_101 : decode cX12_image 101 = .ok (.iastore, 1) := by decide +kernel
theorem dX12_image_102 : decode cX12_image 102 = .ok (.iinc 1 1, 3) := by decide +kernel
theorem dX12_image_105 : decode cX12_image 105 = .ok (.goto (-52), 3) := by decide +kernel
theorem dX12_image_108 : decode cX12_image 108 = .ok (.iconst 0, 1) := by decide +kernel
theorem dX12_image_109 : decode cX12_image 109 = .ok (.istore_n 1, 1) := by decide +kernel
theorem dX12_image_110 : decode cX12_image 110 = .ok (.iload_n 1, 1) := by decide +kernel
theorem dX12_image_111 : decode cX12_image 111 = .ok (.iconst 4, 1) := by decide +kernel
theorem dX12_image_112 : decode cX12_image 112 = .ok (.if_icmp .ge 47, 3) := by decide +kernel
theorem dX12_image_115 : decode cX12_image 115 = .ok (.aload_n 0, 1) := by decide +kernel
theorem dX12_image_116 : decode cX12_image 116 = .ok (.getfield 51, 3) := by decide +kernel
theorem dX12_image_119 : decode cX12_image 119 = .ok (.iconst 4, 1) := by decide +kernel
theorem dX12_image_120 : decode cX12_image 120 = .ok (.aload_n 0, 1) := by decide +kernel
theorem dX12_image_121 : decode cX12_image 121 = .ok (.getfield 196, 3) := by decide +kernel
theorem dX12_image_124 : decode cX12_image 124 = .ok (.imul, 1) := by decide +kernel
theorem dX12_image_125 : decode cX12_image 125 = .ok (.iload_n 1, 1) := by decide +kernel
theorem dX12_image_126 : decode cX12_image 126 = .ok (.iadd, 1) := by decide +kernel
theorem dX12_image_127 : decode cX12_image 127 = .ok (.aload_n 0, 1) := by decide +kernel
theorem dX12_image_128 : decode cX12_image 128 = .ok (.getfield 36, 3) := by decide +kernel
theorem dX12_image_131 : decode cX12_image 131 = .ok (.iload_n 1, 1) := by decide +kernel
theorem dX12_image_132 : decode cX12_image 132 = .ok (.iaload, 1) := by decide +kernel
theorem dX12_image_133 : decode cX12_image 133 = .ok (.iastore, 1) := by decide +kernel
theorem dX12_image_134 : decode cX12_image 134 = .ok (.aload_n 0, 1) := by decide +kernel
theorem dX12_image_135 : decode cX12_image 135 = .ok (.getfield 60, 3) := by decide +kernel
theorem dX12_image_138 : decode cX12_image 138 = .ok (.iconst 4, 1) := by decide +kernel
theorem dX12_image_139 : decode cX12_image 139 = .ok (.aload_n 0, 1) := by decide +kernel
theorem dX12_image_140 : decode cX12_image 140 = .ok (.getfield 196, 3) := by decide +kernel
theorem dX12_image_143 : decode cX12_image 143 = .ok (.imul, 1) := by decide +kernel
theorem dX12_image_144 : decode cX12_image 144 = .ok (.iload_n 1, 1) := by decide +kernel
theorem dX12_image_145 : decode cX12_image 145 = .ok (.iadd, 1) := by decide +kernel
theorem dX12_image_146 : decode cX12_image 146 = .ok (.aload_n 0, 1) := by decide +kernel
theorem dX12_image_147 : decode cX12_image 147 = .ok (.getfield 45, 3) := by decide +kernel
theorem dX12_image_150 : decode cX12_image 150 = .ok (.iload_n 1, 1) := by decide +kernel
theorem dX12_image_151 : decode cX12_image 151 = .ok (.iaload, 1) := by decide +kernel
theorem dX12_image_152 : decode cX12_image 152 = .ok (.iastore, 1) := by decide +kernel
theorem dX12_image_153 : decode cX12_image 153 = .ok (.iinc 1 1, 3) := by decide +kernel
theorem dX12_image_156 : decode cX12_image 156 = .ok (.goto (-46), 3) := by decide +kernel
theorem dX12_image_159 : decode cX12_image 159 = .ok (.aload_n 0, 1) := by decide +kernel
theorem dX12_image_160 : decode cX12_image 160 = .ok (.dup, 1) := by decide +kernel
theorem dX12_image_161 : decode cX12_image 161 = .ok (.getfield 196, 3) := by decide +kernel
theorem dX12_image_164 : decode cX12_image 164 = .ok (.iconst 1, 1) := by decide +kernel
theorem dX12_image_165 : decode cX12_image 165 = .ok (.iadd, 1) := by decide +kernel
theorem dX12_image_166 : decode cX12_image 166 = .ok (.putfield 196, 3) := by decide +kernel
theorem dX12_image_169 : decode cX12_image 169 = .ok (.aload_n 0, 1) := by decide +kernel
theorem dX12_image_170 : decode cX12_image 170 = .ok (.getfield 196, 3) := by decide +kernel
theorem dX12_image_173 : decode cX12_image 173 = .ok (.ireturn, 1) := by decide +kernel
theorem dX12_restore_0 : decode cX12_restore 0 = .ok (.aload_n 0, 1) := by decide +kernel
theorem dX12_restore_1 : decode cX12_restore 1 = .ok (.iconst 0, 1) := by decide +kernel
theorem dX12_restore_2 : decode cX12_restore 2 = .ok (.putfield 1, 3) := by decide +kernel
theorem dX12_restore_5 : decode cX12_restore 5 = .ok (.aload_n 0, 1) := by decide +kernel
theorem dX12_restore_6 : decode cX12_restore 6 = .ok (.getfield 196, 3) := by decide +kernel
theorem dX12_restore_9 : decode cX12_restore 9 = .ok (.ifCond .ne 5, 3) := by decide +kernel
theorem dX12_restore_12 : decode cX12_restore 12 = .ok (.iconst (-1), 1) := by decide +kernel
theorem dX12_restore_13 : decode cX12_restore 13 = .ok (.ireturn, 1) := by decide +kernel
theorem dX12_restore_14 : decode cX12_restore 14 = .ok (.aload_n 0, 1) := by decide +kernel
theorem dX12_restore_15 : decode cX12_restore 15 = .ok (.dup, 1) := by decide +kernel
theorem dX12_restore_16 : decode cX12_restore 16 = .ok (.getfield 196, 3) := by decide +kernel
theorem dX12_restore_19 : decode cX12_restore 19 = .ok (.iconst 1, 1) := by decide +kernel
theorem dX12_restore_20 : decode cX12_restore 20 = .ok (.isub, 1) := by decide +kernel
theorem dX12_restore_21 : decode cX12_restore 21 = .ok (.putfield 196, 3) := by decide +kernel
theorem dX12_restore_24 : decode cX12_restore 24 = .ok (.iconst 0, 1) := by decide +kernel
theorem dX12_restore_25 : decode cX12_restore 25 = .ok (.istore_n 1, 1) := by decide +kernel
theorem dX12_restore_26 : decode cX12_restore 26 = .ok (.iload_n 1, 1) := by decide +kernel
theorem dX12_restore_27 : decode cX12_restore 27 = .ok (.sipush 8000, 3) := by decide +kernel
theorem dX12_restore_30 : decode cX12_restore 30 = .ok (.if_icmp .ge 30, 3) := by decide +kernel
theorem dX12_restore_33 : decode cX12_restore 33 = .ok (.aload_n 0, 1) := by decide +kernel
theorem dX12_restore_34 : decode cX12_restore 34 = .ok (.getfield 33, 3) := by decide +kernel
theorem dX12_restore_37 : decode cX12_restore 37 = .ok (.iload_n 1, 1) := by decide +kernel
theorem dX12_restore_38 : decode cX12_restore 38 = .ok (.aload_n 0, 1) := by decide +kernel
theorem dX12_restore_39 : decode cX12_restore 39 = .ok (.getfield 48, 3) := by decide +kernel
theorem dX12_restore_42 : decode cX12_restore 42 = .ok (.sipush 8000, 3) := by decide +kernel
theorem dX12_restore_45 : decode cX12_restore 45 = .ok (.aload_n 0, 1) := by decide +kernel
theorem dX12_restore_46 : decode cX12_restore 46 = .ok (.getfield 196, 3) := by decide +kernel
theorem dX12_restore_49 : decode cX12_restore 49 = .ok (.imul, 1) := by decide +kernel
theorem dX12_restore_50 : decode cX12_restore 50 = .ok (.iload_n 1, 1) := by decide +kernel
theorem dX12_restore_51 : decode cX12_restore 51 = .ok (.iadd, 1) := by decide +kernel
theorem dX12_restore_52 : decode cX12_restore 52 = .ok (.iaload, 1) := by decide +kernel
theorem dX12_restore_53 : decode cX12_restore 53 = .ok (.iastore, 1) := by decide +kernel
theorem dX12_restore_54 : decode cX12_restore 54 = .ok (.iinc 1 1, 3) := by decide +kernel
theorem dX12_restore_57 : decode cX12_restore 57 = .ok (.goto (-31), 3) := by decide +kernel
theorem dX12_restore_60 : decode cX12_restore 60 = .ok (.iconst 0, 1) := by decide +kernel
theorem dX12_restore_61 : decode cX12_restore 61 = .ok (.istore_n 1, 1) := by decide +kernel
theorem dX12_restore_62 : decode cX12_restore 62 = .ok (.iload_n 1, 1) := by decide +kernel
theorem dX12_restore_63 : decode cX12_restore 63 = .ok (.sipush 4000, 3) := by decide +kernel
theorem dX12_restore_66 : decode cX12_restore 66 = .ok (.if_icmp .ge 51, 3) := by decide +kernel
theorem dX12_restore_69 : decode cX12_restore 69 = .ok (.aload_n 0, 1) := by decide +kernel
theorem dX12_restore_70 : decode cX12_restore 70 = .ok (.getfield 39, 3) := by decide +kernel
theorem dX12_restore_73 : decode cX12_restore 73 = .ok (.iload_n 1, 1) := by decide +kernel
theorem dX12_restore_74 : decode cX12_restore 74 = .ok (.aload_n 0, 1) := by decide +kernel
theorem dX12_restore_75 : decode cX12_restore 75 = .ok (.getfield 54, 3) := by decide +kernel
theorem dX12_restore_78 : decode cX12_restore 78 = .ok (.sipush 4000, 3) := by decide +kernel
theorem dX12_restore_81 : decode cX12_restore 81 = .ok (.aload_n 0, 1) := by decide +kernel
theorem dX12_restore_82 : decode cX12_restore 82 = .ok (.getfield 196, 3) := by decide +kernel
theorem dX12_restore_85 : decode cX12_restore 85 = .ok (.imul, 1) := by decide +kernel
theorem dX12_restore_86 : decode cX12_restore 86 = .ok (.iload_n 1, 1) := by decide +kernel
theorem dX12_restore_87 : decode cX12_restore 87 = .ok (.iadd, 1) := by decide +kernel
theorem dX12_restore_88 : decode cX12_restore 88 = .ok (.iaload, 1) := by decide +kernel
theorem dX12_restore_89 : decode cX12_restore 89 = .ok (.iastore, 1) := by decide +kernel
theorem dX12_restore_90 : decode cX12_restore 90 = .ok (.aload_n 0, 1) := by decide +kernel
theorem dX12_restore_91 : decode cX12_restore 91 = .ok (.getfield 42, 3) := by decide +kernel
theorem dX12_restore_94 : decode cX12_restore 94 = .ok (.iload_n 1, 1) := by decide +kernel
theorem dX12_restore_95 : decode cX12_restore 95 = .ok (.aload_n 0, 1) := by decide +kernel
theorem dX12_restore_96 : decode cX12_restore 96 = .ok (.getfield 57, 3) := by decide +kernel
theorem dX12_restore_99 : decode cX12_restore 99 = .ok (.sipush 4000, 3) := by decide +kernel
theorem dX12_restore_102 : decode cX12_restore 102 = .ok (.aload_n 0, 1) := by decide +kernel
theorem dX12_restore_103 : decode cX12_restore 103 = .ok (.getfield 196, 3) := by decide +kernel
theorem dX12_restore_106 : decode cX12_restore 106 = .ok (.imul, 1) := by decide +kernel
theorem dX12_restore_107 : decode cX12_restore 107 = .ok (.iload_n 1, 1) := by decide +kernel
theorem dX12_restore_108 : decode cX12_restore 108 = .ok (.iadd, 1) := by decide +kernel
theorem dX12_restore_109 : decode cX12_restore 109 = .ok (.iaload, 1) := by decide +kernel
theorem dX12_restore_110 : decode cX12_restore 110 = .ok (.iastore, 1) := by decide +kernel
theorem dX12_restore_111 : decode cX12_restore 111 = .ok (.iinc 1 1, 3) := by decide +kernel
theorem dX12_restore_114 : decode cX12_restore 114 = .ok (.goto (-52), 3) := by decide +kernel
theorem dX12_restore_117 : decode cX12_restore 117 = .ok (.iconst 0, 1) := by decide +kernel
theorem dX12_restore_118 : decode cX12_restore 118 = .ok (.istore_n 1, 1) := by decide +kernel
theorem dX12_restore_119 : decode cX12_restore 119 = .ok (.iload_n 1, 1) := by decide +kernel
theorem dX12_restore_120 : decode cX12_restore 120 = .ok (.iconst 4, 1) := by decide +kernel
theorem dX12_restore_121 : decode cX12_restore 121 = .ok (.if_icmp .ge 47, 3) := by decide +kernel
theorem dX12_restore_124 : decode cX12_restore 124 = .ok (.aload_n 0, 1) := by decide +kernel
theorem dX12_restore_125 : decode cX12_restore 125 = .ok (.getfield 36, 3) := by decide +kernel
theorem dX12_restore_128 : decode cX12_restore 128 = .ok (.iload_n 1, 1) := by decide +kernel
theorem dX12_restore_129 : decode cX12_restore 129 = .ok (.aload_n 0, 1) := by decide +kernel
theorem dX12_restore_130 : decode cX12_restore 130 = .ok (.getfield 51, 3) := by decide +kernel
theorem dX12_restore_133 : decode cX12_restore 133 = .ok (.iconst 4, 1) := by decide +kernel
theorem dX12_restore_134 : decode cX12_restore 134 = .ok (.aload_n 0, 1) := by decide +kernel
theorem dX12_restore_135 : decode cX12_restore 135 = .ok (.getfield 196, 3) := by decide +kernel
theorem dX12_restore_138 : decode cX12_restore 138 = .ok (.imul, 1) := by decide +kernel
theorem dX12_restore_139 : decode cX12_restore 139 = .ok (.iload_n 1, 1) := by decide +kernel
theorem dX12_restore_140 : decode cX12_restore 140 = .ok (.iadd, 1) := by decide +kernel
theorem dX12_restore_141 : decode cX12_restore 141 = .ok (.iaload, 1) := by decide +kernel
theorem dX12_restore_142 : decode cX12_restore 142 = .ok (.iastore, 1) := by decide +kernel
theorem dX12_restore_143 : decode cX12_restore 143 = .ok (.aload_n 0, 1) := by decide +kernel
theorem dX12_restore_144 : decode cX12_restore 144 = .ok (.getfield 45, 3) := by decide +kernel
theorem dX12_restore_147 : decode cX12_restore 147 = .ok (.iload_n 1, 1) := by decide +kernel
theorem dX12_restore_148 : decode cX12_restore 148 = .ok (.aload_n 0, 1) := by decide +kernel
theorem dX12_restore_149 : decode cX12_restore 149 = .ok (.getfield 60, 3) := by decide +kernel
theorem dX12_restore_152 : decode cX12_restore 152 = .ok (.iconst 4, 1) := by decide +kernel
theorem dX12_restore_153 : decode cX12_restore 153 = .ok (.aload_n 0, 1) := by decide +kernel
theorem dX12_restore_154 : decode cX12_restore 154 = .ok (.getfield 196, 3) := by decide +kernel
theorem dX12_restore_157 : decode cX12_restore 157 = .ok (.imul, 1) := by decide +kernel
theorem dX12_restore_158 : decode cX12_restore 158 = .ok (.iload_n 1, 1) := by decide +kernel
theorem dX12_restore_159 : decode cX12_restore 159 = .ok (.iadd, 1) := by decide +kernel
theorem dX12_restore_160 : decode cX12_restore 160 = .ok (.iaload, 1) := by decide +kernel
theorem dX12_restore_161 : decode cX12_restore 161 = .ok (.iastore, 1) := by decide +kernel
theorem dX12_restore_162 : decode cX12_restore 162 = .ok (.iinc 1 1, 3) := by decide +kernel
theorem dX12_restore_165 : decode cX12_restore 165 = .ok (.goto (-46), 3) := by decide +kernel
theorem dX12_restore_168 : decode cX12_restore 168 = .ok (.aload_n 0, 1) := by decide +kernel
theorem dX12_restore_169 : decode cX12_restore 169 = .ok (.getfield 196, 3) := by decide +kernel
theorem dX12_restore_172 : decode cX12_restore 172 = .ok (.ireturn, 1) := by decide +kernel
theorem dX12_status_0 : decode cX12_status 0 = .ok (.aload_n 0, 1) := by decide +kernel
theorem dX12_status_1 : decode cX12_status 1 = .ok (.iconst 0, 1) := by decide +kernel
theorem dX12_status_2 : decode cX12_status 2 = .ok (.putfield 1, 3) := by decide +kernel
theorem dX12_status_5 : decode cX12_status 5 = .ok (.iload_n 1, 1) := by decide +kernel
theorem dX12_status_6 : decode cX12_status 6 = .ok (.iconst 0, 1) := by decide +kernel
theorem dX12_status_7 : decode cX12_status 7 = .ok (.iconst 2, 1) := by decide +kernel
theorem dX12_status_8 : decode cX12_status 8 = .ok (.invokestatic 250, 3) := by decide +kernel
theorem dX12_status_11 : decode cX12_status 11 = .ok (.ifCond .eq 12, 3) := by decide +kernel
theorem dX12_status_14 : decode cX12_status 14 = .ok (.aload_n 0, 1) := by decide +kernel
theorem dX12_status_15 : decode cX12_status 15 = .ok (.getfield 7, 3) := by decide +kernel
theorem dX12_status_18 : decode cX12_status 18 = .ok (.iload_n 1, 1) := by decide +kernel
theorem dX12_status_19 : decode cX12_status 19 = .ok (.iaload, 1) := by decide +kernel
theorem dX12_status_20 : decode cX12_status 20 = .ok (.goto 4, 3) := by decide +kernel
theorem dX12_status_23 : decode cX12_status 23 = .ok (.iconst (-1), 1) := by decide +kernel
theorem dX12_status_24 : decode cX12_status 24 = .ok (.ireturn, 1) := by decide +kernel
theorem dX12_count_0 : decode cX12_count 0 = .ok (.aload_n 0, 1) := by decide +kernel
theorem dX12_count_1 : decode cX12_count 1 = .ok (.iconst 0, 1) := by decide +kernel
theorem dX12_count_2 : decode cX12_count 2 = .ok (.putfield 1, 3) := by decide +kernel
theorem dX12_count_5 : decode cX12_count 5 = .ok (.iload_n 1, 1) := by decide +kernel
theorem dX12_count_6 : decode cX12_count 6 = .ok (.ifCond .ne 10, 3) := by decide +kernel
theorem dX12_count_9 : decode cX12_count 9 = .ok (.aload_n 0, 1) := by decide +kernel
theorem dX12_count_10 : decode cX12_count 10 = .ok (.getfield 196, 3) := by decide +kernel
theorem dX12_count_13 : decode cX12_count 13 = .ok (.goto 51, 3) := by decide +kernel
theorem dX12_count_16 : decode cX12_count 16 = .ok (.iload_n 1, 1) := by decide +kernel
theorem dX12_count_17 : decode cX12_count 17 = .ok (.iconst 1, 1) := by decide +kernel
theorem dX12_count_18 : decode cX12_count 18 = .ok (.if_icmp .ne 10, 3) := by decide +kernel
theorem dX12_count_21 : decode cX12_count 21 = .ok (.aload_n 0, 1) := by decide +kernel
theorem dX12_count_22 : decode cX12_count 22 = .ok (.getfield 109, 3) := by decide +kernel
theorem dX12_count_25 : decode cX12_count 25 = .ok (.goto 39, 3) := by decide +kernel
theorem dX12_count_28 : decode cX12_count 28 = .ok (.iload_n 1, 1) := by decide +kernel
theorem dX12_count_29 : decode cX12_count 29 = .ok (.iconst 2, 1) := by decide +kernel
theorem dX12_count_30 : decode cX12_count 30 = .ok (.if_icmp .ne 33, 3) := by decide +kernel
theorem dX12_count_33 : decode cX12_count 33 = .ok (.aload_n 0, 1) := by decide +kernel
theorem dX12_count_34 : decode cX12_count 34 = .ok (.getfield 36, 3) := by decide +kernel
theorem dX12_count_37 : decode cX12_count 37 = .ok (.iconst 0, 1) := by decide +kernel
theorem dX12_count_38 : decode cX12_count 38 = .ok (.iaload, 1) := by decide +kernel
theorem dX12_count_39 : decode cX12_count 39 = .ok (.aload_n 0, 1) := by decide +kernel
theorem dX12_count_40 : decode cX12_count 40 = .ok (.getfield 36, 3) := by decide +kernel
theorem dX12_count_43 : decode cX12_count 43 = .ok (.iconst 1, 1) := by decide +kernel
theorem dX12_count_44 : decode cX12_count 44 = .ok (.iaload, 1) := by decide +kernel
theorem dX12_count_45 : decode cX12_count 45 = .ok (.iadd, 1) := by decide +kernel
theorem dX12_count_46 : decode cX12_count 46 = .ok (.aload_n 0, 1) := by decide +kernel
theorem dX12_count_47 : decode cX12_count 47 = .ok (.getfield 36, 3) := by decide +kernel
theorem dX12_count_50 : decode cX12_count 50 = .ok (.iconst 2, 1) := by decide +kernel
theorem dX12_count_51 : decode cX12_count 51 = .ok (.iaload, 1) := by decide +kernel
theorem dX12_count_52 : decode cX12_count 52 = .ok (.iadd, 1) := by decide +kernel
theorem dX12_count_53 : decode cX12_count 53 = .ok (.aload_n 0, 1) := by decide +kernel
theorem dX12_count_54 : decode cX12_count 54 = .ok (.getfield 36, 3) := by decide +kernel
theorem dX12_count_57 : decode cX12_count 57 = .ok (.iconst 3, 1) := by decide +kernel
theorem dX12_count_58 : decode cX12_count 58 = .ok (.iaload, 1) := by decide +kernel
theorem dX12_count_59 : decode cX12_count 59 = .ok (.iadd, 1) := by decide +kernel
theorem dX12_count_60 : decode cX12_count 60 = .ok (.goto 4, 3) := by decide +kernel
theorem dX12_count_63 : decode cX12_count 63 = .ok (.iconst (-1), 1) := by decide +kernel
theorem dX12_count_64 : decode cX12_count 64 = .ok (.ireturn, 1) := by decide +kernel
def J_X12_gap_29 (N : Nat) (g : gp) (a0 : Nat) (x1 : Int32) (x2 : Int32) (δ : dp) : Option (Int32 × dp) :=
  some (0, δ)
set_option maxHeartbeats 4000000 in
set_option maxRecDepth 100000 in
theorem t_J_X12_gap_29 {l : Launch} {D : va_G} {cy : Nat → ClassId} {N d : Nat} {g : gp} (wt : WT g) (hl : l.stackTraces = false) (hd : 3 ≤ d) {a0 : Nat} {x1 : Int32} {x2 : Int32} (k0 : q_K g a0 = 12) : ∀ (δ : dp), AWD l D cy m_X12_gap d 0 0 ei g 29 [] [] δ (J_X12_gap_29 N g a0 x1 x2 δ) := by
    intro  δ 
    unfold J_X12_gap_29
    refine w_iconst (v := 0) (μ := m_X12_gap) (pc := 29) dX12_gap_29 (by decide) ?_
    exact w_iret (μ := m_X12_gap) (pc := 30) dX12_gap_30 rfl rfl
def J_X12_gap_108 (N : Nat) (g : gp) (a0 : Nat) (x1 : Int32) (x2 : Int32) (xs0 : Int32) (δ : dp) : Option (Int32 × dp) :=
  some (xs0, δ)
set_option maxHeartbeats 4000000 in
set_option maxRecDepth 100000 in
theorem t_J_X12_gap_108 {l : Launch} {D : va_G} {cy : Nat → ClassId} {N d : Nat} {g : gp} (wt : WT g) (hl : l.stackTraces = false) (hd : 3 ≤ d) {a0 : Nat} {x1 : Int32} {x2 : Int32} (k0 : q_K g a0 = 12) : ∀ (xs0 : Int32) (δ : dp), AWD l D cy m_X12_gap d 0 0 ei g 108 [] [.int xs0] δ (J_X12_gap_108 N g a0 x1 x2 xs0 δ) := by
    intro xs0 δ 
    unfold J_X12_gap_108
    exact w_iret (μ := m_X12_gap) (pc := 108) dX12_gap_108 rfl rfl
def J_X12_gap_92 (N : Nat) (g : gp) (a0 : Nat) (x1 : Int32) (x2 : Int32) (kt39 : Int32 → Int32 → Int32 → dp → Option (Int32 × dp)) (x3v : Int32) (x4v : Int32) (x5v : Int32) (δ : dp) : Option (Int32 × dp) :=
  bi (x5v + 1) fun x_18 => kt39 x3v x4v x_18 δ
set_option maxHeartbeats 4000000 in
set_option maxRecDepth 100000 in
theorem t_J_X12_gap_92 {l : Launch} {D : va_G} {cy : Nat → ClassId} {N d : Nat} {g : gp} (wt : WT g) (hl : l.stackTraces = false) (hd : 3 ≤ d) {a0 : Nat} {x1 : Int32} {x2 : Int32} (k0 : q_K g a0 = 12) {kt39 : Int32 → Int32 → Int32 → dp → Option (Int32 × dp)} (hk39 : ∀ (x3v : Int32) (x4v : Int32) (x5v : Int32) (δ : dp), AWD l D cy m_X12_gap d 0 0 ei g 39 [(0, .ref a0), (1, .int x1), (2, .int x2), (3, .int x3v), (4, .int x4v), (5, .int x5v)] [] δ (kt39 x3v x4v x5v δ)) : ∀ (x3v : Int32) (x4v : Int32) (x5v : Int32) (δ : dp), AWD l D cy m_X12_gap d 0 0 ei g 92 [(0, .ref a0), (1, .int x1), (2, .int x2), (3, .int x3v), (4, .int x4v), (5, .int x5v)] [] δ (J_X12_gap_92 N g a0 x1 x2 kt39 x3v x4v x5v δ) := by
    intro x3v x4v x5v δ 
    unfold J_X12_gap_92
    refine w_inb (fun x_18 e_19 => ?_)
    refine w_iinc 5 [(5, .int x_18), (0, .ref a0), (1, .int x1), (2, .int x2), (3, .int x3v), (4, .int x4v)] (μ := m_X12_gap) (pc := 92) dX12_gap_92 rfl (by rw [e_19]; rfl) (by decide) rfl ?_
    refine w_goto 39 (μ := m_X12_gap) (pc := 95) dX12_gap_95 (by decide) ?_
    refine w_lv [1, 2, 3, 4, 5, 0] rfl ?_
    exact hk39 _ _ _ _
def L_X12_gap_39 (N : Nat) (g : gp) (a0 : Nat) (x1 : Int32) (x2 : Int32) : Nat → Int32 → Int32 → Int32 → dp → Option (Int32 × dp)
  | 0, _, _, _, _ => none
  | n + 1, x3v, x4v, x5v, δ => (q_O g 12 14 a0).bind fun b_8 => if x1 < 0 ∨ q_N g b_8 ≤ x1.toNatClampNeg then none else if (q_R δ b_8 x1.toNatClampNeg) ≤ x5v then (if x2 = 0 then (J_X12_gap_108 N g a0 x1 x2 x3v δ) else (J_X12_gap_108 N g a0 x1 x2 x4v δ)) else ((D_X12_numberAt N g a0 x1 x5v δ).bind fun r_12 => (D_X12_numberAt N g a0 x1 (x5v - 1) r_12.2).bind fun r_13 => bi (r_12.1 - r_13.1) fun x_14 => if x3v < x_14 then ((D_X12_numberAt N g a0 x1 (x5v - 1) r_13.2).bind fun r_17 => J_X12_gap_92 N g a0 x1 x2 (L_X12_gap_39 N g a0 x1 x2 n) x_14 r_17.1 x5v r_17.2) else (J_X12_gap_92 N g a0 x1 x2 (L_X12_gap_39 N g a0 x1 x2 n) x3v x4v x5v r_13.2))
set_option maxHeartbeats 4000000 in
set_option maxRecDepth 100000 in
theorem t_L_X12_gap_39 {l : Launch} {D : va_G} {cy : Nat → ClassId} {N d : Nat} {g : gp} (wt : WT g) (hl : l.stackTraces = false) (hd : 3 ≤ d) {a0 : Nat} {x1 : Int32} {x2 : Int32} (k0 : q_K g a0 = 12) : ∀ (n : Nat) (x3v : Int32) (x4v : Int32) (x5v : Int32) (δ : dp), AWD l D cy m_X12_gap d 0 0 ei g 39 [(0, .ref a0), (1, .int x1), (2, .int x2), (3, .int x3v), (4, .int x4v), (5, .int x5v)] [] δ (L_X12_gap_39 N g a0 x1 x2 n x3v x4v x5v δ) := by
  intro n
  induction n with
  | zero => intro x3v x4v x5v δ ; exact w_none
  | succ n ih =>
    intro x3v x4v x5v δ 
    unfold L_X12_gap_39
    refine w_iload 5 (μ := m_X12_gap) (pc := 39) dX12_gap_39 rfl ?_
    refine w_aload_n 0 0 (μ := m_X12_gap) (pc := 41) dX12_gap_41 rfl rfl ?_
    refine w_getO (μ := m_X12_gap) (pc := 42) dX12_gap_42 fl_X12_36 ir_12_14 id_12_14 k0 (fun b_8 e_9 => ?_)
    refine w_iload_n 1 1 (μ := m_X12_gap) (pc := 45) dX12_gap_45 rfl rfl ?_
    refine w_ald (μ := m_X12_gap) (pc := 46) dX12_gap_46 (wt_12_14 wt k0 e_9) ?_
    refine w_icmp_ge 98 (μ := m_X12_gap) (pc := 47) dX12_gap_47 (by decide) (fun c_10 => ?_) (fun c_10 => ?_)
    · refine w_iload_n 2 2 (μ := m_X12_gap) (pc := 98) dX12_gap_98 rfl rfl ?_
      refine w_if_ne 106 (μ := m_X12_gap) (pc := 99) dX12_gap_99 (by decide) (fun c_11 => ?_) (fun c_11 => ?_)
      · refine w_iload 4 (μ := m_X12_gap) (pc := 106) dX12_gap_106 rfl ?_
        refine w_lv [] rfl ?_
        exact t_J_X12_gap_108 wt hl (by omega) k0 _ _
      · refine w_iload_n 3 3 (μ := m_X12_gap) (pc := 102) dX12_gap_102 rfl rfl ?_
        refine w_goto 108 (μ := m_X12_gap) (pc := 103) dX12_gap_103 (by decide) ?_
        refine w_lv [] rfl ?_
        exact t_J_X12_gap_108 wt hl (by omega) k0 _ _
    · refine w_aload_n 0 0 (μ := m_X12_gap) (pc := 50) dX12_gap_50 rfl rfl ?_
      refine w_iload_n 1 1 (μ := m_X12_gap) (pc := 51) dX12_gap_51 rfl rfl ?_
      refine w_iload 5 (μ := m_X12_gap) (pc := 52) dX12_gap_52 rfl ?_
      refine w_callV (As := [.int x1, .int x5v]) (rest := []) (μ := m_X12_gap) (pc := 54) dX12_gap_54 cv_X12_280 rfl rfl k0 (by decide) rfl (Nat.le_of_ble_eq_true rfl) (d' := d - 1) (by omega) he_i (c_X12_numberAt wt hl (d := d - 1) (by omega) k0) (fun r_12 => ?_)
      refine w_aload_n 0 0 (μ := m_X12_gap) (pc := 57) dX12_gap_57 rfl rfl ?_
      refine w_iload_n 1 1 (μ := m_X12_gap) (pc := 58) dX12_gap_58 rfl rfl ?_
      refine w_iload 5 (μ := m_X12_gap) (pc := 59) dX12_gap_59 rfl ?_
      refine w_iconst (v := 1) (μ := m_X12_gap) (pc := 61) dX12_gap_61 (by decide) ?_
      refine w_isub (μ := m_X12_gap) (pc := 62) dX12_gap_62 ?_
      refine w_callV (As := [.int x1, .int (x5v - 1)]) (rest := [.int r_12.1]) (μ := m_X12_gap) (pc := 63) dX12_gap_63 cv_X12_280 rfl rfl k0 (by decide) rfl (Nat.le_of_ble_eq_true rfl) (d' := d - 1) (by omega) he_i (c_X12_numberAt wt hl (d := d - 1) (by omega) k0) (fun r_13 => ?_)
      refine w_isub (μ := m_X12_gap) (pc := 66) dX12_gap_66 ?_
      refine w_bi (fun x_14 e_15 => ?_)
      refine w_istore [(6, .int x_14), (0, .ref a0), (1, .int x1), (2, .int x2), (3, .int x3v), (4, .int x4v), (5, .int x5v)] (μ := m_X12_gap) (pc := 67) dX12_gap_67 (by decide) rfl ?_
      refine w_iload 0 (μ := m_X12_gap) (pc := 69) dX12_gap_69 rfl ?_
      refine w_iload_n 4 3 (μ := m_X12_gap) (pc := 71) dX12_gap_71 rfl rfl ?_
      refine w_icmp_gt 78 (μ := m_X12_gap) (pc := 72) dX12_gap_72 (by decide) (fun c_16 => ?_) (fun c_16 => ?_)
      · refine w_iload 0 (μ := m_X12_gap) (pc := 78) dX12_gap_78 rfl ?_
        refine w_istore_n [(3, .int x_14), (6, .int x_14), (0, .ref a0), (1, .int x1), (2, .int x2), (4, .int x4v), (5, .int x5v)] (μ := m_X12_gap) (pc := 80) dX12_gap_80 rfl (by decide) rfl ?_
        refine w_aload_n 2 0 (μ := m_X12_gap) (pc := 81) dX12_gap_81 rfl rfl ?_
        refine w_iload_n 3 1 (μ := m_X12_gap) (pc := 82) dX12_gap_82 rfl rfl ?_
        refine w_iload 6 (μ := m_X12_gap) (pc := 83) dX12_gap_83 rfl ?_
        refine w_iconst (v := 1) (μ := m_X12_gap) (pc := 85) dX12_gap_85 (by decide) ?_
        refine w_isub (μ := m_X12_gap) (pc := 86) dX12_gap_86 ?_
        refine w_callV (As := [.int x1, .int (x5v - 1)]) (rest := []) (μ := m_X12_gap) (pc := 87) dX12_gap_87 cv_X12_280 rfl rfl k0 (by decide) rfl (Nat.le_of_ble_eq_true rfl) (d' := d - 1) (by omega) he_i (c_X12_numberAt wt hl (d := d - 1) (by omega) k0) (fun r_17 => ?_)
        refine w_istore [(4, .int r_17.1), (3, .int x_14), (6, .int x_14), (0, .ref a0), (1, .int x1), (2, .int x2), (5, .int x5v)] (μ := m_X12_gap) (pc := 90) dX12_gap_90 (by decide) rfl ?_
        refine w_lv [3, 4, 5, 1, 0, 6] rfl ?_
        exact t_J_X12_gap_92 wt hl (by omega) k0 ih _ _ _ _
      · refine w_goto 92 (μ := m_X12_gap) (pc := 75) dX12_gap_75 (by decide) ?_
        refine w_lv [1, 2, 3, 4, 5, 6] rfl ?_
        exact t_J_X12_gap_92 wt hl (by omega) k0 ih _ _ _ _
def D_X12_gap (N : Nat) (g : gp) (a0 : Nat) (x1 : Int32) (x2 : Int32) (δ : dp) : Option (Int32 × dp) :=
  bd (s_I δ 12 0 a0 0) fun δ_1 => (D_X12_isHouse N g a0 x1 1 δ_1).bind fun r_3 => if r_3.1 = 0 then (J_X12_gap_29 N g a0 x1 x2 r_3.2) else ((D_X12_within N g x2 0 1 r_3.2).bind fun r_5 => (D_X12_may N g a0 r_5.1 2 2 r_5.2).bind fun r_6 => if r_6.1 = 0 then (J_X12_gap_29 N g a0 x1 x2 r_6.2) else (L_X12_gap_39 N g a0 x1 x2 N ((-1)) ((-1)) 1 r_6.2))
set_option maxHeartbeats 4000000 in
set_option maxRecDepth 100000 in
theorem c_X12_gap {l : Launch} {D : va_G} {cy : Nat → ClassId} {N d : Nat} {g : gp} (wt : WT g) (hl : l.stackTraces = false) (hd : 3 ≤ d) {a0 : Nat} {x1 : Int32} {x2 : Int32} {δ : dp} (k0 : q_K g a0 = 12) : CalD l D cy m_X12_gap d 0 0 ei g [.ref a0, .int x1, .int x2] δ (D_X12_gap N g a0 x1 x2 δ) := by
  refine CalD.of (by decide +kernel) (Nat.le_of_ble_eq_true rfl) hl ?_
  unfold D_X12_gap
  refine w_aload_n 0 0 (μ := m_X12_gap) (pc := 0) dX12_gap_0 rfl rfl ?_
  refine w_iconst (v := 0) (μ := m_X12_gap) (pc := 1) dX12_gap_1 (by decide) ?_
  refine w_putI (μ := m_X12_gap) (pc := 2) dX12_gap_2 fl_X12_1 flw_12_0 ir_12_0 k0 ?_
  refine w_bd (fun δ_1 e_2 => ?_)
  refine w_aload_n 0 0 (μ := m_X12_gap) (pc := 5) dX12_gap_5 rfl rfl ?_
  refine w_iload_n 1 1 (μ := m_X12_gap) (pc := 6) dX12_gap_6 rfl rfl ?_
  refine w_iconst (v := 1) (μ := m_X12_gap) (pc := 7) dX12_gap_7 (by decide) ?_
  refine w_callV (As := [.int x1, .int 1]) (rest := []) (μ := m_X12_gap) (pc := 8) dX12_gap_8 cv_X12_260 rfl rfl k0 (by decide) rfl (Nat.le_of_ble_eq_true rfl) (d' := d - 1) (by omega) he_i (c_X12_isHouse wt hl (d := d - 1) (by omega) k0) (fun r_3 => ?_)
  refine w_if_eq 29 (μ := m_X12_gap) (pc := 11) dX12_gap_11 (by decide) (fun c_4 => ?_) (fun c_4 => ?_)
  · refine w_lv [] rfl ?_
    exact t_J_X12_gap_29 wt hl (by omega) k0 _
  · refine w_aload_n 0 0 (μ := m_X12_gap) (pc := 14) dX12_gap_14 rfl rfl ?_
    refine w_iload_n 2 2 (μ := m_X12_gap) (pc := 15) dX12_gap_15 rfl rfl ?_
    refine w_iconst (v := 0) (μ := m_X12_gap) (pc := 16) dX12_gap_16 (by decide) ?_
    refine w_iconst (v := 1) (μ := m_X12_gap) (pc := 17) dX12_gap_17 (by decide) ?_
    refine w_callS (As := [.int x2, .int 0, .int 1]) (rest := [.ref a0]) (μ := m_X12_gap) (pc := 18) dX12_gap_18 cs_X12_250 rfl rfl (Nat.le_of_ble_eq_true rfl) (d' := d - 1) (by omega) he_i (c_X12_within wt hl (d := d - 1) (by omega) ) (fun r_5 => ?_)
    refine w_iconst (v := 2) (μ := m_X12_gap) (pc := 21) dX12_gap_21 (by decide) ?_
    refine w_iconst (v := 2) (μ := m_X12_gap) (pc := 22) dX12_gap_22 (by decide) ?_
    refine w_callV (As := [.int r_5.1, .int 2, .int 2]) (rest := []) (μ := m_X12_gap) (pc := 23) dX12_gap_23 cv_X12_157 rfl rfl k0 (by decide) rfl (Nat.le_of_ble_eq_true rfl) (d' := d - 1) (by omega) he_i (c_X12_may wt hl (d := d - 1) (by omega) k0) (fun r_6 => ?_)
    refine w_if_ne 31 (μ := m_X12_gap) (pc := 26) dX12_gap_26 (by decide) (fun c_7 => ?_) (fun c_7 => ?_)
    · refine w_iconst (v := (-1)) (μ := m_X12_gap) (pc := 31) dX12_gap_31 (by decide) ?_
      refine w_istore_n [(3, .int ((-1))), (0, .ref a0), (1, .int x1), (2, .int x2)] (μ := m_X12_gap) (pc := 32) dX12_gap_32 rfl (by decide) rfl ?_
      refine w_iconst (v := (-1)) (μ := m_X12_gap) (pc := 33) dX12_gap_33 (by decide) ?_
      refine w_istore [(4, .int ((-1))), (3, .int ((-1))), (0, .ref a0), (1, .int x1), (2, .int x2)] (μ := m_X12_gap) (pc := 34) dX12_gap_34 (by decide) rfl ?_
      refine w_iconst (v := 1) (μ := m_X12_gap) (pc := 36) dX12_gap_36 (by decide) ?_
      refine w_istore [(5, .int 1), (4, .int ((-1))), (3, .int ((-1))), (0, .ref a0), (1, .int x1), (2, .int x2)] (μ := m_X12_gap) (pc := 37) dX12_gap_37 (by decide) rfl ?_
      refine w_lv [3, 4, 5, 2, 1, 0] rfl ?_
      exact t_L_X12_gap_39 wt hl (by omega) k0 N _ _ _ _
    · refine w_lv [] rfl ?_
      exact t_J_X12_gap_29 wt hl (by omega) k0 _
def J_X12_worked_316 (N : Nat) (g : gp) (a0 : Nat) (x1 : Int32) (x2 : Int32) (x3 : Int32) (kt6 : Int32 → Int32 → dp → Option (Int32 × dp)) (x4v : Int32) (x5v : Int32) (x7v : Int32) (δ : dp) : Option (Int32 × dp) :=
  (q_O g 12 34 a0).bind fun b_13 => if x4v < 0 ∨ q_N g b_13 ≤ x4v.toNatClampNeg then none else bd (s_R δ b_13 x4v.toNatClampNeg x7v) fun δ_15 => bi (x4v + 1) fun x_17 => bi (x5v + 1) fun x_19 => kt6 x_17 x_19 δ_15
set_option maxHeartbeats 4000000 in
set_option maxRecDepth 100000 in
theorem t_J_X12_worked_316 {l : Launch} {D : va_G} {cy : Nat → ClassId} {N d : Nat} {g : gp} (wt : WT g) (hl : l.stackTraces = false) (hd : 2 ≤ d) {a0 : Nat} {x1 : Int32} {x2 : Int32} {x3 : Int32} (k0 : q_K g a0 = 12) {kt6 : Int32 → Int32 → dp → Option (Int32 × dp)} (hk6 : ∀ (x4v : Int32) (x5v : Int32) (δ : dp), AWD l D cy m_X12_worked d 0 0 ei g 6 [(0, .ref a0), (1, .int x1), (3, .int x3), (4, .int x4v), (5, .int x5v)] [] δ (kt6 x4v x5v δ)) : ∀ (x4v : Int32) (x5v : Int32) (x7v : Int32) (δ : dp), AWD l D cy m_X12_worked d 0 0 ei g 316 [(0, .ref a0), (1, .int x1), (3, .int x3), (4, .int x4v), (5, .int x5v), (7, .int x7v)] [] δ (J_X12_worked_316 N g a0 x1 x2 x3 kt6 x4v x5v x7v δ) := by
    intro x4v x5v x7v δ 
    unfold J_X12_worked_316
    refine w_aload_n 0 0 (μ := m_X12_worked) (pc := 316) dX12_worked_316 rfl rfl ?_
    refine w_getO (μ := m_X12_worked) (pc := 317) dX12_worked_317 fl_X12_81 ir_12_34 id_12_34 k0 (fun b_13 e_14 => ?_)
    refine w_iload 3 (μ := m_X12_worked) (pc := 320) dX12_worked_320 rfl ?_
    refine w_iload 5 (μ := m_X12_worked) (pc := 322) dX12_worked_322 rfl ?_
    refine w_ast (μ := m_X12_worked) (pc := 324) dX12_worked_324 (wt_12_34 wt k0 e_14) ?_
    refine w_bd (fun δ_15 e_16 => ?_)
    refine w_inb (fun x_17 e_18 => ?_)
    refine w_iinc 3 [(4, .int x_17), (0, .ref a0), (1, .int x1), (3, .int x3), (5, .int x5v), (7, .int x7v)] (μ := m_X12_worked) (pc := 325) dX12_worked_325 rfl (by rw [e_18]; rfl) (by decide) rfl ?_
    refine w_inb (fun x_19 e_20 => ?_)
    refine w_iinc 4 [(5, .int x_19), (4, .int x_17), (0, .ref a0), (1, .int x1), (3, .int x3), (7, .int x7v)] (μ := m_X12_worked) (pc := 328) dX12_worked_328 rfl (by rw [e_20]; rfl) (by decide) rfl ?_
    refine w_goto 6 (μ := m_X12_worked) (pc := 331) dX12_worked_331 (by decide) ?_
    refine w_lv [2, 3, 4, 1, 0] rfl ?_
    exact hk6 _ _ _
def J_X12_worked_94 (N : Nat) (g : gp) (a0 : Nat) (x1 : Int32) (x2 : Int32) (x3 : Int32) (kt6 : Int32 → Int32 → dp → Option (Int32 × dp)) (xs0 : Int32) (x4v : Int32) (x5v : Int32) (δ : dp) : Option (Int32 × dp) :=
  J_X12_worked_316 N g a0 x1 x2 x3 kt6 x4v x5v xs0 δ
set_option maxHeartbeats 4000000 in
set_option maxRecDepth 100000 in
theorem t_J_X12_worked_94 {l : Launch} {D : va_G} {cy : Nat → ClassId} {N d : Nat} {g : gp} (wt : WT g) (hl : l.stackTraces = false) (hd : 2 ≤ d) {a0 : Nat} {x1 : Int32} {x2 : Int32} {x3 : Int32} (k0 : q_K g a0 = 12) {kt6 : Int32 → Int32 → dp → Option (Int32 × dp)} (hk6 : ∀ (x4v : Int32) (x5v : Int32) (δ : dp), AWD l D cy m_X12_worked d 0 0 ei g 6 [(0, .ref a0), (1, .int x1), (3, .int x3), (4, .int x4v), (5, .int x5v)] [] δ (kt6 x4v x5v δ)) : ∀ (xs0 : Int32) (x4v : Int32) (x5v : Int32) (δ : dp), AWD l D cy m_X12_worked d 0 0 ei g 94 [(0, .ref a0), (1, .int x1), (3, .int x3), (4, .int x4v), (5, .int x5v)] [.int xs0] δ (J_X12_worked_94 N g a0 x1 x2 x3 kt6 xs0 x4v x5v δ) := by
    intro xs0 x4v x5v δ 
    unfold J_X12_worked_94
    refine w_istore [(7, .int xs0), (0, .ref a0), (1, .int x1), (3, .int x3), (4, .int x4v), (5, .int x5v)] (μ := m_X12_worked) (pc := 94) dX12_worked_94 (by decide) rfl ?_
    refine w_goto 316 (μ := m_X12_worked) (pc := 96) dX12_worked_96 (by decide) ?_
    refine w_lv [1, 2, 3, 4, 5, 0] rfl ?_
    exact t_J_X12_worked_316 wt hl (by omega) k0 hk6 _ _ _ _
def J_X12_worked_122 (N : Nat) (g : gp) (a0 : Nat) (x1 : Int32) (x2 : Int32) (x3 : Int32) (kt6 : Int32 → Int32 → dp → Option (Int32 × dp)) (xs0 : Int32) (x4v : Int32) (x5v : Int32) (δ : dp) : Option (Int32 × dp) :=
  J_X12_worked_316 N g a0 x1 x2 x3 kt6 x4v x5v xs0 δ
set_option maxHeartbeats 4000000 in
set_option maxRecDepth 100000 in
theorem t_J_X12_worked_122 {l : Launch} {D : va_G} {cy : Nat → ClassId} {N d : Nat} {g : gp} (wt : WT g) (hl : l.stackTraces = false) (hd : 2 ≤ d) {a0 : Nat} {x1 : Int32} {x2 : Int32} {x3 : Int32} (k0 : q_K g a0 = 12) {kt6 : Int32 → Int32 → dp → Option (Int32 × dp)} (hk6 : ∀ (x4v : Int32) (x5v : Int32) (δ : dp), AWD l D cy m_X12_worked d 0 0 ei g 6 [(0, .ref a0), (1, .int x1), (3, .int x3), (4, .int x4v), (5, .int x5v)] [] δ (kt6 x4v x5v δ)) : ∀ (xs0 : Int32) (x4v : Int32) (x5v : Int32) (δ : dp), AWD l D cy m_X12_worked d 0 0 ei g 122 [(0, .ref a0), (1, .int x1), (3, .int x3), (4, .int x4v), (5, .int x5v)] [.int xs0] δ (J_X12_worked_122 N g a0 x1 x2 x3 kt6 xs0 x4v x5v δ) := by
    intro xs0 x4v x5v δ 
    unfold J_X12_worked_122
    refine w_istore [(7, .int xs0), (0, .ref a0), (1, .int x1), (3, .int x3), (4, .int x4v), (5, .int x5v)] (μ := m_X12_worked) (pc := 122) dX12_worked_122 (by decide) rfl ?_
    refine w_goto 316 (μ := m_X12_worked) (pc := 124) dX12_worked_124 (by decide) ?_
    refine w_lv [1, 2, 3, 4, 5, 0] rfl ?_
    exact t_J_X12_worked_316 wt hl (by omega) k0 hk6 _ _ _ _
def J_X12_worked_314 (N : Nat) (g : gp) (a0 : Nat) (x1 : Int32) (x2 : Int32) (x3 : Int32) (kt6 : Int32 → Int32 → dp → Option (Int32 × dp)) (xs0 : Int32) (x4v : Int32) (x5v : Int32) (δ : dp) : Option (Int32 × dp) :=
  J_X12_worked_316 N g a0 x1 x2 x3 kt6 x4v x5v xs0 δ
set_option maxHeartbeats 4000000 in
set_option maxRecDepth 100000 in
theorem t_J_X12_worked_314 {l : Launch} {D : va_G} {cy : Nat → ClassId} {N d : Nat} {g : gp} (wt : WT g) (hl : l.stackTraces = false) (hd : 2 ≤ d) {a0 : Nat} {x1 : Int32} {x2 : Int32} {x3 : Int32} (k0 : q_K g a0 = 12) {kt6 : Int32 → Int32 → dp → Option (Int32 × dp)} (hk6 : ∀ (x4v : Int32) (x5v : Int32) (δ : dp), AWD l D cy m_X12_worked d 0 0 ei g 6 [(0, .ref a0), (1, .int x1), (3, .int x3), (4, .int x4v), (5, .int x5v)] [] δ (kt6 x4v x5v δ)) : ∀ (xs0 : Int32) (x4v : Int32) (x5v : Int32) (δ : dp), AWD l D cy m_X12_worked d 0 0 ei g 314 [(0, .ref a0), (1, .int x1), (3, .int x3), (4, .int x4v), (5, .int x5v)] [.int xs0] δ (J_X12_worked_314 N g a0 x1 x2 x3 kt6 xs0 x4v x5v δ) := by
    intro xs0 x4v x5v δ 
    unfold J_X12_worked_314
    refine w_istore [(7, .int xs0), (0, .ref a0), (1, .int x1), (3, .int x3), (4, .int x4v), (5, .int x5v)] (μ := m_X12_worked) (pc := 314) dX12_worked_314 (by decide) rfl ?_
    refine w_lv [1, 2, 3, 4, 5, 0] rfl ?_
    exact t_J_X12_worked_316 wt hl (by omega) k0 hk6 _ _ _ _
def J_X12_worked_293 (N : Nat) (g : gp) (a0 : Nat) (x1 : Int32) (x2 : Int32) (x3 : Int32) (kt6 : Int32 → Int32 → dp → Option (Int32 × dp)) (x4v : Int32) (x5v : Int32) (δ : dp) : Option (Int32 × dp) :=
  J_X12_worked_314 N g a0 x1 x2 x3 kt6 0 x4v x5v δ
set_option maxHeartbeats 4000000 in
set_option maxRecDepth 100000 in
theorem t_J_X12_worked_293 {l : Launch} {D : va_G} {cy : Nat → ClassId} {N d : Nat} {g : gp} (wt : WT g) (hl : l.stackTraces = false) (hd : 2 ≤ d) {a0 : Nat} {x1 : Int32} {x2 : Int32} {x3 : Int32} (k0 : q_K g a0 = 12) {kt6 : Int32 → Int32 → dp → Option (Int32 × dp)} (hk6 : ∀ (x4v : Int32) (x5v : Int32) (δ : dp), AWD l D cy m_X12_worked d 0 0 ei g 6 [(0, .ref a0), (1, .int x1), (3, .int x3), (4, .int x4v), (5, .int x5v)] [] δ (kt6 x4v x5v δ)) : ∀ (x4v : Int32) (x5v : Int32) (δ : dp), AWD l D cy m_X12_worked d 0 0 ei g 293 [(0, .ref a0), (1, .int x1), (3, .int x3), (4, .int x4v), (5, .int x5v)] [] δ (J_X12_worked_293 N g a0 x1 x2 x3 kt6 x4v x5v δ) := by
    intro x4v x5v δ 
    unfold J_X12_worked_293
    refine w_iconst (v := 0) (μ := m_X12_worked) (pc := 293) dX12_worked_293 (by decide) ?_
    refine w_goto 314 (μ := m_X12_worked) (pc := 294) dX12_worked_294 (by decide) ?_
    exact t_J_X12_worked_314 wt hl (by omega) k0 hk6 _ _ _ _
def L_X12_worked_6 (N : Nat) (g : gp) (a0 : Nat) (x1 : Int32) (x2 : Int32) (x3 : Int32) : Nat → Int32 → Int32 → dp → Option (Int32 × dp)
  | 0, _, _, _ => none
  | n + 1, x4v, x5v, δ => if x3 ≤ x5v then ((q_O g 12 34 a0).bind fun b_2 => if (0 : Int32) < 0 ∨ q_N g b_2 ≤ (0 : Int32).toNatClampNeg then none else some (q_R δ b_2 (0 : Int32).toNatClampNeg, δ)) else ((q_O g 12 32 a0).bind fun b_4 => if x5v < 0 ∨ q_N g b_4 ≤ x5v.toNatClampNeg then none else bi (q_R δ b_4 x5v.toNatClampNeg) fun x_6 => if x_6 = 0 then ((q_O g 12 33 a0).bind fun b_9 => if x5v < 0 ∨ q_N g b_9 ≤ x5v.toNatClampNeg then none else bi (q_R δ b_9 x5v.toNatClampNeg) fun x_11 => J_X12_worked_316 N g a0 x1 x2 x3 (L_X12_worked_6 N g a0 x1 x2 x3 n) x4v x5v x_11 δ) else (if x_6 = 1 then (if (q_I δ 12 58 a0) ≤ 0 then (J_X12_worked_94 N g a0 x1 x2 x3 (L_X12_worked_6 N g a0 x1 x2 x3 n) 0 x4v x5v δ) else ((q_O g 12 57 a0).bind fun b_23 => if ((q_I δ 12 58 a0) - 1) < 0 ∨ q_N g b_23 ≤ ((q_I δ 12 58 a0) - 1).toNatClampNeg then none else J_X12_worked_94 N g a0 x1 x2 x3 (L_X12_worked_6 N g a0 x1 x2 x3 n) (q_R δ b_23 ((q_I δ 12 58 a0) - 1).toNatClampNeg) x4v x5v δ)) else (if x_6 = 2 then (if (q_I δ 12 58 a0) ≤ (1 : Int32) then (J_X12_worked_122 N g a0 x1 x2 x3 (L_X12_worked_6 N g a0 x1 x2 x3 n) 0 x4v x5v δ) else ((q_O g 12 57 a0).bind fun b_27 => if ((q_I δ 12 58 a0) - 2) < 0 ∨ q_N g b_27 ≤ ((q_I δ 12 58 a0) - 2).toNatClampNeg then none else J_X12_worked_122 N g a0 x1 x2 x3 (L_X12_worked_6 N g a0 x1 x2 x3 n) (q_R δ b_27 ((q_I δ 12 58 a0) - 2).toNatClampNeg) x4v x5v δ)) else (if x_6 = 3 then (bi (q_I δ 12 50 a0) fun x_30 => J_X12_worked_316 N g a0 x1 x2 x3 (L_X12_worked_6 N g a0 x1 x2 x3 n) x4v x5v x_30 δ) else (if x_6 = 4 then ((q_O g 12 14 a0).bind fun b_33 => if x1 < 0 ∨ q_N g b_33 ≤ x1.toNatClampNeg then none else bi (q_R δ b_33 x1.toNatClampNeg) fun x_35 => J_X12_worked_316 N g a0 x1 x2 x3 (L_X12_worked_6 N g a0 x1 x2 x3 n) x4v x5v x_35 δ) else (if x_6 = 5 then (bd (s_I δ 12 49 a0 (((q_I δ 12 49 a0) * 1103515245) + 12345)) fun δ_38 => (D_X12_all N g a0 δ_38).bind fun r_40 => if r_40.1 = 0 then none else bi ((((q_I δ_38 12 49 a0) >>> (8 &&& 31)) &&& 65535) - (((q_I δ_38 12 49 a0) >>> (8 &&& 31)) &&& 65535) / r_40.1 * r_40.1) fun x_42 => J_X12_worked_316 N g a0 x1 x2 x3 (L_X12_worked_6 N g a0 x1 x2 x3 n) x4v x5v x_42 r_40.2) else (bi (x4v + (-2)) fun x_44 => if x_6 = (6 : Int32) then ((q_O g 12 34 a0).bind fun b_68 => if x_44 < 0 ∨ q_N g b_68 ≤ x_44.toNatClampNeg then none else (q_O g 12 34 a0).bind fun b_70 => if (x_44 + 1) < 0 ∨ q_N g b_70 ≤ (x_44 + 1).toNatClampNeg then none else J_X12_worked_314 N g a0 x1 x2 x3 (L_X12_worked_6 N g a0 x1 x2 x3 n) ((q_R δ b_68 x_44.toNatClampNeg) + (q_R δ b_70 (x_44 + 1).toNatClampNeg)) x_44 x5v δ) else (if x_6 = (7 : Int32) then ((q_O g 12 34 a0).bind fun b_64 => if x_44 < 0 ∨ q_N g b_64 ≤ x_44.toNatClampNeg then none else (q_O g 12 34 a0).bind fun b_66 => if (x_44 + 1) < 0 ∨ q_N g b_66 ≤ (x_44 + 1).toNatClampNeg then none else J_X12_worked_314 N g a0 x1 x2 x3 (L_X12_worked_6 N g a0 x1 x2 x3 n) ((q_R δ b_64 x_44.toNatClampNeg) - (q_R δ b_66 (x_44 + 1).toNatClampNeg)) x_44 x5v δ) else (if x_6 = (8 : Int32) then ((q_O g 12 34 a0).bind fun b_60 => if x_44 < 0 ∨ q_N g b_60 ≤ x_44.toNatClampNeg then none else (q_O g 12 34 a0).bind fun b_62 => if (x_44 + 1) < 0 ∨ q_N g b_62 ≤ (x_44 + 1).toNatClampNeg then none else J_X12_worked_314 N g a0 x1 x2 x3 (L_X12_worked_6 N g a0 x1 x2 x3 n) ((q_R δ b_60 x_44.toNatClampNeg) * (q_R δ b_62 (x_44 + 1).toNatClampNeg)) x_44 x5v δ) else ((q_O g 12 34 a0).bind fun b_49 => if (x_44 + 1) < 0 ∨ q_N g b_49 ≤ (x_44 + 1).toNatClampNeg then none else if (q_R δ b_49 (x_44 + 1).toNatClampNeg) = 0 then (J_X12_worked_293 N g a0 x1 x2 x3 (L_X12_worked_6 N g a0 x1 x2 x3 n) x_44 x5v δ) else ((q_O g 12 34 a0).bind fun b_52 => if (x_44 + 1) < 0 ∨ q_N g b_52 ≤ (x_44 + 1).toNatClampNeg then none else if (q_R δ b_52 (x_44 + 1).toNatClampNeg) = ((-1) : Int32) then (J_X12_worked_293 N g a0 x1 x2 x3 (L_X12_worked_6 N g a0 x1 x2 x3 n) x_44 x5v δ) else ((q_O g 12 34 a0).bind fun b_55 => if x_44 < 0 ∨ q_N g b_55 ≤ x_44.toNatClampNeg then none else (q_O g 12 34 a0).bind fun b_57 => if (x_44 + 1) < 0 ∨ q_N g b_57 ≤ (x_44 + 1).toNatClampNeg then none else if (q_R δ b_57 (x_44 + 1).toNatClampNeg) = 0 then none else J_X12_worked_314 N g a0 x1 x2 x3 (L_X12_worked_6 N g a0 x1 x2 x3 n) ((q_R δ b_55 x_44.toNatClampNeg) - (q_R δ b_55 x_44.toNatClampNeg) / (q_R δ b_57 (x_44 + 1).toNatClampNeg) * (q_R δ b_57 (x_44 + 1).toNatClampNeg)) x_44 x5v δ))))))))))))
set_option maxHeartbeats 4000000 in
set_option maxRecDepth 100000 in
theorem t_L_X12_worked_6 {l : Launch} {D : va_G} {cy : Nat → ClassId} {N d : Nat} {g : gp} (wt : WT g) (hl : l.stackTraces = false) (hd : 2 ≤ d) {a0 : Nat} {x1 : Int32} {x2 : Int32} {x3 : Int32} (k0 : q_K g a0 = 12) : ∀ (n : Nat) (x4v : Int32) (x5v : Int32) (δ : dp), AWD l D cy m_X12_worked d 0 0 ei g 6 [(0, .ref a0), (1, .int x1), (3, .int x3), (4, .int x4v), (5, .int x5v)] [] δ (L_X12_worked_6 N g a0 x1 x2 x3 n x4v x5v δ) := by
  intro n
  induction n with
  | zero => intro x4v x5v δ ; exact w_none
  | succ n ih =>
    intro x4v x5v δ 
    unfold L_X12_worked_6
    refine w_iload 4 (μ := m_X12_worked) (pc := 6) dX12_worked_6 rfl ?_
    refine w_iload_n 2 3 (μ := m_X12_worked) (pc := 8) dX12_worked_8 rfl rfl ?_
    refine w_icmp_ge 334 (μ := m_X12_worked) (pc := 9) dX12_worked_9 (by decide) (fun c_1 => ?_) (fun c_1 => ?_)
    · refine w_aload_n 0 0 (μ := m_X12_worked) (pc := 334) dX12_worked_334 rfl rfl ?_
      refine w_getO (μ := m_X12_worked) (pc := 335) dX12_worked_335 fl_X12_81 ir_12_34 id_12_34 k0 (fun b_2 e_3 => ?_)
      refine w_iconst (v := 0) (μ := m_X12_worked) (pc := 338) dX12_worked_338 (by decide) ?_
      refine w_ald (μ := m_X12_worked) (pc := 339) dX12_worked_339 (wt_12_34 wt k0 e_3) ?_
      exact w_iret (μ := m_X12_worked) (pc := 340) dX12_worked_340 rfl rfl
    · refine w_aload_n 0 0 (μ := m_X12_worked) (pc := 12) dX12_worked_12 rfl rfl ?_
      refine w_getO (μ := m_X12_worked) (pc := 13) dX12_worked_13 fl_X12_75 ir_12_32 id_12_32 k0 (fun b_4 e_5 => ?_)
      refine w_iload 4 (μ := m_X12_worked) (pc := 16) dX12_worked_16 rfl ?_
      refine w_ald (μ := m_X12_worked) (pc := 18) dX12_worked_18 (wt_12_32 wt k0 e_5) ?_
      refine w_bi (fun x_6 e_7 => ?_)
      refine w_istore [(6, .int x_6), (0, .ref a0), (1, .int x1), (3, .int x3), (4, .int x4v), (5, .int x5v)] (μ := m_X12_worked) (pc := 19) dX12_worked_19 (by decide) rfl ?_
      refine w_iload 0 (μ := m_X12_worked) (pc := 21) dX12_worked_21 rfl ?_
      refine w_by (fun c_8 => ?_) (fun c_8 => ?_)
      · refine w_tabIn (off := 37) 60 0 c_8 (μ := m_X12_worked) (pc := 23) dX12_worked_23 (by decide) (by decide) (by decide +kernel) (by decide) ?_
        refine w_aload_n 1 0 (μ := m_X12_worked) (pc := 60) dX12_worked_60 rfl rfl ?_
        refine w_getO (μ := m_X12_worked) (pc := 61) dX12_worked_61 fl_X12_78 ir_12_33 id_12_33 k0 (fun b_9 e_10 => ?_)
        refine w_iload 5 (μ := m_X12_worked) (pc := 64) dX12_worked_64 rfl ?_
        refine w_ald (μ := m_X12_worked) (pc := 66) dX12_worked_66 (wt_12_33 wt k0 e_10) ?_
        refine w_bi (fun x_11 e_12 => ?_)
        refine w_istore [(7, .int x_11), (6, .int x_6), (0, .ref a0), (1, .int x1), (3, .int x3), (4, .int x4v), (5, .int x5v)] (μ := m_X12_worked) (pc := 67) dX12_worked_67 (by decide) rfl ?_
        refine w_goto 316 (μ := m_X12_worked) (pc := 69) dX12_worked_69 (by decide) ?_
        refine w_lv [2, 3, 4, 5, 6, 0] rfl ?_
        exact t_J_X12_worked_316 wt hl (by omega) k0 ih _ _ _ _
      · skip
        refine w_by (fun c_21 => ?_) (fun c_21 => ?_)
        · refine w_tabIn (off := 49) 72 1 c_21 (μ := m_X12_worked) (pc := 23) dX12_worked_23 (by decide) (by decide) (by decide +kernel) (by decide) ?_
          refine w_aload_n 1 0 (μ := m_X12_worked) (pc := 72) dX12_worked_72 rfl rfl ?_
          refine w_getI (μ := m_X12_worked) (pc := 73) dX12_worked_73 fl_X12_427 ir_12_58 k0 ?_
          refine w_if_le 93 (μ := m_X12_worked) (pc := 76) dX12_worked_76 (by decide) (fun c_22 => ?_) (fun c_22 => ?_)
          · refine w_iconst (v := 0) (μ := m_X12_worked) (pc := 93) dX12_worked_93 (by decide) ?_
            refine w_lv [1, 2, 3, 4, 5] rfl ?_
            exact t_J_X12_worked_94 wt hl (by omega) k0 ih _ _ _ _
          · refine w_aload_n 1 0 (μ := m_X12_worked) (pc := 79) dX12_worked_79 rfl rfl ?_
            refine w_getO (μ := m_X12_worked) (pc := 80) dX12_worked_80 fl_X12_106 ir_12_57 id_12_57 k0 (fun b_23 e_24 => ?_)
            refine w_aload_n 1 0 (μ := m_X12_worked) (pc := 83) dX12_worked_83 rfl rfl ?_
            refine w_getI (μ := m_X12_worked) (pc := 84) dX12_worked_84 fl_X12_427 ir_12_58 k0 ?_
            refine w_iconst (v := 1) (μ := m_X12_worked) (pc := 87) dX12_worked_87 (by decide) ?_
            refine w_isub (μ := m_X12_worked) (pc := 88) dX12_worked_88 ?_
            refine w_ald (μ := m_X12_worked) (pc := 89) dX12_worked_89 (wt_12_57 wt k0 e_24) ?_
            refine w_goto 94 (μ := m_X12_worked) (pc := 90) dX12_worked_90 (by decide) ?_
            refine w_lv [1, 2, 3, 4, 5] rfl ?_
            exact t_J_X12_worked_94 wt hl (by omega) k0 ih _ _ _ _
        · skip
          refine w_by (fun c_25 => ?_) (fun c_25 => ?_)
          · refine w_tabIn (off := 76) 99 2 c_25 (μ := m_X12_worked) (pc := 23) dX12_worked_23 (by decide) (by decide) (by decide +kernel) (by decide) ?_
            refine w_aload_n 1 0 (μ := m_X12_worked) (pc := 99) dX12_worked_99 rfl rfl ?_
            refine w_getI (μ := m_X12_worked) (pc := 100) dX12_worked_100 fl_X12_427 ir_12_58 k0 ?_
            refine w_iconst (v := 1) (μ := m_X12_worked) (pc := 103) dX12_worked_103 (by decide) ?_
            refine w_icmp_le 121 (μ := m_X12_worked) (pc := 104) dX12_worked_104 (by decide) (fun c_26 => ?_) (fun c_26 => ?_)
            · refine w_iconst (v := 0) (μ := m_X12_worked) (pc := 121) dX12_worked_121 (by decide) ?_
              refine w_lv [1, 2, 3, 4, 5] rfl ?_
              exact t_J_X12_worked_122 wt hl (by omega) k0 ih _ _ _ _
            · refine w_aload_n 1 0 (μ := m_X12_worked) (pc := 107) dX12_worked_107 rfl rfl ?_
              refine w_getO (μ := m_X12_worked) (pc := 108) dX12_worked_108 fl_X12_106 ir_12_57 id_12_57 k0 (fun b_27 e_28 => ?_)
              refine w_aload_n 1 0 (μ := m_X12_worked) (pc := 111) dX12_worked_111 rfl rfl ?_
              refine w_getI (μ := m_X12_worked) (pc := 112) dX12_worked_112 fl_X12_427 ir_12_58 k0 ?_
              refine w_iconst (v := 2) (μ := m_X12_worked) (pc := 115) dX12_worked_115 (by decide) ?_
              refine w_isub (μ := m_X12_worked) (pc := 116) dX12_worked_116 ?_
              refine w_ald (μ := m_X12_worked) (pc := 117) dX12_worked_117 (wt_12_57 wt k0 e_28) ?_
              refine w_goto 122 (μ := m_X12_worked) (pc := 118) dX12_worked_118 (by decide) ?_
              refine w_lv [1, 2, 3, 4, 5] rfl ?_
              exact t_J_X12_worked_122 wt hl (by omega) k0 ih _ _ _ _
          · skip
            refine w_by (fun c_29 => ?_) (fun c_29 => ?_)
            · refine w_tabIn (off := 104) 127 3 c_29 (μ := m_X12_worked) (pc := 23) dX12_worked_23 (by decide) (by decide) (by decide +kernel) (by decide) ?_
              refine w_aload_n 1 0 (μ := m_X12_worked) (pc := 127) dX12_worked_127 rfl rfl ?_
              refine w_getI (μ := m_X12_worked) (pc := 128) dX12_worked_128 fl_X12_430 ir_12_50 k0 ?_
              refine w_bi (fun x_30 e_31 => ?_)
              refine w_istore [(7, .int x_30), (6, .int x_6), (0, .ref a0), (1, .int x1), (3, .int x3), (4, .int x4v), (5, .int x5v)] (μ := m_X12_worked) (pc := 131) dX12_worked_131 (by decide) rfl ?_
              refine w_goto 316 (μ := m_X12_worked) (pc := 133) dX12_worked_133 (by decide) ?_
              refine w_lv [2, 3, 4, 5, 6, 0] rfl ?_
              exact t_J_X12_worked_316 wt hl (by omega) k0 ih _ _ _ _
            · skip
              refine w_by (fun c_32 => ?_) (fun c_32 => ?_)
              · refine w_tabIn (off := 113) 136 4 c_32 (μ := m_X12_worked) (pc := 23) dX12_worked_23 (by decide) (by decide) (by decide +kernel) (by decide) ?_
                refine w_aload_n 1 0 (μ := m_X12_worked) (pc := 136) dX12_worked_136 rfl rfl ?_
                refine w_getO (μ := m_X12_worked) (pc := 137) dX12_worked_137 fl_X12_36 ir_12_14 id_12_14 k0 (fun b_33 e_34 => ?_)
                refine w_iload_n 2 1 (μ := m_X12_worked) (pc := 140) dX12_worked_140 rfl rfl ?_
                refine w_ald (μ := m_X12_worked) (pc := 141) dX12_worked_141 (wt_12_14 wt k0 e_34) ?_
                refine w_bi (fun x_35 e_36 => ?_)
                refine w_istore [(7, .int x_35), (6, .int x_6), (0, .ref a0), (1, .int x1), (3, .int x3), (4, .int x4v), (5, .int x5v)] (μ := m_X12_worked) (pc := 142) dX12_worked_142 (by decide) rfl ?_
                refine w_goto 316 (μ := m_X12_worked) (pc := 144) dX12_worked_144 (by decide) ?_
                refine w_lv [2, 3, 4, 5, 6, 0] rfl ?_
                exact t_J_X12_worked_316 wt hl (by omega) k0 ih _ _ _ _
              · skip
                refine w_by (fun c_37 => ?_) (fun c_37 => ?_)
                · refine w_tabIn (off := 124) 147 5 c_37 (μ := m_X12_worked) (pc := 23) dX12_worked_23 (by decide) (by decide) (by decide +kernel) (by decide) ?_
                  refine w_aload_n 1 0 (μ := m_X12_worked) (pc := 147) dX12_worked_147 rfl rfl ?_
                  refine w_aload_n 1 0 (μ := m_X12_worked) (pc := 148) dX12_worked_148 rfl rfl ?_
                  refine w_getI (μ := m_X12_worked) (pc := 149) dX12_worked_149 fl_X12_433 ir_12_49 k0 ?_
                  refine w_ldc_w (v := 1103515245) (μ := m_X12_worked) (pc := 152) dX12_worked_152 cn_X12_436 ?_
                  refine w_imul (μ := m_X12_worked) (pc := 155) dX12_worked_155 ?_
                  refine w_sipush (v := 12345) (μ := m_X12_worked) (pc := 156) dX12_worked_156 (by decide) ?_
                  refine w_iadd (μ := m_X12_worked) (pc := 159) dX12_worked_159 ?_
                  refine w_putI (μ := m_X12_worked) (pc := 160) dX12_worked_160 fl_X12_433 flw_12_49 ir_12_49 k0 ?_
                  refine w_bd (fun δ_38 e_39 => ?_)
                  refine w_aload_n 1 0 (μ := m_X12_worked) (pc := 163) dX12_worked_163 rfl rfl ?_
                  refine w_getI (μ := m_X12_worked) (pc := 164) dX12_worked_164 fl_X12_433 ir_12_49 k0 ?_
                  refine w_bipush (v := 8) (μ := m_X12_worked) (pc := 167) dX12_worked_167 (by decide) ?_
                  refine w_ishr (μ := m_X12_worked) (pc := 169) dX12_worked_169 ?_
                  refine w_ldc_w (v := 65535) (μ := m_X12_worked) (pc := 170) dX12_worked_170 cn_X12_437 ?_
                  refine w_iand (μ := m_X12_worked) (pc := 173) dX12_worked_173 ?_
                  refine w_aload_n 1 0 (μ := m_X12_worked) (pc := 174) dX12_worked_174 rfl rfl ?_
                  refine w_callV (As := []) (rest := [.int (((q_I δ_38 12 49 a0) >>> (8 &&& 31)) &&& 65535)]) (μ := m_X12_worked) (pc := 175) dX12_worked_175 cv_X12_257 rfl rfl k0 (by decide) rfl (Nat.le_of_ble_eq_true rfl) (d' := d - 1) (by omega) he_i (c_X12_all wt hl (d := d - 1) (by omega) k0) (fun r_40 => ?_)
                  refine w_gn (fun z_41 => ?_)
                  refine w_irem (μ := m_X12_worked) (pc := 178) dX12_worked_178 z_41 ?_
                  refine w_bi (fun x_42 e_43 => ?_)
                  refine w_istore [(7, .int x_42), (6, .int x_6), (0, .ref a0), (1, .int x1), (3, .int x3), (4, .int x4v), (5, .int x5v)] (μ := m_X12_worked) (pc := 179) dX12_worked_179 (by decide) rfl ?_
                  refine w_goto 316 (μ := m_X12_worked) (pc := 181) dX12_worked_181 (by decide) ?_
                  refine w_lv [2, 3, 4, 5, 6, 0] rfl ?_
                  exact t_J_X12_worked_316 wt hl (by omega) k0 ih _ _ _ _
                · skip
                  refine w_tabOut 184 (μ := m_X12_worked) (pc := 23) dX12_worked_23 (by have c_8i : _ ≠ (0 : Int) := tabne c_8; have c_21i : _ ≠ (1 : Int) := tabne c_21; have c_25i : _ ≠ (2 : Int) := tabne c_25; have c_29i : _ ≠ (3 : Int) := tabne c_29; have c_32i : _ ≠ (4 : Int) := tabne c_32; have c_37i : _ ≠ (5 : Int) := tabne c_37; omega) (by decide) ?_
                  refine w_inb (fun x_44 e_45 => ?_)
                  refine w_iinc 4 [(4, .int x_44), (6, .int x_6), (0, .ref a0), (1, .int x1), (3, .int x3), (5, .int x5v)] (μ := m_X12_worked) (pc := 184) dX12_worked_184 rfl (by rw [e_45]; rfl) (by decide) rfl ?_
                  refine w_iload 1 (μ := m_X12_worked) (pc := 187) dX12_worked_187 rfl ?_
                  refine w_bipush (v := 6) (μ := m_X12_worked) (pc := 189) dX12_worked_189 (by decide) ?_
                  refine w_icmp_ne 214 (μ := m_X12_worked) (pc := 191) dX12_worked_191 (by decide) (fun c_46 => ?_) (fun c_46 => ?_)
                  · refine w_iload 1 (μ := m_X12_worked) (pc := 214) dX12_worked_214 rfl ?_
                    refine w_bipush (v := 7) (μ := m_X12_worked) (pc := 216) dX12_worked_216 (by decide) ?_
                    refine w_icmp_ne 241 (μ := m_X12_worked) (pc := 218) dX12_worked_218 (by decide) (fun c_47 => ?_) (fun c_47 => ?_)
                    · refine w_iload 1 (μ := m_X12_worked) (pc := 241) dX12_worked_241 rfl ?_
                      refine w_bipush (v := 8) (μ := m_X12_worked) (pc := 243) dX12_worked_243 (by decide) ?_
                      refine w_icmp_ne 268 (μ := m_X12_worked) (pc := 245) dX12_worked_245 (by decide) (fun c_48 => ?_) (fun c_48 => ?_)
                      · refine w_aload_n 2 0 (μ := m_X12_worked) (pc := 268) dX12_worked_268 rfl rfl ?_
                        refine w_getO (μ := m_X12_worked) (pc := 269) dX12_worked_269 fl_X12_81 ir_12_34 id_12_34 k0 (fun b_49 e_50 => ?_)
                        refine w_iload 0 (μ := m_X12_worked) (pc := 272) dX12_worked_272 rfl ?_
                        refine w_iconst (v := 1) (μ := m_X12_worked) (pc := 274) dX12_worked_274 (by decide) ?_
                        refine w_iadd (μ := m_X12_worked) (pc := 275) dX12_worked_275 ?_
                        refine w_ald (μ := m_X12_worked) (pc := 276) dX12_worked_276 (wt_12_34 wt k0 e_50) ?_
                        refine w_if_eq 293 (μ := m_X12_worked) (pc := 277) dX12_worked_277 (by decide) (fun c_51 => ?_) (fun c_51 => ?_)
                        · refine w_lv [2, 3, 4, 0, 5] rfl ?_
                          exact t_J_X12_worked_293 wt hl (by omega) k0 ih _ _ _
                        · refine w_aload_n 2 0 (μ := m_X12_worked) (pc := 280) dX12_worked_280 rfl rfl ?_
                          refine w_getO (μ := m_X12_worked) (pc := 281) dX12_worked_281 fl_X12_81 ir_12_34 id_12_34 k0 (fun b_52 e_53 => ?_)
                          refine w_iload 0 (μ := m_X12_worked) (pc := 284) dX12_worked_284 rfl ?_
                          refine w_iconst (v := 1) (μ := m_X12_worked) (pc := 286) dX12_worked_286 (by decide) ?_
                          refine w_iadd (μ := m_X12_worked) (pc := 287) dX12_worked_287 ?_
                          refine w_ald (μ := m_X12_worked) (pc := 288) dX12_worked_288 (wt_12_34 wt k0 e_53) ?_
                          refine w_iconst (v := (-1)) (μ := m_X12_worked) (pc := 289) dX12_worked_289 (by decide) ?_
                          refine w_icmp_ne 297 (μ := m_X12_worked) (pc := 290) dX12_worked_290 (by decide) (fun c_54 => ?_) (fun c_54 => ?_)
                          · refine w_aload_n 2 0 (μ := m_X12_worked) (pc := 297) dX12_worked_297 rfl rfl ?_
                            refine w_getO (μ := m_X12_worked) (pc := 298) dX12_worked_298 fl_X12_81 ir_12_34 id_12_34 k0 (fun b_55 e_56 => ?_)
                            refine w_iload 0 (μ := m_X12_worked) (pc := 301) dX12_worked_301 rfl ?_
                            refine w_ald (μ := m_X12_worked) (pc := 303) dX12_worked_303 (wt_12_34 wt k0 e_56) ?_
                            refine w_aload_n 2 0 (μ := m_X12_worked) (pc := 304) dX12_worked_304 rfl rfl ?_
                            refine w_getO (μ := m_X12_worked) (pc := 305) dX12_worked_305 fl_X12_81 ir_12_34 id_12_34 k0 (fun b_57 e_58 => ?_)
                            refine w_iload 0 (μ := m_X12_worked) (pc := 308) dX12_worked_308 rfl ?_
                            refine w_iconst (v := 1) (μ := m_X12_worked) (pc := 310) dX12_worked_310 (by decide) ?_
                            refine w_iadd (μ := m_X12_worked) (pc := 311) dX12_worked_311 ?_
                            refine w_ald (μ := m_X12_worked) (pc := 312) dX12_worked_312 (wt_12_34 wt k0 e_58) ?_
                            refine w_gn (fun z_59 => ?_)
                            refine w_irem (μ := m_X12_worked) (pc := 313) dX12_worked_313 z_59 ?_
                            refine w_lv [2, 3, 4, 0, 5] rfl ?_
                            exact t_J_X12_worked_314 wt hl (by omega) k0 ih _ _ _ _
                          · refine w_lv [2, 3, 4, 0, 5] rfl ?_
                            exact t_J_X12_worked_293 wt hl (by omega) k0 ih _ _ _
                      · refine w_aload_n 2 0 (μ := m_X12_worked) (pc := 248) dX12_worked_248 rfl rfl ?_
                        refine w_getO (μ := m_X12_worked) (pc := 249) dX12_worked_249 fl_X12_81 ir_12_34 id_12_34 k0 (fun b_60 e_61 => ?_)
                        refine w_iload 0 (μ := m_X12_worked) (pc := 252) dX12_worked_252 rfl ?_
                        refine w_ald (μ := m_X12_worked) (pc := 254) dX12_worked_254 (wt_12_34 wt k0 e_61) ?_
                        refine w_aload_n 2 0 (μ := m_X12_worked) (pc := 255) dX12_worked_255 rfl rfl ?_
                        refine w_getO (μ := m_X12_worked) (pc := 256) dX12_worked_256 fl_X12_81 ir_12_34 id_12_34 k0 (fun b_62 e_63 => ?_)
                        refine w_iload 0 (μ := m_X12_worked) (pc := 259) dX12_worked_259 rfl ?_
                        refine w_iconst (v := 1) (μ := m_X12_worked) (pc := 261) dX12_worked_261 (by decide) ?_
                        refine w_iadd (μ := m_X12_worked) (pc := 262) dX12_worked_262 ?_
                        refine w_ald (μ := m_X12_worked) (pc := 263) dX12_worked_263 (wt_12_34 wt k0 e_63) ?_
                        refine w_imul (μ := m_X12_worked) (pc := 264) dX12_worked_264 ?_
                        refine w_goto 314 (μ := m_X12_worked) (pc := 265) dX12_worked_265 (by decide) ?_
                        refine w_lv [2, 3, 4, 0, 5] rfl ?_
                        exact t_J_X12_worked_314 wt hl (by omega) k0 ih _ _ _ _
                    · refine w_aload_n 2 0 (μ := m_X12_worked) (pc := 221) dX12_worked_221 rfl rfl ?_
                      refine w_getO (μ := m_X12_worked) (pc := 222) dX12_worked_222 fl_X12_81 ir_12_34 id_12_34 k0 (fun b_64 e_65 => ?_)
                      refine w_iload 0 (μ := m_X12_worked) (pc := 225) dX12_worked_225 rfl ?_
                      refine w_ald (μ := m_X12_worked) (pc := 227) dX12_worked_227 (wt_12_34 wt k0 e_65) ?_
                      refine w_aload_n 2 0 (μ := m_X12_worked) (pc := 228) dX12_worked_228 rfl rfl ?_
                      refine w_getO (μ := m_X12_worked) (pc := 229) dX12_worked_229 fl_X12_81 ir_12_34 id_12_34 k0 (fun b_66 e_67 => ?_)
                      refine w_iload 0 (μ := m_X12_worked) (pc := 232) dX12_worked_232 rfl ?_
                      refine w_iconst (v := 1) (μ := m_X12_worked) (pc := 234) dX12_worked_234 (by decide) ?_
                      refine w_iadd (μ := m_X12_worked) (pc := 235) dX12_worked_235 ?_
                      refine w_ald (μ := m_X12_worked) (pc := 236) dX12_worked_236 (wt_12_34 wt k0 e_67) ?_
                      refine w_isub (μ := m_X12_worked) (pc := 237) dX12_worked_237 ?_
                      refine w_goto 314 (μ := m_X12_worked) (pc := 238) dX12_worked_238 (by decide) ?_
                      refine w_lv [2, 3, 4, 0, 5] rfl ?_
                      exact t_J_X12_worked_314 wt hl (by omega) k0 ih _ _ _ _
                  · refine w_aload_n 2 0 (μ := m_X12_worked) (pc := 194) dX12_worked_194 rfl rfl ?_
                    refine w_getO (μ := m_X12_worked) (pc := 195) dX12_worked_195 fl_X12_81 ir_12_34 id_12_34 k0 (fun b_68 e_69 => ?_)
                    refine w_iload 0 (μ := m_X12_worked) (pc := 198) dX12_worked_198 rfl ?_
                    refine w_ald (μ := m_X12_worked) (pc := 200) dX12_worked_200 (wt_12_34 wt k0 e_69) ?_
                    refine w_aload_n 2 0 (μ := m_X12_worked) (pc := 201) dX12_worked_201 rfl rfl ?_
                    refine w_getO (μ := m_X12_worked) (pc := 202) dX12_worked_202 fl_X12_81 ir_12_34 id_12_34 k0 (fun b_70 e_71 => ?_)
                    refine w_iload 0 (μ := m_X12_worked) (pc := 205) dX12_worked_205 rfl ?_
                    refine w_iconst (v := 1) (μ := m_X12_worked) (pc := 207) dX12_worked_207 (by decide) ?_
                    refine w_iadd (μ := m_X12_worked) (pc := 208) dX12_worked_208 ?_
                    refine w_ald (μ := m_X12_worked) (pc := 209) dX12_worked_209 (wt_12_34 wt k0 e_71) ?_
                    refine w_iadd (μ := m_X12_worked) (pc := 210) dX12_worked_210 ?_
                    refine w_goto 314 (μ := m_X12_worked) (pc := 211) dX12_worked_211 (by decide) ?_
                    refine w_lv [2, 3, 4, 0, 5] rfl ?_
                    exact t_J_X12_worked_314 wt hl (by omega) k0 ih _ _ _ _
def D_X12_worked (N : Nat) (g : gp) (a0 : Nat) (x1 : Int32) (x2 : Int32) (x3 : Int32) (δ : dp) : Option (Int32 × dp) :=
  L_X12_worked_6 N g a0 x1 x2 x3 N 0 x2 δ
set_option maxHeartbeats 4000000 in
set_option maxRecDepth 100000 in
theorem c_X12_worked {l : Launch} {D : va_G} {cy : Nat → ClassId} {N d : Nat} {g : gp} (wt : WT g) (hl : l.stackTraces = false) (hd : 2 ≤ d) {a0 : Nat} {x1 : Int32} {x2 : Int32} {x3 : Int32} {δ : dp} (k0 : q_K g a0 = 12) : CalD l D cy m_X12_worked d 0 0 ei g [.ref a0, .int x1, .int x2, .int x3] δ (D_X12_worked N g a0 x1 x2 x3 δ) := by
  refine CalD.of (by decide +kernel) (Nat.le_of_ble_eq_true rfl) hl ?_
  unfold D_X12_worked
  refine w_iconst (v := 0) (μ := m_X12_worked) (pc := 0) dX12_worked_0 (by decide) ?_
  refine w_istore [(4, .int 0), (0, .ref a0), (1, .int x1), (2, .int x2), (3, .int x3)] (μ := m_X12_worked) (pc := 1) dX12_worked_1 (by decide) rfl ?_
  refine w_iload_n 3 2 (μ := m_X12_worked) (pc := 3) dX12_worked_3 rfl rfl ?_
  refine w_istore [(5, .int x2), (4, .int 0), (0, .ref a0), (1, .int x1), (2, .int x2), (3, .int x3)] (μ := m_X12_worked) (pc := 4) dX12_worked_4 (by decide) rfl ?_
  refine w_lv [2, 3, 5, 1, 0] rfl ?_
  exact t_L_X12_worked_6 wt hl (by omega) k0 N _ _ _
def D_X12_isThief (N : Nat) (g : gp) (a0 : Nat) (x1 : Int32) (δ : dp) : Option (Int32 × dp) :=
  (D_X12_within N g x1 0 ((q_I δ 12 24 a0) - 1) δ).bind fun r_1 => (D_X12_may N g a0 r_1.1 2 1 r_1.2).bind fun r_2 => if r_2.1 = 0 ∨ r_2.1 = 1 then some (r_2.1, r_2.2) else none
set_option maxHeartbeats 4000000 in
set_option maxRecDepth 100000 in
theorem c_X12_isThief {l : Launch} {D : va_G} {cy : Nat → ClassId} {N d : Nat} {g : gp} (wt : WT g) (hl : l.stackTraces = false) (hd : 2 ≤ d) {a0 : Nat} {x1 : Int32} {δ : dp} (k0 : q_K g a0 = 12) : CalD l D cy m_X12_isThief d 0 0 ei g [.ref a0, .int x1] δ (D_X12_isThief N g a0 x1 δ) := by
  refine CalD.of (by decide +kernel) (Nat.le_of_ble_eq_true rfl) hl ?_
  unfold D_X12_isThief
  refine w_aload_n 0 0 (μ := m_X12_isThief) (pc := 0) dX12_isThief_0 rfl rfl ?_
  refine w_iload_n 1 1 (μ := m_X12_isThief) (pc := 1) dX12_isThief_1 rfl rfl ?_
  refine w_iconst (v := 0) (μ := m_X12_isThief) (pc := 2) dX12_isThief_2 (by decide) ?_
  refine w_aload_n 0 0 (μ := m_X12_isThief) (pc := 3) dX12_isThief_3 rfl rfl ?_
  refine w_getI (μ := m_X12_isThief) (pc := 4) dX12_isThief_4 fl_X12_199 ir_12_24 k0 ?_
  refine w_iconst (v := 1) (μ := m_X12_isThief) (pc := 7) dX12_isThief_7 (by decide) ?_
  refine w_isub (μ := m_X12_isThief) (pc := 8) dX12_isThief_8 ?_
  refine w_callS (As := [.int x1, .int 0, .int ((q_I δ 12 24 a0) - 1)]) (rest := [.ref a0]) (μ := m_X12_isThief) (pc := 9) dX12_isThief_9 cs_X12_250 rfl rfl (Nat.le_of_ble_eq_true rfl) (d' := d - 1) (by omega) he_i (c_X12_within wt hl (d := d - 1) (by omega) ) (fun r_1 => ?_)
  refine w_iconst (v := 2) (μ := m_X12_isThief) (pc := 12) dX12_isThief_12 (by decide) ?_
  refine w_iconst (v := 1) (μ := m_X12_isThief) (pc := 13) dX12_isThief_13 (by decide) ?_
  refine w_callV (As := [.int r_1.1, .int 2, .int 1]) (rest := []) (μ := m_X12_isThief) (pc := 14) dX12_isThief_14 cv_X12_157 rfl rfl k0 (by decide) rfl (Nat.le_of_ble_eq_true rfl) (d' := d - 1) (by omega) he_i (c_X12_may wt hl (d := d - 1) (by omega) k0) (fun r_2 => ?_)
  exact w_zret (μ := m_X12_isThief) (pc := 17) dX12_isThief_17 rfl rfl
def L_X12_image_110 (N : Nat) (g : gp) (a0 : Nat) : Nat → Int32 → dp → Option (Int32 × dp)
  | 0, _, _ => none
  | n + 1, x1v, δ => if (4 : Int32) ≤ x1v then (bd (s_I δ 12 18 a0 ((q_I δ 12 18 a0) + 1)) fun δ_7 => some (q_I δ_7 12 18 a0, δ_7)) else ((q_O g 12 20 a0).bind fun b_9 => (q_O g 12 14 a0).bind fun b_11 => if x1v < 0 ∨ q_N g b_11 ≤ x1v.toNatClampNeg then none else if ((4 * (q_I δ 12 18 a0)) + x1v) < 0 ∨ q_N g b_9 ≤ ((4 * (q_I δ 12 18 a0)) + x1v).toNatClampNeg then none else bd (s_R δ b_9 ((4 * (q_I δ 12 18 a0)) + x1v).toNatClampNeg (q_R δ b_11 x1v.toNatClampNeg)) fun δ_13 => (q_O g 12 23 a0).bind fun b_15 => (q_O g 12 17 a0).bind fun b_17 => if x1v < 0 ∨ q_N g b_17 ≤ x1v.toNatClampNeg then none else if ((4 * (q_I δ_13 12 18 a0)) + x1v) < 0 ∨ q_N g b_15 ≤ ((4 * (q_I δ_13 12 18 a0)) + x1v).toNatClampNeg then none else bd (s_R δ_13 b_15 ((4 * (q_I δ_13 12 18 a0)) + x1v).toNatClampNeg (q_R δ_13 b_17 x1v.toNatClampNeg)) fun δ_19 => bi (x1v + 1) fun x_21 => L_X12_image_110 N g a0 n x_21 δ_19)
set_option maxHeartbeats 4000000 in
set_option maxRecDepth 100000 in
theorem t_L_X12_image_110 {l : Launch} {D : va_G} {cy : Nat → ClassId} {N d : Nat} {g : gp} (wt : WT g) (hl : l.stackTraces = false) (hd : 1 ≤ d) {a0 : Nat} (k0 : q_K g a0 = 12) : ∀ (n : Nat) (x1v : Int32) (δ : dp), AWD l D cy m_X12_image d 0 0 ei g 110 [(0, .ref a0), (1, .int x1v)] [] δ (L_X12_image_110 N g a0 n x1v δ) := by
  intro n
  induction n with
  | zero => intro x1v δ ; exact w_none
  | succ n ih =>
    intro x1v δ 
    unfold L_X12_image_110
    refine w_iload_n 1 1 (μ := m_X12_image) (pc := 110) dX12_image_110 rfl rfl ?_
    refine w_iconst (v := 4) (μ := m_X12_image) (pc := 111) dX12_image_111 (by decide) ?_
    refine w_icmp_ge 159 (μ := m_X12_image) (pc := 112) dX12_image_112 (by decide) (fun c_6 => ?_) (fun c_6 => ?_)
    · refine w_aload_n 0 0 (μ := m_X12_image) (pc := 159) dX12_image_159 rfl rfl ?_
      refine w_dup (μ := m_X12_image) (pc := 160) dX12_image_160 rfl ?_
      refine w_getI (μ := m_X12_image) (pc := 161) dX12_image_161 fl_X12_196 ir_12_18 k0 ?_
      refine w_iconst (v := 1) (μ := m_X12_image) (pc := 164) dX12_image_164 (by decide) ?_
      refine w_iadd (μ := m_X12_image) (pc := 165) dX12_image_165 ?_
      refine w_putI (μ := m_X12_image) (pc := 166) dX12_image_166 fl_X12_196 flw_12_18 ir_12_18 k0 ?_
      refine w_bd (fun δ_7 e_8 => ?_)
      refine w_aload_n 0 0 (μ := m_X12_image) (pc := 169) dX12_image_169 rfl rfl ?_
      refine w_getI (μ := m_X12_image) (pc := 170) dX12_image_170 fl_X12_196 ir_12_18 k0 ?_
      exact w_iret (μ := m_X12_image) (pc := 173) dX12_image_173 rfl rfl
    · refine w_aload_n 0 0 (μ := m_X12_image) (pc := 115) dX12_image_115 rfl rfl ?_
      refine w_getO (μ := m_X12_image) (pc := 116) dX12_image_116 fl_X12_51 ir_12_20 id_12_20 k0 (fun b_9 e_10 => ?_)
      refine w_iconst (v := 4) (μ := m_X12_image) (pc := 119) dX12_image_119 (by decide) ?_
      refine w_aload_n 0 0 (μ := m_X12_image) (pc := 120) dX12_image_120 rfl rfl ?_
      refine w_getI (μ := m_X12_image) (pc := 121) dX12_image_121 fl_X12_196 ir_12_18 k0 ?_
      refine w_imul (μ := m_X12_image) (pc := 124) dX12_image_124 ?_
      refine w_iload_n 1 1 (μ := m_X12_image) (pc := 125) dX12_image_125 rfl rfl ?_
      refine w_iadd (μ := m_X12_image) (pc := 126) dX12_image_126 ?_
      refine w_aload_n 0 0 (μ := m_X12_image) (pc := 127) dX12_image_127 rfl rfl ?_
      refine w_getO (μ := m_X12_image) (pc := 128) dX12_image_128 fl_X12_36 ir_12_14 id_12_14 k0 (fun b_11 e_12 => ?_)
      refine w_iload_n 1 1 (μ := m_X12_image) (pc := 131) dX12_image_131 rfl rfl ?_
      refine w_ald (μ := m_X12_image) (pc := 132) dX12_image_132 (wt_12_14 wt k0 e_12) ?_
      refine w_ast (μ := m_X12_image) (pc := 133) dX12_image_133 (wt_12_20 wt k0 e_10) ?_
      refine w_bd (fun δ_13 e_14 => ?_)
      refine w_aload_n 0 0 (μ := m_X12_image) (pc := 134) dX12_image_134 rfl rfl ?_
      refine w_getO (μ := m_X12_image) (pc := 135) dX12_image_135 fl_X12_60 ir_12_23 id_12_23 k0 (fun b_15 e_16 => ?_)
      refine w_iconst (v := 4) (μ := m_X12_image) (pc := 138) dX12_image_138 (by decide) ?_
      refine w_aload_n 0 0 (μ := m_X12_image) (pc := 139) dX12_image_139 rfl rfl ?_
      refine w_getI (μ := m_X12_image) (pc := 140) dX12_image_140 fl_X12_196 ir_12_18 k0 ?_
      refine w_imul (μ := m_X12_image) (pc := 143) dX12_image_143 ?_
      refine w_iload_n 1 1 (μ := m_X12_image) (pc := 144) dX12_image_144 rfl rfl ?_
      refine w_iadd (μ := m_X12_image) (pc := 145) dX12_image_145 ?_
      refine w_aload_n 0 0 (μ := m_X12_image) (pc := 146) dX12_image_146 rfl rfl ?_
      refine w_getO (μ := m_X12_image) (pc := 147) dX12_image_147 fl_X12_45 ir_12_17 id_12_17 k0 (fun b_17 e_18 => ?_)
      refine w_iload_n 1 1 (μ := m_X12_image) (pc := 150) dX12_image_150 rfl rfl ?_
      refine w_ald (μ := m_X12_image) (pc := 151) dX12_image_151 (wt_12_17 wt k0 e_18) ?_
      refine w_ast (μ := m_X12_image) (pc := 152) dX12_image_152 (wt_12_23 wt k0 e_16) ?_
      refine w_bd (fun δ_19 e_20 => ?_)
      refine w_inb (fun x_21 e_22 => ?_)
      refine w_iinc 1 [(1, .int x_21), (0, .ref a0)] (μ := m_X12_image) (pc := 153) dX12_image_153 rfl (by rw [e_22]; rfl) (by decide) rfl ?_
      refine w_goto 110 (μ := m_X12_image) (pc := 156) dX12_image_156 (by decide) ?_
      refine w_lv [1, 0] rfl ?_
      exact ih _ _
def L_X12_image_53 (N : Nat) (g : gp) (a0 : Nat) : Nat → Int32 → dp → Option (Int32 × dp)
  | 0, _, _ => none
  | n + 1, x1v, δ => if (4000 : Int32) ≤ x1v then (L_X12_image_110 N g a0 N 0 δ) else ((q_O g 12 21 a0).bind fun b_23 => (q_O g 12 15 a0).bind fun b_25 => if x1v < 0 ∨ q_N g b_25 ≤ x1v.toNatClampNeg then none else if ((4000 * (q_I δ 12 18 a0)) + x1v) < 0 ∨ q_N g b_23 ≤ ((4000 * (q_I δ 12 18 a0)) + x1v).toNatClampNeg then none else bd (s_R δ b_23 ((4000 * (q_I δ 12 18 a0)) + x1v).toNatClampNeg (q_R δ b_25 x1v.toNatClampNeg)) fun δ_27 => (q_O g 12 22 a0).bind fun b_29 => (q_O g 12 16 a0).bind fun b_31 => if x1v < 0 ∨ q_N g b_31 ≤ x1v.toNatClampNeg then none else if ((4000 * (q_I δ_27 12 18 a0)) + x1v) < 0 ∨ q_N g b_29 ≤ ((4000 * (q_I δ_27 12 18 a0)) + x1v).toNatClampNeg then none else bd (s_R δ_27 b_29 ((4000 * (q_I δ_27 12 18 a0)) + x1v).toNatClampNeg (q_R δ_27 b_31 x1v.toNatClampNeg)) fun δ_33 => bi (x1v + 1) fun x_35 => L_X12_image_53 N g a0 n x_35 δ_33)
set_option maxHeartbeats 4000000 in
set_option maxRecDepth 100000 in
theorem t_L_X12_image_53 {l : Launch} {D : va_G} {cy : Nat → ClassId} {N d : Nat} {g : gp} (wt : WT g) (hl : l.stackTraces = false) (hd : 1 ≤ d) {a0 : Nat} (k0 : q_K g a0 = 12) : ∀ (n : Nat) (x1v : Int32) (δ : dp), AWD l D cy m_X12_image d 0 0 ei g 53 [(0, .ref a0), (1, .int x1v)] [] δ (L_X12_image_53 N g a0 n x1v δ) := by
  intro n
  induction n with
  | zero => intro x1v δ ; exact w_none
  | succ n ih =>
    intro x1v δ 
    unfold L_X12_image_53
    refine w_iload_n 1 1 (μ := m_X12_image) (pc := 53) dX12_image_53 rfl rfl ?_
    refine w_sipush (v := 4000) (μ := m_X12_image) (pc := 54) dX12_image_54 (by decide) ?_
    refine w_icmp_ge 108 (μ := m_X12_image) (pc := 57) dX12_image_57 (by decide) (fun c_5 => ?_) (fun c_5 => ?_)
    · refine w_iconst (v := 0) (μ := m_X12_image) (pc := 108) dX12_image_108 (by decide) ?_
      refine w_istore_n [(1, .int 0), (0, .ref a0)] (μ := m_X12_image) (pc := 109) dX12_image_109 rfl (by decide) rfl ?_
      refine w_lv [1, 0] rfl ?_
      exact t_L_X12_image_110 wt hl (by omega) k0 N _ _
    · refine w_aload_n 0 0 (μ := m_X12_image) (pc := 60) dX12_image_60 rfl rfl ?_
      refine w_getO (μ := m_X12_image) (pc := 61) dX12_image_61 fl_X12_54 ir_12_21 id_12_21 k0 (fun b_23 e_24 => ?_)
      refine w_sipush (v := 4000) (μ := m_X12_image) (pc := 64) dX12_image_64 (by decide) ?_
      refine w_aload_n 0 0 (μ := m_X12_image) (pc := 67) dX12_image_67 rfl rfl ?_
      refine w_getI (μ := m_X12_image) (pc := 68) dX12_image_68 fl_X12_196 ir_12_18 k0 ?_
      refine w_imul (μ := m_X12_image) (pc := 71) dX12_image_71 ?_
      refine w_iload_n 1 1 (μ := m_X12_image) (pc := 72) dX12_image_72 rfl rfl ?_
      refine w_iadd (μ := m_X12_image) (pc := 73) dX12_image_73 ?_
      refine w_aload_n 0 0 (μ := m_X12_image) (pc := 74) dX12_image_74 rfl rfl ?_
      refine w_getO (μ := m_X12_image) (pc := 75) dX12_image_75 fl_X12_39 ir_12_15 id_12_15 k0 (fun b_25 e_26 => ?_)
      refine w_iload_n 1 1 (μ := m_X12_image) (pc := 78) dX12_image_78 rfl rfl ?_
      refine w_ald (μ := m_X12_image) (pc := 79) dX12_image_79 (wt_12_15 wt k0 e_26) ?_
      refine w_ast (μ := m_X12_image) (pc := 80) dX12_image_80 (wt_12_21 wt k0 e_24) ?_
      refine w_bd (fun δ_27 e_28 => ?_)
      refine w_aload_n 0 0 (μ := m_X12_image) (pc := 81) dX12_image_81 rfl rfl ?_
      refine w_getO (μ := m_X12_image) (pc := 82) dX12_image_82 fl_X12_57 ir_12_22 id_12_22 k0 (fun b_29 e_30 => ?_)
      refine w_sipush (v := 4000) (μ := m_X12_image) (pc := 85) dX12_image_85 (by decide) ?_
      refine w_aload_n 0 0 (μ := m_X12_image) (pc := 88) dX12_image_88 rfl rfl ?_
      refine w_getI (μ := m_X12_image) (pc := 89) dX12_image_89 fl_X12_196 ir_12_18 k0 ?_
      refine w_imul (μ := m_X12_image) (pc := 92) dX12_image_92 ?_
      refine w_iload_n 1 1 (μ := m_X12_image) (pc := 93) dX12_image_93 rfl rfl ?_
      refine w_iadd (μ := m_X12_image) (pc := 94) dX12_image_94 ?_
      refine w_aload_n 0 0 (μ := m_X12_image) (pc := 95) dX12_image_95 rfl rfl ?_
      refine w_getO (μ := m_X12_image) (pc := 96) dX12_image_96 fl_X12_42 ir_12_16 id_12_16 k0 (fun b_31 e_32 => ?_)
      refine w_iload_n 1 1 (μ := m_X12_image) (pc := 99) dX12_image_99 rfl rfl ?_
      refine w_ald (μ := m_X12_image) (pc := 100) dX12_image_100 (wt_12_16 wt k0 e_32) ?_
      refine w_ast (μ := m_X12_image) (pc := 101) dX12_image_101 (wt_12_22 wt k0 e_30) ?_
      refine w_bd (fun δ_33 e_34 => ?_)
      refine w_inb (fun x_35 e_36 => ?_)
      refine w_iinc 1 [(1, .int x_35), (0, .ref a0)] (μ := m_X12_image) (pc := 102) dX12_image_102 rfl (by rw [e_36]; rfl) (by decide) rfl ?_
      refine w_goto 53 (μ := m_X12_image) (pc := 105) dX12_image_105 (by decide) ?_
      refine w_lv [1, 0] rfl ?_
      exact ih _ _
def L_X12_image_17 (N : Nat) (g : gp) (a0 : Nat) : Nat → Int32 → dp → Option (Int32 × dp)
  | 0, _, _ => none
  | n + 1, x1v, δ => if (8000 : Int32) ≤ x1v then (L_X12_image_53 N g a0 N 0 δ) else ((q_O g 12 19 a0).bind fun b_37 => (q_O g 12 13 a0).bind fun b_39 => if x1v < 0 ∨ q_N g b_39 ≤ x1v.toNatClampNeg then none else if ((8000 * (q_I δ 12 18 a0)) + x1v) < 0 ∨ q_N g b_37 ≤ ((8000 * (q_I δ 12 18 a0)) + x1v).toNatClampNeg then none else bd (s_R δ b_37 ((8000 * (q_I δ 12 18 a0)) + x1v).toNatClampNeg (q_R δ b_39 x1v.toNatClampNeg)) fun δ_41 => bi (x1v + 1) fun x_43 => L_X12_image_17 N g a0 n x_43 δ_41)
set_option maxHeartbeats 4000000 in
set_option maxRecDepth 100000 in
theorem t_L_X12_image_17 {l : Launch} {D : va_G} {cy : Nat → ClassId} {N d : Nat} {g : gp} (wt : WT g) (hl : l.stackTraces = false) (hd : 1 ≤ d) {a0 : Nat} (k0 : q_K g a0 = 12) : ∀ (n : Nat) (x1v : Int32) (δ : dp), AWD l D cy m_X12_image d 0 0 ei g 17 [(0, .ref a0), (1, .int x1v)] [] δ (L_X12_image_17 N g a0 n x1v δ) := by
  intro n
  induction n with
  | zero => intro x1v δ ; exact w_none
  | succ n ih =>
    intro x1v δ 
    unfold L_X12_image_17
    refine w_iload_n 1 1 (μ := m_X12_image) (pc := 17) dX12_image_17 rfl rfl ?_
    refine w_sipush (v := 8000) (μ := m_X12_image) (pc := 18) dX12_image_18 (by decide) ?_
    refine w_icmp_ge 51 (μ := m_X12_image) (pc := 21) dX12_image_21 (by decide) (fun c_4 => ?_) (fun c_4 => ?_)
    · refine w_iconst (v := 0) (μ := m_X12_image) (pc := 51) dX12_image_51 (by decide) ?_
      refine w_istore_n [(1, .int 0), (0, .ref a0)] (μ := m_X12_image) (pc := 52) dX12_image_52 rfl (by decide) rfl ?_
      refine w_lv [1, 0] rfl ?_
      exact t_L_X12_image_53 wt hl (by omega) k0 N _ _
    · refine w_aload_n 0 0 (μ := m_X12_image) (pc := 24) dX12_image_24 rfl rfl ?_
      refine w_getO (μ := m_X12_image) (pc := 25) dX12_image_25 fl_X12_48 ir_12_19 id_12_19 k0 (fun b_37 e_38 => ?_)
      refine w_sipush (v := 8000) (μ := m_X12_image) (pc := 28) dX12_image_28 (by decide) ?_
      refine w_aload_n 0 0 (μ := m_X12_image) (pc := 31) dX12_image_31 rfl rfl ?_
      refine w_getI (μ := m_X12_image) (pc := 32) dX12_image_32 fl_X12_196 ir_12_18 k0 ?_
      refine w_imul (μ := m_X12_image) (pc := 35) dX12_image_35 ?_
      refine w_iload_n 1 1 (μ := m_X12_image) (pc := 36) dX12_image_36 rfl rfl ?_
      refine w_iadd (μ := m_X12_image) (pc := 37) dX12_image_37 ?_
      refine w_aload_n 0 0 (μ := m_X12_image) (pc := 38) dX12_image_38 rfl rfl ?_
      refine w_getO (μ := m_X12_image) (pc := 39) dX12_image_39 fl_X12_33 ir_12_13 id_12_13 k0 (fun b_39 e_40 => ?_)
      refine w_iload_n 1 1 (μ := m_X12_image) (pc := 42) dX12_image_42 rfl rfl ?_
      refine w_ald (μ := m_X12_image) (pc := 43) dX12_image_43 (wt_12_13 wt k0 e_40) ?_
      refine w_ast (μ := m_X12_image) (pc := 44) dX12_image_44 (wt_12_19 wt k0 e_38) ?_
      refine w_bd (fun δ_41 e_42 => ?_)
      refine w_inb (fun x_43 e_44 => ?_)
      refine w_iinc 1 [(1, .int x_43), (0, .ref a0)] (μ := m_X12_image) (pc := 45) dX12_image_45 rfl (by rw [e_44]; rfl) (by decide) rfl ?_
      refine w_goto 17 (μ := m_X12_image) (pc := 48) dX12_image_48 (by decide) ?_
      refine w_lv [1, 0] rfl ?_
      exact ih _ _
def D_X12_image (N : Nat) (g : gp) (a0 : Nat) (δ : dp) : Option (Int32 × dp) :=
  bd (s_I δ 12 0 a0 0) fun δ_1 => if (q_I δ_1 12 18 a0) = (3 : Int32) then (some ((-1), δ_1)) else (L_X12_image_17 N g a0 N 0 δ_1)
set_option maxHeartbeats 4000000 in
set_option maxRecDepth 100000 in
theorem c_X12_image {l : Launch} {D : va_G} {cy : Nat → ClassId} {N d : Nat} {g : gp} (wt : WT g) (hl : l.stackTraces = false) (hd : 1 ≤ d) {a0 : Nat} {δ : dp} (k0 : q_K g a0 = 12) : CalD l D cy m_X12_image d 0 0 ei g [.ref a0] δ (D_X12_image N g a0 δ) := by
  refine CalD.of (by decide +kernel) (Nat.le_of_ble_eq_true rfl) hl ?_
  unfold D_X12_image
  refine w_aload_n 0 0 (μ := m_X12_image) (pc := 0) dX12_image_0 rfl rfl ?_
  refine w_iconst (v := 0) (μ := m_X12_image) (pc := 1) dX12_image_1 (by decide) ?_
  refine w_putI (μ := m_X12_image) (pc := 2) dX12_image_2 fl_X12_1 flw_12_0 ir_12_0 k0 ?_
  refine w_bd (fun δ_1 e_2 => ?_)
  refine w_aload_n 0 0 (μ := m_X12_image) (pc := 5) dX12_image_5 rfl rfl ?_
  refine w_getI (μ := m_X12_image) (pc := 6) dX12_image_6 fl_X12_196 ir_12_18 k0 ?_
  refine w_iconst (v := 3) (μ := m_X12_image) (pc := 9) dX12_image_9 (by decide) ?_
  refine w_icmp_ne 15 (μ := m_X12_image) (pc := 10) dX12_image_10 (by decide) (fun c_3 => ?_) (fun c_3 => ?_)
  · refine w_iconst (v := 0) (μ := m_X12_image) (pc := 15) dX12_image_15 (by decide) ?_
    refine w_istore_n [(1, .int 0), (0, .ref a0)] (μ := m_X12_image) (pc := 16) dX12_image_16 rfl (by decide) rfl ?_
    refine w_lv [1, 0] rfl ?_
    exact t_L_X12_image_17 wt hl (by omega) k0 N _ _
  · refine w_iconst (v := (-1)) (μ := m_X12_image) (pc := 13) dX12_image_13 (by decide) ?_
    exact w_iret (μ := m_X12_image) (pc := 14) dX12_image_14 rfl rfl
def L_X12_restore_119 (N : Nat) (g : gp) (a0 : Nat) : Nat → Int32 → dp → Option (Int32 × dp)
  | 0, _, _ => none
  | n + 1, x1v, δ => if (4 : Int32) ≤ x1v then (some (q_I δ 12 18 a0, δ)) else ((q_O g 12 14 a0).bind fun b_9 => (q_O g 12 20 a0).bind fun b_11 => if ((4 * (q_I δ 12 18 a0)) + x1v) < 0 ∨ q_N g b_11 ≤ ((4 * (q_I δ 12 18 a0)) + x1v).toNatClampNeg then none else if x1v < 0 ∨ q_N g b_9 ≤ x1v.toNatClampNeg then none else bd (s_R δ b_9 x1v.toNatClampNeg (q_R δ b_11 ((4 * (q_I δ 12 18 a0)) + x1v).toNatClampNeg)) fun δ_13 => (q_O g 12 17 a0).bind fun b_15 => (q_O g 12 23 a0).bind fun b_17 => if ((4 * (q_I δ_13 12 18 a0)) + x1v) < 0 ∨ q_N g b_17 ≤ ((4 * (q_I δ_13 12 18 a0)) + x1v).toNatClampNeg then none else if x1v < 0 ∨ q_N g b_15 ≤ x1v.toNatClampNeg then none else bd (s_R δ_13 b_15 x1v.toNatClampNeg (q_R δ_13 b_17 ((4 * (q_I δ_13 12 18 a0)) + x1v).toNatClampNeg)) fun δ_19 => bi (x1v + 1) fun x_21 => L_X12_restore_119 N g a0 n x_21 δ_19)
set_option maxHeartbeats 4000000 in
set_option maxRecDepth 100000 in
theorem t_L_X12_restore_119 {l : Launch} {D : va_G} {cy : Nat → ClassId} {N d : Nat} {g : gp} (wt : WT g) (hl : l.stackTraces = false) (hd : 1 ≤ d) {a0 : Nat} (k0 : q_K g a0 = 12) : ∀ (n : Nat) (x1v : Int32) (δ : dp), AWD l D cy m_X12_restore d 0 0 ei g 119 [(0, .ref a0), (1, .int x1v)] [] δ (L_X12_restore_119 N g a0 n x1v δ) := by
  intro n
  induction n with
  | zero => intro x1v δ ; exact w_none
  | succ n ih =>
    intro x1v δ 
    unfold L_X12_restore_119
    refine w_iload_n 1 1 (μ := m_X12_restore) (pc := 119) dX12_restore_119 rfl rfl ?_
    refine w_iconst (v := 4) (μ := m_X12_restore) (pc := 120) dX12_restore_120 (by decide) ?_
    refine w_icmp_ge 168 (μ := m_X12_restore) (pc := 121) dX12_restore_121 (by decide) (fun c_8 => ?_) (fun c_8 => ?_)
    · refine w_aload_n 0 0 (μ := m_X12_restore) (pc := 168) dX12_restore_168 rfl rfl ?_
      refine w_getI (μ := m_X12_restore) (pc := 169) dX12_restore_169 fl_X12_196 ir_12_18 k0 ?_
      exact w_iret (μ := m_X12_restore) (pc := 172) dX12_restore_172 rfl rfl
    · refine w_aload_n 0 0 (μ := m_X12_restore) (pc := 124) dX12_restore_124 rfl rfl ?_
      refine w_getO (μ := m_X12_restore) (pc := 125) dX12_restore_125 fl_X12_36 ir_12_14 id_12_14 k0 (fun b_9 e_10 => ?_)
      refine w_iload_n 1 1 (μ := m_X12_restore) (pc := 128) dX12_restore_128 rfl rfl ?_
      refine w_aload_n 0 0 (μ := m_X12_restore) (pc := 129) dX12_restore_129 rfl rfl ?_
      refine w_getO (μ := m_X12_restore) (pc := 130) dX12_restore_130 fl_X12_51 ir_12_20 id_12_20 k0 (fun b_11 e_12 => ?_)
      refine w_iconst (v := 4) (μ := m_X12_restore) (pc := 133) dX12_restore_133 (by decide) ?_
      refine w_aload_n 0 0 (μ := m_X12_restore) (pc := 134) dX12_restore_134 rfl rfl ?_
      refine w_getI (μ := m_X12_restore) (pc := 135) dX12_restore_135 fl_X12_196 ir_12_18 k0 ?_
      refine w_imul (μ := m_X12_restore) (pc := 138) dX12_restore_138 ?_
      refine w_iload_n 1 1 (μ := m_X12_restore) (pc := 139) dX12_restore_139 rfl rfl ?_
      refine w_iadd (μ := m_X12_restore) (pc := 140) dX12_restore_140 ?_
      refine w_ald (μ := m_X12_restore) (pc := 141) dX12_restore_141 (wt_12_20 wt k0 e_12) ?_
      refine w_ast (μ := m_X12_restore) (pc := 142) dX12_restore_142 (wt_12_14 wt k0 e_10) ?_
      refine w_bd (fun δ_13 e_14 => ?_)
      refine w_aload_n 0 0 (μ := m_X12_restore) (pc := 143) dX12_restore_143 rfl rfl ?_
      refine w_getO (μ := m_X12_restore) (pc := 144) dX12_restore_144 fl_X12_45 ir_12_17 id_12_17 k0 (fun b_15 e_16 => ?_)
      refine w_iload_n 1 1 (μ := m_X12_restore) (pc := 147) dX12_restore_147 rfl rfl ?_
      refine w_aload_n 0 0 (μ := m_X12_restore) (pc := 148) dX12_restore_148 rfl rfl ?_
      refine w_getO (μ := m_X12_restore) (pc := 149) dX12_restore_149 fl_X12_60 ir_12_23 id_12_23 k0 (fun b_17 e_18 => ?_)
      refine w_iconst (v := 4) (μ := m_X12_restore) (pc := 152) dX12_restore_152 (by decide) ?_
      refine w_aload_n 0 0 (μ := m_X12_restore) (pc := 153) dX12_restore_153 rfl rfl ?_
      refine w_getI (μ := m_X12_restore) (pc := 154) dX12_restore_154 fl_X12_196 ir_12_18 k0 ?_
      refine w_imul (μ := m_X12_restore) (pc := 157) dX12_restore_157 ?_
      refine w_iload_n 1 1 (μ := m_X12_restore) (pc := 158) dX12_restore_158 rfl rfl ?_
      refine w_iadd (μ := m_X12_restore) (pc := 159) dX12_restore_159 ?_
      refine w_ald (μ := m_X12_restore) (pc := 160) dX12_restore_160 (wt_12_23 wt k0 e_18) ?_
      refine w_ast (μ := m_X12_restore) (pc := 161) dX12_restore_161 (wt_12_17 wt k0 e_16) ?_
      refine w_bd (fun δ_19 e_20 => ?_)
      refine w_inb (fun x_21 e_22 => ?_)
      refine w_iinc 1 [(1, .int x_21), (0, .ref a0)] (μ := m_X12_restore) (pc := 162) dX12_restore_162 rfl (by rw [e_22]; rfl) (by decide) rfl ?_
      refine w_goto 119 (μ := m_X12_restore) (pc := 165) dX12_restore_165 (by decide) ?_
      refine w_lv [1, 0] rfl ?_
      exact ih _ _
def L_X12_restore_62 (N : Nat) (g : gp) (a0 : Nat) : Nat → Int32 → dp → Option (Int32 × dp)
  | 0, _, _ => none
  | n + 1, x1v, δ => if (4000 : Int32) ≤ x1v then (L_X12_restore_119 N g a0 N 0 δ) else ((q_O g 12 15 a0).bind fun b_23 => (q_O g 12 21 a0).bind fun b_25 => if ((4000 * (q_I δ 12 18 a0)) + x1v) < 0 ∨ q_N g b_25 ≤ ((4000 * (q_I δ 12 18 a0)) + x1v).toNatClampNeg then none else if x1v < 0 ∨ q_N g b_23 ≤ x1v.toNatClampNeg then none else bd (s_R δ b_23 x1v.toNatClampNeg (q_R δ b_25 ((4000 * (q_I δ 12 18 a0)) + x1v).toNatClampNeg)) fun δ_27 => (q_O g 12 16 a0).bind fun b_29 => (q_O g 12 22 a0).bind fun b_31 => if ((4000 * (q_I δ_27 12 18 a0)) + x1v) < 0 ∨ q_N g b_31 ≤ ((4000 * (q_I δ_27 12 18 a0)) + x1v).toNatClampNeg then none else if x1v < 0 ∨ q_N g b_29 ≤ x1v.toNatClampNeg then none else bd (s_R δ_27 b_29 x1v.toNatClampNeg (q_R δ_27 b_31 ((4000 * (q_I δ_27 12 18 a0)) + x1v).toNatClampNeg)) fun δ_33 => bi (x1v + 1) fun x_35 => L_X12_restore_62 N g a0 n x_35 δ_33)
set_option maxHeartbeats 4000000 in
set_option maxRecDepth 100000 in
theorem t_L_X12_restore_62 {l : Launch} {D : va_G} {cy : Nat → ClassId} {N d : Nat} {g : gp} (wt : WT g) (hl : l.stackTraces = false) (hd : 1 ≤ d) {a0 : Nat} (k0 : q_K g a0 = 12) : ∀ (n : Nat) (x1v : Int32) (δ : dp), AWD l D cy m_X12_restore d 0 0 ei g 62 [(0, .ref a0), (1, .int x1v)] [] δ (L_X12_restore_62 N g a0 n x1v δ) := by
  intro n
  induction n with
  | zero => intro x1v δ ; exact w_none
  | succ n ih =>
    intro x1v δ 
    unfold L_X12_restore_62
    refine w_iload_n 1 1 (μ := m_X12_restore) (pc := 62) dX12_restore_62 rfl rfl ?_
    refine w_sipush (v := 4000) (μ := m_X12_restore) (pc := 63) dX12_restore_63 (by decide) ?_
    refine w_icmp_ge 117 (μ := m_X12_restore) (pc := 66) dX12_restore_66 (by decide) (fun c_7 => ?_) (fun c_7 => ?_)
    · refine w_iconst (v := 0) (μ := m_X12_restore) (pc := 117) dX12_restore_117 (by decide) ?_
      refine w_istore_n [(1, .int 0), (0, .ref a0)] (μ := m_X12_restore) (pc := 118) dX12_restore_118 rfl (by decide) rfl ?_
      refine w_lv [1, 0] rfl ?_
      exact t_L_X12_restore_119 wt hl (by omega) k0 N _ _
    · refine w_aload_n 0 0 (μ := m_X12_restore) (pc := 69) dX12_restore_69 rfl rfl ?_
      refine w_getO (μ := m_X12_restore) (pc := 70) dX12_restore_70 fl_X12_39 ir_12_15 id_12_15 k0 (fun b_23 e_24 => ?_)
      refine w_iload_n 1 1 (μ := m_X12_restore) (pc := 73) dX12_restore_73 rfl rfl ?_
      refine w_aload_n 0 0 (μ := m_X12_restore) (pc := 74) dX12_restore_74 rfl rfl ?_
      refine w_getO (μ := m_X12_restore) (pc := 75) dX12_restore_75 fl_X12_54 ir_12_21 id_12_21 k0 (fun b_25 e_26 => ?_)
      refine w_sipush (v := 4000) (μ := m_X12_restore) (pc := 78) dX12_restore_78 (by decide) ?_
      refine w_aload_n 0 0 (μ := m_X12_restore) (pc := 81) dX12_restore_81 rfl rfl ?_
      refine w_getI (μ := m_X12_restore) (pc := 82) dX12_restore_82 fl_X12_196 ir_12_18 k0 ?_
      refine w_imul (μ := m_X12_restore) (pc := 85) dX12_restore_85 ?_
      refine w_iload_n 1 1 (μ := m_X12_restore) (pc := 86) dX12_restore_86 rfl rfl ?_
      refine w_iadd (μ := m_X12_restore) (pc := 87) dX12_restore_87 ?_
      refine w_ald (μ := m_X12_restore) (pc := 88) dX12_restore_88 (wt_12_21 wt k0 e_26) ?_
      refine w_ast (μ := m_X12_restore) (pc := 89) dX12_restore_89 (wt_12_15 wt k0 e_24) ?_
      refine w_bd (fun δ_27 e_28 => ?_)
      refine w_aload_n 0 0 (μ := m_X12_restore) (pc := 90) dX12_restore_90 rfl rfl ?_
      refine w_getO (μ := m_X12_restore) (pc := 91) dX12_restore_91 fl_X12_42 ir_12_16 id_12_16 k0 (fun b_29 e_30 => ?_)
      refine w_iload_n 1 1 (μ := m_X12_restore) (pc := 94) dX12_restore_94 rfl rfl ?_
      refine w_aload_n 0 0 (μ := m_X12_restore) (pc := 95) dX12_restore_95 rfl rfl ?_
      refine w_getO (μ := m_X12_restore) (pc := 96) dX12_restore_96 fl_X12_57 ir_12_22 id_12_22 k0 (fun b_31 e_32 => ?_)
      refine w_sipush (v := 4000) (μ := m_X12_restore) (pc := 99) dX12_restore_99 (by decide) ?_
      refine w_aload_n 0 0 (μ := m_X12_restore) (pc := 102) dX12_restore_102 rfl rfl ?_
      refine w_getI (μ := m_X12_restore) (pc := 103) dX12_restore_103 fl_X12_196 ir_12_18 k0 ?_
      refine w_imul (μ := m_X12_restore) (pc := 106) dX12_restore_106 ?_
      refine w_iload_n 1 1 (μ := m_X12_restore) (pc := 107) dX12_restore_107 rfl rfl ?_
      refine w_iadd (μ := m_X12_restore) (pc := 108) dX12_restore_108 ?_
      refine w_ald (μ := m_X12_restore) (pc := 109) dX12_restore_109 (wt_12_22 wt k0 e_32) ?_
      refine w_ast (μ := m_X12_restore) (pc := 110) dX12_restore_110 (wt_12_16 wt k0 e_30) ?_
      refine w_bd (fun δ_33 e_34 => ?_)
      refine w_inb (fun x_35 e_36 => ?_)
      refine w_iinc 1 [(1, .int x_35), (0, .ref a0)] (μ := m_X12_restore) (pc := 111) dX12_restore_111 rfl (by rw [e_36]; rfl) (by decide) rfl ?_
      refine w_goto 62 (μ := m_X12_restore) (pc := 114) dX12_restore_114 (by decide) ?_
      refine w_lv [1, 0] rfl ?_
      exact ih _ _
def L_X12_restore_26 (N : Nat) (g : gp) (a0 : Nat) : Nat → Int32 → dp → Option (Int32 × dp)
  | 0, _, _ => none
  | n + 1, x1v, δ => if (8000 : Int32) ≤ x1v then (L_X12_restore_62 N g a0 N 0 δ) else ((q_O g 12 13 a0).bind fun b_37 => (q_O g 12 19 a0).bind fun b_39 => if ((8000 * (q_I δ 12 18 a0)) + x1v) < 0 ∨ q_N g b_39 ≤ ((8000 * (q_I δ 12 18 a0)) + x1v).toNatClampNeg then none else if x1v < 0 ∨ q_N g b_37 ≤ x1v.toNatClampNeg then none else bd (s_R δ b_37 x1v.toNatClampNeg (q_R δ b_39 ((8000 * (q_I δ 12 18 a0)) + x1v).toNatClampNeg)) fun δ_41 => bi (x1v + 1) fun x_43 => L_X12_restore_26 N g a0 n x_43 δ_41)
set_option maxHeartbeats 4000000 in
set_option maxRecDepth 100000 in
theorem t_L_X12_restore_26 {l : Launch} {D : va_G} {cy : Nat → ClassId} {N d : Nat} {g : gp} (wt : WT g) (hl : l.stackTraces = false) (hd : 1 ≤ d) {a0 : Nat} (k0 : q_K g a0 = 12) : ∀ (n : Nat) (x1v : Int32) (δ : dp), AWD l D cy m_X12_restore d 0 0 ei g 26 [(0, .ref a0), (1, .int x1v)] [] δ (L_X12_restore_26 N g a0 n x1v δ) := by
  intro n
  induction n with
  | zero => intro x1v δ ; exact w_none
  | succ n ih =>
    intro x1v δ 
    unfold L_X12_restore_26
    refine w_iload_n 1 1 (μ := m_X12_restore) (pc := 26) dX12_restore_26 rfl rfl ?_
    refine w_sipush (v := 8000) (μ := m_X12_restore) (pc := 27) dX12_restore_27 (by decide) ?_
    refine w_icmp_ge 60 (μ := m_X12_restore) (pc := 30) dX12_restore_30 (by decide) (fun c_6 => ?_) (fun c_6 => ?_)
    · refine w_iconst (v := 0) (μ := m_X12_restore) (pc := 60) dX12_restore_60 (by decide) ?_
      refine w_istore_n [(1, .int 0), (0, .ref a0)] (μ := m_X12_restore) (pc := 61) dX12_restore_61 rfl (by decide) rfl ?_
      refine w_lv [1, 0] rfl ?_
      exact t_L_X12_restore_62 wt hl (by omega) k0 N _ _
    · refine w_aload_n 0 0 (μ := m_X12_restore) (pc := 33) dX12_restore_33 rfl rfl ?_
      refine w_getO (μ := m_X12_restore) (pc := 34) dX12_restore_34 fl_X12_33 ir_12_13 id_12_13 k0 (fun b_37 e_38 => ?_)
      refine w_iload_n 1 1 (μ := m_X12_restore) (pc := 37) dX12_restore_37 rfl rfl ?_
      refine w_aload_n 0 0 (μ := m_X12_restore) (pc := 38) dX12_restore_38 rfl rfl ?_
      refine w_getO (μ := m_X12_restore) (pc := 39) dX12_restore_39 fl_X12_48 ir_12_19 id_12_19 k0 (fun b_39 e_40 => ?_)
      refine w_sipush (v := 8000) (μ := m_X12_restore) (pc := 42) dX12_restore_42 (by decide) ?_
      refine w_aload_n 0 0 (μ := m_X12_restore) (pc := 45) dX12_restore_45 rfl rfl ?_
      refine w_getI (μ := m_X12_restore) (pc := 46) dX12_restore_46 fl_X12_196 ir_12_18 k0 ?_
      refine w_imul (μ := m_X12_restore) (pc := 49) dX12_restore_49 ?_
      refine w_iload_n 1 1 (μ := m_X12_restore) (pc := 50) dX12_restore_50 rfl rfl ?_
      refine w_iadd (μ := m_X12_restore) (pc := 51) dX12_restore_51 ?_
      refine w_ald (μ := m_X12_restore) (pc := 52) dX12_restore_52 (wt_12_19 wt k0 e_40) ?_
      refine w_ast (μ := m_X12_restore) (pc := 53) dX12_restore_53 (wt_12_13 wt k0 e_38) ?_
      refine w_bd (fun δ_41 e_42 => ?_)
      refine w_inb (fun x_43 e_44 => ?_)
      refine w_iinc 1 [(1, .int x_43), (0, .ref a0)] (μ := m_X12_restore) (pc := 54) dX12_restore_54 rfl (by rw [e_44]; rfl) (by decide) rfl ?_
      refine w_goto 26 (μ := m_X12_restore) (pc := 57) dX12_restore_57 (by decide) ?_
      refine w_lv [1, 0] rfl ?_
      exact ih _ _
def D_X12_restore (N : Nat) (g : gp) (a0 : Nat) (δ : dp) : Option (Int32 × dp) :=
  bd (s_I δ 12 0 a0 0) fun δ_1 => if (q_I δ_1 12 18 a0) = 0 then (some ((-1), δ_1)) else (bd (s_I δ_1 12 18 a0 ((q_I δ_1 12 18 a0) - 1)) fun δ_4 => L_X12_restore_26 N g a0 N 0 δ_4)
set_option maxHeartbeats 4000000 in
set_option maxRecDepth 100000 in
theorem c_X12_restore {l : Launch} {D : va_G} {cy : Nat → ClassId} {N d : Nat} {g : gp} (wt : WT g) (hl : l.stackTraces = false) (hd : 1 ≤ d) {a0 : Nat} {δ : dp} (k0 : q_K g a0 = 12) : CalD l D cy m_X12_restore d 0 0 ei g [.ref a0] δ (D_X12_restore N g a0 δ) := by
  refine CalD.of (by decide +kernel) (Nat.le_of_ble_eq_true rfl) hl ?_
  unfold D_X12_restore
  refine w_aload_n 0 0 (μ := m_X12_restore) (pc := 0) dX12_restore_0 rfl rfl ?_
  refine w_iconst (v := 0) (μ := m_X12_restore) (pc := 1) dX12_restore_1 (by decide) ?_
  refine w_putI (μ := m_X12_restore) (pc := 2) dX12_restore_2 fl_X12_1 flw_12_0 ir_12_0 k0 ?_
  refine w_bd (fun δ_1 e_2 => ?_)
  refine w_aload_n 0 0 (μ := m_X12_restore) (pc := 5) dX12_restore_5 rfl rfl ?_
  refine w_getI (μ := m_X12_restore) (pc := 6) dX12_restore_6 fl_X12_196 ir_12_18 k0 ?_
  refine w_if_ne 14 (μ := m_X12_restore) (pc := 9) dX12_restore_9 (by decide) (fun c_3 => ?_) (fun c_3 => ?_)
  · refine w_aload_n 0 0 (μ := m_X12_restore) (pc := 14) dX12_restore_14 rfl rfl ?_
    refine w_dup (μ := m_X12_restore) (pc := 15) dX12_restore_15 rfl ?_
    refine w_getI (μ := m_X12_restore) (pc := 16) dX12_restore_16 fl_X12_196 ir_12_18 k0 ?_
    refine w_iconst (v := 1) (μ := m_X12_restore) (pc := 19) dX12_restore_19 (by decide) ?_
    refine w_isub (μ := m_X12_restore) (pc := 20) dX12_restore_20 ?_
    refine w_putI (μ := m_X12_restore) (pc := 21) dX12_restore_21 fl_X12_196 flw_12_18 ir_12_18 k0 ?_
    refine w_bd (fun δ_4 e_5 => ?_)
    refine w_iconst (v := 0) (μ := m_X12_restore) (pc := 24) dX12_restore_24 (by decide) ?_
    refine w_istore_n [(1, .int 0), (0, .ref a0)] (μ := m_X12_restore) (pc := 25) dX12_restore_25 rfl (by decide) rfl ?_
    refine w_lv [1, 0] rfl ?_
    exact t_L_X12_restore_26 wt hl (by omega) k0 N _ _
  · refine w_iconst (v := (-1)) (μ := m_X12_restore) (pc := 12) dX12_restore_12 (by decide) ?_
    exact w_iret (μ := m_X12_restore) (pc := 13) dX12_restore_13 rfl rfl
def J_X12_status_24 (N : Nat) (g : gp) (a0 : Nat) (x1 : Int32) (xs0 : Int32) (δ : dp) : Option (Int32 × dp) :=
  some (xs0, δ)
set_option maxHeartbeats 4000000 in
set_option maxRecDepth 100000 in
theorem t_J_X12_status_24 {l : Launch} {D : va_G} {cy : Nat → ClassId} {N d : Nat} {g : gp} (wt : WT g) (hl : l.stackTraces = false) (hd : 2 ≤ d) {a0 : Nat} {x1 : Int32} (k0 : q_K g a0 = 12) : ∀ (xs0 : Int32) (δ : dp), AWD l D cy m_X12_status d 0 0 ei g 24 [] [.int xs0] δ (J_X12_status_24 N g a0 x1 xs0 δ) := by
    intro xs0 δ 
    unfold J_X12_status_24
    exact w_iret (μ := m_X12_status) (pc := 24) dX12_status_24 rfl rfl
def D_X12_status (N : Nat) (g : gp) (a0 : Nat) (x1 : Int32) (δ : dp) : Option (Int32 × dp) :=
  bd (s_I δ 12 0 a0 0) fun δ_1 => (D_X12_within N g x1 0 2 δ_1).bind fun r_3 => if r_3.1 = 0 then (J_X12_status_24 N g a0 x1 ((-1)) r_3.2) else ((q_O g 12 1 a0).bind fun b_5 => if x1 < 0 ∨ q_N g b_5 ≤ x1.toNatClampNeg then none else J_X12_status_24 N g a0 x1 (q_R r_3.2 b_5 x1.toNatClampNeg) r_3.2)
set_option maxHeartbeats 4000000 in
set_option maxRecDepth 100000 in
theorem c_X12_status {l : Launch} {D : va_G} {cy : Nat → ClassId} {N d : Nat} {g : gp} (wt : WT g) (hl : l.stackTraces = false) (hd : 2 ≤ d) {a0 : Nat} {x1 : Int32} {δ : dp} (k0 : q_K g a0 = 12) : CalD l D cy m_X12_status d 0 0 ei g [.ref a0, .int x1] δ (D_X12_status N g a0 x1 δ) := by
  refine CalD.of (by decide +kernel) (Nat.le_of_ble_eq_true rfl) hl ?_
  unfold D_X12_status
  refine w_aload_n 0 0 (μ := m_X12_status) (pc := 0) dX12_status_0 rfl rfl ?_
  refine w_iconst (v := 0) (μ := m_X12_status) (pc := 1) dX12_status_1 (by decide) ?_
  refine w_putI (μ := m_X12_status) (pc := 2) dX12_status_2 fl_X12_1 flw_12_0 ir_12_0 k0 ?_
  refine w_bd (fun δ_1 e_2 => ?_)
  refine w_iload_n 1 1 (μ := m_X12_status) (pc := 5) dX12_status_5 rfl rfl ?_
  refine w_iconst (v := 0) (μ := m_X12_status) (pc := 6) dX12_status_6 (by decide) ?_
  refine w_iconst (v := 2) (μ := m_X12_status) (pc := 7) dX12_status_7 (by decide) ?_
  refine w_callS (As := [.int x1, .int 0, .int 2]) (rest := []) (μ := m_X12_status) (pc := 8) dX12_status_8 cs_X12_250 rfl rfl (Nat.le_of_ble_eq_true rfl) (d' := d - 1) (by omega) he_i (c_X12_within wt hl (d := d - 1) (by omega) ) (fun r_3 => ?_)
  refine w_if_eq 23 (μ := m_X12_status) (pc := 11) dX12_status_11 (by decide) (fun c_4 => ?_) (fun c_4 => ?_)
  · refine w_iconst (v := (-1)) (μ := m_X12_status) (pc := 23) dX12_status_23 (by decide) ?_
    refine w_lv [] rfl ?_
    exact t_J_X12_status_24 wt hl (by omega) k0 _ _
  · refine w_aload_n 0 0 (μ := m_X12_status) (pc := 14) dX12_status_14 rfl rfl ?_
    refine w_getO (μ := m_X12_status) (pc := 15) dX12_status_15 fl_X12_7 ir_12_1 id_12_1 k0 (fun b_5 e_6 => ?_)
    refine w_iload_n 1 1 (μ := m_X12_status) (pc := 18) dX12_status_18 rfl rfl ?_
    refine w_ald (μ := m_X12_status) (pc := 19) dX12_status_19 (wt_12_1 wt k0 e_6) ?_
    refine w_goto 24 (μ := m_X12_status) (pc := 20) dX12_status_20 (by decide) ?_
    refine w_lv [] rfl ?_
    exact t_J_X12_status_24 wt hl (by omega) k0 _ _
def J_X12_count_64 (N : Nat) (g : gp) (a0 : Nat) (x1 : Int32) (xs0 : Int32) (δ : dp) : Option (Int32 × dp) :=
  some (xs0, δ)
set_option maxHeartbeats 4000000 in
set_option maxRecDepth 100000 in
theorem t_J_X12_count_64 {l : Launch} {D : va_G} {cy : Nat → ClassId} {N d : Nat} {g : gp} (wt : WT g) (hl : l.stackTraces = false) (hd : 1 ≤ d) {a0 : Nat} {x1 : Int32} (k0 : q_K g a0 = 12) : ∀ (xs0 : Int32) (δ : dp), AWD l D cy m_X12_count d 0 0 ei g 64 [] [.int xs0] δ (J_X12_count_64 N g a0 x1 xs0 δ) := by
    intro xs0 δ 
    unfold J_X12_count_64
    exact w_iret (μ := m_X12_count) (pc := 64) dX12_count_64 rfl rfl
def D_X12_count (N : Nat) (g : gp) (a0 : Nat) (x1 : Int32) (δ : dp) : Option (Int32 × dp) :=
  bd (s_I δ 12 0 a0 0) fun δ_1 => if x1 = 0 then (J_X12_count_64 N g a0 x1 (q_I δ_1 12 18 a0) δ_1) else (if x1 = (1 : Int32) then (J_X12_count_64 N g a0 x1 (q_I δ_1 12 2 a0) δ_1) else (if x1 = (2 : Int32) then ((q_O g 12 14 a0).bind fun b_6 => if (0 : Int32) < 0 ∨ q_N g b_6 ≤ (0 : Int32).toNatClampNeg then none else (q_O g 12 14 a0).bind fun b_8 => if (1 : Int32) < 0 ∨ q_N g b_8 ≤ (1 : Int32).toNatClampNeg then none else (q_O g 12 14 a0).bind fun b_10 => if (2 : Int32) < 0 ∨ q_N g b_10 ≤ (2 : Int32).toNatClampNeg then none else (q_O g 12 14 a0).bind fun b_12 => if (3 : Int32) < 0 ∨ q_N g b_12 ≤ (3 : Int32).toNatClampNeg then none else J_X12_count_64 N g a0 x1 ((((q_R δ_1 b_6 (0 : Int32).toNatClampNeg) + (q_R δ_1 b_8 (1 : Int32).toNatClampNeg)) + (q_R δ_1 b_10 (2 : Int32).toNatClampNeg)) + (q_R δ_1 b_12 (3 : Int32).toNatClampNeg)) δ_1) else (J_X12_count_64 N g a0 x1 ((-1)) δ_1)))
set_option maxHeartbeats 4000000 in
set_option maxRecDepth 100000 in
theorem c_X12_count {l : Launch} {D : va_G} {cy : Nat → ClassId} {N d : Nat} {g : gp} (wt : WT g) (hl : l.stackTraces = false) (hd : 1 ≤ d) {a0 : Nat} {x1 : Int32} {δ : dp} (k0 : q_K g a0 = 12) : CalD l D cy m_X12_count d 0 0 ei g [.ref a0, .int x1] δ (D_X12_count N g a0 x1 δ) := by
  refine CalD.of (by decide +kernel) (Nat.le_of_ble_eq_true rfl) hl ?_
  unfold D_X12_count
  refine w_aload_n 0 0 (μ := m_X12_count) (pc := 0) dX12_count_0 rfl rfl ?_
  refine w_iconst (v := 0) (μ := m_X12_count) (pc := 1) dX12_count_1 (by decide) ?_
  refine w_putI (μ := m_X12_count) (pc := 2) dX12_count_2 fl_X12_1 flw_12_0 ir_12_0 k0 ?_
  refine w_bd (fun δ_1 e_2 => ?_)
  refine w_iload_n 1 1 (μ := m_X12_count) (pc := 5) dX12_count_5 rfl rfl ?_
  refine w_if_ne 16 (μ := m_X12_count) (pc := 6) dX12_count_6 (by decide) (fun c_3 => ?_) (fun c_3 => ?_)
  · refine w_iload_n 1 1 (μ := m_X12_count) (pc := 16) dX12_count_16 rfl rfl ?_
    refine w_iconst (v := 1) (μ := m_X12_count) (pc := 17) dX12_count_17 (by decide) ?_
    refine w_icmp_ne 28 (μ := m_X12_count) (pc := 18) dX12_count_18 (by decide) (fun c_4 => ?_) (fun c_4 => ?_)
    · refine w_iload_n 1 1 (μ := m_X12_count) (pc := 28) dX12_count_28 rfl rfl ?_
      refine w_iconst (v := 2) (μ := m_X12_count) (pc := 29) dX12_count_29 (by decide) ?_
      refine w_icmp_ne 63 (μ := m_X12_count) (pc := 30) dX12_count_30 (by decide) (fun c_5 => ?_) (fun c_5 => ?_)
      · refine w_iconst (v := (-1)) (μ := m_X12_count) (pc := 63) dX12_count_63 (by decide) ?_
        refine w_lv [] rfl ?_
        exact t_J_X12_count_64 wt hl (by omega) k0 _ _
      · refine w_aload_n 0 0 (μ := m_X12_count) (pc := 33) dX12_count_33 rfl rfl ?_
        refine w_getO (μ := m_X12_count) (pc := 34) dX12_count_34 fl_X12_36 ir_12_14 id_12_14 k0 (fun b_6 e_7 => ?_)
        refine w_iconst (v := 0) (μ := m_X12_count) (pc := 37) dX12_count_37 (by decide) ?_
        refine w_ald (μ := m_X12_count) (pc := 38) dX12_count_38 (wt_12_14 wt k0 e_7) ?_
        refine w_aload_n 0 0 (μ := m_X12_count) (pc := 39) dX12_count_39 rfl rfl ?_
        refine w_getO (μ := m_X12_count) (pc := 40) dX12_count_40 fl_X12_36 ir_12_14 id_12_14 k0 (fun b_8 e_9 => ?_)
        refine w_iconst (v := 1) (μ := m_X12_count) (pc := 43) dX12_count_43 (by decide) ?_
        refine w_ald (μ := m_X12_count) (pc := 44) dX12_count_44 (wt_12_14 wt k0 e_9) ?_
        refine w_iadd (μ := m_X12_count) (pc := 45) dX12_count_45 ?_
        refine w_aload_n 0 0 (μ := m_X12_count) (pc := 46) dX12_count_46 rfl rfl ?_
        refine w_getO (μ := m_X12_count) (pc := 47) dX12_count_47 fl_X12_36 ir_12_14 id_12_14 k0 (fun b_10 e_11 => ?_)
        refine w_iconst (v := 2) (μ := m_X12_count) (pc := 50) dX12_count_50 (by decide) ?_
        refine w_ald (μ := m_X12_count) (pc := 51) dX12_count_51 (wt_12_14 wt k0 e_11) ?_
        refine w_iadd (μ := m_X12_count) (pc := 52) dX12_count_52 ?_
        refine w_aload_n 0 0 (μ := m_X12_count) (pc := 53) dX12_count_53 rfl rfl ?_
        refine w_getO (μ := m_X12_count) (pc := 54) dX12_count_54 fl_X12_36 ir_12_14 id_12_14 k0 (fun b_12 e_13 => ?_)
        refine w_iconst (v := 3) (μ := m_X12_count) (pc := 57) dX12_count_57 (by decide) ?_
        refine w_ald (μ := m_X12_count) (pc := 58) dX12_count_58 (wt_12_14 wt k0 e_13) ?_
        refine w_iadd (μ := m_X12_count) (pc := 59) dX12_count_59 ?_
        refine w_goto 64 (μ := m_X12_count) (pc := 60) dX12_count_60 (by decide) ?_
        refine w_lv [] rfl ?_
        exact t_J_X12_count_64 wt hl (by omega) k0 _ _
    · refine w_aload_n 0 0 (μ := m_X12_count) (pc := 21) dX12_count_21 rfl rfl ?_
      refine w_getI (μ := m_X12_count) (pc := 22) dX12_count_22 fl_X12_109 ir_12_2 k0 ?_
      refine w_goto 64 (μ := m_X12_count) (pc := 25) dX12_count_25 (by decide) ?_
      refine w_lv [] rfl ?_
      exact t_J_X12_count_64 wt hl (by omega) k0 _ _
  · refine w_aload_n 0 0 (μ := m_X12_count) (pc := 9) dX12_count_9 rfl rfl ?_
    refine w_getI (μ := m_X12_count) (pc := 10) dX12_count_10 fl_X12_196 ir_12_18 k0 ?_
    refine w_goto 64 (μ := m_X12_count) (pc := 13) dX12_count_13 (by decide) ?_
    refine w_lv [] rfl ?_
    exact t_J_X12_count_64 wt hl (by omega) k0 _ _
def B_X12_inList (N : Nat) (g : gp) (T : Nat → Int32 → Int32 → Int32 → Int32 → Int32 → dp → Option (Int32 × dp)) (a0 : Nat) (x1 : Int32) (x2 : Int32) (x3 : Int32) (x4 : Int32) (x5 : Int32) (δ : dp) : Option (Int32 × dp) :=
  (D_X12_lowerBits N g a0 x3 δ).bind fun r_1 => (D_X12_lists N g a0 x4 x5 r_1.1 r_1.2).bind fun r_2 => (T a0 x1 (x2 >>> (r_1.1 &&& 31)) (x3 - r_1.1) r_2.1 (q_I r_2.2 12 36 a0) r_2.2).bind fun r_3 => bd (s_I r_3.2 12 36 a0 r_2.1) fun δ_4 => some (r_3.1, δ_4)
set_option maxHeartbeats 4000000 in
set_option maxRecDepth 100000 in
theorem c_b_X12_inList {l : Launch} {D : va_G} {cy : Nat → ClassId} {N d : Nat} {g : gp} (wt : WT g) (hl : l.stackTraces = false) {T : Nat → Int32 → Int32 → Int32 → Int32 → Int32 → dp → Option (Int32 × dp)} {dh : Nat} (hT : ∀ (a0 : Nat) (x1 : Int32) (x2 : Int32) (x3 : Int32) (x4 : Int32) (x5 : Int32) (δ : dp), q_K g a0 = 12 → CalD l D cy m_X12_touch dh 0 0 ei g [.ref a0, .int x1, .int x2, .int x3, .int x4, .int x5] δ (T a0 x1 x2 x3 x4 x5 δ)) (hh : dh + 1 ≤ d) (hd : 2 ≤ d) {a0 : Nat} {x1 : Int32} {x2 : Int32} {x3 : Int32} {x4 : Int32} {x5 : Int32} {δ : dp} (k0 : q_K g a0 = 12) : CalD l D cy m_X12_inList d 0 0 ei g [.ref a0, .int x1, .int x2, .int x3, .int x4, .int x5] δ (B_X12_inList N g T a0 x1 x2 x3 x4 x5 δ) := by
  refine CalD.of (by decide +kernel) (Nat.le_of_ble_eq_true rfl) hl ?_
  unfold B_X12_inList
  refine w_aload_n 0 0 (μ := m_X12_inList) (pc := 0) dX12_inList_0 rfl rfl ?_
  refine w_iload_n 3 3 (μ := m_X12_inList) (pc := 1) dX12_inList_1 rfl rfl ?_
  refine w_callV (As := [.int x3]) (rest := []) (μ := m_X12_inList) (pc := 2) dX12_inList_2 cv_X12_293 rfl rfl k0 (by decide) rfl (Nat.le_of_ble_eq_true rfl) (d' := d - 1) (by omega) he_i (c_X12_lowerBits wt hl (d := d - 1) (by omega) k0) (fun r_1 => ?_)
  refine w_istore [(6, .int r_1.1), (0, .ref a0), (1, .int x1), (2, .int x2), (3, .int x3), (4, .int x4), (5, .int x5)] (μ := m_X12_inList) (pc := 5) dX12_inList_5 (by decide) rfl ?_
  refine w_aload_n 1 0 (μ := m_X12_inList) (pc := 7) dX12_inList_7 rfl rfl ?_
  refine w_iload 5 (μ := m_X12_inList) (pc := 8) dX12_inList_8 rfl ?_
  refine w_iload 6 (μ := m_X12_inList) (pc := 10) dX12_inList_10 rfl ?_
  refine w_iload 0 (μ := m_X12_inList) (pc := 12) dX12_inList_12 rfl ?_
  refine w_callV (As := [.int x4, .int x5, .int r_1.1]) (rest := []) (μ := m_X12_inList) (pc := 14) dX12_inList_14 cv_X12_296 rfl rfl k0 (by decide) rfl (Nat.le_of_ble_eq_true rfl) (d' := d - 1) (by omega) he_i (c_X12_lists wt hl (d := d - 1) (by omega) k0) (fun r_2 => ?_)
  refine w_istore [(7, .int r_2.1), (6, .int r_1.1), (0, .ref a0), (1, .int x1), (2, .int x2), (3, .int x3), (4, .int x4), (5, .int x5)] (μ := m_X12_inList) (pc := 17) dX12_inList_17 (by decide) rfl ?_
  refine w_aload_n 2 0 (μ := m_X12_inList) (pc := 19) dX12_inList_19 rfl rfl ?_
  refine w_iload_n 3 1 (μ := m_X12_inList) (pc := 20) dX12_inList_20 rfl rfl ?_
  refine w_iload_n 4 2 (μ := m_X12_inList) (pc := 21) dX12_inList_21 rfl rfl ?_
  refine w_iload 1 (μ := m_X12_inList) (pc := 22) dX12_inList_22 rfl ?_
  refine w_ishr (μ := m_X12_inList) (pc := 24) dX12_inList_24 ?_
  refine w_iload_n 5 3 (μ := m_X12_inList) (pc := 25) dX12_inList_25 rfl rfl ?_
  refine w_iload 1 (μ := m_X12_inList) (pc := 26) dX12_inList_26 rfl ?_
  refine w_isub (μ := m_X12_inList) (pc := 28) dX12_inList_28 ?_
  refine w_iload 0 (μ := m_X12_inList) (pc := 29) dX12_inList_29 rfl ?_
  refine w_aload_n 2 0 (μ := m_X12_inList) (pc := 31) dX12_inList_31 rfl rfl ?_
  refine w_getI (μ := m_X12_inList) (pc := 32) dX12_inList_32 fl_X12_290 ir_12_36 k0 ?_
  refine w_callV (As := [.int x1, .int (x2 >>> (r_1.1 &&& 31)), .int (x3 - r_1.1), .int r_2.1, .int (q_I r_2.2 12 36 a0)]) (rest := []) (μ := m_X12_inList) (pc := 35) dX12_inList_35 cv_X12_299 rfl rfl k0 (by decide) rfl (Nat.le_of_ble_eq_true rfl) (d' := dh) (by omega) he_i (hT _ _ _ _ _ _ _ k0) (fun r_3 => ?_)
  refine w_istore [(8, .int r_3.1), (7, .int r_2.1), (6, .int r_1.1), (0, .ref a0), (1, .int x1), (2, .int x2), (3, .int x3), (4, .int x4), (5, .int x5)] (μ := m_X12_inList) (pc := 38) dX12_inList_38 (by decide) rfl ?_
  refine w_aload_n 3 0 (μ := m_X12_inList) (pc := 40) dX12_inList_40 rfl rfl ?_
  refine w_iload 1 (μ := m_X12_inList) (pc := 41) dX12_inList_41 rfl ?_
  refine w_putI (μ := m_X12_inList) (pc := 43) dX12_inList_43 fl_X12_290 flw_12_36 ir_12_36 k0 ?_
  refine w_bd (fun δ_4 e_5 => ?_)
  refine w_iload 0 (μ := m_X12_inList) (pc := 46) dX12_inList_46 rfl ?_
  exact w_iret (μ := m_X12_inList) (pc := 48) dX12_inList_48 rfl rfl
def B_X12_inRoom (N : Nat) (g : gp) (T : Nat → Int32 → Int32 → Int32 → Int32 → Int32 → dp → Option (Int32 × dp)) (a0 : Nat) (x1 : Int32) (x2 : Int32) (x3 : Int32) (x4 : Int32) (x5 : Int32) (δ : dp) : Option (Int32 × dp) :=
  (D_X12_lowerBits N g a0 x3 δ).bind fun r_1 => (D_X12_rooms N g a0 x4 x5 r_1.1 (x2 >>> (r_1.1 &&& 31)) r_1.2).bind fun r_2 => (T a0 x1 (x2 &&& ((1 <<< (r_1.1 &&& 31)) - 1)) r_1.1 r_2.1 (q_I r_2.2 12 36 a0) r_2.2).bind fun r_3 => bd (s_I r_3.2 12 36 a0 r_2.1) fun δ_4 => some (r_3.1, δ_4)
set_option maxHeartbeats 4000000 in
set_option maxRecDepth 100000 in
theorem c_b_X12_inRoom {l : Launch} {D : va_G} {cy : Nat → ClassId} {N d : Nat} {g : gp} (wt : WT g) (hl : l.stackTraces = false) {T : Nat → Int32 → Int32 → Int32 → Int32 → Int32 → dp → Option (Int32 × dp)} {dh : Nat} (hT : ∀ (a0 : Nat) (x1 : Int32) (x2 : Int32) (x3 : Int32) (x4 : Int32) (x5 : Int32) (δ : dp), q_K g a0 = 12 → CalD l D cy m_X12_touch dh 0 0 ei g [.ref a0, .int x1, .int x2, .int x3, .int x4, .int x5] δ (T a0 x1 x2 x3 x4 x5 δ)) (hh : dh + 1 ≤ d) (hd : 2 ≤ d) {a0 : Nat} {x1 : Int32} {x2 : Int32} {x3 : Int32} {x4 : Int32} {x5 : Int32} {δ : dp} (k0 : q_K g a0 = 12) : CalD l D cy m_X12_inRoom d 0 0 ei g [.ref a0, .int x1, .int x2, .int x3, .int x4, .int x5] δ (B_X12_inRoom N g T a0 x1 x2 x3 x4 x5 δ) := by
  refine CalD.of (by decide +kernel) (Nat.le_of_ble_eq_true rfl) hl ?_
  unfold B_X12_inRoom
  refine w_aload_n 0 0 (μ := m_X12_inRoom) (pc := 0) dX12_inRoom_0 rfl rfl ?_
  refine w_iload_n 3 3 (μ := m_X12_inRoom) (pc := 1) dX12_inRoom_1 rfl rfl ?_
  refine w_callV (As := [.int x3]) (rest := []) (μ := m_X12_inRoom) (pc := 2) dX12_inRoom_2 cv_X12_293 rfl rfl k0 (by decide) rfl (Nat.le_of_ble_eq_true rfl) (d' := d - 1) (by omega) he_i (c_X12_lowerBits wt hl (d := d - 1) (by omega) k0) (fun r_1 => ?_)
  refine w_istore [(6, .int r_1.1), (0, .ref a0), (1, .int x1), (2, .int x2), (3, .int x3), (4, .int x4), (5, .int x5)] (μ := m_X12_inRoom) (pc := 5) dX12_inRoom_5 (by decide) rfl ?_
  refine w_aload_n 1 0 (μ := m_X12_inRoom) (pc := 7) dX12_inRoom_7 rfl rfl ?_
  refine w_iload 5 (μ := m_X12_inRoom) (pc := 8) dX12_inRoom_8 rfl ?_
  refine w_iload 6 (μ := m_X12_inRoom) (pc := 10) dX12_inRoom_10 rfl ?_
  refine w_iload 0 (μ := m_X12_inRoom) (pc := 12) dX12_inRoom_12 rfl ?_
  refine w_iload_n 3 2 (μ := m_X12_inRoom) (pc := 14) dX12_inRoom_14 rfl rfl ?_
  refine w_iload 0 (μ := m_X12_inRoom) (pc := 15) dX12_inRoom_15 rfl ?_
  refine w_ishr (μ := m_X12_inRoom) (pc := 17) dX12_inRoom_17 ?_
  refine w_callV (As := [.int x4, .int x5, .int r_1.1, .int (x2 >>> (r_1.1 &&& 31))]) (rest := []) (μ := m_X12_inRoom) (pc := 18) dX12_inRoom_18 cv_X12_303 rfl rfl k0 (by decide) rfl (Nat.le_of_ble_eq_true rfl) (d' := d - 1) (by omega) he_i (c_X12_rooms wt hl (d := d - 1) (by omega) k0) (fun r_2 => ?_)
  refine w_istore [(7, .int r_2.1), (6, .int r_1.1), (0, .ref a0), (1, .int x1), (2, .int x2), (3, .int x3), (4, .int x4), (5, .int x5)] (μ := m_X12_inRoom) (pc := 21) dX12_inRoom_21 (by decide) rfl ?_
  refine w_aload_n 2 0 (μ := m_X12_inRoom) (pc := 23) dX12_inRoom_23 rfl rfl ?_
  refine w_iload_n 3 1 (μ := m_X12_inRoom) (pc := 24) dX12_inRoom_24 rfl rfl ?_
  refine w_iload_n 4 2 (μ := m_X12_inRoom) (pc := 25) dX12_inRoom_25 rfl rfl ?_
  refine w_iconst (v := 1) (μ := m_X12_inRoom) (pc := 26) dX12_inRoom_26 (by decide) ?_
  refine w_iload 1 (μ := m_X12_inRoom) (pc := 27) dX12_inRoom_27 rfl ?_
  refine w_ishl (μ := m_X12_inRoom) (pc := 29) dX12_inRoom_29 ?_
  refine w_iconst (v := 1) (μ := m_X12_inRoom) (pc := 30) dX12_inRoom_30 (by decide) ?_
  refine w_isub (μ := m_X12_inRoom) (pc := 31) dX12_inRoom_31 ?_
  refine w_iand (μ := m_X12_inRoom) (pc := 32) dX12_inRoom_32 ?_
  refine w_iload 1 (μ := m_X12_inRoom) (pc := 33) dX12_inRoom_33 rfl ?_
  refine w_iload 0 (μ := m_X12_inRoom) (pc := 35) dX12_inRoom_35 rfl ?_
  refine w_aload_n 2 0 (μ := m_X12_inRoom) (pc := 37) dX12_inRoom_37 rfl rfl ?_
  refine w_getI (μ := m_X12_inRoom) (pc := 38) dX12_inRoom_38 fl_X12_290 ir_12_36 k0 ?_
  refine w_callV (As := [.int x1, .int (x2 &&& ((1 <<< (r_1.1 &&& 31)) - 1)), .int r_1.1, .int r_2.1, .int (q_I r_2.2 12 36 a0)]) (rest := []) (μ := m_X12_inRoom) (pc := 41) dX12_inRoom_41 cv_X12_299 rfl rfl k0 (by decide) rfl (Nat.le_of_ble_eq_true rfl) (d' := dh) (by omega) he_i (hT _ _ _ _ _ _ _ k0) (fun r_3 => ?_)
  refine w_istore [(8, .int r_3.1), (7, .int r_2.1), (6, .int r_1.1), (0, .ref a0), (1, .int x1), (2, .int x2), (3, .int x3), (4, .int x4), (5, .int x5)] (μ := m_X12_inRoom) (pc := 44) dX12_inRoom_44 (by decide) rfl ?_
  refine w_aload_n 3 0 (μ := m_X12_inRoom) (pc := 46) dX12_inRoom_46 rfl rfl ?_
  refine w_iload 1 (μ := m_X12_inRoom) (pc := 47) dX12_inRoom_47 rfl ?_
  refine w_putI (μ := m_X12_inRoom) (pc := 49) dX12_inRoom_49 fl_X12_290 flw_12_36 ir_12_36 k0 ?_
  refine w_bd (fun δ_4 e_5 => ?_)
  refine w_iload 0 (μ := m_X12_inRoom) (pc := 52) dX12_inRoom_52 rfl ?_
  exact w_iret (μ := m_X12_inRoom) (pc := 54) dX12_inRoom_54 rfl rfl
def J_X12_touchPut_39 (N : Nat) (g : gp) (T : Nat → Int32 → Int32 → Int32 → Int32 → Int32 → dp → Option (Int32 × dp)) (a0 : Nat) (x1 : Int32) (x2 : Int32) (x3 : Int32) (x4 : Int32) (δ : dp) : Option (Int32 × dp) :=
  some (1, δ)
set_option maxHeartbeats 4000000 in
set_option maxRecDepth 100000 in
theorem t_J_X12_touchPut_39 {l : Launch} {D : va_G} {cy : Nat → ClassId} {N d : Nat} {g : gp} (wt : WT g) (hl : l.stackTraces = false) {T : Nat → Int32 → Int32 → Int32 → Int32 → Int32 → dp → Option (Int32 × dp)} {dh : Nat} (hT : ∀ (a0 : Nat) (x1 : Int32) (x2 : Int32) (x3 : Int32) (x4 : Int32) (x5 : Int32) (δ : dp), q_K g a0 = 12 → CalD l D cy m_X12_touch dh 0 0 ei g [.ref a0, .int x1, .int x2, .int x3, .int x4, .int x5] δ (T a0 x1 x2 x3 x4 x5 δ)) (hh : dh + 2 ≤ d) (hd : 3 ≤ d) {a0 : Nat} {x1 : Int32} {x2 : Int32} {x3 : Int32} {x4 : Int32} (k0 : q_K g a0 = 12) : ∀ (δ : dp), AWD l D cy m_X12_touchPut d 0 0 ei g 39 [] [] δ (J_X12_touchPut_39 N g T a0 x1 x2 x3 x4 δ) := by
    intro  δ 
    unfold J_X12_touchPut_39
    refine w_iconst (v := 1) (μ := m_X12_touchPut) (pc := 39) dX12_touchPut_39 (by decide) ?_
    exact w_iret (μ := m_X12_touchPut) (pc := 40) dX12_touchPut_40 rfl rfl
def J_X12_touchPut_108 (N : Nat) (g : gp) (T : Nat → Int32 → Int32 → Int32 → Int32 → Int32 → dp → Option (Int32 × dp)) (a0 : Nat) (x1 : Int32) (x2 : Int32) (x3 : Int32) (x4 : Int32) (xs0 : Int32) (δ : dp) : Option (Int32 × dp) :=
  some (xs0, δ)
set_option maxHeartbeats 4000000 in
set_option maxRecDepth 100000 in
theorem t_J_X12_touchPut_108 {l : Launch} {D : va_G} {cy : Nat → ClassId} {N d : Nat} {g : gp} (wt : WT g) (hl : l.stackTraces = false) {T : Nat → Int32 → Int32 → Int32 → Int32 → Int32 → dp → Option (Int32 × dp)} {dh : Nat} (hT : ∀ (a0 : Nat) (x1 : Int32) (x2 : Int32) (x3 : Int32) (x4 : Int32) (x5 : Int32) (δ : dp), q_K g a0 = 12 → CalD l D cy m_X12_touch dh 0 0 ei g [.ref a0, .int x1, .int x2, .int x3, .int x4, .int x5] δ (T a0 x1 x2 x3 x4 x5 δ)) (hh : dh + 2 ≤ d) (hd : 3 ≤ d) {a0 : Nat} {x1 : Int32} {x2 : Int32} {x3 : Int32} {x4 : Int32} (k0 : q_K g a0 = 12) : ∀ (xs0 : Int32) (δ : dp), AWD l D cy m_X12_touchPut d 0 0 ei g 108 [] [.int xs0] δ (J_X12_touchPut_108 N g T a0 x1 x2 x3 x4 xs0 δ) := by
    intro xs0 δ 
    unfold J_X12_touchPut_108
    exact w_iret (μ := m_X12_touchPut) (pc := 108) dX12_touchPut_108 rfl rfl
def J_X12_touchPut_64 (N : Nat) (g : gp) (T : Nat → Int32 → Int32 → Int32 → Int32 → Int32 → dp → Option (Int32 × dp)) (a0 : Nat) (x1 : Int32) (x2 : Int32) (x3 : Int32) (x4 : Int32) (xs0 : Int32) (δ : dp) : Option (Int32 × dp) :=
  (D_X12_roomMany N g a0 xs0 x2 x3 x4 δ).bind fun r_14 => if r_14.1 = 0 then ((B_X12_inList N g T a0 0 xs0 x2 x3 x4 r_14.2).bind fun r_17 => J_X12_touchPut_108 N g T a0 x1 x2 x3 x4 (2 + r_17.1) r_17.2) else ((B_X12_inRoom N g T a0 0 xs0 x2 x3 x4 r_14.2).bind fun r_16 => J_X12_touchPut_108 N g T a0 x1 x2 x3 x4 (1 + r_16.1) r_16.2)
set_option maxHeartbeats 4000000 in
set_option maxRecDepth 100000 in
theorem t_J_X12_touchPut_64 {l : Launch} {D : va_G} {cy : Nat → ClassId} {N d : Nat} {g : gp} (wt : WT g) (hl : l.stackTraces = false) {T : Nat → Int32 → Int32 → Int32 → Int32 → Int32 → dp → Option (Int32 × dp)} {dh : Nat} (hT : ∀ (a0 : Nat) (x1 : Int32) (x2 : Int32) (x3 : Int32) (x4 : Int32) (x5 : Int32) (δ : dp), q_K g a0 = 12 → CalD l D cy m_X12_touch dh 0 0 ei g [.ref a0, .int x1, .int x2, .int x3, .int x4, .int x5] δ (T a0 x1 x2 x3 x4 x5 δ)) (hh : dh + 2 ≤ d) (hd : 3 ≤ d) {a0 : Nat} {x1 : Int32} {x2 : Int32} {x3 : Int32} {x4 : Int32} (k0 : q_K g a0 = 12) : ∀ (xs0 : Int32) (δ : dp), AWD l D cy m_X12_touchPut d 0 0 ei g 64 [(0, .ref a0), (2, .int x2), (3, .int x3), (4, .int x4)] [.int xs0] δ (J_X12_touchPut_64 N g T a0 x1 x2 x3 x4 xs0 δ) := by
    intro xs0 δ 
    unfold J_X12_touchPut_64
    refine w_istore [(7, .int xs0), (0, .ref a0), (2, .int x2), (3, .int x3), (4, .int x4)] (μ := m_X12_touchPut) (pc := 64) dX12_touchPut_64 (by decide) rfl ?_
    refine w_aload_n 1 0 (μ := m_X12_touchPut) (pc := 66) dX12_touchPut_66 rfl rfl ?_
    refine w_iload 0 (μ := m_X12_touchPut) (pc := 67) dX12_touchPut_67 rfl ?_
    refine w_iload_n 2 2 (μ := m_X12_touchPut) (pc := 69) dX12_touchPut_69 rfl rfl ?_
    refine w_iload_n 3 3 (μ := m_X12_touchPut) (pc := 70) dX12_touchPut_70 rfl rfl ?_
    refine w_iload 4 (μ := m_X12_touchPut) (pc := 71) dX12_touchPut_71 rfl ?_
    refine w_callV (As := [.int xs0, .int x2, .int x3, .int x4]) (rest := []) (μ := m_X12_touchPut) (pc := 73) dX12_touchPut_73 cv_X12_313 rfl rfl k0 (by decide) rfl (Nat.le_of_ble_eq_true rfl) (d' := d - 1) (by omega) he_i (c_X12_roomMany wt hl (d := d - 1) (by omega) k0) (fun r_14 => ?_)
    refine w_if_ne 95 (μ := m_X12_touchPut) (pc := 76) dX12_touchPut_76 (by decide) (fun c_15 => ?_) (fun c_15 => ?_)
    · refine w_iconst (v := 1) (μ := m_X12_touchPut) (pc := 95) dX12_touchPut_95 (by decide) ?_
      refine w_aload_n 1 0 (μ := m_X12_touchPut) (pc := 96) dX12_touchPut_96 rfl rfl ?_
      refine w_iconst (v := 0) (μ := m_X12_touchPut) (pc := 97) dX12_touchPut_97 (by decide) ?_
      refine w_iload 0 (μ := m_X12_touchPut) (pc := 98) dX12_touchPut_98 rfl ?_
      refine w_iload_n 2 2 (μ := m_X12_touchPut) (pc := 100) dX12_touchPut_100 rfl rfl ?_
      refine w_iload_n 3 3 (μ := m_X12_touchPut) (pc := 101) dX12_touchPut_101 rfl rfl ?_
      refine w_iload 4 (μ := m_X12_touchPut) (pc := 102) dX12_touchPut_102 rfl ?_
      refine w_callV (As := [.int 0, .int xs0, .int x2, .int x3, .int x4]) (rest := [.int 1]) (μ := m_X12_touchPut) (pc := 104) dX12_touchPut_104 cv_X12_316 rfl rfl k0 (by decide) rfl (Nat.le_of_ble_eq_true rfl) (d' := d - 1) (by omega) he_i (c_b_X12_inRoom wt hl (d := d - 1) hT (by omega) (by omega) k0) (fun r_16 => ?_)
      refine w_iadd (μ := m_X12_touchPut) (pc := 107) dX12_touchPut_107 ?_
      refine w_lv [] rfl ?_
      exact t_J_X12_touchPut_108 wt hl hT (by omega) (by omega) k0 _ _
    · refine w_iconst (v := 2) (μ := m_X12_touchPut) (pc := 79) dX12_touchPut_79 (by decide) ?_
      refine w_aload_n 1 0 (μ := m_X12_touchPut) (pc := 80) dX12_touchPut_80 rfl rfl ?_
      refine w_iconst (v := 0) (μ := m_X12_touchPut) (pc := 81) dX12_touchPut_81 (by decide) ?_
      refine w_iload 0 (μ := m_X12_touchPut) (pc := 82) dX12_touchPut_82 rfl ?_
      refine w_iload_n 2 2 (μ := m_X12_touchPut) (pc := 84) dX12_touchPut_84 rfl rfl ?_
      refine w_iload_n 3 3 (μ := m_X12_touchPut) (pc := 85) dX12_touchPut_85 rfl rfl ?_
      refine w_iload 4 (μ := m_X12_touchPut) (pc := 86) dX12_touchPut_86 rfl ?_
      refine w_callV (As := [.int 0, .int xs0, .int x2, .int x3, .int x4]) (rest := [.int 2]) (μ := m_X12_touchPut) (pc := 88) dX12_touchPut_88 cv_X12_323 rfl rfl k0 (by decide) rfl (Nat.le_of_ble_eq_true rfl) (d' := d - 1) (by omega) he_i (c_b_X12_inList wt hl (d := d - 1) hT (by omega) (by omega) k0) (fun r_17 => ?_)
      refine w_iadd (μ := m_X12_touchPut) (pc := 91) dX12_touchPut_91 ?_
      refine w_goto 108 (μ := m_X12_touchPut) (pc := 92) dX12_touchPut_92 (by decide) ?_
      refine w_lv [] rfl ?_
      exact t_J_X12_touchPut_108 wt hl hT (by omega) (by omega) k0 _ _
def B_X12_touchPut (N : Nat) (g : gp) (T : Nat → Int32 → Int32 → Int32 → Int32 → Int32 → dp → Option (Int32 × dp)) (a0 : Nat) (x1 : Int32) (x2 : Int32) (x3 : Int32) (x4 : Int32) (δ : dp) : Option (Int32 × dp) :=
  (q_O g 12 35 a0).bind fun b_1 => if x3 < 0 ∨ q_N g b_1 ≤ x3.toNatClampNeg then none else bi (q_R δ b_1 x3.toNatClampNeg) fun x_3 => (q_O g 12 35 a0).bind fun b_5 => if (x4 - 1) < 0 ∨ q_N g b_5 ≤ (x4 - 1).toNatClampNeg then none else bi (q_R δ b_5 (x4 - 1).toNatClampNeg) fun x_7 => if x1 = x_3 then (J_X12_touchPut_39 N g T a0 x1 x2 x3 x4 δ) else (if x1 = x_7 then (J_X12_touchPut_39 N g T a0 x1 x2 x3 x4 δ) else (if (x4 - x3) = (1 : Int32) then (J_X12_touchPut_39 N g T a0 x1 x2 x3 x4 δ) else (if x_3 ≤ x1 then (if x1 ≤ x_7 then (J_X12_touchPut_64 N g T a0 x1 x2 x3 x4 x1 δ) else (J_X12_touchPut_64 N g T a0 x1 x2 x3 x4 x_7 δ)) else (J_X12_touchPut_64 N g T a0 x1 x2 x3 x4 x_3 δ))))
set_option maxHeartbeats 4000000 in
set_option maxRecDepth 100000 in
theorem c_b_X12_touchPut {l : Launch} {D : va_G} {cy : Nat → ClassId} {N d : Nat} {g : gp} (wt : WT g) (hl : l.stackTraces = false) {T : Nat → Int32 → Int32 → Int32 → Int32 → Int32 → dp → Option (Int32 × dp)} {dh : Nat} (hT : ∀ (a0 : Nat) (x1 : Int32) (x2 : Int32) (x3 : Int32) (x4 : Int32) (x5 : Int32) (δ : dp), q_K g a0 = 12 → CalD l D cy m_X12_touch dh 0 0 ei g [.ref a0, .int x1, .int x2, .int x3, .int x4, .int x5] δ (T a0 x1 x2 x3 x4 x5 δ)) (hh : dh + 2 ≤ d) (hd : 3 ≤ d) {a0 : Nat} {x1 : Int32} {x2 : Int32} {x3 : Int32} {x4 : Int32} {δ : dp} (k0 : q_K g a0 = 12) : CalD l D cy m_X12_touchPut d 0 0 ei g [.ref a0, .int x1, .int x2, .int x3, .int x4] δ (B_X12_touchPut N g T a0 x1 x2 x3 x4 δ) := by
  refine CalD.of (by decide +kernel) (Nat.le_of_ble_eq_true rfl) hl ?_
  unfold B_X12_touchPut
  refine w_aload_n 0 0 (μ := m_X12_touchPut) (pc := 0) dX12_touchPut_0 rfl rfl ?_
  refine w_getO (μ := m_X12_touchPut) (pc := 1) dX12_touchPut_1 fl_X12_84 ir_12_35 id_12_35 k0 (fun b_1 e_2 => ?_)
  refine w_iload_n 3 3 (μ := m_X12_touchPut) (pc := 4) dX12_touchPut_4 rfl rfl ?_
  refine w_ald (μ := m_X12_touchPut) (pc := 5) dX12_touchPut_5 (wt_12_35 wt k0 e_2) ?_
  refine w_bi (fun x_3 e_4 => ?_)
  refine w_istore [(5, .int x_3), (0, .ref a0), (1, .int x1), (2, .int x2), (3, .int x3), (4, .int x4)] (μ := m_X12_touchPut) (pc := 6) dX12_touchPut_6 (by decide) rfl ?_
  refine w_aload_n 1 0 (μ := m_X12_touchPut) (pc := 8) dX12_touchPut_8 rfl rfl ?_
  refine w_getO (μ := m_X12_touchPut) (pc := 9) dX12_touchPut_9 fl_X12_84 ir_12_35 id_12_35 k0 (fun b_5 e_6 => ?_)
  refine w_iload 5 (μ := m_X12_touchPut) (pc := 12) dX12_touchPut_12 rfl ?_
  refine w_iconst (v := 1) (μ := m_X12_touchPut) (pc := 14) dX12_touchPut_14 (by decide) ?_
  refine w_isub (μ := m_X12_touchPut) (pc := 15) dX12_touchPut_15 ?_
  refine w_ald (μ := m_X12_touchPut) (pc := 16) dX12_touchPut_16 (wt_12_35 wt k0 e_6) ?_
  refine w_bi (fun x_7 e_8 => ?_)
  refine w_istore [(6, .int x_7), (5, .int x_3), (0, .ref a0), (1, .int x1), (2, .int x2), (3, .int x3), (4, .int x4)] (μ := m_X12_touchPut) (pc := 17) dX12_touchPut_17 (by decide) rfl ?_
  refine w_iload_n 3 1 (μ := m_X12_touchPut) (pc := 19) dX12_touchPut_19 rfl rfl ?_
  refine w_iload 1 (μ := m_X12_touchPut) (pc := 20) dX12_touchPut_20 rfl ?_
  refine w_icmp_eq 39 (μ := m_X12_touchPut) (pc := 22) dX12_touchPut_22 (by decide) (fun c_9 => ?_) (fun c_9 => ?_)
  · refine w_lv [] rfl ?_
    exact t_J_X12_touchPut_39 wt hl hT (by omega) (by omega) k0 _
  · refine w_iload_n 3 1 (μ := m_X12_touchPut) (pc := 25) dX12_touchPut_25 rfl rfl ?_
    refine w_iload 0 (μ := m_X12_touchPut) (pc := 26) dX12_touchPut_26 rfl ?_
    refine w_icmp_eq 39 (μ := m_X12_touchPut) (pc := 28) dX12_touchPut_28 (by decide) (fun c_10 => ?_) (fun c_10 => ?_)
    · refine w_lv [] rfl ?_
      exact t_J_X12_touchPut_39 wt hl hT (by omega) (by omega) k0 _
    · refine w_iload 6 (μ := m_X12_touchPut) (pc := 31) dX12_touchPut_31 rfl ?_
      refine w_iload_n 5 3 (μ := m_X12_touchPut) (pc := 33) dX12_touchPut_33 rfl rfl ?_
      refine w_isub (μ := m_X12_touchPut) (pc := 34) dX12_touchPut_34 ?_
      refine w_iconst (v := 1) (μ := m_X12_touchPut) (pc := 35) dX12_touchPut_35 (by decide) ?_
      refine w_icmp_ne 41 (μ := m_X12_touchPut) (pc := 36) dX12_touchPut_36 (by decide) (fun c_11 => ?_) (fun c_11 => ?_)
      · refine w_iload_n 3 1 (μ := m_X12_touchPut) (pc := 41) dX12_touchPut_41 rfl rfl ?_
        refine w_iload 1 (μ := m_X12_touchPut) (pc := 42) dX12_touchPut_42 rfl ?_
        refine w_icmp_ge 52 (μ := m_X12_touchPut) (pc := 44) dX12_touchPut_44 (by decide) (fun c_12 => ?_) (fun c_12 => ?_)
        · refine w_iload_n 3 1 (μ := m_X12_touchPut) (pc := 52) dX12_touchPut_52 rfl rfl ?_
          refine w_iload 0 (μ := m_X12_touchPut) (pc := 53) dX12_touchPut_53 rfl ?_
          refine w_icmp_le 63 (μ := m_X12_touchPut) (pc := 55) dX12_touchPut_55 (by decide) (fun c_13 => ?_) (fun c_13 => ?_)
          · refine w_iload_n 3 1 (μ := m_X12_touchPut) (pc := 63) dX12_touchPut_63 rfl rfl ?_
            refine w_lv [2, 4, 5, 6] rfl ?_
            exact t_J_X12_touchPut_64 wt hl hT (by omega) (by omega) k0 _ _
          · refine w_iload 0 (μ := m_X12_touchPut) (pc := 58) dX12_touchPut_58 rfl ?_
            refine w_goto 64 (μ := m_X12_touchPut) (pc := 60) dX12_touchPut_60 (by decide) ?_
            refine w_lv [2, 4, 5, 6] rfl ?_
            exact t_J_X12_touchPut_64 wt hl hT (by omega) (by omega) k0 _ _
        · refine w_iload 1 (μ := m_X12_touchPut) (pc := 47) dX12_touchPut_47 rfl ?_
          refine w_goto 64 (μ := m_X12_touchPut) (pc := 49) dX12_touchPut_49 (by decide) ?_
          refine w_lv [2, 4, 5, 6] rfl ?_
          exact t_J_X12_touchPut_64 wt hl hT (by omega) (by omega) k0 _ _
      · refine w_lv [] rfl ?_
        exact t_J_X12_touchPut_39 wt hl hT (by omega) (by omega) k0 _
def J_X12_touchDrop_71 (N : Nat) (g : gp) (T : Nat → Int32 → Int32 → Int32 → Int32 → Int32 → dp → Option (Int32 × dp)) (a0 : Nat) (x1 : Int32) (x2 : Int32) (x3 : Int32) (x4 : Int32) (δ : dp) : Option (Int32 × dp) :=
  some (1, δ)
set_option maxHeartbeats 4000000 in
set_option maxRecDepth 100000 in
theorem t_J_X12_touchDrop_71 {l : Launch} {D : va_G} {cy : Nat → ClassId} {N d : Nat} {g : gp} (wt : WT g) (hl : l.stackTraces = false) {T : Nat → Int32 → Int32 → Int32 → Int32 → Int32 → dp → Option (Int32 × dp)} {dh : Nat} (hT : ∀ (a0 : Nat) (x1 : Int32) (x2 : Int32) (x3 : Int32) (x4 : Int32) (x5 : Int32) (δ : dp), q_K g a0 = 12 → CalD l D cy m_X12_touch dh 0 0 ei g [.ref a0, .int x1, .int x2, .int x3, .int x4, .int x5] δ (T a0 x1 x2 x3 x4 x5 δ)) (hh : dh + 2 ≤ d) (hd : 3 ≤ d) {a0 : Nat} {x1 : Int32} {x2 : Int32} {x3 : Int32} {x4 : Int32} (k0 : q_K g a0 = 12) : ∀ (δ : dp), AWD l D cy m_X12_touchDrop d 0 0 ei g 71 [] [] δ (J_X12_touchDrop_71 N g T a0 x1 x2 x3 x4 δ) := by
    intro  δ 
    unfold J_X12_touchDrop_71
    refine w_iconst (v := 1) (μ := m_X12_touchDrop) (pc := 71) dX12_touchDrop_71 (by decide) ?_
    exact w_iret (μ := m_X12_touchDrop) (pc := 72) dX12_touchDrop_72 rfl rfl
def J_X12_touchDrop_202 (N : Nat) (g : gp) (T : Nat → Int32 → Int32 → Int32 → Int32 → Int32 → dp → Option (Int32 × dp)) (a0 : Nat) (x1 : Int32) (x2 : Int32) (x3 : Int32) (x4 : Int32) (xs0 : Int32) (xs1 : Int32) (δ : dp) : Option (Int32 × dp) :=
  some (xs1 + xs0, δ)
set_option maxHeartbeats 4000000 in
set_option maxRecDepth 100000 in
theorem t_J_X12_touchDrop_202 {l : Launch} {D : va_G} {cy : Nat → ClassId} {N d : Nat} {g : gp} (wt : WT g) (hl : l.stackTraces = false) {T : Nat → Int32 → Int32 → Int32 → Int32 → Int32 → dp → Option (Int32 × dp)} {dh : Nat} (hT : ∀ (a0 : Nat) (x1 : Int32) (x2 : Int32) (x3 : Int32) (x4 : Int32) (x5 : Int32) (δ : dp), q_K g a0 = 12 → CalD l D cy m_X12_touch dh 0 0 ei g [.ref a0, .int x1, .int x2, .int x3, .int x4, .int x5] δ (T a0 x1 x2 x3 x4 x5 δ)) (hh : dh + 2 ≤ d) (hd : 3 ≤ d) {a0 : Nat} {x1 : Int32} {x2 : Int32} {x3 : Int32} {x4 : Int32} (k0 : q_K g a0 = 12) : ∀ (xs0 : Int32) (xs1 : Int32) (δ : dp), AWD l D cy m_X12_touchDrop d 0 0 ei g 202 [] [.int xs0, .int xs1] δ (J_X12_touchDrop_202 N g T a0 x1 x2 x3 x4 xs0 xs1 δ) := by
    intro xs0 xs1 δ 
    unfold J_X12_touchDrop_202
    refine w_iadd (μ := m_X12_touchDrop) (pc := 202) dX12_touchDrop_202 ?_
    exact w_iret (μ := m_X12_touchDrop) (pc := 203) dX12_touchDrop_203 rfl rfl
def J_X12_touchDrop_166 (N : Nat) (g : gp) (T : Nat → Int32 → Int32 → Int32 → Int32 → Int32 → dp → Option (Int32 × dp)) (a0 : Nat) (x1 : Int32) (x2 : Int32) (x3 : Int32) (x4 : Int32) (xs0 : Int32) (x8v : Int32) (x9v : Int32) (δ : dp) : Option (Int32 × dp) :=
  (B_X12_inRoom N g T a0 1 x9v x2 x3 x4 δ).bind fun r_20 => if xs0 = 0 then (J_X12_touchDrop_202 N g T a0 x1 x2 x3 x4 0 (x8v + r_20.1) r_20.2) else ((B_X12_inList N g T a0 1 x9v x2 x3 x4 r_20.2).bind fun r_22 => J_X12_touchDrop_202 N g T a0 x1 x2 x3 x4 r_22.1 (x8v + r_20.1) r_22.2)
set_option maxHeartbeats 4000000 in
set_option maxRecDepth 100000 in
theorem t_J_X12_touchDrop_166 {l : Launch} {D : va_G} {cy : Nat → ClassId} {N d : Nat} {g : gp} (wt : WT g) (hl : l.stackTraces = false) {T : Nat → Int32 → Int32 → Int32 → Int32 → Int32 → dp → Option (Int32 × dp)} {dh : Nat} (hT : ∀ (a0 : Nat) (x1 : Int32) (x2 : Int32) (x3 : Int32) (x4 : Int32) (x5 : Int32) (δ : dp), q_K g a0 = 12 → CalD l D cy m_X12_touch dh 0 0 ei g [.ref a0, .int x1, .int x2, .int x3, .int x4, .int x5] δ (T a0 x1 x2 x3 x4 x5 δ)) (hh : dh + 2 ≤ d) (hd : 3 ≤ d) {a0 : Nat} {x1 : Int32} {x2 : Int32} {x3 : Int32} {x4 : Int32} (k0 : q_K g a0 = 12) : ∀ (xs0 : Int32) (x8v : Int32) (x9v : Int32) (δ : dp), AWD l D cy m_X12_touchDrop d 0 0 ei g 166 [(0, .ref a0), (2, .int x2), (3, .int x3), (4, .int x4), (8, .int x8v), (9, .int x9v)] [.int xs0] δ (J_X12_touchDrop_166 N g T a0 x1 x2 x3 x4 xs0 x8v x9v δ) := by
    intro xs0 x8v x9v δ 
    unfold J_X12_touchDrop_166
    refine w_istore [(11, .int xs0), (0, .ref a0), (2, .int x2), (3, .int x3), (4, .int x4), (8, .int x8v), (9, .int x9v)] (μ := m_X12_touchDrop) (pc := 166) dX12_touchDrop_166 (by decide) rfl ?_
    refine w_iload 5 (μ := m_X12_touchDrop) (pc := 168) dX12_touchDrop_168 rfl ?_
    refine w_aload_n 1 0 (μ := m_X12_touchDrop) (pc := 170) dX12_touchDrop_170 rfl rfl ?_
    refine w_iconst (v := 1) (μ := m_X12_touchDrop) (pc := 171) dX12_touchDrop_171 (by decide) ?_
    refine w_iload 6 (μ := m_X12_touchDrop) (pc := 172) dX12_touchDrop_172 rfl ?_
    refine w_iload_n 2 2 (μ := m_X12_touchDrop) (pc := 174) dX12_touchDrop_174 rfl rfl ?_
    refine w_iload_n 3 3 (μ := m_X12_touchDrop) (pc := 175) dX12_touchDrop_175 rfl rfl ?_
    refine w_iload 4 (μ := m_X12_touchDrop) (pc := 176) dX12_touchDrop_176 rfl ?_
    refine w_callV (As := [.int 1, .int x9v, .int x2, .int x3, .int x4]) (rest := [.int x8v]) (μ := m_X12_touchDrop) (pc := 178) dX12_touchDrop_178 cv_X12_316 rfl rfl k0 (by decide) rfl (Nat.le_of_ble_eq_true rfl) (d' := d - 1) (by omega) he_i (c_b_X12_inRoom wt hl (d := d - 1) hT (by omega) (by omega) k0) (fun r_20 => ?_)
    refine w_iadd (μ := m_X12_touchDrop) (pc := 181) dX12_touchDrop_181 ?_
    refine w_iload 0 (μ := m_X12_touchDrop) (pc := 182) dX12_touchDrop_182 rfl ?_
    refine w_if_eq 201 (μ := m_X12_touchDrop) (pc := 184) dX12_touchDrop_184 (by decide) (fun c_21 => ?_) (fun c_21 => ?_)
    · refine w_iconst (v := 0) (μ := m_X12_touchDrop) (pc := 201) dX12_touchDrop_201 (by decide) ?_
      refine w_lv [] rfl ?_
      exact t_J_X12_touchDrop_202 wt hl hT (by omega) (by omega) k0 _ _ _
    · refine w_aload_n 1 0 (μ := m_X12_touchDrop) (pc := 187) dX12_touchDrop_187 rfl rfl ?_
      refine w_iconst (v := 1) (μ := m_X12_touchDrop) (pc := 188) dX12_touchDrop_188 (by decide) ?_
      refine w_iload 6 (μ := m_X12_touchDrop) (pc := 189) dX12_touchDrop_189 rfl ?_
      refine w_iload_n 2 2 (μ := m_X12_touchDrop) (pc := 191) dX12_touchDrop_191 rfl rfl ?_
      refine w_iload_n 3 3 (μ := m_X12_touchDrop) (pc := 192) dX12_touchDrop_192 rfl rfl ?_
      refine w_iload 4 (μ := m_X12_touchDrop) (pc := 193) dX12_touchDrop_193 rfl ?_
      refine w_callV (As := [.int 1, .int x9v, .int x2, .int x3, .int x4]) (rest := [.int (x8v + r_20.1)]) (μ := m_X12_touchDrop) (pc := 195) dX12_touchDrop_195 cv_X12_323 rfl rfl k0 (by decide) rfl (Nat.le_of_ble_eq_true rfl) (d' := d - 1) (by omega) he_i (c_b_X12_inList wt hl (d := d - 1) hT (by omega) (by omega) k0) (fun r_22 => ?_)
      refine w_goto 202 (μ := m_X12_touchDrop) (pc := 198) dX12_touchDrop_198 (by decide) ?_
      refine w_lv [] rfl ?_
      exact t_J_X12_touchDrop_202 wt hl hT (by omega) (by omega) k0 _ _ _
def J_X12_touchDrop_165 (N : Nat) (g : gp) (T : Nat → Int32 → Int32 → Int32 → Int32 → Int32 → dp → Option (Int32 × dp)) (a0 : Nat) (x1 : Int32) (x2 : Int32) (x3 : Int32) (x4 : Int32) (x8v : Int32) (x9v : Int32) (δ : dp) : Option (Int32 × dp) :=
  J_X12_touchDrop_166 N g T a0 x1 x2 x3 x4 0 x8v x9v δ
set_option maxHeartbeats 4000000 in
set_option maxRecDepth 100000 in
theorem t_J_X12_touchDrop_165 {l : Launch} {D : va_G} {cy : Nat → ClassId} {N d : Nat} {g : gp} (wt : WT g) (hl : l.stackTraces = false) {T : Nat → Int32 → Int32 → Int32 → Int32 → Int32 → dp → Option (Int32 × dp)} {dh : Nat} (hT : ∀ (a0 : Nat) (x1 : Int32) (x2 : Int32) (x3 : Int32) (x4 : Int32) (x5 : Int32) (δ : dp), q_K g a0 = 12 → CalD l D cy m_X12_touch dh 0 0 ei g [.ref a0, .int x1, .int x2, .int x3, .int x4, .int x5] δ (T a0 x1 x2 x3 x4 x5 δ)) (hh : dh + 2 ≤ d) (hd : 3 ≤ d) {a0 : Nat} {x1 : Int32} {x2 : Int32} {x3 : Int32} {x4 : Int32} (k0 : q_K g a0 = 12) : ∀ (x8v : Int32) (x9v : Int32) (δ : dp), AWD l D cy m_X12_touchDrop d 0 0 ei g 165 [(0, .ref a0), (2, .int x2), (3, .int x3), (4, .int x4), (8, .int x8v), (9, .int x9v)] [] δ (J_X12_touchDrop_165 N g T a0 x1 x2 x3 x4 x8v x9v δ) := by
    intro x8v x9v δ 
    unfold J_X12_touchDrop_165
    refine w_iconst (v := 0) (μ := m_X12_touchDrop) (pc := 165) dX12_touchDrop_165 (by decide) ?_
    exact t_J_X12_touchDrop_166 wt hl hT (by omega) (by omega) k0 _ _ _ _
def J_X12_touchDrop_121 (N : Nat) (g : gp) (T : Nat → Int32 → Int32 → Int32 → Int32 → Int32 → dp → Option (Int32 × dp)) (a0 : Nat) (x1 : Int32) (x2 : Int32) (x3 : Int32) (x4 : Int32) (xs0 : Int32) (x8v : Int32) (δ : dp) : Option (Int32 × dp) :=
  (D_X12_roomMany N g a0 xs0 x2 x3 x4 δ).bind fun r_17 => if r_17.1 = 0 then (some (x8v, r_17.2)) else (if r_17.1 = (1 : Int32) then ((D_X12_isInside N g a0 xs0 x3 x4 r_17.2).bind fun r_23 => if r_23.1 = 0 then (J_X12_touchDrop_165 N g T a0 x1 x2 x3 x4 x8v xs0 r_23.2) else (J_X12_touchDrop_166 N g T a0 x1 x2 x3 x4 1 x8v xs0 r_23.2)) else (J_X12_touchDrop_165 N g T a0 x1 x2 x3 x4 x8v xs0 r_17.2))
set_option maxHeartbeats 4000000 in
set_option maxRecDepth 100000 in
theorem t_J_X12_touchDrop_121 {l : Launch} {D : va_G} {cy : Nat → ClassId} {N d : Nat} {g : gp} (wt : WT g) (hl : l.stackTraces = false) {T : Nat → Int32 → Int32 → Int32 → Int32 → Int32 → dp → Option (Int32 × dp)} {dh : Nat} (hT : ∀ (a0 : Nat) (x1 : Int32) (x2 : Int32) (x3 : Int32) (x4 : Int32) (x5 : Int32) (δ : dp), q_K g a0 = 12 → CalD l D cy m_X12_touch dh 0 0 ei g [.ref a0, .int x1, .int x2, .int x3, .int x4, .int x5] δ (T a0 x1 x2 x3 x4 x5 δ)) (hh : dh + 2 ≤ d) (hd : 3 ≤ d) {a0 : Nat} {x1 : Int32} {x2 : Int32} {x3 : Int32} {x4 : Int32} (k0 : q_K g a0 = 12) : ∀ (xs0 : Int32) (x8v : Int32) (δ : dp), AWD l D cy m_X12_touchDrop d 0 0 ei g 121 [(0, .ref a0), (2, .int x2), (3, .int x3), (4, .int x4), (8, .int x8v)] [.int xs0] δ (J_X12_touchDrop_121 N g T a0 x1 x2 x3 x4 xs0 x8v δ) := by
    intro xs0 x8v δ 
    unfold J_X12_touchDrop_121
    refine w_istore [(9, .int xs0), (0, .ref a0), (2, .int x2), (3, .int x3), (4, .int x4), (8, .int x8v)] (μ := m_X12_touchDrop) (pc := 121) dX12_touchDrop_121 (by decide) rfl ?_
    refine w_aload_n 1 0 (μ := m_X12_touchDrop) (pc := 123) dX12_touchDrop_123 rfl rfl ?_
    refine w_iload 0 (μ := m_X12_touchDrop) (pc := 124) dX12_touchDrop_124 rfl ?_
    refine w_iload_n 2 2 (μ := m_X12_touchDrop) (pc := 126) dX12_touchDrop_126 rfl rfl ?_
    refine w_iload_n 3 3 (μ := m_X12_touchDrop) (pc := 127) dX12_touchDrop_127 rfl rfl ?_
    refine w_iload 4 (μ := m_X12_touchDrop) (pc := 128) dX12_touchDrop_128 rfl ?_
    refine w_callV (As := [.int xs0, .int x2, .int x3, .int x4]) (rest := []) (μ := m_X12_touchDrop) (pc := 130) dX12_touchDrop_130 cv_X12_313 rfl rfl k0 (by decide) rfl (Nat.le_of_ble_eq_true rfl) (d' := d - 1) (by omega) he_i (c_X12_roomMany wt hl (d := d - 1) (by omega) k0) (fun r_17 => ?_)
    refine w_istore [(10, .int r_17.1), (9, .int xs0), (0, .ref a0), (2, .int x2), (3, .int x3), (4, .int x4), (8, .int x8v)] (μ := m_X12_touchDrop) (pc := 133) dX12_touchDrop_133 (by decide) rfl ?_
    refine w_iload 0 (μ := m_X12_touchDrop) (pc := 135) dX12_touchDrop_135 rfl ?_
    refine w_if_ne 143 (μ := m_X12_touchDrop) (pc := 137) dX12_touchDrop_137 (by decide) (fun c_18 => ?_) (fun c_18 => ?_)
    · refine w_iload 0 (μ := m_X12_touchDrop) (pc := 143) dX12_touchDrop_143 rfl ?_
      refine w_iconst (v := 1) (μ := m_X12_touchDrop) (pc := 145) dX12_touchDrop_145 (by decide) ?_
      refine w_icmp_ne 165 (μ := m_X12_touchDrop) (pc := 146) dX12_touchDrop_146 (by decide) (fun c_19 => ?_) (fun c_19 => ?_)
      · refine w_lv [2, 3, 4, 5, 6, 1] rfl ?_
        exact t_J_X12_touchDrop_165 wt hl hT (by omega) (by omega) k0 _ _ _
      · refine w_aload_n 2 0 (μ := m_X12_touchDrop) (pc := 149) dX12_touchDrop_149 rfl rfl ?_
        refine w_iload 1 (μ := m_X12_touchDrop) (pc := 150) dX12_touchDrop_150 rfl ?_
        refine w_iload_n 4 3 (μ := m_X12_touchDrop) (pc := 152) dX12_touchDrop_152 rfl rfl ?_
        refine w_iload 5 (μ := m_X12_touchDrop) (pc := 153) dX12_touchDrop_153 rfl ?_
        refine w_callV (As := [.int xs0, .int x3, .int x4]) (rest := []) (μ := m_X12_touchDrop) (pc := 155) dX12_touchDrop_155 cv_X12_326 rfl rfl k0 (by decide) rfl (Nat.le_of_ble_eq_true rfl) (d' := d - 1) (by omega) he_i (c_X12_isInside wt hl (d := d - 1) (by omega) k0) (fun r_23 => ?_)
        refine w_if_eq 165 (μ := m_X12_touchDrop) (pc := 158) dX12_touchDrop_158 (by decide) (fun c_24 => ?_) (fun c_24 => ?_)
        · refine w_lv [2, 3, 4, 5, 6, 1] rfl ?_
          exact t_J_X12_touchDrop_165 wt hl hT (by omega) (by omega) k0 _ _ _
        · refine w_iconst (v := 1) (μ := m_X12_touchDrop) (pc := 161) dX12_touchDrop_161 (by decide) ?_
          refine w_goto 166 (μ := m_X12_touchDrop) (pc := 162) dX12_touchDrop_162 (by decide) ?_
          refine w_lv [2, 3, 4, 5, 6, 1] rfl ?_
          exact t_J_X12_touchDrop_166 wt hl hT (by omega) (by omega) k0 _ _ _ _
    · refine w_iload 6 (μ := m_X12_touchDrop) (pc := 140) dX12_touchDrop_140 rfl ?_
      exact w_iret (μ := m_X12_touchDrop) (pc := 142) dX12_touchDrop_142 rfl rfl
def J_X12_touchDrop_83 (N : Nat) (g : gp) (T : Nat → Int32 → Int32 → Int32 → Int32 → Int32 → dp → Option (Int32 × dp)) (a0 : Nat) (x1 : Int32) (x2 : Int32) (x3 : Int32) (x4 : Int32) (xs0 : Int32) (x5v : Int32) (x6v : Int32) (δ : dp) : Option (Int32 × dp) :=
  if x1 = x5v then ((q_O g 12 35 a0).bind fun b_27 => if (x3 + 1) < 0 ∨ q_N g b_27 ≤ (x3 + 1).toNatClampNeg then none else J_X12_touchDrop_121 N g T a0 x1 x2 x3 x4 (q_R δ b_27 (x3 + 1).toNatClampNeg) xs0 δ) else (if x1 = x6v then ((q_O g 12 35 a0).bind fun b_25 => if (x4 - 2) < 0 ∨ q_N g b_25 ≤ (x4 - 2).toNatClampNeg then none else J_X12_touchDrop_121 N g T a0 x1 x2 x3 x4 (q_R δ b_25 (x4 - 2).toNatClampNeg) xs0 δ) else (J_X12_touchDrop_121 N g T a0 x1 x2 x3 x4 x1 xs0 δ))
set_option maxHeartbeats 4000000 in
set_option maxRecDepth 100000 in
theorem t_J_X12_touchDrop_83 {l : Launch} {D : va_G} {cy : Nat → ClassId} {N d : Nat} {g : gp} (wt : WT g) (hl : l.stackTraces = false) {T : Nat → Int32 → Int32 → Int32 → Int32 → Int32 → dp → Option (Int32 × dp)} {dh : Nat} (hT : ∀ (a0 : Nat) (x1 : Int32) (x2 : Int32) (x3 : Int32) (x4 : Int32) (x5 : Int32) (δ : dp), q_K g a0 = 12 → CalD l D cy m_X12_touch dh 0 0 ei g [.ref a0, .int x1, .int x2, .int x3, .int x4, .int x5] δ (T a0 x1 x2 x3 x4 x5 δ)) (hh : dh + 2 ≤ d) (hd : 3 ≤ d) {a0 : Nat} {x1 : Int32} {x2 : Int32} {x3 : Int32} {x4 : Int32} (k0 : q_K g a0 = 12) : ∀ (xs0 : Int32) (x5v : Int32) (x6v : Int32) (δ : dp), AWD l D cy m_X12_touchDrop d 0 0 ei g 83 [(0, .ref a0), (1, .int x1), (2, .int x2), (3, .int x3), (4, .int x4), (5, .int x5v), (6, .int x6v)] [.int xs0] δ (J_X12_touchDrop_83 N g T a0 x1 x2 x3 x4 xs0 x5v x6v δ) := by
    intro xs0 x5v x6v δ 
    unfold J_X12_touchDrop_83
    refine w_istore [(8, .int xs0), (0, .ref a0), (1, .int x1), (2, .int x2), (3, .int x3), (4, .int x4), (5, .int x5v), (6, .int x6v)] (μ := m_X12_touchDrop) (pc := 83) dX12_touchDrop_83 (by decide) rfl ?_
    refine w_iload_n 2 1 (μ := m_X12_touchDrop) (pc := 85) dX12_touchDrop_85 rfl rfl ?_
    refine w_iload 6 (μ := m_X12_touchDrop) (pc := 86) dX12_touchDrop_86 rfl ?_
    refine w_icmp_ne 102 (μ := m_X12_touchDrop) (pc := 88) dX12_touchDrop_88 (by decide) (fun c_15 => ?_) (fun c_15 => ?_)
    · refine w_iload_n 2 1 (μ := m_X12_touchDrop) (pc := 102) dX12_touchDrop_102 rfl rfl ?_
      refine w_iload 7 (μ := m_X12_touchDrop) (pc := 103) dX12_touchDrop_103 rfl ?_
      refine w_icmp_ne 120 (μ := m_X12_touchDrop) (pc := 105) dX12_touchDrop_105 (by decide) (fun c_16 => ?_) (fun c_16 => ?_)
      · refine w_iload_n 2 1 (μ := m_X12_touchDrop) (pc := 120) dX12_touchDrop_120 rfl rfl ?_
        refine w_lv [1, 3, 4, 5, 0] rfl ?_
        exact t_J_X12_touchDrop_121 wt hl hT (by omega) (by omega) k0 _ _ _
      · refine w_aload_n 1 0 (μ := m_X12_touchDrop) (pc := 108) dX12_touchDrop_108 rfl rfl ?_
        refine w_getO (μ := m_X12_touchDrop) (pc := 109) dX12_touchDrop_109 fl_X12_84 ir_12_35 id_12_35 k0 (fun b_25 e_26 => ?_)
        refine w_iload 5 (μ := m_X12_touchDrop) (pc := 112) dX12_touchDrop_112 rfl ?_
        refine w_iconst (v := 2) (μ := m_X12_touchDrop) (pc := 114) dX12_touchDrop_114 (by decide) ?_
        refine w_isub (μ := m_X12_touchDrop) (pc := 115) dX12_touchDrop_115 ?_
        refine w_ald (μ := m_X12_touchDrop) (pc := 116) dX12_touchDrop_116 (wt_12_35 wt k0 e_26) ?_
        refine w_goto 121 (μ := m_X12_touchDrop) (pc := 117) dX12_touchDrop_117 (by decide) ?_
        refine w_lv [1, 3, 4, 5, 0] rfl ?_
        exact t_J_X12_touchDrop_121 wt hl hT (by omega) (by omega) k0 _ _ _
    · refine w_aload_n 1 0 (μ := m_X12_touchDrop) (pc := 91) dX12_touchDrop_91 rfl rfl ?_
      refine w_getO (μ := m_X12_touchDrop) (pc := 92) dX12_touchDrop_92 fl_X12_84 ir_12_35 id_12_35 k0 (fun b_27 e_28 => ?_)
      refine w_iload_n 4 3 (μ := m_X12_touchDrop) (pc := 95) dX12_touchDrop_95 rfl rfl ?_
      refine w_iconst (v := 1) (μ := m_X12_touchDrop) (pc := 96) dX12_touchDrop_96 (by decide) ?_
      refine w_iadd (μ := m_X12_touchDrop) (pc := 97) dX12_touchDrop_97 ?_
      refine w_ald (μ := m_X12_touchDrop) (pc := 98) dX12_touchDrop_98 (wt_12_35 wt k0 e_28) ?_
      refine w_goto 121 (μ := m_X12_touchDrop) (pc := 99) dX12_touchDrop_99 (by decide) ?_
      refine w_lv [1, 3, 4, 5, 0] rfl ?_
      exact t_J_X12_touchDrop_121 wt hl hT (by omega) (by omega) k0 _ _ _
def J_X12_touchDrop_73 (N : Nat) (g : gp) (T : Nat → Int32 → Int32 → Int32 → Int32 → Int32 → dp → Option (Int32 × dp)) (a0 : Nat) (x1 : Int32) (x2 : Int32) (x3 : Int32) (x4 : Int32) (x5v : Int32) (x6v : Int32) (x7v : Int32) (δ : dp) : Option (Int32 × dp) :=
  if x7v = 0 then (J_X12_touchDrop_83 N g T a0 x1 x2 x3 x4 1 x5v x6v δ) else (J_X12_touchDrop_83 N g T a0 x1 x2 x3 x4 3 x5v x6v δ)
set_option maxHeartbeats 4000000 in
set_option maxRecDepth 100000 in
theorem t_J_X12_touchDrop_73 {l : Launch} {D : va_G} {cy : Nat → ClassId} {N d : Nat} {g : gp} (wt : WT g) (hl : l.stackTraces = false) {T : Nat → Int32 → Int32 → Int32 → Int32 → Int32 → dp → Option (Int32 × dp)} {dh : Nat} (hT : ∀ (a0 : Nat) (x1 : Int32) (x2 : Int32) (x3 : Int32) (x4 : Int32) (x5 : Int32) (δ : dp), q_K g a0 = 12 → CalD l D cy m_X12_touch dh 0 0 ei g [.ref a0, .int x1, .int x2, .int x3, .int x4, .int x5] δ (T a0 x1 x2 x3 x4 x5 δ)) (hh : dh + 2 ≤ d) (hd : 3 ≤ d) {a0 : Nat} {x1 : Int32} {x2 : Int32} {x3 : Int32} {x4 : Int32} (k0 : q_K g a0 = 12) : ∀ (x5v : Int32) (x6v : Int32) (x7v : Int32) (δ : dp), AWD l D cy m_X12_touchDrop d 0 0 ei g 73 [(0, .ref a0), (1, .int x1), (2, .int x2), (3, .int x3), (4, .int x4), (5, .int x5v), (6, .int x6v), (7, .int x7v)] [] δ (J_X12_touchDrop_73 N g T a0 x1 x2 x3 x4 x5v x6v x7v δ) := by
    intro x5v x6v x7v δ 
    unfold J_X12_touchDrop_73
    refine w_iload 7 (μ := m_X12_touchDrop) (pc := 73) dX12_touchDrop_73 rfl ?_
    refine w_if_eq 82 (μ := m_X12_touchDrop) (pc := 75) dX12_touchDrop_75 (by decide) (fun c_14 => ?_) (fun c_14 => ?_)
    · refine w_iconst (v := 1) (μ := m_X12_touchDrop) (pc := 82) dX12_touchDrop_82 (by decide) ?_
      refine w_lv [0, 1, 2, 3, 4, 5, 6] rfl ?_
      exact t_J_X12_touchDrop_83 wt hl hT (by omega) (by omega) k0 _ _ _ _
    · refine w_iconst (v := 3) (μ := m_X12_touchDrop) (pc := 78) dX12_touchDrop_78 (by decide) ?_
      refine w_goto 83 (μ := m_X12_touchDrop) (pc := 79) dX12_touchDrop_79 (by decide) ?_
      refine w_lv [0, 1, 2, 3, 4, 5, 6] rfl ?_
      exact t_J_X12_touchDrop_83 wt hl hT (by omega) (by omega) k0 _ _ _ _
def J_X12_touchDrop_36 (N : Nat) (g : gp) (T : Nat → Int32 → Int32 → Int32 → Int32 → Int32 → dp → Option (Int32 × dp)) (a0 : Nat) (x1 : Int32) (x2 : Int32) (x3 : Int32) (x4 : Int32) (xs0 : Int32) (x5v : Int32) (x6v : Int32) (δ : dp) : Option (Int32 × dp) :=
  if x1 < x5v then (J_X12_touchDrop_71 N g T a0 x1 x2 x3 x4 δ) else (if x6v < x1 then (J_X12_touchDrop_71 N g T a0 x1 x2 x3 x4 δ) else (if (x4 - x3) = (1 : Int32) then (J_X12_touchDrop_71 N g T a0 x1 x2 x3 x4 δ) else (if xs0 = 0 then (J_X12_touchDrop_73 N g T a0 x1 x2 x3 x4 x5v x6v xs0 δ) else (if (x4 - x3) = (2 : Int32) then (J_X12_touchDrop_71 N g T a0 x1 x2 x3 x4 δ) else (J_X12_touchDrop_73 N g T a0 x1 x2 x3 x4 x5v x6v xs0 δ)))))
set_option maxHeartbeats 4000000 in
set_option maxRecDepth 100000 in
theorem t_J_X12_touchDrop_36 {l : Launch} {D : va_G} {cy : Nat → ClassId} {N d : Nat} {g : gp} (wt : WT g) (hl : l.stackTraces = false) {T : Nat → Int32 → Int32 → Int32 → Int32 → Int32 → dp → Option (Int32 × dp)} {dh : Nat} (hT : ∀ (a0 : Nat) (x1 : Int32) (x2 : Int32) (x3 : Int32) (x4 : Int32) (x5 : Int32) (δ : dp), q_K g a0 = 12 → CalD l D cy m_X12_touch dh 0 0 ei g [.ref a0, .int x1, .int x2, .int x3, .int x4, .int x5] δ (T a0 x1 x2 x3 x4 x5 δ)) (hh : dh + 2 ≤ d) (hd : 3 ≤ d) {a0 : Nat} {x1 : Int32} {x2 : Int32} {x3 : Int32} {x4 : Int32} (k0 : q_K g a0 = 12) : ∀ (xs0 : Int32) (x5v : Int32) (x6v : Int32) (δ : dp), AWD l D cy m_X12_touchDrop d 0 0 ei g 36 [(0, .ref a0), (1, .int x1), (2, .int x2), (3, .int x3), (4, .int x4), (5, .int x5v), (6, .int x6v)] [.int xs0] δ (J_X12_touchDrop_36 N g T a0 x1 x2 x3 x4 xs0 x5v x6v δ) := by
    intro xs0 x5v x6v δ 
    unfold J_X12_touchDrop_36
    refine w_istore [(7, .int xs0), (0, .ref a0), (1, .int x1), (2, .int x2), (3, .int x3), (4, .int x4), (5, .int x5v), (6, .int x6v)] (μ := m_X12_touchDrop) (pc := 36) dX12_touchDrop_36 (by decide) rfl ?_
    refine w_iload_n 2 1 (μ := m_X12_touchDrop) (pc := 38) dX12_touchDrop_38 rfl rfl ?_
    refine w_iload 6 (μ := m_X12_touchDrop) (pc := 39) dX12_touchDrop_39 rfl ?_
    refine w_icmp_lt 71 (μ := m_X12_touchDrop) (pc := 41) dX12_touchDrop_41 (by decide) (fun c_10 => ?_) (fun c_10 => ?_)
    · refine w_lv [] rfl ?_
      exact t_J_X12_touchDrop_71 wt hl hT (by omega) (by omega) k0 _
    · refine w_iload_n 2 1 (μ := m_X12_touchDrop) (pc := 44) dX12_touchDrop_44 rfl rfl ?_
      refine w_iload 7 (μ := m_X12_touchDrop) (pc := 45) dX12_touchDrop_45 rfl ?_
      refine w_icmp_gt 71 (μ := m_X12_touchDrop) (pc := 47) dX12_touchDrop_47 (by decide) (fun c_11 => ?_) (fun c_11 => ?_)
      · refine w_lv [] rfl ?_
        exact t_J_X12_touchDrop_71 wt hl hT (by omega) (by omega) k0 _
      · refine w_iload 5 (μ := m_X12_touchDrop) (pc := 50) dX12_touchDrop_50 rfl ?_
        refine w_iload_n 4 3 (μ := m_X12_touchDrop) (pc := 52) dX12_touchDrop_52 rfl rfl ?_
        refine w_isub (μ := m_X12_touchDrop) (pc := 53) dX12_touchDrop_53 ?_
        refine w_iconst (v := 1) (μ := m_X12_touchDrop) (pc := 54) dX12_touchDrop_54 (by decide) ?_
        refine w_icmp_eq 71 (μ := m_X12_touchDrop) (pc := 55) dX12_touchDrop_55 (by decide) (fun c_12 => ?_) (fun c_12 => ?_)
        · refine w_lv [] rfl ?_
          exact t_J_X12_touchDrop_71 wt hl hT (by omega) (by omega) k0 _
        · refine w_iload 0 (μ := m_X12_touchDrop) (pc := 58) dX12_touchDrop_58 rfl ?_
          refine w_if_eq 73 (μ := m_X12_touchDrop) (pc := 60) dX12_touchDrop_60 (by decide) (fun c_13 => ?_) (fun c_13 => ?_)
          · refine w_lv [1, 2, 3, 4, 5, 6, 7, 0] rfl ?_
            exact t_J_X12_touchDrop_73 wt hl hT (by omega) (by omega) k0 _ _ _ _
          · refine w_iload 5 (μ := m_X12_touchDrop) (pc := 63) dX12_touchDrop_63 rfl ?_
            refine w_iload_n 4 3 (μ := m_X12_touchDrop) (pc := 65) dX12_touchDrop_65 rfl rfl ?_
            refine w_isub (μ := m_X12_touchDrop) (pc := 66) dX12_touchDrop_66 ?_
            refine w_iconst (v := 2) (μ := m_X12_touchDrop) (pc := 67) dX12_touchDrop_67 (by decide) ?_
            refine w_icmp_ne 73 (μ := m_X12_touchDrop) (pc := 68) dX12_touchDrop_68 (by decide) (fun c_29 => ?_) (fun c_29 => ?_)
            · refine w_lv [1, 2, 3, 4, 5, 6, 7, 0] rfl ?_
              exact t_J_X12_touchDrop_73 wt hl hT (by omega) (by omega) k0 _ _ _ _
            · refine w_lv [] rfl ?_
              exact t_J_X12_touchDrop_71 wt hl hT (by omega) (by omega) k0 _
def J_X12_touchDrop_31 (N : Nat) (g : gp) (T : Nat → Int32 → Int32 → Int32 → Int32 → Int32 → dp → Option (Int32 × dp)) (a0 : Nat) (x1 : Int32) (x2 : Int32) (x3 : Int32) (x4 : Int32) (x5v : Int32) (x6v : Int32) (δ : dp) : Option (Int32 × dp) :=
  J_X12_touchDrop_36 N g T a0 x1 x2 x3 x4 1 x5v x6v δ
set_option maxHeartbeats 4000000 in
set_option maxRecDepth 100000 in
theorem t_J_X12_touchDrop_31 {l : Launch} {D : va_G} {cy : Nat → ClassId} {N d : Nat} {g : gp} (wt : WT g) (hl : l.stackTraces = false) {T : Nat → Int32 → Int32 → Int32 → Int32 → Int32 → dp → Option (Int32 × dp)} {dh : Nat} (hT : ∀ (a0 : Nat) (x1 : Int32) (x2 : Int32) (x3 : Int32) (x4 : Int32) (x5 : Int32) (δ : dp), q_K g a0 = 12 → CalD l D cy m_X12_touch dh 0 0 ei g [.ref a0, .int x1, .int x2, .int x3, .int x4, .int x5] δ (T a0 x1 x2 x3 x4 x5 δ)) (hh : dh + 2 ≤ d) (hd : 3 ≤ d) {a0 : Nat} {x1 : Int32} {x2 : Int32} {x3 : Int32} {x4 : Int32} (k0 : q_K g a0 = 12) : ∀ (x5v : Int32) (x6v : Int32) (δ : dp), AWD l D cy m_X12_touchDrop d 0 0 ei g 31 [(0, .ref a0), (1, .int x1), (2, .int x2), (3, .int x3), (4, .int x4), (5, .int x5v), (6, .int x6v)] [] δ (J_X12_touchDrop_31 N g T a0 x1 x2 x3 x4 x5v x6v δ) := by
    intro x5v x6v δ 
    unfold J_X12_touchDrop_31
    refine w_iconst (v := 1) (μ := m_X12_touchDrop) (pc := 31) dX12_touchDrop_31 (by decide) ?_
    refine w_goto 36 (μ := m_X12_touchDrop) (pc := 32) dX12_touchDrop_32 (by decide) ?_
    exact t_J_X12_touchDrop_36 wt hl hT (by omega) (by omega) k0 _ _ _ _
def B_X12_touchDrop (N : Nat) (g : gp) (T : Nat → Int32 → Int32 → Int32 → Int32 → Int32 → dp → Option (Int32 × dp)) (a0 : Nat) (x1 : Int32) (x2 : Int32) (x3 : Int32) (x4 : Int32) (δ : dp) : Option (Int32 × dp) :=
  (q_O g 12 35 a0).bind fun b_1 => if x3 < 0 ∨ q_N g b_1 ≤ x3.toNatClampNeg then none else bi (q_R δ b_1 x3.toNatClampNeg) fun x_3 => (q_O g 12 35 a0).bind fun b_5 => if (x4 - 1) < 0 ∨ q_N g b_5 ≤ (x4 - 1).toNatClampNeg then none else bi (q_R δ b_5 (x4 - 1).toNatClampNeg) fun x_7 => if x1 = x_3 then (J_X12_touchDrop_31 N g T a0 x1 x2 x3 x4 x_3 x_7 δ) else (if x1 = x_7 then (J_X12_touchDrop_31 N g T a0 x1 x2 x3 x4 x_3 x_7 δ) else (J_X12_touchDrop_36 N g T a0 x1 x2 x3 x4 0 x_3 x_7 δ))
set_option maxHeartbeats 4000000 in
set_option maxRecDepth 100000 in
theorem c_b_X12_touchDrop {l : Launch} {D : va_G} {cy : Nat → ClassId} {N d : Nat} {g : gp} (wt : WT g) (hl : l.stackTraces = false) {T : Nat → Int32 → Int32 → Int32 → Int32 → Int32 → dp → Option (Int32 × dp)} {dh : Nat} (hT : ∀ (a0 : Nat) (x1 : Int32) (x2 : Int32) (x3 : Int32) (x4 : Int32) (x5 : Int32) (δ : dp), q_K g a0 = 12 → CalD l D cy m_X12_touch dh 0 0 ei g [.ref a0, .int x1, .int x2, .int x3, .int x4, .int x5] δ (T a0 x1 x2 x3 x4 x5 δ)) (hh : dh + 2 ≤ d) (hd : 3 ≤ d) {a0 : Nat} {x1 : Int32} {x2 : Int32} {x3 : Int32} {x4 : Int32} {δ : dp} (k0 : q_K g a0 = 12) : CalD l D cy m_X12_touchDrop d 0 0 ei g [.ref a0, .int x1, .int x2, .int x3, .int x4] δ (B_X12_touchDrop N g T a0 x1 x2 x3 x4 δ) := by
  refine CalD.of (by decide +kernel) (Nat.le_of_ble_eq_true rfl) hl ?_
  unfold B_X12_touchDrop
  refine w_aload_n 0 0 (μ := m_X12_touchDrop) (pc := 0) dX12_touchDrop_0 rfl rfl ?_
  refine w_getO (μ := m_X12_touchDrop) (pc := 1) dX12_touchDrop_1 fl_X12_84 ir_12_35 id_12_35 k0 (fun b_1 e_2 => ?_)
  refine w_iload_n 3 3 (μ := m_X12_touchDrop) (pc := 4) dX12_touchDrop_4 rfl rfl ?_
  refine w_ald (μ := m_X12_touchDrop) (pc := 5) dX12_touchDrop_5 (wt_12_35 wt k0 e_2) ?_
  refine w_bi (fun x_3 e_4 => ?_)
  refine w_istore [(5, .int x_3), (0, .ref a0), (1, .int x1), (2, .int x2), (3, .int x3), (4, .int x4)] (μ := m_X12_touchDrop) (pc := 6) dX12_touchDrop_6 (by decide) rfl ?_
  refine w_aload_n 1 0 (μ := m_X12_touchDrop) (pc := 8) dX12_touchDrop_8 rfl rfl ?_
  refine w_getO (μ := m_X12_touchDrop) (pc := 9) dX12_touchDrop_9 fl_X12_84 ir_12_35 id_12_35 k0 (fun b_5 e_6 => ?_)
  refine w_iload 5 (μ := m_X12_touchDrop) (pc := 12) dX12_touchDrop_12 rfl ?_
  refine w_iconst (v := 1) (μ := m_X12_touchDrop) (pc := 14) dX12_touchDrop_14 (by decide) ?_
  refine w_isub (μ := m_X12_touchDrop) (pc := 15) dX12_touchDrop_15 ?_
  refine w_ald (μ := m_X12_touchDrop) (pc := 16) dX12_touchDrop_16 (wt_12_35 wt k0 e_6) ?_
  refine w_bi (fun x_7 e_8 => ?_)
  refine w_istore [(6, .int x_7), (5, .int x_3), (0, .ref a0), (1, .int x1), (2, .int x2), (3, .int x3), (4, .int x4)] (μ := m_X12_touchDrop) (pc := 17) dX12_touchDrop_17 (by decide) rfl ?_
  refine w_iload_n 3 1 (μ := m_X12_touchDrop) (pc := 19) dX12_touchDrop_19 rfl rfl ?_
  refine w_iload 1 (μ := m_X12_touchDrop) (pc := 20) dX12_touchDrop_20 rfl ?_
  refine w_icmp_eq 31 (μ := m_X12_touchDrop) (pc := 22) dX12_touchDrop_22 (by decide) (fun c_9 => ?_) (fun c_9 => ?_)
  · refine w_lv [2, 3, 4, 5, 6, 1, 0] rfl ?_
    exact t_J_X12_touchDrop_31 wt hl hT (by omega) (by omega) k0 _ _ _
  · refine w_iload_n 3 1 (μ := m_X12_touchDrop) (pc := 25) dX12_touchDrop_25 rfl rfl ?_
    refine w_iload 0 (μ := m_X12_touchDrop) (pc := 26) dX12_touchDrop_26 rfl ?_
    refine w_icmp_ne 35 (μ := m_X12_touchDrop) (pc := 28) dX12_touchDrop_28 (by decide) (fun c_30 => ?_) (fun c_30 => ?_)
    · refine w_iconst (v := 0) (μ := m_X12_touchDrop) (pc := 35) dX12_touchDrop_35 (by decide) ?_
      refine w_lv [2, 3, 4, 5, 6, 1, 0] rfl ?_
      exact t_J_X12_touchDrop_36 wt hl hT (by omega) (by omega) k0 _ _ _ _
    · refine w_lv [2, 3, 4, 5, 6, 1, 0] rfl ?_
      exact t_J_X12_touchDrop_31 wt hl hT (by omega) (by omega) k0 _ _ _
def J_X12_touch_15 (N : Nat) (g : gp) (T : Nat → Int32 → Int32 → Int32 → Int32 → Int32 → dp → Option (Int32 × dp)) (a0 : Nat) (x1 : Int32) (x2 : Int32) (x3 : Int32) (x4 : Int32) (x5 : Int32) (δ : dp) : Option (Int32 × dp) :=
  some (1, δ)
set_option maxHeartbeats 4000000 in
set_option maxRecDepth 100000 in
theorem t_J_X12_touch_15 {l : Launch} {D : va_G} {cy : Nat → ClassId} {N d : Nat} {g : gp} (wt : WT g) (hl : l.stackTraces = false) {T : Nat → Int32 → Int32 → Int32 → Int32 → Int32 → dp → Option (Int32 × dp)} {dh : Nat} (hT : ∀ (a0 : Nat) (x1 : Int32) (x2 : Int32) (x3 : Int32) (x4 : Int32) (x5 : Int32) (δ : dp), q_K g a0 = 12 → CalD l D cy m_X12_touch dh 0 0 ei g [.ref a0, .int x1, .int x2, .int x3, .int x4, .int x5] δ (T a0 x1 x2 x3 x4 x5 δ)) (hh : dh + 3 ≤ d) (hd : 4 ≤ d) {a0 : Nat} {x1 : Int32} {x2 : Int32} {x3 : Int32} {x4 : Int32} {x5 : Int32} (k0 : q_K g a0 = 12) : ∀ (δ : dp), AWD l D cy m_X12_touch d 0 0 ei g 15 [] [] δ (J_X12_touch_15 N g T a0 x1 x2 x3 x4 x5 δ) := by
    intro  δ 
    unfold J_X12_touch_15
    refine w_iconst (v := 1) (μ := m_X12_touch) (pc := 15) dX12_touch_15 (by decide) ?_
    exact w_iret (μ := m_X12_touch) (pc := 16) dX12_touch_16 rfl rfl
def J_X12_touch_174 (N : Nat) (g : gp) (T : Nat → Int32 → Int32 → Int32 → Int32 → Int32 → dp → Option (Int32 × dp)) (a0 : Nat) (x1 : Int32) (x2 : Int32) (x3 : Int32) (x4 : Int32) (x5 : Int32) (δ : dp) : Option (Int32 × dp) :=
  some (1, δ)
set_option maxHeartbeats 4000000 in
set_option maxRecDepth 100000 in
theorem t_J_X12_touch_174 {l : Launch} {D : va_G} {cy : Nat → ClassId} {N d : Nat} {g : gp} (wt : WT g) (hl : l.stackTraces = false) {T : Nat → Int32 → Int32 → Int32 → Int32 → Int32 → dp → Option (Int32 × dp)} {dh : Nat} (hT : ∀ (a0 : Nat) (x1 : Int32) (x2 : Int32) (x3 : Int32) (x4 : Int32) (x5 : Int32) (δ : dp), q_K g a0 = 12 → CalD l D cy m_X12_touch dh 0 0 ei g [.ref a0, .int x1, .int x2, .int x3, .int x4, .int x5] δ (T a0 x1 x2 x3 x4 x5 δ)) (hh : dh + 3 ≤ d) (hd : 4 ≤ d) {a0 : Nat} {x1 : Int32} {x2 : Int32} {x3 : Int32} {x4 : Int32} {x5 : Int32} (k0 : q_K g a0 = 12) : ∀ (δ : dp), AWD l D cy m_X12_touch d 0 0 ei g 174 [] [] δ (J_X12_touch_174 N g T a0 x1 x2 x3 x4 x5 δ) := by
    intro  δ 
    unfold J_X12_touch_174
    refine w_iconst (v := 1) (μ := m_X12_touch) (pc := 174) dX12_touch_174 (by decide) ?_
    exact w_iret (μ := m_X12_touch) (pc := 175) dX12_touch_175 rfl rfl
def J_X12_touch_349 (N : Nat) (g : gp) (T : Nat → Int32 → Int32 → Int32 → Int32 → Int32 → dp → Option (Int32 × dp)) (a0 : Nat) (x1 : Int32) (x2 : Int32) (x3 : Int32) (x4 : Int32) (x5 : Int32) (xs0 : Int32) (xs1 : Int32) (δ : dp) : Option (Int32 × dp) :=
  some (xs1 + xs0, δ)
set_option maxHeartbeats 4000000 in
set_option maxRecDepth 100000 in
theorem t_J_X12_touch_349 {l : Launch} {D : va_G} {cy : Nat → ClassId} {N d : Nat} {g : gp} (wt : WT g) (hl : l.stackTraces = false) {T : Nat → Int32 → Int32 → Int32 → Int32 → Int32 → dp → Option (Int32 × dp)} {dh : Nat} (hT : ∀ (a0 : Nat) (x1 : Int32) (x2 : Int32) (x3 : Int32) (x4 : Int32) (x5 : Int32) (δ : dp), q_K g a0 = 12 → CalD l D cy m_X12_touch dh 0 0 ei g [.ref a0, .int x1, .int x2, .int x3, .int x4, .int x5] δ (T a0 x1 x2 x3 x4 x5 δ)) (hh : dh + 3 ≤ d) (hd : 4 ≤ d) {a0 : Nat} {x1 : Int32} {x2 : Int32} {x3 : Int32} {x4 : Int32} {x5 : Int32} (k0 : q_K g a0 = 12) : ∀ (xs0 : Int32) (xs1 : Int32) (δ : dp), AWD l D cy m_X12_touch d 0 0 ei g 349 [] [.int xs0, .int xs1] δ (J_X12_touch_349 N g T a0 x1 x2 x3 x4 x5 xs0 xs1 δ) := by
    intro xs0 xs1 δ 
    unfold J_X12_touch_349
    refine w_iadd (μ := m_X12_touch) (pc := 349) dX12_touch_349 ?_
    exact w_iret (μ := m_X12_touch) (pc := 350) dX12_touch_350 rfl rfl
def J_X12_touch_323 (N : Nat) (g : gp) (T : Nat → Int32 → Int32 → Int32 → Int32 → Int32 → dp → Option (Int32 × dp)) (a0 : Nat) (x1 : Int32) (x2 : Int32) (x3 : Int32) (x4 : Int32) (x5 : Int32) (xs0 : Int32) (x9v : Int32) (δ : dp) : Option (Int32 × dp) :=
  (B_X12_inList N g T a0 x1 x2 x3 x4 x5 δ).bind fun r_25 => if xs0 = 0 then (J_X12_touch_349 N g T a0 x1 x2 x3 x4 x5 0 (x9v + r_25.1) r_25.2) else (J_X12_touch_349 N g T a0 x1 x2 x3 x4 x5 1 (x9v + r_25.1) r_25.2)
set_option maxHeartbeats 4000000 in
set_option maxRecDepth 100000 in
theorem t_J_X12_touch_323 {l : Launch} {D : va_G} {cy : Nat → ClassId} {N d : Nat} {g : gp} (wt : WT g) (hl : l.stackTraces = false) {T : Nat → Int32 → Int32 → Int32 → Int32 → Int32 → dp → Option (Int32 × dp)} {dh : Nat} (hT : ∀ (a0 : Nat) (x1 : Int32) (x2 : Int32) (x3 : Int32) (x4 : Int32) (x5 : Int32) (δ : dp), q_K g a0 = 12 → CalD l D cy m_X12_touch dh 0 0 ei g [.ref a0, .int x1, .int x2, .int x3, .int x4, .int x5] δ (T a0 x1 x2 x3 x4 x5 δ)) (hh : dh + 3 ≤ d) (hd : 4 ≤ d) {a0 : Nat} {x1 : Int32} {x2 : Int32} {x3 : Int32} {x4 : Int32} {x5 : Int32} (k0 : q_K g a0 = 12) : ∀ (xs0 : Int32) (x9v : Int32) (δ : dp), AWD l D cy m_X12_touch d 0 0 ei g 323 [(0, .ref a0), (1, .int x1), (2, .int x2), (3, .int x3), (4, .int x4), (5, .int x5), (9, .int x9v)] [.int xs0] δ (J_X12_touch_323 N g T a0 x1 x2 x3 x4 x5 xs0 x9v δ) := by
    intro xs0 x9v δ 
    unfold J_X12_touch_323
    refine w_istore [(11, .int xs0), (0, .ref a0), (1, .int x1), (2, .int x2), (3, .int x3), (4, .int x4), (5, .int x5), (9, .int x9v)] (μ := m_X12_touch) (pc := 323) dX12_touch_323 (by decide) rfl ?_
    refine w_iload 7 (μ := m_X12_touch) (pc := 325) dX12_touch_325 rfl ?_
    refine w_aload_n 1 0 (μ := m_X12_touch) (pc := 327) dX12_touch_327 rfl rfl ?_
    refine w_iload_n 2 1 (μ := m_X12_touch) (pc := 328) dX12_touch_328 rfl rfl ?_
    refine w_iload_n 3 2 (μ := m_X12_touch) (pc := 329) dX12_touch_329 rfl rfl ?_
    refine w_iload_n 4 3 (μ := m_X12_touch) (pc := 330) dX12_touch_330 rfl rfl ?_
    refine w_iload 5 (μ := m_X12_touch) (pc := 331) dX12_touch_331 rfl ?_
    refine w_iload 6 (μ := m_X12_touch) (pc := 333) dX12_touch_333 rfl ?_
    refine w_callV (As := [.int x1, .int x2, .int x3, .int x4, .int x5]) (rest := [.int x9v]) (μ := m_X12_touch) (pc := 335) dX12_touch_335 cv_X12_323 rfl rfl k0 (by decide) rfl (Nat.le_of_ble_eq_true rfl) (d' := d - 1) (by omega) he_i (c_b_X12_inList wt hl (d := d - 1) hT (by omega) (by omega) k0) (fun r_25 => ?_)
    refine w_iadd (μ := m_X12_touch) (pc := 338) dX12_touch_338 ?_
    refine w_iload 0 (μ := m_X12_touch) (pc := 339) dX12_touch_339 rfl ?_
    refine w_if_eq 348 (μ := m_X12_touch) (pc := 341) dX12_touch_341 (by decide) (fun c_26 => ?_) (fun c_26 => ?_)
    · refine w_iconst (v := 0) (μ := m_X12_touch) (pc := 348) dX12_touch_348 (by decide) ?_
      refine w_lv [] rfl ?_
      exact t_J_X12_touch_349 wt hl hT (by omega) (by omega) k0 _ _ _
    · refine w_iconst (v := 1) (μ := m_X12_touch) (pc := 344) dX12_touch_344 (by decide) ?_
      refine w_goto 349 (μ := m_X12_touch) (pc := 345) dX12_touch_345 (by decide) ?_
      refine w_lv [] rfl ?_
      exact t_J_X12_touch_349 wt hl hT (by omega) (by omega) k0 _ _ _
def J_X12_touch_267 (N : Nat) (g : gp) (T : Nat → Int32 → Int32 → Int32 → Int32 → Int32 → dp → Option (Int32 × dp)) (a0 : Nat) (x1 : Int32) (x2 : Int32) (x3 : Int32) (x4 : Int32) (x5 : Int32) (x9v : Int32) (x10v : Int32) (δ : dp) : Option (Int32 × dp) :=
  if x1 = (3 : Int32) then ((q_O g 12 35 a0).bind fun b_27 => if (x5 - 2) < 0 ∨ q_N g b_27 ≤ (x5 - 2).toNatClampNeg then none else if ((q_R δ b_27 (x5 - 2).toNatClampNeg) >>> (x10v &&& 31)) ≤ (x2 >>> (x10v &&& 31)) then (J_X12_touch_323 N g T a0 x1 x2 x3 x4 x5 0 x9v δ) else (J_X12_touch_323 N g T a0 x1 x2 x3 x4 x5 1 x9v δ)) else ((q_O g 12 35 a0).bind fun b_22 => if (x4 + 1) < 0 ∨ q_N g b_22 ≤ (x4 + 1).toNatClampNeg then none else if (x2 >>> (x10v &&& 31)) ≤ ((q_R δ b_22 (x4 + 1).toNatClampNeg) >>> (x10v &&& 31)) then (J_X12_touch_323 N g T a0 x1 x2 x3 x4 x5 0 x9v δ) else (J_X12_touch_323 N g T a0 x1 x2 x3 x4 x5 1 x9v δ))
set_option maxHeartbeats 4000000 in
set_option maxRecDepth 100000 in
theorem t_J_X12_touch_267 {l : Launch} {D : va_G} {cy : Nat → ClassId} {N d : Nat} {g : gp} (wt : WT g) (hl : l.stackTraces = false) {T : Nat → Int32 → Int32 → Int32 → Int32 → Int32 → dp → Option (Int32 × dp)} {dh : Nat} (hT : ∀ (a0 : Nat) (x1 : Int32) (x2 : Int32) (x3 : Int32) (x4 : Int32) (x5 : Int32) (δ : dp), q_K g a0 = 12 → CalD l D cy m_X12_touch dh 0 0 ei g [.ref a0, .int x1, .int x2, .int x3, .int x4, .int x5] δ (T a0 x1 x2 x3 x4 x5 δ)) (hh : dh + 3 ≤ d) (hd : 4 ≤ d) {a0 : Nat} {x1 : Int32} {x2 : Int32} {x3 : Int32} {x4 : Int32} {x5 : Int32} (k0 : q_K g a0 = 12) : ∀ (x9v : Int32) (x10v : Int32) (δ : dp), AWD l D cy m_X12_touch d 0 0 ei g 267 [(0, .ref a0), (1, .int x1), (2, .int x2), (3, .int x3), (4, .int x4), (5, .int x5), (9, .int x9v), (10, .int x10v)] [] δ (J_X12_touch_267 N g T a0 x1 x2 x3 x4 x5 x9v x10v δ) := by
    intro x9v x10v δ 
    unfold J_X12_touch_267
    refine w_iload_n 1 1 (μ := m_X12_touch) (pc := 267) dX12_touch_267 rfl rfl ?_
    refine w_iconst (v := 3) (μ := m_X12_touch) (pc := 268) dX12_touch_268 (by decide) ?_
    refine w_icmp_ne 299 (μ := m_X12_touch) (pc := 269) dX12_touch_269 (by decide) (fun c_21 => ?_) (fun c_21 => ?_)
    · refine w_aload_n 0 0 (μ := m_X12_touch) (pc := 299) dX12_touch_299 rfl rfl ?_
      refine w_getO (μ := m_X12_touch) (pc := 300) dX12_touch_300 fl_X12_84 ir_12_35 id_12_35 k0 (fun b_22 e_23 => ?_)
      refine w_iload 4 (μ := m_X12_touch) (pc := 303) dX12_touch_303 rfl ?_
      refine w_iconst (v := 1) (μ := m_X12_touch) (pc := 305) dX12_touch_305 (by decide) ?_
      refine w_iadd (μ := m_X12_touch) (pc := 306) dX12_touch_306 ?_
      refine w_ald (μ := m_X12_touch) (pc := 307) dX12_touch_307 (wt_12_35 wt k0 e_23) ?_
      refine w_iload 7 (μ := m_X12_touch) (pc := 308) dX12_touch_308 rfl ?_
      refine w_ishr (μ := m_X12_touch) (pc := 310) dX12_touch_310 ?_
      refine w_iload_n 2 2 (μ := m_X12_touch) (pc := 311) dX12_touch_311 rfl rfl ?_
      refine w_iload 7 (μ := m_X12_touch) (pc := 312) dX12_touch_312 rfl ?_
      refine w_ishr (μ := m_X12_touch) (pc := 314) dX12_touch_314 ?_
      refine w_icmp_ge 322 (μ := m_X12_touch) (pc := 315) dX12_touch_315 (by decide) (fun c_24 => ?_) (fun c_24 => ?_)
      · refine w_iconst (v := 0) (μ := m_X12_touch) (pc := 322) dX12_touch_322 (by decide) ?_
        refine w_lv [0, 1, 2, 3, 4, 5, 6] rfl ?_
        exact t_J_X12_touch_323 wt hl hT (by omega) (by omega) k0 _ _ _
      · refine w_iconst (v := 1) (μ := m_X12_touch) (pc := 318) dX12_touch_318 (by decide) ?_
        refine w_goto 323 (μ := m_X12_touch) (pc := 319) dX12_touch_319 (by decide) ?_
        refine w_lv [0, 1, 2, 3, 4, 5, 6] rfl ?_
        exact t_J_X12_touch_323 wt hl hT (by omega) (by omega) k0 _ _ _
    · refine w_aload_n 0 0 (μ := m_X12_touch) (pc := 272) dX12_touch_272 rfl rfl ?_
      refine w_getO (μ := m_X12_touch) (pc := 273) dX12_touch_273 fl_X12_84 ir_12_35 id_12_35 k0 (fun b_27 e_28 => ?_)
      refine w_iload 5 (μ := m_X12_touch) (pc := 276) dX12_touch_276 rfl ?_
      refine w_iconst (v := 2) (μ := m_X12_touch) (pc := 278) dX12_touch_278 (by decide) ?_
      refine w_isub (μ := m_X12_touch) (pc := 279) dX12_touch_279 ?_
      refine w_ald (μ := m_X12_touch) (pc := 280) dX12_touch_280 (wt_12_35 wt k0 e_28) ?_
      refine w_iload 7 (μ := m_X12_touch) (pc := 281) dX12_touch_281 rfl ?_
      refine w_ishr (μ := m_X12_touch) (pc := 283) dX12_touch_283 ?_
      refine w_iload_n 2 2 (μ := m_X12_touch) (pc := 284) dX12_touch_284 rfl rfl ?_
      refine w_iload 7 (μ := m_X12_touch) (pc := 285) dX12_touch_285 rfl ?_
      refine w_ishr (μ := m_X12_touch) (pc := 287) dX12_touch_287 ?_
      refine w_icmp_le 295 (μ := m_X12_touch) (pc := 288) dX12_touch_288 (by decide) (fun c_29 => ?_) (fun c_29 => ?_)
      · refine w_iconst (v := 0) (μ := m_X12_touch) (pc := 295) dX12_touch_295 (by decide) ?_
        refine w_goto 323 (μ := m_X12_touch) (pc := 296) dX12_touch_296 (by decide) ?_
        refine w_lv [0, 1, 2, 3, 4, 5, 6] rfl ?_
        exact t_J_X12_touch_323 wt hl hT (by omega) (by omega) k0 _ _ _
      · refine w_iconst (v := 1) (μ := m_X12_touch) (pc := 291) dX12_touch_291 (by decide) ?_
        refine w_goto 323 (μ := m_X12_touch) (pc := 292) dX12_touch_292 (by decide) ?_
        refine w_lv [0, 1, 2, 3, 4, 5, 6] rfl ?_
        exact t_J_X12_touch_323 wt hl hT (by omega) (by omega) k0 _ _ _
def J_X12_touch_252 (N : Nat) (g : gp) (T : Nat → Int32 → Int32 → Int32 → Int32 → Int32 → dp → Option (Int32 × dp)) (a0 : Nat) (x1 : Int32) (x2 : Int32) (x3 : Int32) (x4 : Int32) (x5 : Int32) (x9v : Int32) (δ : dp) : Option (Int32 × dp) :=
  (B_X12_inRoom N g T a0 x1 x2 x3 x4 x5 δ).bind fun r_37 => some (x9v + r_37.1, r_37.2)
set_option maxHeartbeats 4000000 in
set_option maxRecDepth 100000 in
theorem t_J_X12_touch_252 {l : Launch} {D : va_G} {cy : Nat → ClassId} {N d : Nat} {g : gp} (wt : WT g) (hl : l.stackTraces = false) {T : Nat → Int32 → Int32 → Int32 → Int32 → Int32 → dp → Option (Int32 × dp)} {dh : Nat} (hT : ∀ (a0 : Nat) (x1 : Int32) (x2 : Int32) (x3 : Int32) (x4 : Int32) (x5 : Int32) (δ : dp), q_K g a0 = 12 → CalD l D cy m_X12_touch dh 0 0 ei g [.ref a0, .int x1, .int x2, .int x3, .int x4, .int x5] δ (T a0 x1 x2 x3 x4 x5 δ)) (hh : dh + 3 ≤ d) (hd : 4 ≤ d) {a0 : Nat} {x1 : Int32} {x2 : Int32} {x3 : Int32} {x4 : Int32} {x5 : Int32} (k0 : q_K g a0 = 12) : ∀ (x9v : Int32) (δ : dp), AWD l D cy m_X12_touch d 0 0 ei g 252 [(0, .ref a0), (1, .int x1), (2, .int x2), (3, .int x3), (4, .int x4), (5, .int x5), (9, .int x9v)] [] δ (J_X12_touch_252 N g T a0 x1 x2 x3 x4 x5 x9v δ) := by
    intro x9v δ 
    unfold J_X12_touch_252
    refine w_iload 6 (μ := m_X12_touch) (pc := 252) dX12_touch_252 rfl ?_
    refine w_aload_n 0 0 (μ := m_X12_touch) (pc := 254) dX12_touch_254 rfl rfl ?_
    refine w_iload_n 1 1 (μ := m_X12_touch) (pc := 255) dX12_touch_255 rfl rfl ?_
    refine w_iload_n 2 2 (μ := m_X12_touch) (pc := 256) dX12_touch_256 rfl rfl ?_
    refine w_iload_n 3 3 (μ := m_X12_touch) (pc := 257) dX12_touch_257 rfl rfl ?_
    refine w_iload 4 (μ := m_X12_touch) (pc := 258) dX12_touch_258 rfl ?_
    refine w_iload 5 (μ := m_X12_touch) (pc := 260) dX12_touch_260 rfl ?_
    refine w_callV (As := [.int x1, .int x2, .int x3, .int x4, .int x5]) (rest := [.int x9v]) (μ := m_X12_touch) (pc := 262) dX12_touch_262 cv_X12_316 rfl rfl k0 (by decide) rfl (Nat.le_of_ble_eq_true rfl) (d' := d - 1) (by omega) he_i (c_b_X12_inRoom wt hl (d := d - 1) hT (by omega) (by omega) k0) (fun r_37 => ?_)
    refine w_iadd (μ := m_X12_touch) (pc := 265) dX12_touch_265 ?_
    exact w_iret (μ := m_X12_touch) (pc := 266) dX12_touch_266 rfl rfl
def J_X12_touch_158 (N : Nat) (g : gp) (T : Nat → Int32 → Int32 → Int32 → Int32 → Int32 → dp → Option (Int32 × dp)) (a0 : Nat) (x1 : Int32) (x2 : Int32) (x3 : Int32) (x4 : Int32) (x5 : Int32) (xs0 : Int32) (δ : dp) : Option (Int32 × dp) :=
  if xs0 = 0 then (if (3 : Int32) ≤ (x5 - x4) then ((D_X12_lowerBits N g a0 x3 δ).bind fun r_18 => (D_X12_roomMany N g a0 x2 x3 x4 x5 r_18.2).bind fun r_19 => if r_19.1 ≤ 0 then (J_X12_touch_267 N g T a0 x1 x2 x3 x4 x5 1 r_18.1 r_19.2) else (bi (1 + 1) fun x_30 => bi (x2 &&& ((1 <<< (r_18.1 &&& 31)) - 1)) fun x_32 => if x1 = (3 : Int32) then ((D_X12_roomEnd N g a0 x2 x3 x4 x5 0 r_19.2).bind fun r_38 => if r_38.1 ≤ x_32 then (J_X12_touch_267 N g T a0 x1 x2 x3 x4 x5 x_30 r_18.1 r_38.2) else (J_X12_touch_252 N g T a0 x1 x2 x3 x4 x5 x_30 r_38.2)) else ((D_X12_roomEnd N g a0 x2 x3 x4 x5 1 r_19.2).bind fun r_35 => if x_32 ≤ r_35.1 then (J_X12_touch_267 N g T a0 x1 x2 x3 x4 x5 x_30 r_18.1 r_35.2) else (J_X12_touch_252 N g T a0 x1 x2 x3 x4 x5 x_30 r_35.2)))) else (J_X12_touch_174 N g T a0 x1 x2 x3 x4 x5 δ)) else (J_X12_touch_174 N g T a0 x1 x2 x3 x4 x5 δ)
set_option maxHeartbeats 4000000 in
set_option maxRecDepth 100000 in
theorem t_J_X12_touch_158 {l : Launch} {D : va_G} {cy : Nat → ClassId} {N d : Nat} {g : gp} (wt : WT g) (hl : l.stackTraces = false) {T : Nat → Int32 → Int32 → Int32 → Int32 → Int32 → dp → Option (Int32 × dp)} {dh : Nat} (hT : ∀ (a0 : Nat) (x1 : Int32) (x2 : Int32) (x3 : Int32) (x4 : Int32) (x5 : Int32) (δ : dp), q_K g a0 = 12 → CalD l D cy m_X12_touch dh 0 0 ei g [.ref a0, .int x1, .int x2, .int x3, .int x4, .int x5] δ (T a0 x1 x2 x3 x4 x5 δ)) (hh : dh + 3 ≤ d) (hd : 4 ≤ d) {a0 : Nat} {x1 : Int32} {x2 : Int32} {x3 : Int32} {x4 : Int32} {x5 : Int32} (k0 : q_K g a0 = 12) : ∀ (xs0 : Int32) (δ : dp), AWD l D cy m_X12_touch d 0 0 ei g 158 [(0, .ref a0), (1, .int x1), (2, .int x2), (3, .int x3), (4, .int x4), (5, .int x5)] [.int xs0] δ (J_X12_touch_158 N g T a0 x1 x2 x3 x4 x5 xs0 δ) := by
    intro xs0 δ 
    unfold J_X12_touch_158
    refine w_istore [(8, .int xs0), (0, .ref a0), (1, .int x1), (2, .int x2), (3, .int x3), (4, .int x4), (5, .int x5)] (μ := m_X12_touch) (pc := 158) dX12_touch_158 (by decide) rfl ?_
    refine w_iload 0 (μ := m_X12_touch) (pc := 160) dX12_touch_160 rfl ?_
    refine w_if_ne 174 (μ := m_X12_touch) (pc := 162) dX12_touch_162 (by decide) (fun c_16 => ?_) (fun c_16 => ?_)
    · refine w_lv [] rfl ?_
      exact t_J_X12_touch_174 wt hl hT (by omega) (by omega) k0 _
    · refine w_iload 6 (μ := m_X12_touch) (pc := 165) dX12_touch_165 rfl ?_
      refine w_iload 5 (μ := m_X12_touch) (pc := 167) dX12_touch_167 rfl ?_
      refine w_isub (μ := m_X12_touch) (pc := 169) dX12_touch_169 ?_
      refine w_iconst (v := 3) (μ := m_X12_touch) (pc := 170) dX12_touch_170 (by decide) ?_
      refine w_icmp_ge 176 (μ := m_X12_touch) (pc := 171) dX12_touch_171 (by decide) (fun c_17 => ?_) (fun c_17 => ?_)
      · refine w_iconst (v := 1) (μ := m_X12_touch) (pc := 176) dX12_touch_176 (by decide) ?_
        refine w_istore [(9, .int 1), (8, .int xs0), (0, .ref a0), (1, .int x1), (2, .int x2), (3, .int x3), (4, .int x4), (5, .int x5)] (μ := m_X12_touch) (pc := 177) dX12_touch_177 (by decide) rfl ?_
        refine w_aload_n 2 0 (μ := m_X12_touch) (pc := 179) dX12_touch_179 rfl rfl ?_
        refine w_iload_n 5 3 (μ := m_X12_touch) (pc := 180) dX12_touch_180 rfl rfl ?_
        refine w_callV (As := [.int x3]) (rest := []) (μ := m_X12_touch) (pc := 181) dX12_touch_181 cv_X12_293 rfl rfl k0 (by decide) rfl (Nat.le_of_ble_eq_true rfl) (d' := d - 1) (by omega) he_i (c_X12_lowerBits wt hl (d := d - 1) (by omega) k0) (fun r_18 => ?_)
        refine w_istore [(10, .int r_18.1), (9, .int 1), (8, .int xs0), (0, .ref a0), (1, .int x1), (2, .int x2), (3, .int x3), (4, .int x4), (5, .int x5)] (μ := m_X12_touch) (pc := 184) dX12_touch_184 (by decide) rfl ?_
        refine w_aload_n 3 0 (μ := m_X12_touch) (pc := 186) dX12_touch_186 rfl rfl ?_
        refine w_iload_n 5 2 (μ := m_X12_touch) (pc := 187) dX12_touch_187 rfl rfl ?_
        refine w_iload_n 6 3 (μ := m_X12_touch) (pc := 188) dX12_touch_188 rfl rfl ?_
        refine w_iload 7 (μ := m_X12_touch) (pc := 189) dX12_touch_189 rfl ?_
        refine w_iload 8 (μ := m_X12_touch) (pc := 191) dX12_touch_191 rfl ?_
        refine w_callV (As := [.int x2, .int x3, .int x4, .int x5]) (rest := []) (μ := m_X12_touch) (pc := 193) dX12_touch_193 cv_X12_313 rfl rfl k0 (by decide) rfl (Nat.le_of_ble_eq_true rfl) (d' := d - 1) (by omega) he_i (c_X12_roomMany wt hl (d := d - 1) (by omega) k0) (fun r_19 => ?_)
        refine w_if_le 267 (μ := m_X12_touch) (pc := 196) dX12_touch_196 (by decide) (fun c_20 => ?_) (fun c_20 => ?_)
        · refine w_lv [3, 4, 5, 6, 7, 8, 1, 0] rfl ?_
          exact t_J_X12_touch_267 wt hl hT (by omega) (by omega) k0 _ _ _
        · refine w_inb (fun x_30 e_31 => ?_)
          refine w_iinc 1 [(9, .int x_30), (10, .int r_18.1), (8, .int xs0), (0, .ref a0), (1, .int x1), (2, .int x2), (3, .int x3), (4, .int x4), (5, .int x5)] (μ := m_X12_touch) (pc := 199) dX12_touch_199 rfl (by rw [e_31]; rfl) (by decide) rfl ?_
          refine w_iload_n 5 2 (μ := m_X12_touch) (pc := 202) dX12_touch_202 rfl rfl ?_
          refine w_iconst (v := 1) (μ := m_X12_touch) (pc := 203) dX12_touch_203 (by decide) ?_
          refine w_iload 1 (μ := m_X12_touch) (pc := 204) dX12_touch_204 rfl ?_
          refine w_ishl (μ := m_X12_touch) (pc := 206) dX12_touch_206 ?_
          refine w_iconst (v := 1) (μ := m_X12_touch) (pc := 207) dX12_touch_207 (by decide) ?_
          refine w_isub (μ := m_X12_touch) (pc := 208) dX12_touch_208 ?_
          refine w_iand (μ := m_X12_touch) (pc := 209) dX12_touch_209 ?_
          refine w_bi (fun x_32 e_33 => ?_)
          refine w_istore [(11, .int x_32), (9, .int x_30), (10, .int r_18.1), (8, .int xs0), (0, .ref a0), (1, .int x1), (2, .int x2), (3, .int x3), (4, .int x4), (5, .int x5)] (μ := m_X12_touch) (pc := 210) dX12_touch_210 (by decide) rfl ?_
          refine w_iload_n 5 1 (μ := m_X12_touch) (pc := 212) dX12_touch_212 rfl rfl ?_
          refine w_iconst (v := 3) (μ := m_X12_touch) (pc := 213) dX12_touch_213 (by decide) ?_
          refine w_icmp_ne 236 (μ := m_X12_touch) (pc := 214) dX12_touch_214 (by decide) (fun c_34 => ?_) (fun c_34 => ?_)
          · refine w_iload 0 (μ := m_X12_touch) (pc := 236) dX12_touch_236 rfl ?_
            refine w_aload_n 4 0 (μ := m_X12_touch) (pc := 238) dX12_touch_238 rfl rfl ?_
            refine w_iload_n 6 2 (μ := m_X12_touch) (pc := 239) dX12_touch_239 rfl rfl ?_
            refine w_iload_n 7 3 (μ := m_X12_touch) (pc := 240) dX12_touch_240 rfl rfl ?_
            refine w_iload 8 (μ := m_X12_touch) (pc := 241) dX12_touch_241 rfl ?_
            refine w_iload 9 (μ := m_X12_touch) (pc := 243) dX12_touch_243 rfl ?_
            refine w_iconst (v := 1) (μ := m_X12_touch) (pc := 245) dX12_touch_245 (by decide) ?_
            refine w_callV (As := [.int x2, .int x3, .int x4, .int x5, .int 1]) (rest := [.int x_32]) (μ := m_X12_touch) (pc := 246) dX12_touch_246 cv_X12_319 rfl rfl k0 (by decide) rfl (Nat.le_of_ble_eq_true rfl) (d' := d - 1) (by omega) he_i (c_X12_roomEnd wt hl (d := d - 1) (by omega) k0) (fun r_35 => ?_)
            refine w_icmp_le 267 (μ := m_X12_touch) (pc := 249) dX12_touch_249 (by decide) (fun c_36 => ?_) (fun c_36 => ?_)
            · refine w_lv [4, 5, 6, 7, 8, 9, 1, 2] rfl ?_
              exact t_J_X12_touch_267 wt hl hT (by omega) (by omega) k0 _ _ _
            · refine w_lv [4, 5, 6, 7, 8, 9, 1] rfl ?_
              exact t_J_X12_touch_252 wt hl hT (by omega) (by omega) k0 _ _
          · refine w_iload 0 (μ := m_X12_touch) (pc := 217) dX12_touch_217 rfl ?_
            refine w_aload_n 4 0 (μ := m_X12_touch) (pc := 219) dX12_touch_219 rfl rfl ?_
            refine w_iload_n 6 2 (μ := m_X12_touch) (pc := 220) dX12_touch_220 rfl rfl ?_
            refine w_iload_n 7 3 (μ := m_X12_touch) (pc := 221) dX12_touch_221 rfl rfl ?_
            refine w_iload 8 (μ := m_X12_touch) (pc := 222) dX12_touch_222 rfl ?_
            refine w_iload 9 (μ := m_X12_touch) (pc := 224) dX12_touch_224 rfl ?_
            refine w_iconst (v := 0) (μ := m_X12_touch) (pc := 226) dX12_touch_226 (by decide) ?_
            refine w_callV (As := [.int x2, .int x3, .int x4, .int x5, .int 0]) (rest := [.int x_32]) (μ := m_X12_touch) (pc := 227) dX12_touch_227 cv_X12_319 rfl rfl k0 (by decide) rfl (Nat.le_of_ble_eq_true rfl) (d' := d - 1) (by omega) he_i (c_X12_roomEnd wt hl (d := d - 1) (by omega) k0) (fun r_38 => ?_)
            refine w_icmp_ge 267 (μ := m_X12_touch) (pc := 230) dX12_touch_230 (by decide) (fun c_39 => ?_) (fun c_39 => ?_)
            · refine w_lv [4, 5, 6, 7, 8, 9, 1, 2] rfl ?_
              exact t_J_X12_touch_267 wt hl hT (by omega) (by omega) k0 _ _ _
            · refine w_goto 252 (μ := m_X12_touch) (pc := 233) dX12_touch_233 (by decide) ?_
              refine w_lv [4, 5, 6, 7, 8, 9, 1] rfl ?_
              exact t_J_X12_touch_252 wt hl hT (by omega) (by omega) k0 _ _
      · refine w_lv [] rfl ?_
        exact t_J_X12_touch_174 wt hl hT (by omega) (by omega) k0 _
def J_X12_touch_153 (N : Nat) (g : gp) (T : Nat → Int32 → Int32 → Int32 → Int32 → Int32 → dp → Option (Int32 × dp)) (a0 : Nat) (x1 : Int32) (x2 : Int32) (x3 : Int32) (x4 : Int32) (x5 : Int32) (δ : dp) : Option (Int32 × dp) :=
  J_X12_touch_158 N g T a0 x1 x2 x3 x4 x5 1 δ
set_option maxHeartbeats 4000000 in
set_option maxRecDepth 100000 in
theorem t_J_X12_touch_153 {l : Launch} {D : va_G} {cy : Nat → ClassId} {N d : Nat} {g : gp} (wt : WT g) (hl : l.stackTraces = false) {T : Nat → Int32 → Int32 → Int32 → Int32 → Int32 → dp → Option (Int32 × dp)} {dh : Nat} (hT : ∀ (a0 : Nat) (x1 : Int32) (x2 : Int32) (x3 : Int32) (x4 : Int32) (x5 : Int32) (δ : dp), q_K g a0 = 12 → CalD l D cy m_X12_touch dh 0 0 ei g [.ref a0, .int x1, .int x2, .int x3, .int x4, .int x5] δ (T a0 x1 x2 x3 x4 x5 δ)) (hh : dh + 3 ≤ d) (hd : 4 ≤ d) {a0 : Nat} {x1 : Int32} {x2 : Int32} {x3 : Int32} {x4 : Int32} {x5 : Int32} (k0 : q_K g a0 = 12) : ∀ (δ : dp), AWD l D cy m_X12_touch d 0 0 ei g 153 [(0, .ref a0), (1, .int x1), (2, .int x2), (3, .int x3), (4, .int x4), (5, .int x5)] [] δ (J_X12_touch_153 N g T a0 x1 x2 x3 x4 x5 δ) := by
    intro  δ 
    unfold J_X12_touch_153
    refine w_iconst (v := 1) (μ := m_X12_touch) (pc := 153) dX12_touch_153 (by decide) ?_
    refine w_goto 158 (μ := m_X12_touch) (pc := 154) dX12_touch_154 (by decide) ?_
    exact t_J_X12_touch_158 wt hl hT (by omega) (by omega) k0 _ _
def J_X12_touch_133 (N : Nat) (g : gp) (T : Nat → Int32 → Int32 → Int32 → Int32 → Int32 → dp → Option (Int32 × dp)) (a0 : Nat) (x1 : Int32) (x2 : Int32) (x3 : Int32) (x4 : Int32) (x5 : Int32) (δ : dp) : Option (Int32 × dp) :=
  J_X12_touch_158 N g T a0 x1 x2 x3 x4 x5 1 δ
set_option maxHeartbeats 4000000 in
set_option maxRecDepth 100000 in
theorem t_J_X12_touch_133 {l : Launch} {D : va_G} {cy : Nat → ClassId} {N d : Nat} {g : gp} (wt : WT g) (hl : l.stackTraces = false) {T : Nat → Int32 → Int32 → Int32 → Int32 → Int32 → dp → Option (Int32 × dp)} {dh : Nat} (hT : ∀ (a0 : Nat) (x1 : Int32) (x2 : Int32) (x3 : Int32) (x4 : Int32) (x5 : Int32) (δ : dp), q_K g a0 = 12 → CalD l D cy m_X12_touch dh 0 0 ei g [.ref a0, .int x1, .int x2, .int x3, .int x4, .int x5] δ (T a0 x1 x2 x3 x4 x5 δ)) (hh : dh + 3 ≤ d) (hd : 4 ≤ d) {a0 : Nat} {x1 : Int32} {x2 : Int32} {x3 : Int32} {x4 : Int32} {x5 : Int32} (k0 : q_K g a0 = 12) : ∀ (δ : dp), AWD l D cy m_X12_touch d 0 0 ei g 133 [(0, .ref a0), (1, .int x1), (2, .int x2), (3, .int x3), (4, .int x4), (5, .int x5)] [] δ (J_X12_touch_133 N g T a0 x1 x2 x3 x4 x5 δ) := by
    intro  δ 
    unfold J_X12_touch_133
    refine w_iconst (v := 1) (μ := m_X12_touch) (pc := 133) dX12_touch_133 (by decide) ?_
    refine w_goto 158 (μ := m_X12_touch) (pc := 134) dX12_touch_134 (by decide) ?_
    exact t_J_X12_touch_158 wt hl hT (by omega) (by omega) k0 _ _
def J_X12_touch_115 (N : Nat) (g : gp) (T : Nat → Int32 → Int32 → Int32 → Int32 → Int32 → dp → Option (Int32 × dp)) (a0 : Nat) (x1 : Int32) (x2 : Int32) (x3 : Int32) (x4 : Int32) (x5 : Int32) (xs0 : Int32) (δ : dp) : Option (Int32 × dp) :=
  some (xs0, δ)
set_option maxHeartbeats 4000000 in
set_option maxRecDepth 100000 in
theorem t_J_X12_touch_115 {l : Launch} {D : va_G} {cy : Nat → ClassId} {N d : Nat} {g : gp} (wt : WT g) (hl : l.stackTraces = false) {T : Nat → Int32 → Int32 → Int32 → Int32 → Int32 → dp → Option (Int32 × dp)} {dh : Nat} (hT : ∀ (a0 : Nat) (x1 : Int32) (x2 : Int32) (x3 : Int32) (x4 : Int32) (x5 : Int32) (δ : dp), q_K g a0 = 12 → CalD l D cy m_X12_touch dh 0 0 ei g [.ref a0, .int x1, .int x2, .int x3, .int x4, .int x5] δ (T a0 x1 x2 x3 x4 x5 δ)) (hh : dh + 3 ≤ d) (hd : 4 ≤ d) {a0 : Nat} {x1 : Int32} {x2 : Int32} {x3 : Int32} {x4 : Int32} {x5 : Int32} (k0 : q_K g a0 = 12) : ∀ (xs0 : Int32) (δ : dp), AWD l D cy m_X12_touch d 0 0 ei g 115 [] [.int xs0] δ (J_X12_touch_115 N g T a0 x1 x2 x3 x4 x5 xs0 δ) := by
    intro xs0 δ 
    unfold J_X12_touch_115
    exact w_iret (μ := m_X12_touch) (pc := 115) dX12_touch_115 rfl rfl
def J_X12_touch_98 (N : Nat) (g : gp) (T : Nat → Int32 → Int32 → Int32 → Int32 → Int32 → dp → Option (Int32 × dp)) (a0 : Nat) (x1 : Int32) (x2 : Int32) (x3 : Int32) (x4 : Int32) (x5 : Int32) (δ : dp) : Option (Int32 × dp) :=
  J_X12_touch_115 N g T a0 x1 x2 x3 x4 x5 1 δ
set_option maxHeartbeats 4000000 in
set_option maxRecDepth 100000 in
theorem t_J_X12_touch_98 {l : Launch} {D : va_G} {cy : Nat → ClassId} {N d : Nat} {g : gp} (wt : WT g) (hl : l.stackTraces = false) {T : Nat → Int32 → Int32 → Int32 → Int32 → Int32 → dp → Option (Int32 × dp)} {dh : Nat} (hT : ∀ (a0 : Nat) (x1 : Int32) (x2 : Int32) (x3 : Int32) (x4 : Int32) (x5 : Int32) (δ : dp), q_K g a0 = 12 → CalD l D cy m_X12_touch dh 0 0 ei g [.ref a0, .int x1, .int x2, .int x3, .int x4, .int x5] δ (T a0 x1 x2 x3 x4 x5 δ)) (hh : dh + 3 ≤ d) (hd : 4 ≤ d) {a0 : Nat} {x1 : Int32} {x2 : Int32} {x3 : Int32} {x4 : Int32} {x5 : Int32} (k0 : q_K g a0 = 12) : ∀ (δ : dp), AWD l D cy m_X12_touch d 0 0 ei g 98 [] [] δ (J_X12_touch_98 N g T a0 x1 x2 x3 x4 x5 δ) := by
    intro  δ 
    unfold J_X12_touch_98
    refine w_iconst (v := 1) (μ := m_X12_touch) (pc := 98) dX12_touch_98 (by decide) ?_
    refine w_goto 115 (μ := m_X12_touch) (pc := 99) dX12_touch_99 (by decide) ?_
    exact t_J_X12_touch_115 wt hl hT (by omega) (by omega) k0 _ _
def B_X12_touch (N : Nat) (g : gp) (T : Nat → Int32 → Int32 → Int32 → Int32 → Int32 → dp → Option (Int32 × dp)) (a0 : Nat) (x1 : Int32) (x2 : Int32) (x3 : Int32) (x4 : Int32) (x5 : Int32) (δ : dp) : Option (Int32 × dp) :=
  if x3 ≤ (q_I δ 12 11 a0) then (J_X12_touch_15 N g T a0 x1 x2 x3 x4 x5 δ) else (if x4 = x5 then (J_X12_touch_15 N g T a0 x1 x2 x3 x4 x5 δ) else (if x1 = 0 then ((B_X12_touchPut N g T a0 x2 x3 x4 x5 δ).bind fun r_49 => some (r_49.1, r_49.2)) else (if x1 = (1 : Int32) then ((B_X12_touchDrop N g T a0 x2 x3 x4 x5 δ).bind fun r_48 => some (r_48.1, r_48.2)) else ((q_O g 12 35 a0).bind fun b_5 => if x4 < 0 ∨ q_N g b_5 ≤ x4.toNatClampNeg then none else bi (q_R δ b_5 x4.toNatClampNeg) fun x_7 => (q_O g 12 35 a0).bind fun b_9 => if (x5 - 1) < 0 ∨ q_N g b_9 ≤ (x5 - 1).toNatClampNeg then none else bi (q_R δ b_9 (x5 - 1).toNatClampNeg) fun x_11 => if x1 = (2 : Int32) then (if x2 ≤ x_7 then (J_X12_touch_98 N g T a0 x1 x2 x3 x4 x5 δ) else (if x_11 ≤ x2 then (J_X12_touch_98 N g T a0 x1 x2 x3 x4 x5 δ) else ((D_X12_roomMany N g a0 x2 x3 x4 x5 δ).bind fun r_45 => if r_45.1 = 0 then (J_X12_touch_98 N g T a0 x1 x2 x3 x4 x5 r_45.2) else ((B_X12_inRoom N g T a0 2 x2 x3 x4 x5 r_45.2).bind fun r_47 => J_X12_touch_115 N g T a0 x1 x2 x3 x4 x5 (1 + r_47.1) r_47.2)))) else (if x1 = (3 : Int32) then (if x2 < x_7 then (J_X12_touch_133 N g T a0 x1 x2 x3 x4 x5 δ) else (if x2 < x_11 then (J_X12_touch_158 N g T a0 x1 x2 x3 x4 x5 0 δ) else (J_X12_touch_133 N g T a0 x1 x2 x3 x4 x5 δ))) else (if x_11 < x2 then (J_X12_touch_153 N g T a0 x1 x2 x3 x4 x5 δ) else (if x_7 < x2 then (J_X12_touch_158 N g T a0 x1 x2 x3 x4 x5 0 δ) else (J_X12_touch_153 N g T a0 x1 x2 x3 x4 x5 δ))))))))
set_option maxHeartbeats 4000000 in
set_option maxRecDepth 100000 in
theorem c_b_X12_touch {l : Launch} {D : va_G} {cy : Nat → ClassId} {N d : Nat} {g : gp} (wt : WT g) (hl : l.stackTraces = false) {T : Nat → Int32 → Int32 → Int32 → Int32 → Int32 → dp → Option (Int32 × dp)} {dh : Nat} (hT : ∀ (a0 : Nat) (x1 : Int32) (x2 : Int32) (x3 : Int32) (x4 : Int32) (x5 : Int32) (δ : dp), q_K g a0 = 12 → CalD l D cy m_X12_touch dh 0 0 ei g [.ref a0, .int x1, .int x2, .int x3, .int x4, .int x5] δ (T a0 x1 x2 x3 x4 x5 δ)) (hh : dh + 3 ≤ d) (hd : 4 ≤ d) {a0 : Nat} {x1 : Int32} {x2 : Int32} {x3 : Int32} {x4 : Int32} {x5 : Int32} {δ : dp} (k0 : q_K g a0 = 12) : CalD l D cy m_X12_touch d 0 0 ei g [.ref a0, .int x1, .int x2, .int x3, .int x4, .int x5] δ (B_X12_touch N g T a0 x1 x2 x3 x4 x5 δ) := by
  refine CalD.of (by decide +kernel) (Nat.le_of_ble_eq_true rfl) hl ?_
  unfold B_X12_touch
  refine w_iload_n 3 3 (μ := m_X12_touch) (pc := 0) dX12_touch_0 rfl rfl ?_
  refine w_aload_n 0 0 (μ := m_X12_touch) (pc := 1) dX12_touch_1 rfl rfl ?_
  refine w_getI (μ := m_X12_touch) (pc := 2) dX12_touch_2 fl_X12_26 ir_12_11 k0 ?_
  refine w_icmp_le 15 (μ := m_X12_touch) (pc := 5) dX12_touch_5 (by decide) (fun c_1 => ?_) (fun c_1 => ?_)
  · refine w_lv [] rfl ?_
    exact t_J_X12_touch_15 wt hl hT (by omega) (by omega) k0 _
  · refine w_iload 4 (μ := m_X12_touch) (pc := 8) dX12_touch_8 rfl ?_
    refine w_iload 5 (μ := m_X12_touch) (pc := 10) dX12_touch_10 rfl ?_
    refine w_icmp_ne 17 (μ := m_X12_touch) (pc := 12) dX12_touch_12 (by decide) (fun c_2 => ?_) (fun c_2 => ?_)
    · refine w_iload_n 1 1 (μ := m_X12_touch) (pc := 17) dX12_touch_17 rfl rfl ?_
      refine w_if_ne 32 (μ := m_X12_touch) (pc := 18) dX12_touch_18 (by decide) (fun c_3 => ?_) (fun c_3 => ?_)
      · refine w_iload_n 1 1 (μ := m_X12_touch) (pc := 32) dX12_touch_32 rfl rfl ?_
        refine w_iconst (v := 1) (μ := m_X12_touch) (pc := 33) dX12_touch_33 (by decide) ?_
        refine w_icmp_ne 48 (μ := m_X12_touch) (pc := 34) dX12_touch_34 (by decide) (fun c_4 => ?_) (fun c_4 => ?_)
        · refine w_aload_n 0 0 (μ := m_X12_touch) (pc := 48) dX12_touch_48 rfl rfl ?_
          refine w_getO (μ := m_X12_touch) (pc := 49) dX12_touch_49 fl_X12_84 ir_12_35 id_12_35 k0 (fun b_5 e_6 => ?_)
          refine w_iload 4 (μ := m_X12_touch) (pc := 52) dX12_touch_52 rfl ?_
          refine w_ald (μ := m_X12_touch) (pc := 54) dX12_touch_54 (wt_12_35 wt k0 e_6) ?_
          refine w_bi (fun x_7 e_8 => ?_)
          refine w_istore [(6, .int x_7), (0, .ref a0), (1, .int x1), (2, .int x2), (3, .int x3), (4, .int x4), (5, .int x5)] (μ := m_X12_touch) (pc := 55) dX12_touch_55 (by decide) rfl ?_
          refine w_aload_n 1 0 (μ := m_X12_touch) (pc := 57) dX12_touch_57 rfl rfl ?_
          refine w_getO (μ := m_X12_touch) (pc := 58) dX12_touch_58 fl_X12_84 ir_12_35 id_12_35 k0 (fun b_9 e_10 => ?_)
          refine w_iload 6 (μ := m_X12_touch) (pc := 61) dX12_touch_61 rfl ?_
          refine w_iconst (v := 1) (μ := m_X12_touch) (pc := 63) dX12_touch_63 (by decide) ?_
          refine w_isub (μ := m_X12_touch) (pc := 64) dX12_touch_64 ?_
          refine w_ald (μ := m_X12_touch) (pc := 65) dX12_touch_65 (wt_12_35 wt k0 e_10) ?_
          refine w_bi (fun x_11 e_12 => ?_)
          refine w_istore [(7, .int x_11), (6, .int x_7), (0, .ref a0), (1, .int x1), (2, .int x2), (3, .int x3), (4, .int x4), (5, .int x5)] (μ := m_X12_touch) (pc := 66) dX12_touch_66 (by decide) rfl ?_
          refine w_iload_n 3 1 (μ := m_X12_touch) (pc := 68) dX12_touch_68 rfl rfl ?_
          refine w_iconst (v := 2) (μ := m_X12_touch) (pc := 69) dX12_touch_69 (by decide) ?_
          refine w_icmp_ne 116 (μ := m_X12_touch) (pc := 70) dX12_touch_70 (by decide) (fun c_13 => ?_) (fun c_13 => ?_)
          · refine w_iload_n 3 1 (μ := m_X12_touch) (pc := 116) dX12_touch_116 rfl rfl ?_
            refine w_iconst (v := 3) (μ := m_X12_touch) (pc := 117) dX12_touch_117 (by decide) ?_
            refine w_icmp_ne 141 (μ := m_X12_touch) (pc := 118) dX12_touch_118 (by decide) (fun c_14 => ?_) (fun c_14 => ?_)
            · refine w_iload_n 4 2 (μ := m_X12_touch) (pc := 141) dX12_touch_141 rfl rfl ?_
              refine w_iload 0 (μ := m_X12_touch) (pc := 142) dX12_touch_142 rfl ?_
              refine w_icmp_gt 153 (μ := m_X12_touch) (pc := 144) dX12_touch_144 (by decide) (fun c_15 => ?_) (fun c_15 => ?_)
              · refine w_lv [2, 3, 4, 5, 6, 7] rfl ?_
                exact t_J_X12_touch_153 wt hl hT (by omega) (by omega) k0 _
              · refine w_iload_n 4 2 (μ := m_X12_touch) (pc := 147) dX12_touch_147 rfl rfl ?_
                refine w_iload 1 (μ := m_X12_touch) (pc := 148) dX12_touch_148 rfl ?_
                refine w_icmp_gt 157 (μ := m_X12_touch) (pc := 150) dX12_touch_150 (by decide) (fun c_40 => ?_) (fun c_40 => ?_)
                · refine w_iconst (v := 0) (μ := m_X12_touch) (pc := 157) dX12_touch_157 (by decide) ?_
                  refine w_lv [2, 3, 4, 5, 6, 7] rfl ?_
                  exact t_J_X12_touch_158 wt hl hT (by omega) (by omega) k0 _ _
                · refine w_lv [2, 3, 4, 5, 6, 7] rfl ?_
                  exact t_J_X12_touch_153 wt hl hT (by omega) (by omega) k0 _
            · refine w_iload_n 4 2 (μ := m_X12_touch) (pc := 121) dX12_touch_121 rfl rfl ?_
              refine w_iload 1 (μ := m_X12_touch) (pc := 122) dX12_touch_122 rfl ?_
              refine w_icmp_lt 133 (μ := m_X12_touch) (pc := 124) dX12_touch_124 (by decide) (fun c_41 => ?_) (fun c_41 => ?_)
              · refine w_lv [2, 3, 4, 5, 6, 7] rfl ?_
                exact t_J_X12_touch_133 wt hl hT (by omega) (by omega) k0 _
              · refine w_iload_n 4 2 (μ := m_X12_touch) (pc := 127) dX12_touch_127 rfl rfl ?_
                refine w_iload 0 (μ := m_X12_touch) (pc := 128) dX12_touch_128 rfl ?_
                refine w_icmp_lt 137 (μ := m_X12_touch) (pc := 130) dX12_touch_130 (by decide) (fun c_42 => ?_) (fun c_42 => ?_)
                · refine w_iconst (v := 0) (μ := m_X12_touch) (pc := 137) dX12_touch_137 (by decide) ?_
                  refine w_goto 158 (μ := m_X12_touch) (pc := 138) dX12_touch_138 (by decide) ?_
                  refine w_lv [2, 3, 4, 5, 6, 7] rfl ?_
                  exact t_J_X12_touch_158 wt hl hT (by omega) (by omega) k0 _ _
                · refine w_lv [2, 3, 4, 5, 6, 7] rfl ?_
                  exact t_J_X12_touch_133 wt hl hT (by omega) (by omega) k0 _
          · refine w_iload_n 4 2 (μ := m_X12_touch) (pc := 73) dX12_touch_73 rfl rfl ?_
            refine w_iload 1 (μ := m_X12_touch) (pc := 74) dX12_touch_74 rfl ?_
            refine w_icmp_le 98 (μ := m_X12_touch) (pc := 76) dX12_touch_76 (by decide) (fun c_43 => ?_) (fun c_43 => ?_)
            · refine w_lv [] rfl ?_
              exact t_J_X12_touch_98 wt hl hT (by omega) (by omega) k0 _
            · refine w_iload_n 4 2 (μ := m_X12_touch) (pc := 79) dX12_touch_79 rfl rfl ?_
              refine w_iload 0 (μ := m_X12_touch) (pc := 80) dX12_touch_80 rfl ?_
              refine w_icmp_ge 98 (μ := m_X12_touch) (pc := 82) dX12_touch_82 (by decide) (fun c_44 => ?_) (fun c_44 => ?_)
              · refine w_lv [] rfl ?_
                exact t_J_X12_touch_98 wt hl hT (by omega) (by omega) k0 _
              · refine w_aload_n 2 0 (μ := m_X12_touch) (pc := 85) dX12_touch_85 rfl rfl ?_
                refine w_iload_n 4 2 (μ := m_X12_touch) (pc := 86) dX12_touch_86 rfl rfl ?_
                refine w_iload_n 5 3 (μ := m_X12_touch) (pc := 87) dX12_touch_87 rfl rfl ?_
                refine w_iload 6 (μ := m_X12_touch) (pc := 88) dX12_touch_88 rfl ?_
                refine w_iload 7 (μ := m_X12_touch) (pc := 90) dX12_touch_90 rfl ?_
                refine w_callV (As := [.int x2, .int x3, .int x4, .int x5]) (rest := []) (μ := m_X12_touch) (pc := 92) dX12_touch_92 cv_X12_313 rfl rfl k0 (by decide) rfl (Nat.le_of_ble_eq_true rfl) (d' := d - 1) (by omega) he_i (c_X12_roomMany wt hl (d := d - 1) (by omega) k0) (fun r_45 => ?_)
                refine w_if_ne 102 (μ := m_X12_touch) (pc := 95) dX12_touch_95 (by decide) (fun c_46 => ?_) (fun c_46 => ?_)
                · refine w_iconst (v := 1) (μ := m_X12_touch) (pc := 102) dX12_touch_102 (by decide) ?_
                  refine w_aload_n 2 0 (μ := m_X12_touch) (pc := 103) dX12_touch_103 rfl rfl ?_
                  refine w_iconst (v := 2) (μ := m_X12_touch) (pc := 104) dX12_touch_104 (by decide) ?_
                  refine w_iload_n 4 2 (μ := m_X12_touch) (pc := 105) dX12_touch_105 rfl rfl ?_
                  refine w_iload_n 5 3 (μ := m_X12_touch) (pc := 106) dX12_touch_106 rfl rfl ?_
                  refine w_iload 6 (μ := m_X12_touch) (pc := 107) dX12_touch_107 rfl ?_
                  refine w_iload 7 (μ := m_X12_touch) (pc := 109) dX12_touch_109 rfl ?_
                  refine w_callV (As := [.int 2, .int x2, .int x3, .int x4, .int x5]) (rest := [.int 1]) (μ := m_X12_touch) (pc := 111) dX12_touch_111 cv_X12_316 rfl rfl k0 (by decide) rfl (Nat.le_of_ble_eq_true rfl) (d' := d - 1) (by omega) he_i (c_b_X12_inRoom wt hl (d := d - 1) hT (by omega) (by omega) k0) (fun r_47 => ?_)
                  refine w_iadd (μ := m_X12_touch) (pc := 114) dX12_touch_114 ?_
                  refine w_lv [] rfl ?_
                  exact t_J_X12_touch_115 wt hl hT (by omega) (by omega) k0 _ _
                · refine w_lv [] rfl ?_
                  exact t_J_X12_touch_98 wt hl hT (by omega) (by omega) k0 _
        · refine w_aload_n 0 0 (μ := m_X12_touch) (pc := 37) dX12_touch_37 rfl rfl ?_
          refine w_iload_n 2 2 (μ := m_X12_touch) (pc := 38) dX12_touch_38 rfl rfl ?_
          refine w_iload_n 3 3 (μ := m_X12_touch) (pc := 39) dX12_touch_39 rfl rfl ?_
          refine w_iload 4 (μ := m_X12_touch) (pc := 40) dX12_touch_40 rfl ?_
          refine w_iload 5 (μ := m_X12_touch) (pc := 42) dX12_touch_42 rfl ?_
          refine w_callV (As := [.int x2, .int x3, .int x4, .int x5]) (rest := []) (μ := m_X12_touch) (pc := 44) dX12_touch_44 cv_X12_310 rfl rfl k0 (by decide) rfl (Nat.le_of_ble_eq_true rfl) (d' := d - 1) (by omega) he_i (c_b_X12_touchDrop wt hl (d := d - 1) hT (by omega) (by omega) k0) (fun r_48 => ?_)
          exact w_iret (μ := m_X12_touch) (pc := 47) dX12_touch_47 rfl rfl
      · refine w_aload_n 0 0 (μ := m_X12_touch) (pc := 21) dX12_touch_21 rfl rfl ?_
        refine w_iload_n 2 2 (μ := m_X12_touch) (pc := 22) dX12_touch_22 rfl rfl ?_
        refine w_iload_n 3 3 (μ := m_X12_touch) (pc := 23) dX12_touch_23 rfl rfl ?_
        refine w_iload 4 (μ := m_X12_touch) (pc := 24) dX12_touch_24 rfl ?_
        refine w_iload 5 (μ := m_X12_touch) (pc := 26) dX12_touch_26 rfl ?_
        refine w_callV (As := [.int x2, .int x3, .int x4, .int x5]) (rest := []) (μ := m_X12_touch) (pc := 28) dX12_touch_28 cv_X12_307 rfl rfl k0 (by decide) rfl (Nat.le_of_ble_eq_true rfl) (d' := d - 1) (by omega) he_i (c_b_X12_touchPut wt hl (d := d - 1) hT (by omega) (by omega) k0) (fun r_49 => ?_)
        exact w_iret (μ := m_X12_touch) (pc := 31) dX12_touch_31 rfl rfl
    · refine w_lv [] rfl ?_
      exact t_J_X12_touch_15 wt hl hT (by omega) (by omega) k0 _
def E_X12_touch (N : Nat) (g : gp) : Nat → Nat → Int32 → Int32 → Int32 → Int32 → Int32 → dp → Option (Int32 × dp)
  | 0, _, _, _, _, _, _, _ => none
  | k + 1, a0, x1, x2, x3, x4, x5, δ => B_X12_touch N g (E_X12_touch N g k) a0 x1 x2 x3 x4 x5 δ
theorem e_X12_touch {l : Launch} {D : va_G} {cy : Nat → ClassId} {N : Nat} {g : gp} (wt : WT g) (hl : l.stackTraces = false) : ∀ (k d : Nat), 4 + 3 * k ≤ d → ∀ (a0 : Nat) (x1 : Int32) (x2 : Int32) (x3 : Int32) (x4 : Int32) (x5 : Int32) (δ : dp), q_K g a0 = 12 → CalD l D cy m_X12_touch d 0 0 ei g [.ref a0, .int x1, .int x2, .int x3, .int x4, .int x5] δ (E_X12_touch N g k a0 x1 x2 x3 x4 x5 δ) := by
  intro k
  induction k with
  | zero => intro d _ a0 x1 x2 x3 x4 x5 δ k0 r hr; cases hr
  | succ k ih =>
    intro d hd a0 x1 x2 x3 x4 x5 δ k0
    unfold E_X12_touch
    exact c_b_X12_touch wt hl (ih (4 + 3 * k) (Nat.le_refl _)) (by omega) (by omega) k0
def D_X12_touch (N : Nat) (g : gp) (a0 : Nat) (x1 : Int32) (x2 : Int32) (x3 : Int32) (x4 : Int32) (x5 : Int32) (δ : dp) : Option (Int32 × dp) := E_X12_touch N g 20 a0 x1 x2 x3 x4 x5 δ
theorem c_X12_touch {l : Launch} {D : va_G} {cy : Nat → ClassId} {N d : Nat} {g : gp} (wt : WT g) (hl : l.stackTraces = false) (hd : 64 ≤ d) {a0 : Nat} {x1 : Int32} {x2 : Int32} {x3 : Int32} {x4 : Int32} {x5 : Int32} {δ : dp} (k0 : q_K g a0 = 12) : CalD l D cy m_X12_touch d 0 0 ei g [.ref a0, .int x1, .int x2, .int x3, .int x4, .int x5] δ (D_X12_touch N g a0 x1 x2 x3 x4 x5 δ) := e_X12_touch wt hl 20 d (by omega) _ _ _ _ _ _ _ k0
def D_X12_halves (N : Nat) (g : gp) (a0 : Nat) (x1 : Int32) (x2 : Int32) (x3 : Int32) (δ : dp) : Option (Int32 × dp) :=
  (D_X12_lays N g a0 x1 δ).bind fun r_1 => (D_X12_touch N g a0 x2 x3 (q_I r_1 12 10 a0) 0 (q_I r_1 12 36 a0) r_1).bind fun r_2 => some (r_2.1, r_2.2)
set_option maxHeartbeats 4000000 in
set_option maxRecDepth 100000 in
theorem c_X12_halves {l : Launch} {D : va_G} {cy : Nat → ClassId} {N d : Nat} {g : gp} (wt : WT g) (hl : l.stackTraces = false) (hd : 65 ≤ d) {a0 : Nat} {x1 : Int32} {x2 : Int32} {x3 : Int32} {δ : dp} (k0 : q_K g a0 = 12) : CalD l D cy m_X12_halves d 0 0 ei g [.ref a0, .int x1, .int x2, .int x3] δ (D_X12_halves N g a0 x1 x2 x3 δ) := by
  refine CalD.of (by decide +kernel) (Nat.le_of_ble_eq_true rfl) hl ?_
  unfold D_X12_halves
  refine w_aload_n 0 0 (μ := m_X12_halves) (pc := 0) dX12_halves_0 rfl rfl ?_
  refine w_iload_n 1 1 (μ := m_X12_halves) (pc := 1) dX12_halves_1 rfl rfl ?_
  refine w_callV (As := [.int x1]) (rest := []) (μ := m_X12_halves) (pc := 2) dX12_halves_2 cv_X12_329 rfl rfl k0 (by decide) rfl (Nat.le_of_ble_eq_true rfl) (d' := d - 1) (by omega) he_v (c_X12_lays wt hl (d := d - 1) (by omega) k0) (fun r_1 => ?_)
  refine w_aload_n 0 0 (μ := m_X12_halves) (pc := 5) dX12_halves_5 rfl rfl ?_
  refine w_iload_n 2 2 (μ := m_X12_halves) (pc := 6) dX12_halves_6 rfl rfl ?_
  refine w_iload_n 3 3 (μ := m_X12_halves) (pc := 7) dX12_halves_7 rfl rfl ?_
  refine w_aload_n 0 0 (μ := m_X12_halves) (pc := 8) dX12_halves_8 rfl rfl ?_
  refine w_getI (μ := m_X12_halves) (pc := 9) dX12_halves_9 fl_X12_23 ir_12_10 k0 ?_
  refine w_iconst (v := 0) (μ := m_X12_halves) (pc := 12) dX12_halves_12 (by decide) ?_
  refine w_aload_n 0 0 (μ := m_X12_halves) (pc := 13) dX12_halves_13 rfl rfl ?_
  refine w_getI (μ := m_X12_halves) (pc := 14) dX12_halves_14 fl_X12_290 ir_12_36 k0 ?_
  refine w_callV (As := [.int x2, .int x3, .int (q_I r_1 12 10 a0), .int 0, .int (q_I r_1 12 36 a0)]) (rest := []) (μ := m_X12_halves) (pc := 17) dX12_halves_17 cv_X12_299 rfl rfl k0 (by decide) rfl (Nat.le_of_ble_eq_true rfl) (d' := d - 1) (by omega) he_i (c_X12_touch wt hl (d := d - 1) (by omega) k0) (fun r_2 => ?_)
  exact w_iret (μ := m_X12_halves) (pc := 20) dX12_halves_20 rfl rfl
def J_X12_touched_38 (N : Nat) (g : gp) (a0 : Nat) (x1 : Int32) (x2 : Int32) (x3 : Int32) (x4 : Int32) (xs0 : Int32) (δ : dp) : Option (Int32 × dp) :=
  some (xs0, δ)
set_option maxHeartbeats 4000000 in
set_option maxRecDepth 100000 in
theorem t_J_X12_touched_38 {l : Launch} {D : va_G} {cy : Nat → ClassId} {N d : Nat} {g : gp} (wt : WT g) (hl : l.stackTraces = false) (hd : 66 ≤ d) {a0 : Nat} {x1 : Int32} {x2 : Int32} {x3 : Int32} {x4 : Int32} (k0 : q_K g a0 = 12) : ∀ (xs0 : Int32) (δ : dp), AWD l D cy m_X12_touched d 0 0 ei g 38 [] [.int xs0] δ (J_X12_touched_38 N g a0 x1 x2 x3 x4 xs0 δ) := by
    intro xs0 δ 
    unfold J_X12_touched_38
    exact w_iret (μ := m_X12_touched) (pc := 38) dX12_touched_38 rfl rfl
def D_X12_touched (N : Nat) (g : gp) (a0 : Nat) (x1 : Int32) (x2 : Int32) (x3 : Int32) (x4 : Int32) (δ : dp) : Option (Int32 × dp) :=
  if x4 = 0 then ((D_X12_halves N g a0 x1 x2 x3 δ).bind fun r_5 => J_X12_touched_38 N g a0 x1 x2 x3 x4 r_5.1 r_5.2) else (if x4 = (1 : Int32) then ((D_X12_bits N g a0 x1 x2 x3 δ).bind fun r_4 => J_X12_touched_38 N g a0 x1 x2 x3 x4 r_4.1 r_4.2) else ((D_X12_sorted N g a0 x1 x2 x3 δ).bind fun r_3 => J_X12_touched_38 N g a0 x1 x2 x3 x4 r_3.1 r_3.2))
set_option maxHeartbeats 4000000 in
set_option maxRecDepth 100000 in
theorem c_X12_touched {l : Launch} {D : va_G} {cy : Nat → ClassId} {N d : Nat} {g : gp} (wt : WT g) (hl : l.stackTraces = false) (hd : 66 ≤ d) {a0 : Nat} {x1 : Int32} {x2 : Int32} {x3 : Int32} {x4 : Int32} {δ : dp} (k0 : q_K g a0 = 12) : CalD l D cy m_X12_touched d 0 0 ei g [.ref a0, .int x1, .int x2, .int x3, .int x4] δ (D_X12_touched N g a0 x1 x2 x3 x4 δ) := by
  refine CalD.of (by decide +kernel) (Nat.le_of_ble_eq_true rfl) hl ?_
  unfold D_X12_touched
  refine w_iload 4 (μ := m_X12_touched) (pc := 0) dX12_touched_0 rfl ?_
  refine w_if_ne 15 (μ := m_X12_touched) (pc := 2) dX12_touched_2 (by decide) (fun c_1 => ?_) (fun c_1 => ?_)
  · refine w_iload 4 (μ := m_X12_touched) (pc := 15) dX12_touched_15 rfl ?_
    refine w_iconst (v := 1) (μ := m_X12_touched) (pc := 17) dX12_touched_17 (by decide) ?_
    refine w_icmp_ne 31 (μ := m_X12_touched) (pc := 18) dX12_touched_18 (by decide) (fun c_2 => ?_) (fun c_2 => ?_)
    · refine w_aload_n 0 0 (μ := m_X12_touched) (pc := 31) dX12_touched_31 rfl rfl ?_
      refine w_iload_n 1 1 (μ := m_X12_touched) (pc := 32) dX12_touched_32 rfl rfl ?_
      refine w_iload_n 2 2 (μ := m_X12_touched) (pc := 33) dX12_touched_33 rfl rfl ?_
      refine w_iload_n 3 3 (μ := m_X12_touched) (pc := 34) dX12_touched_34 rfl rfl ?_
      refine w_callV (As := [.int x1, .int x2, .int x3]) (rest := []) (μ := m_X12_touched) (pc := 35) dX12_touched_35 cv_X12_341 rfl rfl k0 (by decide) rfl (Nat.le_of_ble_eq_true rfl) (d' := d - 1) (by omega) he_i (c_X12_sorted wt hl (d := d - 1) (by omega) k0) (fun r_3 => ?_)
      refine w_lv [] rfl ?_
      exact t_J_X12_touched_38 wt hl (by omega) k0 _ _
    · refine w_aload_n 0 0 (μ := m_X12_touched) (pc := 21) dX12_touched_21 rfl rfl ?_
      refine w_iload_n 1 1 (μ := m_X12_touched) (pc := 22) dX12_touched_22 rfl rfl ?_
      refine w_iload_n 2 2 (μ := m_X12_touched) (pc := 23) dX12_touched_23 rfl rfl ?_
      refine w_iload_n 3 3 (μ := m_X12_touched) (pc := 24) dX12_touched_24 rfl rfl ?_
      refine w_callV (As := [.int x1, .int x2, .int x3]) (rest := []) (μ := m_X12_touched) (pc := 25) dX12_touched_25 cv_X12_338 rfl rfl k0 (by decide) rfl (Nat.le_of_ble_eq_true rfl) (d' := d - 1) (by omega) he_i (c_X12_bits wt hl (d := d - 1) (by omega) k0) (fun r_4 => ?_)
      refine w_goto 38 (μ := m_X12_touched) (pc := 28) dX12_touched_28 (by decide) ?_
      refine w_lv [] rfl ?_
      exact t_J_X12_touched_38 wt hl (by omega) k0 _ _
  · refine w_aload_n 0 0 (μ := m_X12_touched) (pc := 5) dX12_touched_5 rfl rfl ?_
    refine w_iload_n 1 1 (μ := m_X12_touched) (pc := 6) dX12_touched_6 rfl rfl ?_
    refine w_iload_n 2 2 (μ := m_X12_touched) (pc := 7) dX12_touched_7 rfl rfl ?_
    refine w_iload_n 3 3 (μ := m_X12_touched) (pc := 8) dX12_touched_8 rfl rfl ?_
    refine w_callV (As := [.int x1, .int x2, .int x3]) (rest := []) (μ := m_X12_touched) (pc := 9) dX12_touched_9 cv_X12_335 rfl rfl k0 (by decide) rfl (Nat.le_of_ble_eq_true rfl) (d' := d - 1) (by omega) he_i (c_X12_halves wt hl (d := d - 1) (by omega) k0) (fun r_5 => ?_)
    refine w_goto 38 (μ := m_X12_touched) (pc := 12) dX12_touched_12 (by decide) ?_
    refine w_lv [] rfl ?_
    exact t_J_X12_touched_38 wt hl (by omega) k0 _ _
def J_X12_touches_54 (N : Nat) (g : gp) (a0 : Nat) (x1 : Int32) (x2 : Int32) (x3 : Int32) (x4 : Int32) (δ : dp) : Option (Int32 × dp) :=
  some (0, δ)
set_option maxHeartbeats 4000000 in
set_option maxRecDepth 100000 in
theorem t_J_X12_touches_54 {l : Launch} {D : va_G} {cy : Nat → ClassId} {N d : Nat} {g : gp} (wt : WT g) (hl : l.stackTraces = false) (hd : 67 ≤ d) {a0 : Nat} {x1 : Int32} {x2 : Int32} {x3 : Int32} {x4 : Int32} (k0 : q_K g a0 = 12) : ∀ (δ : dp), AWD l D cy m_X12_touches d 0 0 ei g 54 [] [] δ (J_X12_touches_54 N g a0 x1 x2 x3 x4 δ) := by
    intro  δ 
    unfold J_X12_touches_54
    refine w_iconst (v := 0) (μ := m_X12_touches) (pc := 54) dX12_touches_54 (by decide) ?_
    exact w_iret (μ := m_X12_touches) (pc := 55) dX12_touches_55 rfl rfl
def J_X12_touches_46 (N : Nat) (g : gp) (a0 : Nat) (x1 : Int32) (x2 : Int32) (x3 : Int32) (x4 : Int32) (xs0 : Int32) (as1 : Nat) (δ : dp) : Option (Int32 × dp) :=
  (D_X12_may N g as1 xs0 2 2 δ).bind fun r_7 => if r_7.1 = 0 then (J_X12_touches_54 N g a0 x1 x2 x3 x4 r_7.2) else ((D_X12_touched N g a0 x1 x2 x3 x4 r_7.2).bind fun r_9 => some (r_9.1, r_9.2))
set_option maxHeartbeats 4000000 in
set_option maxRecDepth 100000 in
theorem t_J_X12_touches_46 {l : Launch} {D : va_G} {cy : Nat → ClassId} {N d : Nat} {g : gp} (wt : WT g) (hl : l.stackTraces = false) (hd : 67 ≤ d) {a0 : Nat} {x1 : Int32} {x2 : Int32} {x3 : Int32} {x4 : Int32} (k0 : q_K g a0 = 12) : ∀ (xs0 : Int32) (as1 : Nat) (δ : dp), q_K g as1 = 12 → AWD l D cy m_X12_touches d 0 0 ei g 46 [(0, .ref a0), (1, .int x1), (2, .int x2), (3, .int x3), (4, .int x4)] [.int xs0, .ref as1] δ (J_X12_touches_46 N g a0 x1 x2 x3 x4 xs0 as1 δ) := by
    intro xs0 as1 δ has1
    unfold J_X12_touches_46
    refine w_iconst (v := 2) (μ := m_X12_touches) (pc := 46) dX12_touches_46 (by decide) ?_
    refine w_iconst (v := 2) (μ := m_X12_touches) (pc := 47) dX12_touches_47 (by decide) ?_
    refine w_callV (As := [.int xs0, .int 2, .int 2]) (rest := []) (μ := m_X12_touches) (pc := 48) dX12_touches_48 cv_X12_157 rfl rfl has1 (by decide) rfl (Nat.le_of_ble_eq_true rfl) (d' := d - 1) (by omega) he_i (c_X12_may wt hl (d := d - 1) (by omega) has1) (fun r_7 => ?_)
    refine w_if_ne 56 (μ := m_X12_touches) (pc := 51) dX12_touches_51 (by decide) (fun c_8 => ?_) (fun c_8 => ?_)
    · refine w_aload_n 0 0 (μ := m_X12_touches) (pc := 56) dX12_touches_56 rfl rfl ?_
      refine w_iload_n 1 1 (μ := m_X12_touches) (pc := 57) dX12_touches_57 rfl rfl ?_
      refine w_iload_n 2 2 (μ := m_X12_touches) (pc := 58) dX12_touches_58 rfl rfl ?_
      refine w_iload_n 3 3 (μ := m_X12_touches) (pc := 59) dX12_touches_59 rfl rfl ?_
      refine w_iload 4 (μ := m_X12_touches) (pc := 60) dX12_touches_60 rfl ?_
      refine w_callV (As := [.int x1, .int x2, .int x3, .int x4]) (rest := []) (μ := m_X12_touches) (pc := 62) dX12_touches_62 cv_X12_347 rfl rfl k0 (by decide) rfl (Nat.le_of_ble_eq_true rfl) (d' := d - 1) (by omega) he_i (c_X12_touched wt hl (d := d - 1) (by omega) k0) (fun r_9 => ?_)
      exact w_iret (μ := m_X12_touches) (pc := 65) dX12_touches_65 rfl rfl
    · refine w_lv [] rfl ?_
      exact t_J_X12_touches_54 wt hl (by omega) k0 _
def J_X12_touches_45 (N : Nat) (g : gp) (a0 : Nat) (x1 : Int32) (x2 : Int32) (x3 : Int32) (x4 : Int32) (as0 : Nat) (δ : dp) : Option (Int32 × dp) :=
  J_X12_touches_46 N g a0 x1 x2 x3 x4 0 as0 δ
set_option maxHeartbeats 4000000 in
set_option maxRecDepth 100000 in
theorem t_J_X12_touches_45 {l : Launch} {D : va_G} {cy : Nat → ClassId} {N d : Nat} {g : gp} (wt : WT g) (hl : l.stackTraces = false) (hd : 67 ≤ d) {a0 : Nat} {x1 : Int32} {x2 : Int32} {x3 : Int32} {x4 : Int32} (k0 : q_K g a0 = 12) : ∀ (as0 : Nat) (δ : dp), q_K g as0 = 12 → AWD l D cy m_X12_touches d 0 0 ei g 45 [(0, .ref a0), (1, .int x1), (2, .int x2), (3, .int x3), (4, .int x4)] [.ref as0] δ (J_X12_touches_45 N g a0 x1 x2 x3 x4 as0 δ) := by
    intro as0 δ has0
    unfold J_X12_touches_45
    refine w_iconst (v := 0) (μ := m_X12_touches) (pc := 45) dX12_touches_45 (by decide) ?_
    exact t_J_X12_touches_46 wt hl (by omega) k0 _ _ _ has0
def D_X12_touches (N : Nat) (g : gp) (a0 : Nat) (x1 : Int32) (x2 : Int32) (x3 : Int32) (x4 : Int32) (δ : dp) : Option (Int32 × dp) :=
  bd (s_I δ 12 0 a0 0) fun δ_1 => (D_X12_isHouse N g a0 x1 1 δ_1).bind fun r_3 => if r_3.1 = 0 then (J_X12_touches_54 N g a0 x1 x2 x3 x4 r_3.2) else ((D_X12_isCall N g x2 r_3.2).bind fun r_5 => if r_5.1 = 0 then (J_X12_touches_45 N g a0 x1 x2 x3 x4 a0 r_5.2) else ((D_X12_within N g x4 0 2 r_5.2).bind fun r_10 => if r_10.1 = 0 then (J_X12_touches_45 N g a0 x1 x2 x3 x4 a0 r_10.2) else ((D_X12_mayAsk N g a0 x2 x3 r_10.2).bind fun r_12 => if r_12.1 = 0 then (J_X12_touches_45 N g a0 x1 x2 x3 x4 a0 r_12.2) else (J_X12_touches_46 N g a0 x1 x2 x3 x4 1 a0 r_12.2))))
set_option maxHeartbeats 4000000 in
set_option maxRecDepth 100000 in
theorem c_X12_touches {l : Launch} {D : va_G} {cy : Nat → ClassId} {N d : Nat} {g : gp} (wt : WT g) (hl : l.stackTraces = false) (hd : 67 ≤ d) {a0 : Nat} {x1 : Int32} {x2 : Int32} {x3 : Int32} {x4 : Int32} {δ : dp} (k0 : q_K g a0 = 12) : CalD l D cy m_X12_touches d 0 0 ei g [.ref a0, .int x1, .int x2, .int x3, .int x4] δ (D_X12_touches N g a0 x1 x2 x3 x4 δ) := by
  refine CalD.of (by decide +kernel) (Nat.le_of_ble_eq_true rfl) hl ?_
  unfold D_X12_touches
  refine w_aload_n 0 0 (μ := m_X12_touches) (pc := 0) dX12_touches_0 rfl rfl ?_
  refine w_iconst (v := 0) (μ := m_X12_touches) (pc := 1) dX12_touches_1 (by decide) ?_
  refine w_putI (μ := m_X12_touches) (pc := 2) dX12_touches_2 fl_X12_1 flw_12_0 ir_12_0 k0 ?_
  refine w_bd (fun δ_1 e_2 => ?_)
  refine w_aload_n 0 0 (μ := m_X12_touches) (pc := 5) dX12_touches_5 rfl rfl ?_
  refine w_iload_n 1 1 (μ := m_X12_touches) (pc := 6) dX12_touches_6 rfl rfl ?_
  refine w_iconst (v := 1) (μ := m_X12_touches) (pc := 7) dX12_touches_7 (by decide) ?_
  refine w_callV (As := [.int x1, .int 1]) (rest := []) (μ := m_X12_touches) (pc := 8) dX12_touches_8 cv_X12_260 rfl rfl k0 (by decide) rfl (Nat.le_of_ble_eq_true rfl) (d' := d - 1) (by omega) he_i (c_X12_isHouse wt hl (d := d - 1) (by omega) k0) (fun r_3 => ?_)
  refine w_if_eq 54 (μ := m_X12_touches) (pc := 11) dX12_touches_11 (by decide) (fun c_4 => ?_) (fun c_4 => ?_)
  · refine w_lv [] rfl ?_
    exact t_J_X12_touches_54 wt hl (by omega) k0 _
  · refine w_aload_n 0 0 (μ := m_X12_touches) (pc := 14) dX12_touches_14 rfl rfl ?_
    refine w_iload_n 2 2 (μ := m_X12_touches) (pc := 15) dX12_touches_15 rfl rfl ?_
    refine w_callS (As := [.int x2]) (rest := [.ref a0]) (μ := m_X12_touches) (pc := 16) dX12_touches_16 cs_X12_344 rfl rfl (Nat.le_of_ble_eq_true rfl) (d' := d - 1) (by omega) he_i (c_X12_isCall wt hl (d := d - 1) (by omega) ) (fun r_5 => ?_)
    refine w_if_eq 45 (μ := m_X12_touches) (pc := 19) dX12_touches_19 (by decide) (fun c_6 => ?_) (fun c_6 => ?_)
    · exact t_J_X12_touches_45 wt hl (by omega) k0 _ _ k0
    · refine w_iload 4 (μ := m_X12_touches) (pc := 22) dX12_touches_22 rfl ?_
      refine w_iconst (v := 0) (μ := m_X12_touches) (pc := 24) dX12_touches_24 (by decide) ?_
      refine w_iconst (v := 2) (μ := m_X12_touches) (pc := 25) dX12_touches_25 (by decide) ?_
      refine w_callS (As := [.int x4, .int 0, .int 2]) (rest := [.ref a0]) (μ := m_X12_touches) (pc := 26) dX12_touches_26 cs_X12_250 rfl rfl (Nat.le_of_ble_eq_true rfl) (d' := d - 1) (by omega) he_i (c_X12_within wt hl (d := d - 1) (by omega) ) (fun r_10 => ?_)
      refine w_if_eq 45 (μ := m_X12_touches) (pc := 29) dX12_touches_29 (by decide) (fun c_11 => ?_) (fun c_11 => ?_)
      · exact t_J_X12_touches_45 wt hl (by omega) k0 _ _ k0
      · refine w_aload_n 0 0 (μ := m_X12_touches) (pc := 32) dX12_touches_32 rfl rfl ?_
        refine w_iload_n 2 2 (μ := m_X12_touches) (pc := 33) dX12_touches_33 rfl rfl ?_
        refine w_iload_n 3 3 (μ := m_X12_touches) (pc := 34) dX12_touches_34 rfl rfl ?_
        refine w_callV (As := [.int x2, .int x3]) (rest := [.ref a0]) (μ := m_X12_touches) (pc := 35) dX12_touches_35 cv_X12_283 rfl rfl k0 (by decide) rfl (Nat.le_of_ble_eq_true rfl) (d' := d - 1) (by omega) he_i (c_X12_mayAsk wt hl (d := d - 1) (by omega) k0) (fun r_12 => ?_)
        refine w_if_eq 45 (μ := m_X12_touches) (pc := 38) dX12_touches_38 (by decide) (fun c_13 => ?_) (fun c_13 => ?_)
        · exact t_J_X12_touches_45 wt hl (by omega) k0 _ _ k0
        · refine w_iconst (v := 1) (μ := m_X12_touches) (pc := 41) dX12_touches_41 (by decide) ?_
          refine w_goto 46 (μ := m_X12_touches) (pc := 42) dX12_touches_42 (by decide) ?_
          exact t_J_X12_touches_46 wt hl (by omega) k0 _ _ _ k0
def J_X12_asks_130 (N : Nat) (g : gp) (a0 : Nat) (x1 : Int32) (x2 : Int32) (kt2 : Int32 → dp → Option (dp)) (x3v : Int32) (δ : dp) : Option (dp) :=
  bi (x3v + 1) fun x_15 => kt2 x_15 δ
set_option maxHeartbeats 4000000 in
set_option maxRecDepth 100000 in
theorem t_J_X12_asks_130 {l : Launch} {D : va_G} {cy : Nat → ClassId} {N d : Nat} {g : gp} (wt : WT g) (hl : l.stackTraces = false) (hd : 65 ≤ d) {a0 : Nat} {x1 : Int32} {x2 : Int32} (k0 : q_K g a0 = 12) {kt2 : Int32 → dp → Option (dp)} (hk2 : ∀ (x3v : Int32) (δ : dp), AWD l D cy m_X12_asks d 0 0 ev g 2 [(0, .ref a0), (1, .int x1), (2, .int x2), (3, .int x3v)] [] δ (kt2 x3v δ)) : ∀ (x3v : Int32) (δ : dp), AWD l D cy m_X12_asks d 0 0 ev g 130 [(0, .ref a0), (1, .int x1), (2, .int x2), (3, .int x3v)] [] δ (J_X12_asks_130 N g a0 x1 x2 kt2 x3v δ) := by
    intro x3v δ 
    unfold J_X12_asks_130
    refine w_inb (fun x_15 e_16 => ?_)
    refine w_iinc 3 [(3, .int x_15), (0, .ref a0), (1, .int x1), (2, .int x2)] (μ := m_X12_asks) (pc := 130) dX12_asks_130 rfl (by rw [e_16]; rfl) (by decide) rfl ?_
    refine w_goto 2 (μ := m_X12_asks) (pc := 133) dX12_asks_133 (by decide) ?_
    refine w_lv [1, 2, 3, 0] rfl ?_
    exact hk2 _ _
def L_X12_asks_104 (N : Nat) (g : gp) (a0 : Nat) (x1 : Int32) (x2 : Int32) (kt2 : Int32 → dp → Option (dp)) : Nat → Int32 → Int32 → dp → Option (dp)
  | 0, _, _, _ => none
  | n + 1, x3v, x5v, δ => if x2 ≤ x5v then (J_X12_asks_130 N g a0 x1 x2 kt2 x3v δ) else ((q_O g 12 41 a0).bind fun b_17 => (q_O g 12 42 a0).bind fun b_19 => if x5v < 0 ∨ q_N g b_19 ≤ x5v.toNatClampNeg then none else if x5v < 0 ∨ q_N g b_17 ≤ x5v.toNatClampNeg then none else bd (s_R δ b_17 x5v.toNatClampNeg (q_R δ b_19 x5v.toNatClampNeg)) fun δ_21 => bi (x5v + 1) fun x_23 => L_X12_asks_104 N g a0 x1 x2 kt2 n x3v x_23 δ_21)
set_option maxHeartbeats 4000000 in
set_option maxRecDepth 100000 in
theorem t_L_X12_asks_104 {l : Launch} {D : va_G} {cy : Nat → ClassId} {N d : Nat} {g : gp} (wt : WT g) (hl : l.stackTraces = false) (hd : 65 ≤ d) {a0 : Nat} {x1 : Int32} {x2 : Int32} (k0 : q_K g a0 = 12) {kt2 : Int32 → dp → Option (dp)} (hk2 : ∀ (x3v : Int32) (δ : dp), AWD l D cy m_X12_asks d 0 0 ev g 2 [(0, .ref a0), (1, .int x1), (2, .int x2), (3, .int x3v)] [] δ (kt2 x3v δ)) : ∀ (n : Nat) (x3v : Int32) (x5v : Int32) (δ : dp), AWD l D cy m_X12_asks d 0 0 ev g 104 [(0, .ref a0), (1, .int x1), (2, .int x2), (3, .int x3v), (5, .int x5v)] [] δ (L_X12_asks_104 N g a0 x1 x2 kt2 n x3v x5v δ) := by
  intro n
  induction n with
  | zero => intro x3v x5v δ ; exact w_none
  | succ n ih =>
    intro x3v x5v δ 
    unfold L_X12_asks_104
    refine w_iload 4 (μ := m_X12_asks) (pc := 104) dX12_asks_104 rfl ?_
    refine w_iload_n 2 2 (μ := m_X12_asks) (pc := 106) dX12_asks_106 rfl rfl ?_
    refine w_icmp_ge 130 (μ := m_X12_asks) (pc := 107) dX12_asks_107 (by decide) (fun c_14 => ?_) (fun c_14 => ?_)
    · refine w_lv [0, 1, 2, 3] rfl ?_
      exact t_J_X12_asks_130 wt hl (by omega) k0 hk2 _ _
    · refine w_aload_n 0 0 (μ := m_X12_asks) (pc := 110) dX12_asks_110 rfl rfl ?_
      refine w_getO (μ := m_X12_asks) (pc := 111) dX12_asks_111 fl_X12_87 ir_12_41 id_12_41 k0 (fun b_17 e_18 => ?_)
      refine w_iload 4 (μ := m_X12_asks) (pc := 114) dX12_asks_114 rfl ?_
      refine w_aload_n 0 0 (μ := m_X12_asks) (pc := 116) dX12_asks_116 rfl rfl ?_
      refine w_getO (μ := m_X12_asks) (pc := 117) dX12_asks_117 fl_X12_90 ir_12_42 id_12_42 k0 (fun b_19 e_20 => ?_)
      refine w_iload 4 (μ := m_X12_asks) (pc := 120) dX12_asks_120 rfl ?_
      refine w_ald (μ := m_X12_asks) (pc := 122) dX12_asks_122 (wt_12_42 wt k0 e_20) ?_
      refine w_ast (μ := m_X12_asks) (pc := 123) dX12_asks_123 (wt_12_41 wt k0 e_18) ?_
      refine w_bd (fun δ_21 e_22 => ?_)
      refine w_inb (fun x_23 e_24 => ?_)
      refine w_iinc 4 [(5, .int x_23), (0, .ref a0), (1, .int x1), (2, .int x2), (3, .int x3v)] (μ := m_X12_asks) (pc := 124) dX12_asks_124 rfl (by rw [e_24]; rfl) (by decide) rfl ?_
      refine w_goto 104 (μ := m_X12_asks) (pc := 127) dX12_asks_127 (by decide) ?_
      refine w_lv [1, 2, 3, 4, 0] rfl ?_
      exact ih _ _ _
def L_X12_asks_18 (N : Nat) (g : gp) (a0 : Nat) (x1 : Int32) (x2 : Int32) (kt2 : Int32 → dp → Option (dp)) : Nat → Int32 → Int32 → dp → Option (dp)
  | 0, _, _, _ => none
  | n + 1, x3v, x4v, δ => if x2 ≤ x4v then ((D_X12_touch N g a0 x1 x3v (q_I δ 12 10 a0) 0 (q_I δ 12 36 a0) δ).bind fun r_6 => if (q_I r_6.2 12 37 a0) < r_6.1 then (bd (s_I r_6.2 12 37 a0 r_6.1) fun δ_8 => bd (s_I δ_8 12 38 a0 x2) fun δ_10 => bd (s_I δ_10 12 39 a0 x3v) fun δ_12 => L_X12_asks_104 N g a0 x1 x2 kt2 N x3v 0 δ_12) else (J_X12_asks_130 N g a0 x1 x2 kt2 x3v r_6.2)) else ((q_O g 12 35 a0).bind fun b_25 => (q_O g 12 42 a0).bind fun b_27 => if x4v < 0 ∨ q_N g b_27 ≤ x4v.toNatClampNeg then none else if (q_I δ 12 36 a0) < 0 ∨ q_N g b_25 ≤ (q_I δ 12 36 a0).toNatClampNeg then none else bd (s_R δ b_25 (q_I δ 12 36 a0).toNatClampNeg (q_R δ b_27 x4v.toNatClampNeg)) fun δ_29 => bd (s_I δ_29 12 36 a0 ((q_I δ_29 12 36 a0) + 1)) fun δ_31 => bi (x4v + 1) fun x_33 => L_X12_asks_18 N g a0 x1 x2 kt2 n x3v x_33 δ_31)
set_option maxHeartbeats 4000000 in
set_option maxRecDepth 100000 in
theorem t_L_X12_asks_18 {l : Launch} {D : va_G} {cy : Nat → ClassId} {N d : Nat} {g : gp} (wt : WT g) (hl : l.stackTraces = false) (hd : 65 ≤ d) {a0 : Nat} {x1 : Int32} {x2 : Int32} (k0 : q_K g a0 = 12) {kt2 : Int32 → dp → Option (dp)} (hk2 : ∀ (x3v : Int32) (δ : dp), AWD l D cy m_X12_asks d 0 0 ev g 2 [(0, .ref a0), (1, .int x1), (2, .int x2), (3, .int x3v)] [] δ (kt2 x3v δ)) : ∀ (n : Nat) (x3v : Int32) (x4v : Int32) (δ : dp), AWD l D cy m_X12_asks d 0 0 ev g 18 [(0, .ref a0), (1, .int x1), (2, .int x2), (3, .int x3v), (4, .int x4v)] [] δ (L_X12_asks_18 N g a0 x1 x2 kt2 n x3v x4v δ) := by
  intro n
  induction n with
  | zero => intro x3v x4v δ ; exact w_none
  | succ n ih =>
    intro x3v x4v δ 
    unfold L_X12_asks_18
    refine w_iload 4 (μ := m_X12_asks) (pc := 18) dX12_asks_18 rfl ?_
    refine w_iload_n 2 2 (μ := m_X12_asks) (pc := 20) dX12_asks_20 rfl rfl ?_
    refine w_icmp_ge 56 (μ := m_X12_asks) (pc := 21) dX12_asks_21 (by decide) (fun c_5 => ?_) (fun c_5 => ?_)
    · refine w_aload_n 0 0 (μ := m_X12_asks) (pc := 56) dX12_asks_56 rfl rfl ?_
      refine w_iload_n 1 1 (μ := m_X12_asks) (pc := 57) dX12_asks_57 rfl rfl ?_
      refine w_iload_n 3 3 (μ := m_X12_asks) (pc := 58) dX12_asks_58 rfl rfl ?_
      refine w_aload_n 0 0 (μ := m_X12_asks) (pc := 59) dX12_asks_59 rfl rfl ?_
      refine w_getI (μ := m_X12_asks) (pc := 60) dX12_asks_60 fl_X12_23 ir_12_10 k0 ?_
      refine w_iconst (v := 0) (μ := m_X12_asks) (pc := 63) dX12_asks_63 (by decide) ?_
      refine w_aload_n 0 0 (μ := m_X12_asks) (pc := 64) dX12_asks_64 rfl rfl ?_
      refine w_getI (μ := m_X12_asks) (pc := 65) dX12_asks_65 fl_X12_290 ir_12_36 k0 ?_
      refine w_callV (As := [.int x1, .int x3v, .int (q_I δ 12 10 a0), .int 0, .int (q_I δ 12 36 a0)]) (rest := []) (μ := m_X12_asks) (pc := 68) dX12_asks_68 cv_X12_299 rfl rfl k0 (by decide) rfl (Nat.le_of_ble_eq_true rfl) (d' := d - 1) (by omega) he_i (c_X12_touch wt hl (d := d - 1) (by omega) k0) (fun r_6 => ?_)
      refine w_istore [(4, .int r_6.1), (0, .ref a0), (1, .int x1), (2, .int x2), (3, .int x3v)] (μ := m_X12_asks) (pc := 71) dX12_asks_71 (by decide) rfl ?_
      refine w_iload 0 (μ := m_X12_asks) (pc := 73) dX12_asks_73 rfl ?_
      refine w_aload_n 1 0 (μ := m_X12_asks) (pc := 75) dX12_asks_75 rfl rfl ?_
      refine w_getI (μ := m_X12_asks) (pc := 76) dX12_asks_76 fl_X12_356 ir_12_37 k0 ?_
      refine w_icmp_gt 85 (μ := m_X12_asks) (pc := 79) dX12_asks_79 (by decide) (fun c_7 => ?_) (fun c_7 => ?_)
      · refine w_aload_n 1 0 (μ := m_X12_asks) (pc := 85) dX12_asks_85 rfl rfl ?_
        refine w_iload 0 (μ := m_X12_asks) (pc := 86) dX12_asks_86 rfl ?_
        refine w_putI (μ := m_X12_asks) (pc := 88) dX12_asks_88 fl_X12_356 flw_12_37 ir_12_37 k0 ?_
        refine w_bd (fun δ_8 e_9 => ?_)
        refine w_aload_n 1 0 (μ := m_X12_asks) (pc := 91) dX12_asks_91 rfl rfl ?_
        refine w_iload_n 3 2 (μ := m_X12_asks) (pc := 92) dX12_asks_92 rfl rfl ?_
        refine w_putI (μ := m_X12_asks) (pc := 93) dX12_asks_93 fl_X12_359 flw_12_38 ir_12_38 k0 ?_
        refine w_bd (fun δ_10 e_11 => ?_)
        refine w_aload_n 1 0 (μ := m_X12_asks) (pc := 96) dX12_asks_96 rfl rfl ?_
        refine w_iload_n 4 3 (μ := m_X12_asks) (pc := 97) dX12_asks_97 rfl rfl ?_
        refine w_putI (μ := m_X12_asks) (pc := 98) dX12_asks_98 fl_X12_362 flw_12_39 ir_12_39 k0 ?_
        refine w_bd (fun δ_12 e_13 => ?_)
        refine w_iconst (v := 0) (μ := m_X12_asks) (pc := 101) dX12_asks_101 (by decide) ?_
        refine w_istore [(5, .int 0), (4, .int r_6.1), (0, .ref a0), (1, .int x1), (2, .int x2), (3, .int x3v)] (μ := m_X12_asks) (pc := 102) dX12_asks_102 (by decide) rfl ?_
        refine w_lv [2, 3, 4, 5, 0] rfl ?_
        exact t_L_X12_asks_104 wt hl (by omega) k0 hk2 N _ _ _
      · refine w_goto 130 (μ := m_X12_asks) (pc := 82) dX12_asks_82 (by decide) ?_
        refine w_lv [1, 2, 3, 4] rfl ?_
        exact t_J_X12_asks_130 wt hl (by omega) k0 hk2 _ _
    · refine w_aload_n 0 0 (μ := m_X12_asks) (pc := 24) dX12_asks_24 rfl rfl ?_
      refine w_getO (μ := m_X12_asks) (pc := 25) dX12_asks_25 fl_X12_84 ir_12_35 id_12_35 k0 (fun b_25 e_26 => ?_)
      refine w_aload_n 0 0 (μ := m_X12_asks) (pc := 28) dX12_asks_28 rfl rfl ?_
      refine w_getI (μ := m_X12_asks) (pc := 29) dX12_asks_29 fl_X12_290 ir_12_36 k0 ?_
      refine w_aload_n 0 0 (μ := m_X12_asks) (pc := 32) dX12_asks_32 rfl rfl ?_
      refine w_getO (μ := m_X12_asks) (pc := 33) dX12_asks_33 fl_X12_90 ir_12_42 id_12_42 k0 (fun b_27 e_28 => ?_)
      refine w_iload 4 (μ := m_X12_asks) (pc := 36) dX12_asks_36 rfl ?_
      refine w_ald (μ := m_X12_asks) (pc := 38) dX12_asks_38 (wt_12_42 wt k0 e_28) ?_
      refine w_ast (μ := m_X12_asks) (pc := 39) dX12_asks_39 (wt_12_35 wt k0 e_26) ?_
      refine w_bd (fun δ_29 e_30 => ?_)
      refine w_aload_n 0 0 (μ := m_X12_asks) (pc := 40) dX12_asks_40 rfl rfl ?_
      refine w_dup (μ := m_X12_asks) (pc := 41) dX12_asks_41 rfl ?_
      refine w_getI (μ := m_X12_asks) (pc := 42) dX12_asks_42 fl_X12_290 ir_12_36 k0 ?_
      refine w_iconst (v := 1) (μ := m_X12_asks) (pc := 45) dX12_asks_45 (by decide) ?_
      refine w_iadd (μ := m_X12_asks) (pc := 46) dX12_asks_46 ?_
      refine w_putI (μ := m_X12_asks) (pc := 47) dX12_asks_47 fl_X12_290 flw_12_36 ir_12_36 k0 ?_
      refine w_bd (fun δ_31 e_32 => ?_)
      refine w_inb (fun x_33 e_34 => ?_)
      refine w_iinc 4 [(4, .int x_33), (0, .ref a0), (1, .int x1), (2, .int x2), (3, .int x3v)] (μ := m_X12_asks) (pc := 50) dX12_asks_50 rfl (by rw [e_34]; rfl) (by decide) rfl ?_
      refine w_goto 18 (μ := m_X12_asks) (pc := 53) dX12_asks_53 (by decide) ?_
      refine w_lv [1, 2, 3, 4, 0] rfl ?_
      exact ih _ _ _
def L_X12_asks_2 (N : Nat) (g : gp) (a0 : Nat) (x1 : Int32) (x2 : Int32) : Nat → Int32 → dp → Option (dp)
  | 0, _, _ => none
  | n + 1, x3v, δ => (D_X12_all N g a0 δ).bind fun r_1 => if r_1.1 ≤ x3v then (some r_1.2) else (bd (s_I r_1.2 12 36 a0 0) fun δ_3 => L_X12_asks_18 N g a0 x1 x2 (L_X12_asks_2 N g a0 x1 x2 n) N x3v 0 δ_3)
set_option maxHeartbeats 4000000 in
set_option maxRecDepth 100000 in
theorem t_L_X12_asks_2 {l : Launch} {D : va_G} {cy : Nat → ClassId} {N d : Nat} {g : gp} (wt : WT g) (hl : l.stackTraces = false) (hd : 65 ≤ d) {a0 : Nat} {x1 : Int32} {x2 : Int32} (k0 : q_K g a0 = 12) : ∀ (n : Nat) (x3v : Int32) (δ : dp), AWD l D cy m_X12_asks d 0 0 ev g 2 [(0, .ref a0), (1, .int x1), (2, .int x2), (3, .int x3v)] [] δ (L_X12_asks_2 N g a0 x1 x2 n x3v δ) := by
  intro n
  induction n with
  | zero => intro x3v δ ; exact w_none
  | succ n ih =>
    intro x3v δ 
    unfold L_X12_asks_2
    refine w_iload_n 3 3 (μ := m_X12_asks) (pc := 2) dX12_asks_2 rfl rfl ?_
    refine w_aload_n 0 0 (μ := m_X12_asks) (pc := 3) dX12_asks_3 rfl rfl ?_
    refine w_callV (As := []) (rest := [.int x3v]) (μ := m_X12_asks) (pc := 4) dX12_asks_4 cv_X12_257 rfl rfl k0 (by decide) rfl (Nat.le_of_ble_eq_true rfl) (d' := d - 1) (by omega) he_i (c_X12_all wt hl (d := d - 1) (by omega) k0) (fun r_1 => ?_)
    refine w_icmp_ge 136 (μ := m_X12_asks) (pc := 7) dX12_asks_7 (by decide) (fun c_2 => ?_) (fun c_2 => ?_)
    · exact w_vret (μ := m_X12_asks) (pc := 136) dX12_asks_136 rfl rfl
    · refine w_aload_n 0 0 (μ := m_X12_asks) (pc := 10) dX12_asks_10 rfl rfl ?_
      refine w_iconst (v := 0) (μ := m_X12_asks) (pc := 11) dX12_asks_11 (by decide) ?_
      refine w_putI (μ := m_X12_asks) (pc := 12) dX12_asks_12 fl_X12_290 flw_12_36 ir_12_36 k0 ?_
      refine w_bd (fun δ_3 e_4 => ?_)
      refine w_iconst (v := 0) (μ := m_X12_asks) (pc := 15) dX12_asks_15 (by decide) ?_
      refine w_istore [(4, .int 0), (0, .ref a0), (1, .int x1), (2, .int x2), (3, .int x3v)] (μ := m_X12_asks) (pc := 16) dX12_asks_16 (by decide) rfl ?_
      refine w_lv [1, 2, 3, 4, 0] rfl ?_
      exact t_L_X12_asks_18 wt hl (by omega) k0 ih N _ _ _
def D_X12_asks (N : Nat) (g : gp) (a0 : Nat) (x1 : Int32) (x2 : Int32) (δ : dp) : Option (dp) :=
  L_X12_asks_2 N g a0 x1 x2 N 0 δ
set_option maxHeartbeats 4000000 in
set_option maxRecDepth 100000 in
theorem c_X12_asks {l : Launch} {D : va_G} {cy : Nat → ClassId} {N d : Nat} {g : gp} (wt : WT g) (hl : l.stackTraces = false) (hd : 65 ≤ d) {a0 : Nat} {x1 : Int32} {x2 : Int32} {δ : dp} (k0 : q_K g a0 = 12) : CalD l D cy m_X12_asks d 0 0 ev g [.ref a0, .int x1, .int x2] δ (D_X12_asks N g a0 x1 x2 δ) := by
  refine CalD.of (by decide +kernel) (Nat.le_of_ble_eq_true rfl) hl ?_
  unfold D_X12_asks
  refine w_iconst (v := 0) (μ := m_X12_asks) (pc := 0) dX12_asks_0 (by decide) ?_
  refine w_istore_n [(3, .int 0), (0, .ref a0), (1, .int x1), (2, .int x2)] (μ := m_X12_asks) (pc := 1) dX12_asks_1 rfl (by decide) rfl ?_
  refine w_lv [1, 2, 3, 0] rfl ?_
  exact t_L_X12_asks_2 wt hl (by omega) k0 N _ _
def L_X12_sets_14 (N : Nat) (g : gp) (T : Nat → Int32 → Int32 → Int32 → Int32 → dp → Option (dp)) (a0 : Nat) (x1 : Int32) (x2 : Int32) (x3 : Int32) (x4 : Int32) : Nat → Int32 → dp → Option (dp)
  | 0, _, _ => none
  | n + 1, x5v, δ => if x4 ≤ x5v then (some δ) else ((q_O g 12 42 a0).bind fun b_3 => if x3 < 0 ∨ q_N g b_3 ≤ x3.toNatClampNeg then none else bd (s_R δ b_3 x3.toNatClampNeg x5v) fun δ_5 => (T a0 x1 x2 (x3 - 1) x5v δ_5).bind fun r_7 => bi (x5v + 1) fun x_8 => L_X12_sets_14 N g T a0 x1 x2 x3 x4 n x_8 r_7)
set_option maxHeartbeats 4000000 in
set_option maxRecDepth 100000 in
theorem t_L_X12_sets_14 {l : Launch} {D : va_G} {cy : Nat → ClassId} {N d : Nat} {g : gp} (wt : WT g) (hl : l.stackTraces = false) {T : Nat → Int32 → Int32 → Int32 → Int32 → dp → Option (dp)} {dh : Nat} (hT : ∀ (a0 : Nat) (x1 : Int32) (x2 : Int32) (x3 : Int32) (x4 : Int32) (δ : dp), q_K g a0 = 12 → CalD l D cy m_X12_sets dh 0 0 ev g [.ref a0, .int x1, .int x2, .int x3, .int x4] δ (T a0 x1 x2 x3 x4 δ)) (hh : dh + 1 ≤ d) (hd : 66 ≤ d) {a0 : Nat} {x1 : Int32} {x2 : Int32} {x3 : Int32} {x4 : Int32} (k0 : q_K g a0 = 12) : ∀ (n : Nat) (x5v : Int32) (δ : dp), AWD l D cy m_X12_sets d 0 0 ev g 14 [(0, .ref a0), (1, .int x1), (2, .int x2), (3, .int x3), (4, .int x4), (5, .int x5v)] [] δ (L_X12_sets_14 N g T a0 x1 x2 x3 x4 n x5v δ) := by
  intro n
  induction n with
  | zero => intro x5v δ ; exact w_none
  | succ n ih =>
    intro x5v δ 
    unfold L_X12_sets_14
    refine w_iload 5 (μ := m_X12_sets) (pc := 14) dX12_sets_14 rfl ?_
    refine w_iload 4 (μ := m_X12_sets) (pc := 16) dX12_sets_16 rfl ?_
    refine w_icmp_ge 46 (μ := m_X12_sets) (pc := 18) dX12_sets_18 (by decide) (fun c_2 => ?_) (fun c_2 => ?_)
    · exact w_vret (μ := m_X12_sets) (pc := 46) dX12_sets_46 rfl rfl
    · refine w_aload_n 0 0 (μ := m_X12_sets) (pc := 21) dX12_sets_21 rfl rfl ?_
      refine w_getO (μ := m_X12_sets) (pc := 22) dX12_sets_22 fl_X12_90 ir_12_42 id_12_42 k0 (fun b_3 e_4 => ?_)
      refine w_iload_n 3 3 (μ := m_X12_sets) (pc := 25) dX12_sets_25 rfl rfl ?_
      refine w_iload 5 (μ := m_X12_sets) (pc := 26) dX12_sets_26 rfl ?_
      refine w_ast (μ := m_X12_sets) (pc := 28) dX12_sets_28 (wt_12_42 wt k0 e_4) ?_
      refine w_bd (fun δ_5 e_6 => ?_)
      refine w_aload_n 0 0 (μ := m_X12_sets) (pc := 29) dX12_sets_29 rfl rfl ?_
      refine w_iload_n 1 1 (μ := m_X12_sets) (pc := 30) dX12_sets_30 rfl rfl ?_
      refine w_iload_n 2 2 (μ := m_X12_sets) (pc := 31) dX12_sets_31 rfl rfl ?_
      refine w_iload_n 3 3 (μ := m_X12_sets) (pc := 32) dX12_sets_32 rfl rfl ?_
      refine w_iconst (v := 1) (μ := m_X12_sets) (pc := 33) dX12_sets_33 (by decide) ?_
      refine w_isub (μ := m_X12_sets) (pc := 34) dX12_sets_34 ?_
      refine w_iload 5 (μ := m_X12_sets) (pc := 35) dX12_sets_35 rfl ?_
      refine w_callV (As := [.int x1, .int x2, .int (x3 - 1), .int x5v]) (rest := []) (μ := m_X12_sets) (pc := 37) dX12_sets_37 cv_X12_368 rfl rfl k0 (by decide) rfl (Nat.le_of_ble_eq_true rfl) (d' := dh) (by omega) he_v (hT _ _ _ _ _ _ k0) (fun r_7 => ?_)
      refine w_inb (fun x_8 e_9 => ?_)
      refine w_iinc 5 [(5, .int x_8), (0, .ref a0), (1, .int x1), (2, .int x2), (3, .int x3), (4, .int x4)] (μ := m_X12_sets) (pc := 40) dX12_sets_40 rfl (by rw [e_9]; rfl) (by decide) rfl ?_
      refine w_goto 14 (μ := m_X12_sets) (pc := 43) dX12_sets_43 (by decide) ?_
      refine w_lv [1, 2, 3, 4, 5, 0] rfl ?_
      exact ih _ _
def B_X12_sets (N : Nat) (g : gp) (T : Nat → Int32 → Int32 → Int32 → Int32 → dp → Option (dp)) (a0 : Nat) (x1 : Int32) (x2 : Int32) (x3 : Int32) (x4 : Int32) (δ : dp) : Option (dp) :=
  if 0 ≤ x3 then (L_X12_sets_14 N g T a0 x1 x2 x3 x4 N x3 δ) else ((D_X12_asks N g a0 x1 x2 δ).bind fun r_10 => some r_10)
set_option maxHeartbeats 4000000 in
set_option maxRecDepth 100000 in
theorem c_b_X12_sets {l : Launch} {D : va_G} {cy : Nat → ClassId} {N d : Nat} {g : gp} (wt : WT g) (hl : l.stackTraces = false) {T : Nat → Int32 → Int32 → Int32 → Int32 → dp → Option (dp)} {dh : Nat} (hT : ∀ (a0 : Nat) (x1 : Int32) (x2 : Int32) (x3 : Int32) (x4 : Int32) (δ : dp), q_K g a0 = 12 → CalD l D cy m_X12_sets dh 0 0 ev g [.ref a0, .int x1, .int x2, .int x3, .int x4] δ (T a0 x1 x2 x3 x4 δ)) (hh : dh + 1 ≤ d) (hd : 66 ≤ d) {a0 : Nat} {x1 : Int32} {x2 : Int32} {x3 : Int32} {x4 : Int32} {δ : dp} (k0 : q_K g a0 = 12) : CalD l D cy m_X12_sets d 0 0 ev g [.ref a0, .int x1, .int x2, .int x3, .int x4] δ (B_X12_sets N g T a0 x1 x2 x3 x4 δ) := by
  refine CalD.of (by decide +kernel) (Nat.le_of_ble_eq_true rfl) hl ?_
  unfold B_X12_sets
  refine w_iload_n 3 3 (μ := m_X12_sets) (pc := 0) dX12_sets_0 rfl rfl ?_
  refine w_if_ge 11 (μ := m_X12_sets) (pc := 1) dX12_sets_1 (by decide) (fun c_1 => ?_) (fun c_1 => ?_)
  · refine w_iload_n 3 3 (μ := m_X12_sets) (pc := 11) dX12_sets_11 rfl rfl ?_
    refine w_istore [(5, .int x3), (0, .ref a0), (1, .int x1), (2, .int x2), (3, .int x3), (4, .int x4)] (μ := m_X12_sets) (pc := 12) dX12_sets_12 (by decide) rfl ?_
    refine w_lv [1, 2, 3, 4, 5, 0] rfl ?_
    exact t_L_X12_sets_14 wt hl hT (by omega) (by omega) k0 N _ _
  · refine w_aload_n 0 0 (μ := m_X12_sets) (pc := 4) dX12_sets_4 rfl rfl ?_
    refine w_iload_n 1 1 (μ := m_X12_sets) (pc := 5) dX12_sets_5 rfl rfl ?_
    refine w_iload_n 2 2 (μ := m_X12_sets) (pc := 6) dX12_sets_6 rfl rfl ?_
    refine w_callV (As := [.int x1, .int x2]) (rest := []) (μ := m_X12_sets) (pc := 7) dX12_sets_7 cv_X12_365 rfl rfl k0 (by decide) rfl (Nat.le_of_ble_eq_true rfl) (d' := d - 1) (by omega) he_v (c_X12_asks wt hl (d := d - 1) (by omega) k0) (fun r_10 => ?_)
    exact w_vret (μ := m_X12_sets) (pc := 10) dX12_sets_10 rfl rfl
def E_X12_sets (N : Nat) (g : gp) : Nat → Nat → Int32 → Int32 → Int32 → Int32 → dp → Option (dp)
  | 0, _, _, _, _, _, _ => none
  | k + 1, a0, x1, x2, x3, x4, δ => B_X12_sets N g (E_X12_sets N g k) a0 x1 x2 x3 x4 δ
theorem e_X12_sets {l : Launch} {D : va_G} {cy : Nat → ClassId} {N : Nat} {g : gp} (wt : WT g) (hl : l.stackTraces = false) : ∀ (k d : Nat), 66 + 1 * k ≤ d → ∀ (a0 : Nat) (x1 : Int32) (x2 : Int32) (x3 : Int32) (x4 : Int32) (δ : dp), q_K g a0 = 12 → CalD l D cy m_X12_sets d 0 0 ev g [.ref a0, .int x1, .int x2, .int x3, .int x4] δ (E_X12_sets N g k a0 x1 x2 x3 x4 δ) := by
  intro k
  induction k with
  | zero => intro d _ a0 x1 x2 x3 x4 δ k0 r hr; cases hr
  | succ k ih =>
    intro d hd a0 x1 x2 x3 x4 δ k0
    unfold E_X12_sets
    exact c_b_X12_sets wt hl (ih (66 + 1 * k) (Nat.le_refl _)) (by omega) (by omega) k0
def D_X12_sets (N : Nat) (g : gp) (a0 : Nat) (x1 : Int32) (x2 : Int32) (x3 : Int32) (x4 : Int32) (δ : dp) : Option (dp) := E_X12_sets N g 20 a0 x1 x2 x3 x4 δ
theorem c_X12_sets {l : Launch} {D : va_G} {cy : Nat → ClassId} {N d : Nat} {g : gp} (wt : WT g) (hl : l.stackTraces = false) (hd : 86 ≤ d) {a0 : Nat} {x1 : Int32} {x2 : Int32} {x3 : Int32} {x4 : Int32} {δ : dp} (k0 : q_K g a0 = 12) : CalD l D cy m_X12_sets d 0 0 ev g [.ref a0, .int x1, .int x2, .int x3, .int x4] δ (D_X12_sets N g a0 x1 x2 x3 x4 δ) := e_X12_sets wt hl 20 d (by omega) _ _ _ _ _ _ k0
def J_X12_findWorst_39 (N : Nat) (g : gp) (a0 : Nat) (x1 : Int32) (x2 : Int32) (δ : dp) : Option (dp) :=
  some δ
set_option maxHeartbeats 4000000 in
set_option maxRecDepth 100000 in
theorem t_J_X12_findWorst_39 {l : Launch} {D : va_G} {cy : Nat → ClassId} {N d : Nat} {g : gp} (wt : WT g) (hl : l.stackTraces = false) (hd : 87 ≤ d) {a0 : Nat} {x1 : Int32} {x2 : Int32} (k0 : q_K g a0 = 12) : ∀ (δ : dp), AWD l D cy m_X12_findWorst d 0 0 ev g 39 [] [] δ (J_X12_findWorst_39 N g a0 x1 x2 δ) := by
    intro  δ 
    unfold J_X12_findWorst_39
    exact w_vret (μ := m_X12_findWorst) (pc := 39) dX12_findWorst_39 rfl rfl
def L_X12_findWorst_7 (N : Nat) (g : gp) (a0 : Nat) (x1 : Int32) (x2 : Int32) : Nat → Int32 → dp → Option (dp)
  | 0, _, _ => none
  | n + 1, x3v, δ => if x2 < x3v then (J_X12_findWorst_39 N g a0 x1 x2 δ) else ((D_X12_all N g a0 δ).bind fun r_4 => if r_4.1 < x3v then (J_X12_findWorst_39 N g a0 x1 x2 r_4.2) else ((D_X12_all N g a0 r_4.2).bind fun r_6 => (D_X12_sets N g a0 x1 x3v (x3v - 1) r_6.1 r_6.2).bind fun r_7 => bi (x3v + 1) fun x_8 => L_X12_findWorst_7 N g a0 x1 x2 n x_8 r_7))
set_option maxHeartbeats 4000000 in
set_option maxRecDepth 100000 in
theorem t_L_X12_findWorst_7 {l : Launch} {D : va_G} {cy : Nat → ClassId} {N d : Nat} {g : gp} (wt : WT g) (hl : l.stackTraces = false) (hd : 87 ≤ d) {a0 : Nat} {x1 : Int32} {x2 : Int32} (k0 : q_K g a0 = 12) : ∀ (n : Nat) (x3v : Int32) (δ : dp), AWD l D cy m_X12_findWorst d 0 0 ev g 7 [(0, .ref a0), (1, .int x1), (2, .int x2), (3, .int x3v)] [] δ (L_X12_findWorst_7 N g a0 x1 x2 n x3v δ) := by
  intro n
  induction n with
  | zero => intro x3v δ ; exact w_none
  | succ n ih =>
    intro x3v δ 
    unfold L_X12_findWorst_7
    refine w_iload_n 3 3 (μ := m_X12_findWorst) (pc := 7) dX12_findWorst_7 rfl rfl ?_
    refine w_iload_n 2 2 (μ := m_X12_findWorst) (pc := 8) dX12_findWorst_8 rfl rfl ?_
    refine w_icmp_gt 39 (μ := m_X12_findWorst) (pc := 9) dX12_findWorst_9 (by decide) (fun c_3 => ?_) (fun c_3 => ?_)
    · refine w_lv [] rfl ?_
      exact t_J_X12_findWorst_39 wt hl (by omega) k0 _
    · refine w_iload_n 3 3 (μ := m_X12_findWorst) (pc := 12) dX12_findWorst_12 rfl rfl ?_
      refine w_aload_n 0 0 (μ := m_X12_findWorst) (pc := 13) dX12_findWorst_13 rfl rfl ?_
      refine w_callV (As := []) (rest := [.int x3v]) (μ := m_X12_findWorst) (pc := 14) dX12_findWorst_14 cv_X12_257 rfl rfl k0 (by decide) rfl (Nat.le_of_ble_eq_true rfl) (d' := d - 1) (by omega) he_i (c_X12_all wt hl (d := d - 1) (by omega) k0) (fun r_4 => ?_)
      refine w_icmp_gt 39 (μ := m_X12_findWorst) (pc := 17) dX12_findWorst_17 (by decide) (fun c_5 => ?_) (fun c_5 => ?_)
      · refine w_lv [] rfl ?_
        exact t_J_X12_findWorst_39 wt hl (by omega) k0 _
      · refine w_aload_n 0 0 (μ := m_X12_findWorst) (pc := 20) dX12_findWorst_20 rfl rfl ?_
        refine w_iload_n 1 1 (μ := m_X12_findWorst) (pc := 21) dX12_findWorst_21 rfl rfl ?_
        refine w_iload_n 3 3 (μ := m_X12_findWorst) (pc := 22) dX12_findWorst_22 rfl rfl ?_
        refine w_iload_n 3 3 (μ := m_X12_findWorst) (pc := 23) dX12_findWorst_23 rfl rfl ?_
        refine w_iconst (v := 1) (μ := m_X12_findWorst) (pc := 24) dX12_findWorst_24 (by decide) ?_
        refine w_isub (μ := m_X12_findWorst) (pc := 25) dX12_findWorst_25 ?_
        refine w_aload_n 0 0 (μ := m_X12_findWorst) (pc := 26) dX12_findWorst_26 rfl rfl ?_
        refine w_callV (As := []) (rest := [.int (x3v - 1), .int x3v, .int x1, .ref a0]) (μ := m_X12_findWorst) (pc := 27) dX12_findWorst_27 cv_X12_257 rfl rfl k0 (by decide) rfl (Nat.le_of_ble_eq_true rfl) (d' := d - 1) (by omega) he_i (c_X12_all wt hl (d := d - 1) (by omega) k0) (fun r_6 => ?_)
        refine w_callV (As := [.int x1, .int x3v, .int (x3v - 1), .int r_6.1]) (rest := []) (μ := m_X12_findWorst) (pc := 30) dX12_findWorst_30 cv_X12_368 rfl rfl k0 (by decide) rfl (Nat.le_of_ble_eq_true rfl) (d' := d - 1) (by omega) he_v (c_X12_sets wt hl (d := d - 1) (by omega) k0) (fun r_7 => ?_)
        refine w_inb (fun x_8 e_9 => ?_)
        refine w_iinc 3 [(3, .int x_8), (0, .ref a0), (1, .int x1), (2, .int x2)] (μ := m_X12_findWorst) (pc := 33) dX12_findWorst_33 rfl (by rw [e_9]; rfl) (by decide) rfl ?_
        refine w_goto 7 (μ := m_X12_findWorst) (pc := 36) dX12_findWorst_36 (by decide) ?_
        refine w_lv [1, 2, 3, 0] rfl ?_
        exact ih _ _
def D_X12_findWorst (N : Nat) (g : gp) (a0 : Nat) (x1 : Int32) (x2 : Int32) (δ : dp) : Option (dp) :=
  bd (s_I δ 12 37 a0 0) fun δ_1 => L_X12_findWorst_7 N g a0 x1 x2 N 0 δ_1
set_option maxHeartbeats 4000000 in
set_option maxRecDepth 100000 in
theorem c_X12_findWorst {l : Launch} {D : va_G} {cy : Nat → ClassId} {N d : Nat} {g : gp} (wt : WT g) (hl : l.stackTraces = false) (hd : 87 ≤ d) {a0 : Nat} {x1 : Int32} {x2 : Int32} {δ : dp} (k0 : q_K g a0 = 12) : CalD l D cy m_X12_findWorst d 0 0 ev g [.ref a0, .int x1, .int x2] δ (D_X12_findWorst N g a0 x1 x2 δ) := by
  refine CalD.of (by decide +kernel) (Nat.le_of_ble_eq_true rfl) hl ?_
  unfold D_X12_findWorst
  refine w_aload_n 0 0 (μ := m_X12_findWorst) (pc := 0) dX12_findWorst_0 rfl rfl ?_
  refine w_iconst (v := 0) (μ := m_X12_findWorst) (pc := 1) dX12_findWorst_1 (by decide) ?_
  refine w_putI (μ := m_X12_findWorst) (pc := 2) dX12_findWorst_2 fl_X12_356 flw_12_37 ir_12_37 k0 ?_
  refine w_bd (fun δ_1 e_2 => ?_)
  refine w_iconst (v := 0) (μ := m_X12_findWorst) (pc := 5) dX12_findWorst_5 (by decide) ?_
  refine w_istore_n [(3, .int 0), (0, .ref a0), (1, .int x1), (2, .int x2)] (μ := m_X12_findWorst) (pc := 6) dX12_findWorst_6 rfl (by decide) rfl ?_
  refine w_lv [1, 2, 3, 0] rfl ?_
  exact t_L_X12_findWorst_7 wt hl (by omega) k0 N _ _
def J_X12_worst_78 (N : Nat) (g : gp) (a0 : Nat) (x1 : Int32) (x2 : Int32) (x3 : Int32) (xs0 : Int32) (δ : dp) : Option (Int32 × dp) :=
  some (xs0, δ)
set_option maxHeartbeats 4000000 in
set_option maxRecDepth 100000 in
theorem t_J_X12_worst_78 {l : Launch} {D : va_G} {cy : Nat → ClassId} {N d : Nat} {g : gp} (wt : WT g) (hl : l.stackTraces = false) (hd : 88 ≤ d) {a0 : Nat} {x1 : Int32} {x2 : Int32} {x3 : Int32} (k0 : q_K g a0 = 12) : ∀ (xs0 : Int32) (δ : dp), AWD l D cy m_X12_worst d 0 0 ei g 78 [] [.int xs0] δ (J_X12_worst_78 N g a0 x1 x2 x3 xs0 δ) := by
    intro xs0 δ 
    unfold J_X12_worst_78
    exact w_iret (μ := m_X12_worst) (pc := 78) dX12_worst_78 rfl rfl
def J_X12_worst_35 (N : Nat) (g : gp) (a0 : Nat) (x1 : Int32) (x2 : Int32) (x3 : Int32) (xs0 : Int32) (as1 : Nat) (δ : dp) : Option (Int32 × dp) :=
  (D_X12_may N g as1 xs0 1 2 δ).bind fun r_5 => if r_5.1 = 0 then (some (0, r_5.2)) else ((D_X12_findWorst N g a0 x1 x2 r_5.2).bind fun r_7 => if x3 = 0 then (J_X12_worst_78 N g a0 x1 x2 x3 (q_I r_7 12 37 a0) r_7) else (if x3 = (1 : Int32) then (J_X12_worst_78 N g a0 x1 x2 x3 (q_I r_7 12 38 a0) r_7) else (J_X12_worst_78 N g a0 x1 x2 x3 (q_I r_7 12 39 a0) r_7)))
set_option maxHeartbeats 4000000 in
set_option maxRecDepth 100000 in
theorem t_J_X12_worst_35 {l : Launch} {D : va_G} {cy : Nat → ClassId} {N d : Nat} {g : gp} (wt : WT g) (hl : l.stackTraces = false) (hd : 88 ≤ d) {a0 : Nat} {x1 : Int32} {x2 : Int32} {x3 : Int32} (k0 : q_K g a0 = 12) : ∀ (xs0 : Int32) (as1 : Nat) (δ : dp), q_K g as1 = 12 → AWD l D cy m_X12_worst d 0 0 ei g 35 [(0, .ref a0), (1, .int x1), (2, .int x2), (3, .int x3)] [.int xs0, .ref as1] δ (J_X12_worst_35 N g a0 x1 x2 x3 xs0 as1 δ) := by
    intro xs0 as1 δ has1
    unfold J_X12_worst_35
    refine w_iconst (v := 1) (μ := m_X12_worst) (pc := 35) dX12_worst_35 (by decide) ?_
    refine w_iconst (v := 2) (μ := m_X12_worst) (pc := 36) dX12_worst_36 (by decide) ?_
    refine w_callV (As := [.int xs0, .int 1, .int 2]) (rest := []) (μ := m_X12_worst) (pc := 37) dX12_worst_37 cv_X12_157 rfl rfl has1 (by decide) rfl (Nat.le_of_ble_eq_true rfl) (d' := d - 1) (by omega) he_i (c_X12_may wt hl (d := d - 1) (by omega) has1) (fun r_5 => ?_)
    refine w_if_ne 45 (μ := m_X12_worst) (pc := 40) dX12_worst_40 (by decide) (fun c_6 => ?_) (fun c_6 => ?_)
    · refine w_aload_n 0 0 (μ := m_X12_worst) (pc := 45) dX12_worst_45 rfl rfl ?_
      refine w_iload_n 1 1 (μ := m_X12_worst) (pc := 46) dX12_worst_46 rfl rfl ?_
      refine w_iload_n 2 2 (μ := m_X12_worst) (pc := 47) dX12_worst_47 rfl rfl ?_
      refine w_callV (As := [.int x1, .int x2]) (rest := []) (μ := m_X12_worst) (pc := 48) dX12_worst_48 cv_X12_378 rfl rfl k0 (by decide) rfl (Nat.le_of_ble_eq_true rfl) (d' := d - 1) (by omega) he_v (c_X12_findWorst wt hl (d := d - 1) (by omega) k0) (fun r_7 => ?_)
      refine w_iload_n 3 3 (μ := m_X12_worst) (pc := 51) dX12_worst_51 rfl rfl ?_
      refine w_if_ne 62 (μ := m_X12_worst) (pc := 52) dX12_worst_52 (by decide) (fun c_8 => ?_) (fun c_8 => ?_)
      · refine w_iload_n 3 3 (μ := m_X12_worst) (pc := 62) dX12_worst_62 rfl rfl ?_
        refine w_iconst (v := 1) (μ := m_X12_worst) (pc := 63) dX12_worst_63 (by decide) ?_
        refine w_icmp_ne 74 (μ := m_X12_worst) (pc := 64) dX12_worst_64 (by decide) (fun c_9 => ?_) (fun c_9 => ?_)
        · refine w_aload_n 0 0 (μ := m_X12_worst) (pc := 74) dX12_worst_74 rfl rfl ?_
          refine w_getI (μ := m_X12_worst) (pc := 75) dX12_worst_75 fl_X12_362 ir_12_39 k0 ?_
          refine w_lv [] rfl ?_
          exact t_J_X12_worst_78 wt hl (by omega) k0 _ _
        · refine w_aload_n 0 0 (μ := m_X12_worst) (pc := 67) dX12_worst_67 rfl rfl ?_
          refine w_getI (μ := m_X12_worst) (pc := 68) dX12_worst_68 fl_X12_359 ir_12_38 k0 ?_
          refine w_goto 78 (μ := m_X12_worst) (pc := 71) dX12_worst_71 (by decide) ?_
          refine w_lv [] rfl ?_
          exact t_J_X12_worst_78 wt hl (by omega) k0 _ _
      · refine w_aload_n 0 0 (μ := m_X12_worst) (pc := 55) dX12_worst_55 rfl rfl ?_
        refine w_getI (μ := m_X12_worst) (pc := 56) dX12_worst_56 fl_X12_356 ir_12_37 k0 ?_
        refine w_goto 78 (μ := m_X12_worst) (pc := 59) dX12_worst_59 (by decide) ?_
        refine w_lv [] rfl ?_
        exact t_J_X12_worst_78 wt hl (by omega) k0 _ _
    · refine w_iconst (v := 0) (μ := m_X12_worst) (pc := 43) dX12_worst_43 (by decide) ?_
      exact w_iret (μ := m_X12_worst) (pc := 44) dX12_worst_44 rfl rfl
def J_X12_worst_34 (N : Nat) (g : gp) (a0 : Nat) (x1 : Int32) (x2 : Int32) (x3 : Int32) (as0 : Nat) (δ : dp) : Option (Int32 × dp) :=
  J_X12_worst_35 N g a0 x1 x2 x3 0 as0 δ
set_option maxHeartbeats 4000000 in
set_option maxRecDepth 100000 in
theorem t_J_X12_worst_34 {l : Launch} {D : va_G} {cy : Nat → ClassId} {N d : Nat} {g : gp} (wt : WT g) (hl : l.stackTraces = false) (hd : 88 ≤ d) {a0 : Nat} {x1 : Int32} {x2 : Int32} {x3 : Int32} (k0 : q_K g a0 = 12) : ∀ (as0 : Nat) (δ : dp), q_K g as0 = 12 → AWD l D cy m_X12_worst d 0 0 ei g 34 [(0, .ref a0), (1, .int x1), (2, .int x2), (3, .int x3)] [.ref as0] δ (J_X12_worst_34 N g a0 x1 x2 x3 as0 δ) := by
    intro as0 δ has0
    unfold J_X12_worst_34
    refine w_iconst (v := 0) (μ := m_X12_worst) (pc := 34) dX12_worst_34 (by decide) ?_
    exact t_J_X12_worst_35 wt hl (by omega) k0 _ _ _ has0
def D_X12_worst (N : Nat) (g : gp) (a0 : Nat) (x1 : Int32) (x2 : Int32) (x3 : Int32) (δ : dp) : Option (Int32 × dp) :=
  bd (s_I δ 12 0 a0 0) fun δ_1 => (D_X12_isCall N g x1 δ_1).bind fun r_3 => if r_3.1 = 0 then (J_X12_worst_34 N g a0 x1 x2 x3 a0 r_3.2) else ((D_X12_isWorst N g a0 x2 r_3.2).bind fun r_10 => if r_10.1 = 0 then (J_X12_worst_34 N g a0 x1 x2 x3 a0 r_10.2) else ((D_X12_within N g x3 0 2 r_10.2).bind fun r_12 => if r_12.1 = 0 then (J_X12_worst_34 N g a0 x1 x2 x3 a0 r_12.2) else (J_X12_worst_35 N g a0 x1 x2 x3 1 a0 r_12.2)))
set_option maxHeartbeats 4000000 in
set_option maxRecDepth 100000 in
theorem c_X12_worst {l : Launch} {D : va_G} {cy : Nat → ClassId} {N d : Nat} {g : gp} (wt : WT g) (hl : l.stackTraces = false) (hd : 88 ≤ d) {a0 : Nat} {x1 : Int32} {x2 : Int32} {x3 : Int32} {δ : dp} (k0 : q_K g a0 = 12) : CalD l D cy m_X12_worst d 0 0 ei g [.ref a0, .int x1, .int x2, .int x3] δ (D_X12_worst N g a0 x1 x2 x3 δ) := by
  refine CalD.of (by decide +kernel) (Nat.le_of_ble_eq_true rfl) hl ?_
  unfold D_X12_worst
  refine w_aload_n 0 0 (μ := m_X12_worst) (pc := 0) dX12_worst_0 rfl rfl ?_
  refine w_iconst (v := 0) (μ := m_X12_worst) (pc := 1) dX12_worst_1 (by decide) ?_
  refine w_putI (μ := m_X12_worst) (pc := 2) dX12_worst_2 fl_X12_1 flw_12_0 ir_12_0 k0 ?_
  refine w_bd (fun δ_1 e_2 => ?_)
  refine w_aload_n 0 0 (μ := m_X12_worst) (pc := 5) dX12_worst_5 rfl rfl ?_
  refine w_iload_n 1 1 (μ := m_X12_worst) (pc := 6) dX12_worst_6 rfl rfl ?_
  refine w_callS (As := [.int x1]) (rest := [.ref a0]) (μ := m_X12_worst) (pc := 7) dX12_worst_7 cs_X12_344 rfl rfl (Nat.le_of_ble_eq_true rfl) (d' := d - 1) (by omega) he_i (c_X12_isCall wt hl (d := d - 1) (by omega) ) (fun r_3 => ?_)
  refine w_if_eq 34 (μ := m_X12_worst) (pc := 10) dX12_worst_10 (by decide) (fun c_4 => ?_) (fun c_4 => ?_)
  · exact t_J_X12_worst_34 wt hl (by omega) k0 _ _ k0
  · refine w_aload_n 0 0 (μ := m_X12_worst) (pc := 13) dX12_worst_13 rfl rfl ?_
    refine w_iload_n 2 2 (μ := m_X12_worst) (pc := 14) dX12_worst_14 rfl rfl ?_
    refine w_callV (As := [.int x2]) (rest := [.ref a0]) (μ := m_X12_worst) (pc := 15) dX12_worst_15 cv_X12_375 rfl rfl k0 (by decide) rfl (Nat.le_of_ble_eq_true rfl) (d' := d - 1) (by omega) he_i (c_X12_isWorst wt hl (d := d - 1) (by omega) k0) (fun r_10 => ?_)
    refine w_if_eq 34 (μ := m_X12_worst) (pc := 18) dX12_worst_18 (by decide) (fun c_11 => ?_) (fun c_11 => ?_)
    · exact t_J_X12_worst_34 wt hl (by omega) k0 _ _ k0
    · refine w_iload_n 3 3 (μ := m_X12_worst) (pc := 21) dX12_worst_21 rfl rfl ?_
      refine w_iconst (v := 0) (μ := m_X12_worst) (pc := 22) dX12_worst_22 (by decide) ?_
      refine w_iconst (v := 2) (μ := m_X12_worst) (pc := 23) dX12_worst_23 (by decide) ?_
      refine w_callS (As := [.int x3, .int 0, .int 2]) (rest := [.ref a0]) (μ := m_X12_worst) (pc := 24) dX12_worst_24 cs_X12_250 rfl rfl (Nat.le_of_ble_eq_true rfl) (d' := d - 1) (by omega) he_i (c_X12_within wt hl (d := d - 1) (by omega) ) (fun r_12 => ?_)
      refine w_if_eq 34 (μ := m_X12_worst) (pc := 27) dX12_worst_27 (by decide) (fun c_13 => ?_) (fun c_13 => ?_)
      · exact t_J_X12_worst_34 wt hl (by omega) k0 _ _ k0
      · refine w_iconst (v := 1) (μ := m_X12_worst) (pc := 30) dX12_worst_30 (by decide) ?_
        refine w_goto 35 (μ := m_X12_worst) (pc := 31) dX12_worst_31 (by decide) ?_
        exact t_J_X12_worst_35 wt hl (by omega) k0 _ _ _ k0
def J_X12_bad_66 (N : Nat) (g : gp) (a0 : Nat) (x1 : Int32) (x2 : Int32) (x3 : Int32) (xs0 : Int32) (δ : dp) : Option (Int32 × dp) :=
  some (xs0, δ)
set_option maxHeartbeats 4000000 in
set_option maxRecDepth 100000 in
theorem t_J_X12_bad_66 {l : Launch} {D : va_G} {cy : Nat → ClassId} {N d : Nat} {g : gp} (wt : WT g) (hl : l.stackTraces = false) (hd : 88 ≤ d) {a0 : Nat} {x1 : Int32} {x2 : Int32} {x3 : Int32} (k0 : q_K g a0 = 12) : ∀ (xs0 : Int32) (δ : dp), AWD l D cy m_X12_bad d 0 0 ei g 66 [] [.int xs0] δ (J_X12_bad_66 N g a0 x1 x2 x3 xs0 δ) := by
    intro xs0 δ 
    unfold J_X12_bad_66
    exact w_iret (μ := m_X12_bad) (pc := 66) dX12_bad_66 rfl rfl
def J_X12_bad_26 (N : Nat) (g : gp) (a0 : Nat) (x1 : Int32) (x2 : Int32) (x3 : Int32) (xs0 : Int32) (as1 : Nat) (δ : dp) : Option (Int32 × dp) :=
  (D_X12_may N g as1 xs0 1 2 δ).bind fun r_5 => if r_5.1 = 0 then (some (0, r_5.2)) else ((D_X12_findWorst N g a0 x1 x2 r_5.2).bind fun r_7 => (D_X12_within N g x3 0 ((q_I r_7 12 38 a0) - 1) r_7).bind fun r_8 => if r_8.1 = 0 then (J_X12_bad_66 N g a0 x1 x2 x3 ((-1)) r_8.2) else ((q_O g 12 41 a0).bind fun b_10 => if x3 < 0 ∨ q_N g b_10 ≤ x3.toNatClampNeg then none else J_X12_bad_66 N g a0 x1 x2 x3 (q_R r_8.2 b_10 x3.toNatClampNeg) r_8.2))
set_option maxHeartbeats 4000000 in
set_option maxRecDepth 100000 in
theorem t_J_X12_bad_26 {l : Launch} {D : va_G} {cy : Nat → ClassId} {N d : Nat} {g : gp} (wt : WT g) (hl : l.stackTraces = false) (hd : 88 ≤ d) {a0 : Nat} {x1 : Int32} {x2 : Int32} {x3 : Int32} (k0 : q_K g a0 = 12) : ∀ (xs0 : Int32) (as1 : Nat) (δ : dp), q_K g as1 = 12 → AWD l D cy m_X12_bad d 0 0 ei g 26 [(0, .ref a0), (1, .int x1), (2, .int x2), (3, .int x3)] [.int xs0, .ref as1] δ (J_X12_bad_26 N g a0 x1 x2 x3 xs0 as1 δ) := by
    intro xs0 as1 δ has1
    unfold J_X12_bad_26
    refine w_iconst (v := 1) (μ := m_X12_bad) (pc := 26) dX12_bad_26 (by decide) ?_
    refine w_iconst (v := 2) (μ := m_X12_bad) (pc := 27) dX12_bad_27 (by decide) ?_
    refine w_callV (As := [.int xs0, .int 1, .int 2]) (rest := []) (μ := m_X12_bad) (pc := 28) dX12_bad_28 cv_X12_157 rfl rfl has1 (by decide) rfl (Nat.le_of_ble_eq_true rfl) (d' := d - 1) (by omega) he_i (c_X12_may wt hl (d := d - 1) (by omega) has1) (fun r_5 => ?_)
    refine w_if_ne 36 (μ := m_X12_bad) (pc := 31) dX12_bad_31 (by decide) (fun c_6 => ?_) (fun c_6 => ?_)
    · refine w_aload_n 0 0 (μ := m_X12_bad) (pc := 36) dX12_bad_36 rfl rfl ?_
      refine w_iload_n 1 1 (μ := m_X12_bad) (pc := 37) dX12_bad_37 rfl rfl ?_
      refine w_iload_n 2 2 (μ := m_X12_bad) (pc := 38) dX12_bad_38 rfl rfl ?_
      refine w_callV (As := [.int x1, .int x2]) (rest := []) (μ := m_X12_bad) (pc := 39) dX12_bad_39 cv_X12_378 rfl rfl k0 (by decide) rfl (Nat.le_of_ble_eq_true rfl) (d' := d - 1) (by omega) he_v (c_X12_findWorst wt hl (d := d - 1) (by omega) k0) (fun r_7 => ?_)
      refine w_iload_n 3 3 (μ := m_X12_bad) (pc := 42) dX12_bad_42 rfl rfl ?_
      refine w_iconst (v := 0) (μ := m_X12_bad) (pc := 43) dX12_bad_43 (by decide) ?_
      refine w_aload_n 0 0 (μ := m_X12_bad) (pc := 44) dX12_bad_44 rfl rfl ?_
      refine w_getI (μ := m_X12_bad) (pc := 45) dX12_bad_45 fl_X12_359 ir_12_38 k0 ?_
      refine w_iconst (v := 1) (μ := m_X12_bad) (pc := 48) dX12_bad_48 (by decide) ?_
      refine w_isub (μ := m_X12_bad) (pc := 49) dX12_bad_49 ?_
      refine w_callS (As := [.int x3, .int 0, .int ((q_I r_7 12 38 a0) - 1)]) (rest := []) (μ := m_X12_bad) (pc := 50) dX12_bad_50 cs_X12_250 rfl rfl (Nat.le_of_ble_eq_true rfl) (d' := d - 1) (by omega) he_i (c_X12_within wt hl (d := d - 1) (by omega) ) (fun r_8 => ?_)
      refine w_if_eq 65 (μ := m_X12_bad) (pc := 53) dX12_bad_53 (by decide) (fun c_9 => ?_) (fun c_9 => ?_)
      · refine w_iconst (v := (-1)) (μ := m_X12_bad) (pc := 65) dX12_bad_65 (by decide) ?_
        refine w_lv [] rfl ?_
        exact t_J_X12_bad_66 wt hl (by omega) k0 _ _
      · refine w_aload_n 0 0 (μ := m_X12_bad) (pc := 56) dX12_bad_56 rfl rfl ?_
        refine w_getO (μ := m_X12_bad) (pc := 57) dX12_bad_57 fl_X12_87 ir_12_41 id_12_41 k0 (fun b_10 e_11 => ?_)
        refine w_iload_n 3 3 (μ := m_X12_bad) (pc := 60) dX12_bad_60 rfl rfl ?_
        refine w_ald (μ := m_X12_bad) (pc := 61) dX12_bad_61 (wt_12_41 wt k0 e_11) ?_
        refine w_goto 66 (μ := m_X12_bad) (pc := 62) dX12_bad_62 (by decide) ?_
        refine w_lv [] rfl ?_
        exact t_J_X12_bad_66 wt hl (by omega) k0 _ _
    · refine w_iconst (v := 0) (μ := m_X12_bad) (pc := 34) dX12_bad_34 (by decide) ?_
      exact w_iret (μ := m_X12_bad) (pc := 35) dX12_bad_35 rfl rfl
def J_X12_bad_25 (N : Nat) (g : gp) (a0 : Nat) (x1 : Int32) (x2 : Int32) (x3 : Int32) (as0 : Nat) (δ : dp) : Option (Int32 × dp) :=
  J_X12_bad_26 N g a0 x1 x2 x3 0 as0 δ
set_option maxHeartbeats 4000000 in
set_option maxRecDepth 100000 in
theorem t_J_X12_bad_25 {l : Launch} {D : va_G} {cy : Nat → ClassId} {N d : Nat} {g : gp} (wt : WT g) (hl : l.stackTraces = false) (hd : 88 ≤ d) {a0 : Nat} {x1 : Int32} {x2 : Int32} {x3 : Int32} (k0 : q_K g a0 = 12) : ∀ (as0 : Nat) (δ : dp), q_K g as0 = 12 → AWD l D cy m_X12_bad d 0 0 ei g 25 [(0, .ref a0), (1, .int x1), (2, .int x2), (3, .int x3)] [.ref as0] δ (J_X12_bad_25 N g a0 x1 x2 x3 as0 δ) := by
    intro as0 δ has0
    unfold J_X12_bad_25
    refine w_iconst (v := 0) (μ := m_X12_bad) (pc := 25) dX12_bad_25 (by decide) ?_
    exact t_J_X12_bad_26 wt hl (by omega) k0 _ _ _ has0
def D_X12_bad (N : Nat) (g : gp) (a0 : Nat) (x1 : Int32) (x2 : Int32) (x3 : Int32) (δ : dp) : Option (Int32 × dp) :=
  bd (s_I δ 12 0 a0 0) fun δ_1 => (D_X12_isCall N g x1 δ_1).bind fun r_3 => if r_3.1 = 0 then (J_X12_bad_25 N g a0 x1 x2 x3 a0 r_3.2) else ((D_X12_isWorst N g a0 x2 r_3.2).bind fun r_12 => if r_12.1 = 0 then (J_X12_bad_25 N g a0 x1 x2 x3 a0 r_12.2) else (J_X12_bad_26 N g a0 x1 x2 x3 1 a0 r_12.2))
set_option maxHeartbeats 4000000 in
set_option maxRecDepth 100000 in
theorem c_X12_bad {l : Launch} {D : va_G} {cy : Nat → ClassId} {N d : Nat} {g : gp} (wt : WT g) (hl : l.stackTraces = false) (hd : 88 ≤ d) {a0 : Nat} {x1 : Int32} {x2 : Int32} {x3 : Int32} {δ : dp} (k0 : q_K g a0 = 12) : CalD l D cy m_X12_bad d 0 0 ei g [.ref a0, .int x1, .int x2, .int x3] δ (D_X12_bad N g a0 x1 x2 x3 δ) := by
  refine CalD.of (by decide +kernel) (Nat.le_of_ble_eq_true rfl) hl ?_
  unfold D_X12_bad
  refine w_aload_n 0 0 (μ := m_X12_bad) (pc := 0) dX12_bad_0 rfl rfl ?_
  refine w_iconst (v := 0) (μ := m_X12_bad) (pc := 1) dX12_bad_1 (by decide) ?_
  refine w_putI (μ := m_X12_bad) (pc := 2) dX12_bad_2 fl_X12_1 flw_12_0 ir_12_0 k0 ?_
  refine w_bd (fun δ_1 e_2 => ?_)
  refine w_aload_n 0 0 (μ := m_X12_bad) (pc := 5) dX12_bad_5 rfl rfl ?_
  refine w_iload_n 1 1 (μ := m_X12_bad) (pc := 6) dX12_bad_6 rfl rfl ?_
  refine w_callS (As := [.int x1]) (rest := [.ref a0]) (μ := m_X12_bad) (pc := 7) dX12_bad_7 cs_X12_344 rfl rfl (Nat.le_of_ble_eq_true rfl) (d' := d - 1) (by omega) he_i (c_X12_isCall wt hl (d := d - 1) (by omega) ) (fun r_3 => ?_)
  refine w_if_eq 25 (μ := m_X12_bad) (pc := 10) dX12_bad_10 (by decide) (fun c_4 => ?_) (fun c_4 => ?_)
  · exact t_J_X12_bad_25 wt hl (by omega) k0 _ _ k0
  · refine w_aload_n 0 0 (μ := m_X12_bad) (pc := 13) dX12_bad_13 rfl rfl ?_
    refine w_iload_n 2 2 (μ := m_X12_bad) (pc := 14) dX12_bad_14 rfl rfl ?_
    refine w_callV (As := [.int x2]) (rest := [.ref a0]) (μ := m_X12_bad) (pc := 15) dX12_bad_15 cv_X12_375 rfl rfl k0 (by decide) rfl (Nat.le_of_ble_eq_true rfl) (d' := d - 1) (by omega) he_i (c_X12_isWorst wt hl (d := d - 1) (by omega) k0) (fun r_12 => ?_)
    refine w_if_eq 25 (μ := m_X12_bad) (pc := 18) dX12_bad_18 (by decide) (fun c_13 => ?_) (fun c_13 => ?_)
    · exact t_J_X12_bad_25 wt hl (by omega) k0 _ _ k0
    · refine w_iconst (v := 1) (μ := m_X12_bad) (pc := 21) dX12_bad_21 (by decide) ?_
      refine w_goto 26 (μ := m_X12_bad) (pc := 22) dX12_bad_22 (by decide) ?_
      exact t_J_X12_bad_26 wt hl (by omega) k0 _ _ _ k0
def J_X12_reached_70 (N : Nat) (g : gp) (a0 : Nat) (x1 : Int32) (xs0 : Int32) (δ : dp) : Option (Int32 × dp) :=
  some (xs0, δ)
set_option maxHeartbeats 4000000 in
set_option maxRecDepth 100000 in
theorem t_J_X12_reached_70 {l : Launch} {D : va_G} {cy : Nat → ClassId} {N d : Nat} {g : gp} (wt : WT g) (hl : l.stackTraces = false) (hd : 88 ≤ d) {a0 : Nat} {x1 : Int32} (k0 : q_K g a0 = 12) : ∀ (xs0 : Int32) (δ : dp), AWD l D cy m_X12_reached d 0 0 ei g 70 [] [.int xs0] δ (J_X12_reached_70 N g a0 x1 xs0 δ) := by
    intro xs0 δ 
    unfold J_X12_reached_70
    exact w_iret (μ := m_X12_reached) (pc := 70) dX12_reached_70 rfl rfl
def J_X12_reached_27 (N : Nat) (g : gp) (a0 : Nat) (x1 : Int32) (xs0 : Int32) (as1 : Nat) (δ : dp) : Option (Int32 × dp) :=
  (D_X12_may N g as1 xs0 1 2 δ).bind fun r_5 => if r_5.1 = 0 then (some (0, r_5.2)) else ((D_X12_mostSet N g a0 r_5.2).bind fun r_7 => (D_X12_findWorst N g a0 x1 r_7.1 r_7.2).bind fun r_8 => (D_X12_boundOf N g a0 x1 (q_I r_8 12 10 a0) r_8).bind fun r_9 => if (q_I r_8 12 37 a0) = r_9.1 then (J_X12_reached_70 N g a0 x1 (q_I r_9.2 12 38 a0) r_9.2) else (J_X12_reached_70 N g a0 x1 ((-1)) r_9.2))
set_option maxHeartbeats 4000000 in
set_option maxRecDepth 100000 in
theorem t_J_X12_reached_27 {l : Launch} {D : va_G} {cy : Nat → ClassId} {N d : Nat} {g : gp} (wt : WT g) (hl : l.stackTraces = false) (hd : 88 ≤ d) {a0 : Nat} {x1 : Int32} (k0 : q_K g a0 = 12) : ∀ (xs0 : Int32) (as1 : Nat) (δ : dp), q_K g as1 = 12 → AWD l D cy m_X12_reached d 0 0 ei g 27 [(0, .ref a0), (1, .int x1)] [.int xs0, .ref as1] δ (J_X12_reached_27 N g a0 x1 xs0 as1 δ) := by
    intro xs0 as1 δ has1
    unfold J_X12_reached_27
    refine w_iconst (v := 1) (μ := m_X12_reached) (pc := 27) dX12_reached_27 (by decide) ?_
    refine w_iconst (v := 2) (μ := m_X12_reached) (pc := 28) dX12_reached_28 (by decide) ?_
    refine w_callV (As := [.int xs0, .int 1, .int 2]) (rest := []) (μ := m_X12_reached) (pc := 29) dX12_reached_29 cv_X12_157 rfl rfl has1 (by decide) rfl (Nat.le_of_ble_eq_true rfl) (d' := d - 1) (by omega) he_i (c_X12_may wt hl (d := d - 1) (by omega) has1) (fun r_5 => ?_)
    refine w_if_ne 37 (μ := m_X12_reached) (pc := 32) dX12_reached_32 (by decide) (fun c_6 => ?_) (fun c_6 => ?_)
    · refine w_aload_n 0 0 (μ := m_X12_reached) (pc := 37) dX12_reached_37 rfl rfl ?_
      refine w_iload_n 1 1 (μ := m_X12_reached) (pc := 38) dX12_reached_38 rfl rfl ?_
      refine w_aload_n 0 0 (μ := m_X12_reached) (pc := 39) dX12_reached_39 rfl rfl ?_
      refine w_callV (As := []) (rest := [.int x1, .ref a0]) (μ := m_X12_reached) (pc := 40) dX12_reached_40 cv_X12_372 rfl rfl k0 (by decide) rfl (Nat.le_of_ble_eq_true rfl) (d' := d - 1) (by omega) he_i (c_X12_mostSet wt hl (d := d - 1) (by omega) k0) (fun r_7 => ?_)
      refine w_callV (As := [.int x1, .int r_7.1]) (rest := []) (μ := m_X12_reached) (pc := 43) dX12_reached_43 cv_X12_378 rfl rfl k0 (by decide) rfl (Nat.le_of_ble_eq_true rfl) (d' := d - 1) (by omega) he_v (c_X12_findWorst wt hl (d := d - 1) (by omega) k0) (fun r_8 => ?_)
      refine w_aload_n 0 0 (μ := m_X12_reached) (pc := 46) dX12_reached_46 rfl rfl ?_
      refine w_getI (μ := m_X12_reached) (pc := 47) dX12_reached_47 fl_X12_356 ir_12_37 k0 ?_
      refine w_aload_n 0 0 (μ := m_X12_reached) (pc := 50) dX12_reached_50 rfl rfl ?_
      refine w_iload_n 1 1 (μ := m_X12_reached) (pc := 51) dX12_reached_51 rfl rfl ?_
      refine w_aload_n 0 0 (μ := m_X12_reached) (pc := 52) dX12_reached_52 rfl rfl ?_
      refine w_getI (μ := m_X12_reached) (pc := 53) dX12_reached_53 fl_X12_23 ir_12_10 k0 ?_
      refine w_callV (As := [.int x1, .int (q_I r_8 12 10 a0)]) (rest := [.int (q_I r_8 12 37 a0)]) (μ := m_X12_reached) (pc := 56) dX12_reached_56 cv_X12_353 rfl rfl k0 (by decide) rfl (Nat.le_of_ble_eq_true rfl) (d' := d - 1) (by omega) he_i (c_X12_boundOf wt hl (d := d - 1) (by omega) k0) (fun r_9 => ?_)
      refine w_icmp_ne 69 (μ := m_X12_reached) (pc := 59) dX12_reached_59 (by decide) (fun c_10 => ?_) (fun c_10 => ?_)
      · refine w_iconst (v := (-1)) (μ := m_X12_reached) (pc := 69) dX12_reached_69 (by decide) ?_
        refine w_lv [] rfl ?_
        exact t_J_X12_reached_70 wt hl (by omega) k0 _ _
      · refine w_aload_n 0 0 (μ := m_X12_reached) (pc := 62) dX12_reached_62 rfl rfl ?_
        refine w_getI (μ := m_X12_reached) (pc := 63) dX12_reached_63 fl_X12_359 ir_12_38 k0 ?_
        refine w_goto 70 (μ := m_X12_reached) (pc := 66) dX12_reached_66 (by decide) ?_
        refine w_lv [] rfl ?_
        exact t_J_X12_reached_70 wt hl (by omega) k0 _ _
    · refine w_iconst (v := 0) (μ := m_X12_reached) (pc := 35) dX12_reached_35 (by decide) ?_
      exact w_iret (μ := m_X12_reached) (pc := 36) dX12_reached_36 rfl rfl
def J_X12_reached_26 (N : Nat) (g : gp) (a0 : Nat) (x1 : Int32) (as0 : Nat) (δ : dp) : Option (Int32 × dp) :=
  J_X12_reached_27 N g a0 x1 0 as0 δ
set_option maxHeartbeats 4000000 in
set_option maxRecDepth 100000 in
theorem t_J_X12_reached_26 {l : Launch} {D : va_G} {cy : Nat → ClassId} {N d : Nat} {g : gp} (wt : WT g) (hl : l.stackTraces = false) (hd : 88 ≤ d) {a0 : Nat} {x1 : Int32} (k0 : q_K g a0 = 12) : ∀ (as0 : Nat) (δ : dp), q_K g as0 = 12 → AWD l D cy m_X12_reached d 0 0 ei g 26 [(0, .ref a0), (1, .int x1)] [.ref as0] δ (J_X12_reached_26 N g a0 x1 as0 δ) := by
    intro as0 δ has0
    unfold J_X12_reached_26
    refine w_iconst (v := 0) (μ := m_X12_reached) (pc := 26) dX12_reached_26 (by decide) ?_
    exact t_J_X12_reached_27 wt hl (by omega) k0 _ _ _ has0
def D_X12_reached (N : Nat) (g : gp) (a0 : Nat) (x1 : Int32) (δ : dp) : Option (Int32 × dp) :=
  bd (s_I δ 12 0 a0 0) fun δ_1 => (D_X12_isCall N g x1 δ_1).bind fun r_3 => if r_3.1 = 0 then (J_X12_reached_26 N g a0 x1 a0 r_3.2) else (if (6 : Int32) < (q_I r_3.2 12 10 a0) then (J_X12_reached_26 N g a0 x1 a0 r_3.2) else (J_X12_reached_27 N g a0 x1 1 a0 r_3.2))
set_option maxHeartbeats 4000000 in
set_option maxRecDepth 100000 in
theorem c_X12_reached {l : Launch} {D : va_G} {cy : Nat → ClassId} {N d : Nat} {g : gp} (wt : WT g) (hl : l.stackTraces = false) (hd : 88 ≤ d) {a0 : Nat} {x1 : Int32} {δ : dp} (k0 : q_K g a0 = 12) : CalD l D cy m_X12_reached d 0 0 ei g [.ref a0, .int x1] δ (D_X12_reached N g a0 x1 δ) := by
  refine CalD.of (by decide +kernel) (Nat.le_of_ble_eq_true rfl) hl ?_
  unfold D_X12_reached
  refine w_aload_n 0 0 (μ := m_X12_reached) (pc := 0) dX12_reached_0 rfl rfl ?_
  refine w_iconst (v := 0) (μ := m_X12_reached) (pc := 1) dX12_reached_1 (by decide) ?_
  refine w_putI (μ := m_X12_reached) (pc := 2) dX12_reached_2 fl_X12_1 flw_12_0 ir_12_0 k0 ?_
  refine w_bd (fun δ_1 e_2 => ?_)
  refine w_aload_n 0 0 (μ := m_X12_reached) (pc := 5) dX12_reached_5 rfl rfl ?_
  refine w_iload_n 1 1 (μ := m_X12_reached) (pc := 6) dX12_reached_6 rfl rfl ?_
  refine w_callS (As := [.int x1]) (rest := [.ref a0]) (μ := m_X12_reached) (pc := 7) dX12_reached_7 cs_X12_344 rfl rfl (Nat.le_of_ble_eq_true rfl) (d' := d - 1) (by omega) he_i (c_X12_isCall wt hl (d := d - 1) (by omega) ) (fun r_3 => ?_)
  refine w_if_eq 26 (μ := m_X12_reached) (pc := 10) dX12_reached_10 (by decide) (fun c_4 => ?_) (fun c_4 => ?_)
  · exact t_J_X12_reached_26 wt hl (by omega) k0 _ _ k0
  · refine w_aload_n 0 0 (μ := m_X12_reached) (pc := 13) dX12_reached_13 rfl rfl ?_
    refine w_getI (μ := m_X12_reached) (pc := 14) dX12_reached_14 fl_X12_23 ir_12_10 k0 ?_
    refine w_bipush (v := 6) (μ := m_X12_reached) (pc := 17) dX12_reached_17 (by decide) ?_
    refine w_icmp_gt 26 (μ := m_X12_reached) (pc := 19) dX12_reached_19 (by decide) (fun c_11 => ?_) (fun c_11 => ?_)
    · exact t_J_X12_reached_26 wt hl (by omega) k0 _ _ k0
    · refine w_iconst (v := 1) (μ := m_X12_reached) (pc := 22) dX12_reached_22 (by decide) ?_
      refine w_goto 27 (μ := m_X12_reached) (pc := 23) dX12_reached_23 (by decide) ?_
      exact t_J_X12_reached_27 wt hl (by omega) k0 _ _ _ k0
def J_X12_touchSet_48 (N : Nat) (g : gp) (a0 : Nat) (x1 : Int32) (x2 : Int32) (x3 : Int32) (kt8 : Int32 → dp → Option (Int32 × dp)) (x4v : Int32) (δ : dp) : Option (Int32 × dp) :=
  bi (x4v + 1) fun x_12 => kt8 x_12 δ
set_option maxHeartbeats 4000000 in
set_option maxRecDepth 100000 in
theorem t_J_X12_touchSet_48 {l : Launch} {D : va_G} {cy : Nat → ClassId} {N d : Nat} {g : gp} (wt : WT g) (hl : l.stackTraces = false) (hd : 65 ≤ d) {a0 : Nat} {x1 : Int32} {x2 : Int32} {x3 : Int32} (k0 : q_K g a0 = 12) {kt8 : Int32 → dp → Option (Int32 × dp)} (hk8 : ∀ (x4v : Int32) (δ : dp), AWD l D cy m_X12_touchSet d 0 0 ei g 8 [(0, .ref a0), (1, .int x1), (2, .int x2), (3, .int x3), (4, .int x4v)] [] δ (kt8 x4v δ)) : ∀ (x4v : Int32) (δ : dp), AWD l D cy m_X12_touchSet d 0 0 ei g 48 [(0, .ref a0), (1, .int x1), (2, .int x2), (3, .int x3), (4, .int x4v)] [] δ (J_X12_touchSet_48 N g a0 x1 x2 x3 kt8 x4v δ) := by
    intro x4v δ 
    unfold J_X12_touchSet_48
    refine w_inb (fun x_12 e_13 => ?_)
    refine w_iinc 4 [(4, .int x_12), (0, .ref a0), (1, .int x1), (2, .int x2), (3, .int x3)] (μ := m_X12_touchSet) (pc := 48) dX12_touchSet_48 rfl (by rw [e_13]; rfl) (by decide) rfl ?_
    refine w_goto 8 (μ := m_X12_touchSet) (pc := 51) dX12_touchSet_51 (by decide) ?_
    refine w_lv [1, 2, 3, 4, 0] rfl ?_
    exact hk8 _ _
def L_X12_touchSet_8 (N : Nat) (g : gp) (a0 : Nat) (x1 : Int32) (x2 : Int32) (x3 : Int32) : Nat → Int32 → dp → Option (Int32 × dp)
  | 0, _, _ => none
  | n + 1, x4v, δ => if (16 : Int32) ≤ x4v then ((D_X12_touch N g a0 x1 x2 (q_I δ 12 10 a0) 0 (q_I δ 12 36 a0) δ).bind fun r_4 => some (r_4.1, r_4.2)) else (if ((x3 >>> (x4v &&& 31)) &&& 1) = 0 then (J_X12_touchSet_48 N g a0 x1 x2 x3 (L_X12_touchSet_8 N g a0 x1 x2 x3 n) x4v δ) else ((q_O g 12 35 a0).bind fun b_6 => if (q_I δ 12 36 a0) < 0 ∨ q_N g b_6 ≤ (q_I δ 12 36 a0).toNatClampNeg then none else bd (s_R δ b_6 (q_I δ 12 36 a0).toNatClampNeg x4v) fun δ_8 => bd (s_I δ_8 12 36 a0 ((q_I δ_8 12 36 a0) + 1)) fun δ_10 => J_X12_touchSet_48 N g a0 x1 x2 x3 (L_X12_touchSet_8 N g a0 x1 x2 x3 n) x4v δ_10))
set_option maxHeartbeats 4000000 in
set_option maxRecDepth 100000 in
theorem t_L_X12_touchSet_8 {l : Launch} {D : va_G} {cy : Nat → ClassId} {N d : Nat} {g : gp} (wt : WT g) (hl : l.stackTraces = false) (hd : 65 ≤ d) {a0 : Nat} {x1 : Int32} {x2 : Int32} {x3 : Int32} (k0 : q_K g a0 = 12) : ∀ (n : Nat) (x4v : Int32) (δ : dp), AWD l D cy m_X12_touchSet d 0 0 ei g 8 [(0, .ref a0), (1, .int x1), (2, .int x2), (3, .int x3), (4, .int x4v)] [] δ (L_X12_touchSet_8 N g a0 x1 x2 x3 n x4v δ) := by
  intro n
  induction n with
  | zero => intro x4v δ ; exact w_none
  | succ n ih =>
    intro x4v δ 
    unfold L_X12_touchSet_8
    refine w_iload 4 (μ := m_X12_touchSet) (pc := 8) dX12_touchSet_8 rfl ?_
    refine w_bipush (v := 16) (μ := m_X12_touchSet) (pc := 10) dX12_touchSet_10 (by decide) ?_
    refine w_icmp_ge 54 (μ := m_X12_touchSet) (pc := 12) dX12_touchSet_12 (by decide) (fun c_3 => ?_) (fun c_3 => ?_)
    · refine w_aload_n 0 0 (μ := m_X12_touchSet) (pc := 54) dX12_touchSet_54 rfl rfl ?_
      refine w_iload_n 1 1 (μ := m_X12_touchSet) (pc := 55) dX12_touchSet_55 rfl rfl ?_
      refine w_iload_n 2 2 (μ := m_X12_touchSet) (pc := 56) dX12_touchSet_56 rfl rfl ?_
      refine w_aload_n 0 0 (μ := m_X12_touchSet) (pc := 57) dX12_touchSet_57 rfl rfl ?_
      refine w_getI (μ := m_X12_touchSet) (pc := 58) dX12_touchSet_58 fl_X12_23 ir_12_10 k0 ?_
      refine w_iconst (v := 0) (μ := m_X12_touchSet) (pc := 61) dX12_touchSet_61 (by decide) ?_
      refine w_aload_n 0 0 (μ := m_X12_touchSet) (pc := 62) dX12_touchSet_62 rfl rfl ?_
      refine w_getI (μ := m_X12_touchSet) (pc := 63) dX12_touchSet_63 fl_X12_290 ir_12_36 k0 ?_
      refine w_callV (As := [.int x1, .int x2, .int (q_I δ 12 10 a0), .int 0, .int (q_I δ 12 36 a0)]) (rest := []) (μ := m_X12_touchSet) (pc := 66) dX12_touchSet_66 cv_X12_299 rfl rfl k0 (by decide) rfl (Nat.le_of_ble_eq_true rfl) (d' := d - 1) (by omega) he_i (c_X12_touch wt hl (d := d - 1) (by omega) k0) (fun r_4 => ?_)
      exact w_iret (μ := m_X12_touchSet) (pc := 69) dX12_touchSet_69 rfl rfl
    · refine w_iload_n 3 3 (μ := m_X12_touchSet) (pc := 15) dX12_touchSet_15 rfl rfl ?_
      refine w_iload 4 (μ := m_X12_touchSet) (pc := 16) dX12_touchSet_16 rfl ?_
      refine w_ishr (μ := m_X12_touchSet) (pc := 18) dX12_touchSet_18 ?_
      refine w_iconst (v := 1) (μ := m_X12_touchSet) (pc := 19) dX12_touchSet_19 (by decide) ?_
      refine w_iand (μ := m_X12_touchSet) (pc := 20) dX12_touchSet_20 ?_
      refine w_if_ne 27 (μ := m_X12_touchSet) (pc := 21) dX12_touchSet_21 (by decide) (fun c_5 => ?_) (fun c_5 => ?_)
      · refine w_aload_n 0 0 (μ := m_X12_touchSet) (pc := 27) dX12_touchSet_27 rfl rfl ?_
        refine w_getO (μ := m_X12_touchSet) (pc := 28) dX12_touchSet_28 fl_X12_84 ir_12_35 id_12_35 k0 (fun b_6 e_7 => ?_)
        refine w_aload_n 0 0 (μ := m_X12_touchSet) (pc := 31) dX12_touchSet_31 rfl rfl ?_
        refine w_getI (μ := m_X12_touchSet) (pc := 32) dX12_touchSet_32 fl_X12_290 ir_12_36 k0 ?_
        refine w_iload 4 (μ := m_X12_touchSet) (pc := 35) dX12_touchSet_35 rfl ?_
        refine w_ast (μ := m_X12_touchSet) (pc := 37) dX12_touchSet_37 (wt_12_35 wt k0 e_7) ?_
        refine w_bd (fun δ_8 e_9 => ?_)
        refine w_aload_n 0 0 (μ := m_X12_touchSet) (pc := 38) dX12_touchSet_38 rfl rfl ?_
        refine w_dup (μ := m_X12_touchSet) (pc := 39) dX12_touchSet_39 rfl ?_
        refine w_getI (μ := m_X12_touchSet) (pc := 40) dX12_touchSet_40 fl_X12_290 ir_12_36 k0 ?_
        refine w_iconst (v := 1) (μ := m_X12_touchSet) (pc := 43) dX12_touchSet_43 (by decide) ?_
        refine w_iadd (μ := m_X12_touchSet) (pc := 44) dX12_touchSet_44 ?_
        refine w_putI (μ := m_X12_touchSet) (pc := 45) dX12_touchSet_45 fl_X12_290 flw_12_36 ir_12_36 k0 ?_
        refine w_bd (fun δ_10 e_11 => ?_)
        exact t_J_X12_touchSet_48 wt hl (by omega) k0 ih _ _
      · refine w_goto 48 (μ := m_X12_touchSet) (pc := 24) dX12_touchSet_24 (by decide) ?_
        exact t_J_X12_touchSet_48 wt hl (by omega) k0 ih _ _
def D_X12_touchSet (N : Nat) (g : gp) (a0 : Nat) (x1 : Int32) (x2 : Int32) (x3 : Int32) (δ : dp) : Option (Int32 × dp) :=
  bd (s_I δ 12 36 a0 0) fun δ_1 => L_X12_touchSet_8 N g a0 x1 x2 x3 N 0 δ_1
set_option maxHeartbeats 4000000 in
set_option maxRecDepth 100000 in
theorem c_X12_touchSet {l : Launch} {D : va_G} {cy : Nat → ClassId} {N d : Nat} {g : gp} (wt : WT g) (hl : l.stackTraces = false) (hd : 65 ≤ d) {a0 : Nat} {x1 : Int32} {x2 : Int32} {x3 : Int32} {δ : dp} (k0 : q_K g a0 = 12) : CalD l D cy m_X12_touchSet d 0 0 ei g [.ref a0, .int x1, .int x2, .int x3] δ (D_X12_touchSet N g a0 x1 x2 x3 δ) := by
  refine CalD.of (by decide +kernel) (Nat.le_of_ble_eq_true rfl) hl ?_
  unfold D_X12_touchSet
  refine w_aload_n 0 0 (μ := m_X12_touchSet) (pc := 0) dX12_touchSet_0 rfl rfl ?_
  refine w_iconst (v := 0) (μ := m_X12_touchSet) (pc := 1) dX12_touchSet_1 (by decide) ?_
  refine w_putI (μ := m_X12_touchSet) (pc := 2) dX12_touchSet_2 fl_X12_290 flw_12_36 ir_12_36 k0 ?_
  refine w_bd (fun δ_1 e_2 => ?_)
  refine w_iconst (v := 0) (μ := m_X12_touchSet) (pc := 5) dX12_touchSet_5 (by decide) ?_
  refine w_istore [(4, .int 0), (0, .ref a0), (1, .int x1), (2, .int x2), (3, .int x3)] (μ := m_X12_touchSet) (pc := 6) dX12_touchSet_6 (by decide) rfl ?_
  refine w_lv [1, 2, 3, 4, 0] rfl ?_
  exact t_L_X12_touchSet_8 wt hl (by omega) k0 N _ _
