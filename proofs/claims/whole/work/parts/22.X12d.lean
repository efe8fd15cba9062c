theorem dX12_findRow_0 : decode cX12_findRow 0 = .ok (.iconst 1, 1) := by decide +kernel
theorem dX12_findRow_1 : decode cX12_findRow 1 = .ok (.aload_n 0, 1) := by decide +kernel
theorem dX12_findRow_2 : decode cX12_findRow 2 = .ok (.invokevirtual 257, 3) := by decide +kernel
theorem dX12_findRow_5 : decode cX12_findRow 5 = .ok (.ishl, 1) := by decide +kernel
theorem dX12_findRow_6 : decode cX12_findRow 6 = .ok (.istore_n 2, 1) := by decide +kernel
theorem dX12_findRow_7 : decode cX12_findRow 7 = .ok (.iconst 0, 1) := by decide +kernel
theorem dX12_findRow_8 : decode cX12_findRow 8 = .ok (.istore_n 3, 1) := by decide +kernel
theorem dX12_findRow_9 : decode cX12_findRow 9 = .ok (.iload_n 3, 1) := by decide +kernel
theorem dX12_findRow_10 : decode cX12_findRow 10 = .ok (.iload_n 2, 1) := by decide +kernel
theorem dX12_findRow_11 : decode cX12_findRow 11 = .ok (.if_icmp .ge 16, 3) := by decide +kernel
theorem dX12_findRow_14 : decode cX12_findRow 14 = .ok (.aload_n 0, 1) := by decide +kernel
theorem dX12_findRow_15 : decode cX12_findRow 15 = .ok (.getfield 94, 3) := by decide +kernel
theorem dX12_findRow_18 : decode cX12_findRow 18 = .ok (.iload_n 3, 1) := by decide +kernel
theorem dX12_findRow_19 : decode cX12_findRow 19 = .ok (.iconst 0, 1) := by decide +kernel
theorem dX12_findRow_20 : decode cX12_findRow 20 = .ok (.iastore, 1) := by decide +kernel
theorem dX12_findRow_21 : decode cX12_findRow 21 = .ok (.iinc 3 1, 3) := by decide +kernel
theorem dX12_findRow_24 : decode cX12_findRow 24 = .ok (.goto (-15), 3) := by decide +kernel
theorem dX12_findRow_27 : decode cX12_findRow 27 = .ok (.iconst 1, 1) := by decide +kernel
theorem dX12_findRow_28 : decode cX12_findRow 28 = .ok (.istore_n 3, 1) := by decide +kernel
theorem dX12_findRow_29 : decode cX12_findRow 29 = .ok (.iload_n 3, 1) := by decide +kernel
theorem dX12_findRow_30 : decode cX12_findRow 30 = .ok (.iload_n 1, 1) := by decide +kernel
theorem dX12_findRow_31 : decode cX12_findRow 31 = .ok (.if_icmp .gt 148, 3) := by decide +kernel
theorem dX12_findRow_34 : decode cX12_findRow 34 = .ok (.iconst 0, 1) := by decide +kernel
theorem dX12_findRow_35 : decode cX12_findRow 35 = .ok (.istore 4, 2) := by decide +kernel
theorem dX12_findRow_37 : decode cX12_findRow 37 = .ok (.iload 4, 2) := by decide +kernel
theorem dX12_findRow_39 : decode cX12_findRow 39 = .ok (.iload_n 2, 1) := by decide +kernel
theorem dX12_findRow_40 : decode cX12_findRow 40 = .ok (.if_icmp .ge 133, 3) := by decide +kernel
theorem dX12_findRow_43 : decode cX12_findRow 43 = .ok (.iload 4, 2) := by decide +kernel
theorem dX12_findRow_45 : decode cX12_findRow 45 = .ok (.invokestatic 381, 3) := by decide +kernel
theorem dX12_findRow_48 : decode cX12_findRow 48 = .ok (.iload_n 1, 1) := by decide +kernel
theorem dX12_findRow_49 : decode cX12_findRow 49 = .ok (.iload_n 3, 1) := by decide +kernel
theorem dX12_findRow_50 : decode cX12_findRow 50 = .ok (.isub, 1) := by decide +kernel
theorem dX12_findRow_51 : decode cX12_findRow 51 = .ok (.if_icmp .le 6, 3) := by decide +kernel
theorem dX12_findRow_54 : decode cX12_findRow 54 = .ok (.goto 113, 3) := by decide +kernel
theorem dX12_findRow_57 : decode cX12_findRow 57 = .ok (.iconst 0, 1) := by decide +kernel
theorem dX12_findRow_58 : decode cX12_findRow 58 = .ok (.istore 5, 2) := by decide +kernel
theorem dX12_findRow_60 : decode cX12_findRow 60 = .ok (.iconst 0, 1) := by decide +kernel
theorem dX12_findRow_61 : decode cX12_findRow 61 = .ok (.istore 6, 2) := by decide +kernel
theorem dX12_findRow_63 : decode cX12_findRow 63 = .ok (.iload 6, 2) := by decide +kernel
theorem dX12_findRow_65 : decode cX12_findRow 65 = .ok (.iconst 5, 1) := by decide +kernel
theorem dX12_findRow_66 : decode cX12_findRow 66 = .ok (.aload_n 0, 1) := by decide +kernel
theorem dX12_findRow_67 : decode cX12_findRow 67 = .ok (.invokevirtual 257, 3) := by decide +kernel
theorem dX12_findRow_70 : decode cX12_findRow 70 = .ok (.imul, 1) := by decide +kernel
theorem dX12_findRow_71 : decode cX12_findRow 71 = .ok (.if_icmp .ge 81, 3) := by decide +kernel
theorem dX12_findRow_74 : decode cX12_findRow 74 = .ok (.aload_n 0, 1) := by decide +kernel
theorem dX12_findRow_75 : decode cX12_findRow 75 = .ok (.iload 6, 2) := by decide +kernel
theorem dX12_findRow_77 : decode cX12_findRow 77 = .ok (.aload_n 0, 1) := by decide +kernel
theorem dX12_findRow_78 : decode cX12_findRow 78 = .ok (.invokevirtual 257, 3) := by decide +kernel
theorem dX12_findRow_81 : decode cX12_findRow 81 = .ok (.idiv, 1) := by decide +kernel
theorem dX12_findRow_82 : decode cX12_findRow 82 = .ok (.iload 6, 2) := by decide +kernel
theorem dX12_findRow_84 : decode cX12_findRow 84 = .ok (.aload_n 0, 1) := by decide +kernel
theorem dX12_findRow_85 : decode cX12_findRow 85 = .ok (.invokevirtual 257, 3) := by decide +kernel
theorem dX12_findRow_88 : decode cX12_findRow 88 = .ok (.irem, 1) := by decide +kernel
theorem dX12_findRow_89 : decode cX12_findRow 89 = .ok (.iload 4, 2) := by decide +kernel
theorem dX12_findRow_91 : decode cX12_findRow 91 = .ok (.invokevirtual 384, 3) := by decide +kernel
theorem dX12_findRow_94 : decode cX12_findRow 94 = .ok (.aload_n 0, 1) := by decide +kernel
theorem dX12_findRow_95 : decode cX12_findRow 95 = .ok (.getfield 94, 3) := by decide +kernel
theorem dX12_findRow_98 : decode cX12_findRow 98 = .ok (.ldc_w 387, 3) := by decide +kernel
theorem dX12_findRow_101 : decode cX12_findRow 101 = .ok (.iload_n 3, 1) := by decide +kernel
theorem dX12_findRow_102 : decode cX12_findRow 102 = .ok (.iconst 1, 1) := by decide +kernel
theorem dX12_findRow_103 : decode cX12_findRow 103 = .ok (.isub, 1) := by decide +kernel
theorem dX12_findRow_104 : decode cX12_findRow 104 = .ok (.imul, 1) := by decide +kernel
theorem dX12_findRow_105 : decode cX12_findRow 105 = .ok (.aload_n 0, 1) := by decide +kernel
theorem dX12_findRow_106 : decode cX12_findRow 106 = .ok (.iload 6, 2) := by decide +kernel
theorem dX12_findRow_108 : decode cX12_findRow 108 = .ok (.aload_n 0, 1) := by decide +kernel
theorem dX12_findRow_109 : decode cX12_findRow 109 = .ok (.invokevirtual 257, 3) := by decide +kernel
theorem dX12_findRow_112 : decode cX12_findRow 112 = .ok (.idiv, 1) := by decide +kernel
theorem dX12_findRow_113 : decode cX12_findRow 113 = .ok (.iload 6, 2) := by decide +kernel
theorem dX12_findRow_115 : decode cX12_findRow 115 = .ok (.aload_n 0, 1) := by decide +kernel
theorem dX12_findRow_116 : decode cX12_findRow 116 = .ok (.invokevirtual 257, 3) := by decide +kernel
theorem dX12_findRow_119 : decode cX12_findRow 119 = .ok (.irem, 1) := by decide +kernel
theorem dX12_findRow_120 : decode cX12_findRow 120 = .ok (.iload 4, 2) := by decide +kernel
theorem dX12_findRow_122 : decode cX12_findRow 122 = .ok (.invokevirtual 388, 3) := by decide +kernel
theorem dX12_findRow_125 : decode cX12_findRow 125 = .ok (.iadd, 1) := by decide +kernel
theorem dX12_findRow_126 : decode cX12_findRow 126 = .ok (.iaload, 1) := by decide +kernel
theorem dX12_findRow_127 : decode cX12_findRow 127 = .ok (.iadd, 1) := by decide +kernel
theorem dX12_findRow_128 : decode cX12_findRow 128 = .ok (.istore 7, 2) := by decide +kernel
theorem dX12_findRow_130 : decode cX12_findRow 130 = .ok (.iload 7, 2) := by decide +kernel
theorem dX12_findRow_132 : decode cX12_findRow 132 = .ok (.iload 5, 2) := by decide +kernel
theorem dX12_findRow_134 : decode cX12_findRow 134 = .ok (.if_icmp .le 8, 3) := by decide +kernel
theorem dX12_findRow_137 : decode cX12_findRow 137 = .ok (.iload 7, 2) := by decide +kernel
theorem dX12_findRow_139 : decode cX12_findRow 139 = .ok (.goto 5, 3) := by decide +kernel
theorem dX12_findRow_142 : decode cX12_findRow 142 = .ok (.iload 5, 2) := by decide +kernel
theorem dX12_findRow_144 : decode cX12_findRow 144 = .ok (.istore 5, 2) := by decide +kernel
theorem dX12_findRow_146 : decode cX12_findRow 146 = .ok (.iinc 6 1, 3) := by decide +kernel
theorem dX12_findRow_149 : decode cX12_findRow 149 = .ok (.goto (-86), 3) := by decide +kernel
theorem dX12_findRow_152 : decode cX12_findRow 152 = .ok (.aload_n 0, 1) := by decide +kernel
theorem dX12_findRow_153 : decode cX12_findRow 153 = .ok (.getfield 94, 3) := by decide +kernel
theorem dX12_findRow_156 : decode cX12_findRow 156 = .ok (.ldc_w 387, 3) := by decide +kernel
theorem dX12_findRow_159 : decode cX12_findRow 159 = .ok (.iload_n 3, 1) := by decide +kernel
theorem dX12_findRow_160 : decode cX12_findRow 160 = .ok (.imul, 1) := by decide +kernel
theorem dX12_findRow_161 : decode cX12_findRow 161 = .ok (.iload 4, 2) := by decide +kernel
theorem dX12_findRow_163 : decode cX12_findRow 163 = .ok (.iadd, 1) := by decide +kernel
theorem dX12_findRow_164 : decode cX12_findRow 164 = .ok (.iload 5, 2) := by decide +kernel
theorem dX12_findRow_166 : decode cX12_findRow 166 = .ok (.iastore, 1) := by decide +kernel
theorem dX12_findRow_167 : decode cX12_findRow 167 = .ok (.iinc 4 1, 3) := by decide +kernel
theorem dX12_findRow_170 : decode cX12_findRow 170 = .ok (.goto (-133), 3) := by decide +kernel
theorem dX12_findRow_173 : decode cX12_findRow 173 = .ok (.iinc 3 1, 3) := by decide +kernel
theorem dX12_findRow_176 : decode cX12_findRow 176 = .ok (.goto (-147), 3) := by decide +kernel
theorem dX12_findRow_179 : decode cX12_findRow 179 = .ok (.aload_n 0, 1) := by decide +kernel
theorem dX12_findRow_180 : decode cX12_findRow 180 = .ok (.aload_n 0, 1) := by decide +kernel
theorem dX12_findRow_181 : decode cX12_findRow 181 = .ok (.getfield 94, 3) := by decide +kernel
theorem dX12_findRow_184 : decode cX12_findRow 184 = .ok (.ldc_w 387, 3) := by decide +kernel
theorem dX12_findRow_187 : decode cX12_findRow 187 = .ok (.iload_n 1, 1) := by decide +kernel
theorem dX12_findRow_188 : decode cX12_findRow 188 = .ok (.imul, 1) := by decide +kernel
theorem dX12_findRow_189 : decode cX12_findRow 189 = .ok (.iaload, 1) := by decide +kernel
theorem dX12_findRow_190 : decode cX12_findRow 190 = .ok (.putfield 391, 3) := by decide +kernel
theorem dX12_findRow_193 : decode cX12_findRow 193 = .ok (.iconst 0, 1) := by decide +kernel
theorem dX12_findRow_194 : decode cX12_findRow 194 = .ok (.istore_n 3, 1) := by decide +kernel
theorem dX12_findRow_195 : decode cX12_findRow 195 = .ok (.iconst 0, 1) := by decide +kernel
theorem dX12_findRow_196 : decode cX12_findRow 196 = .ok (.istore 4, 2) := by decide +kernel
theorem dX12_findRow_198 : decode cX12_findRow 198 = .ok (.iload 4, 2) := by decide +kernel
theorem dX12_findRow_200 : decode cX12_findRow 200 = .ok (.iload_n 1, 1) := by decide +kernel
theorem dX12_findRow_201 : decode cX12_findRow 201 = .ok (.if_icmp .ge 120, 3) := by decide +kernel
theorem dX12_findRow_204 : decode cX12_findRow 204 = .ok (.iconst 0, 1) := by decide +kernel
theorem dX12_findRow_205 : decode cX12_findRow 205 = .ok (.istore 5, 2) := by decide +kernel
theorem dX12_findRow_207 : decode cX12_findRow 207 = .ok (.aload_n 0, 1) := by decide +kernel
theorem dX12_findRow_208 : decode cX12_findRow 208 = .ok (.iload 5, 2) := by decide +kernel
theorem dX12_findRow_210 : decode cX12_findRow 210 = .ok (.aload_n 0, 1) := by decide +kernel
theorem dX12_findRow_211 : decode cX12_findRow 211 = .ok (.invokevirtual 257, 3) := by decide +kernel
theorem dX12_findRow_214 : decode cX12_findRow 214 = .ok (.idiv, 1) := by decide +kernel
theorem dX12_findRow_215 : decode cX12_findRow 215 = .ok (.iload 5, 2) := by decide +kernel
theorem dX12_findRow_217 : decode cX12_findRow 217 = .ok (.aload_n 0, 1) := by decide +kernel
theorem dX12_findRow_218 : decode cX12_findRow 218 = .ok (.invokevirtual 257, 3) := by decide +kernel
theorem dX12_findRow_221 : decode cX12_findRow 221 = .ok (.irem, 1) := by decide +kernel
theorem dX12_findRow_222 : decode cX12_findRow 222 = .ok (.iload_n 3, 1) := by decide +kernel
theorem dX12_findRow_223 : decode cX12_findRow 223 = .ok (.invokevirtual 384, 3) := by decide +kernel
theorem dX12_findRow_226 : decode cX12_findRow 226 = .ok (.aload_n 0, 1) := by decide +kernel
theorem dX12_findRow_227 : decode cX12_findRow 227 = .ok (.getfield 94, 3) := by decide +kernel
theorem dX12_findRow_230 : decode cX12_findRow 230 = .ok (.ldc_w 387, 3) := by decide +kernel
theorem dX12_findRow_233 : decode cX12_findRow 233 = .ok (.iload_n 1, 1) := by decide +kernel
theorem dX12_findRow_234 : decode cX12_findRow 234 = .ok (.iload 4, 2) := by decide +kernel
theorem dX12_findRow_236 : decode cX12_findRow 236 = .ok (.isub, 1) := by decide +kernel
theorem dX12_findRow_237 : decode cX12_findRow 237 = .ok (.iconst 1, 1) := by decide +kernel
theorem dX12_findRow_238 : decode cX12_findRow 238 = .ok (.isub, 1) := by decide +kernel
theorem dX12_findRow_239 : decode cX12_findRow 239 = .ok (.imul, 1) := by decide +kernel
theorem dX12_findRow_240 : decode cX12_findRow 240 = .ok (.aload_n 0, 1) := by decide +kernel
theorem dX12_findRow_241 : decode cX12_findRow 241 = .ok (.iload 5, 2) := by decide +kernel
theorem dX12_findRow_243 : decode cX12_findRow 243 = .ok (.aload_n 0, 1) := by decide +kernel
theorem dX12_findRow_244 : decode cX12_findRow 244 = .ok (.invokevirtual 257, 3) := by decide +kernel
theorem dX12_findRow_247 : decode cX12_findRow 247 = .ok (.idiv, 1) := by decide +kernel
theorem dX12_findRow_248 : decode cX12_findRow 248 = .ok (.iload 5, 2) := by decide +kernel
theorem dX12_findRow_250 : decode cX12_findRow 250 = .ok (.aload_n 0, 1) := by decide +kernel
theorem dX12_findRow_251 : decode cX12_findRow 251 = .ok (.invokevirtual 257, 3) := by decide +kernel
theorem dX12_findRow_254 : decode cX12_findRow 254 = .ok (.irem, 1) := by decide +kernel
theorem dX12_findRow_255 : decode cX12_findRow 255 = .ok (.iload_n 3, 1) := by decide +kernel
theorem dX12_findRow_256 : decode cX12_findRow 256 = .ok (.invokevirtual 388, 3) := by decide +kernel
theorem dX12_findRow_259 : decode cX12_findRow 259 = .ok (.iadd, 1) := by decide +kernel
theorem dX12_findRow_260 : decode cX12_findRow 260 = .ok (.iaload, 1) := by decide +kernel
theorem dX12_findRow_261 : decode cX12_findRow 261 = .ok (.iadd, 1) := by decide +kernel
theorem dX12_findRow_262 : decode cX12_findRow 262 = .ok (.aload_n 0, 1) := by decide +kernel
theorem dX12_findRow_263 : decode cX12_findRow 263 = .ok (.getfield 94, 3) := by decide +kernel
theorem dX12_findRow_266 : decode cX12_findRow 266 = .ok (.ldc_w 387, 3) := by decide +kernel
theorem dX12_findRow_269 : decode cX12_findRow 269 = .ok (.iload_n 1, 1) := by decide +kernel
theorem dX12_findRow_270 : decode cX12_findRow 270 = .ok (.iload 4, 2) := by decide +kernel
theorem dX12_findRow_272 : decode cX12_findRow 272 = .ok (.isub, 1) := by decide +kernel
theorem dX12_findRow_273 : decode cX12_findRow 273 = .ok (.imul, 1) := by decide +kernel
theorem dX12_findRow_274 : decode cX12_findRow 274 = .ok (.iload_n 3, 1) := by decide +kernel
theorem dX12_findRow_275 : decode cX12_findRow 275 = .ok (.iadd, 1) := by decide +kernel
theorem dX12_findRow_276 : decode cX12_findRow 276 = .ok (.iaload, 1) := by decide +kernel
theorem dX12_findRow_277 : decode cX12_findRow 277 = .ok (.if_icmp .eq 9, 3) := by decide +kernel
theorem dX12_findRow_280 : decode cX12_findRow 280 = .ok (.iinc 5 1, 3) := by decide +kernel
theorem dX12_findRow_283 : decode cX12_findRow 283 = .ok (.goto (-76), 3) := by decide +kernel
theorem dX12_findRow_286 : decode cX12_findRow 286 = .ok (.aload_n 0, 1) := by decide +kernel
theorem dX12_findRow_287 : decode cX12_findRow 287 = .ok (.getfield 97, 3) := by decide +kernel
theorem dX12_findRow_290 : decode cX12_findRow 290 = .ok (.iload 4, 2) := by decide +kernel
theorem dX12_findRow_292 : decode cX12_findRow 292 = .ok (.iload 5, 2) := by decide +kernel
theorem dX12_findRow_294 : decode cX12_findRow 294 = .ok (.iastore, 1) := by decide +kernel
theorem dX12_findRow_295 : decode cX12_findRow 295 = .ok (.aload_n 0, 1) := by decide +kernel
theorem dX12_findRow_296 : decode cX12_findRow 296 = .ok (.iload 5, 2) := by decide +kernel
theorem dX12_findRow_298 : decode cX12_findRow 298 = .ok (.aload_n 0, 1) := by decide +kernel
theorem dX12_findRow_299 : decode cX12_findRow 299 = .ok (.invokevirtual 257, 3) := by decide +kernel
theorem dX12_findRow_302 : decode cX12_findRow 302 = .ok (.idiv, 1) := by decide +kernel
theorem dX12_findRow_303 : decode cX12_findRow 303 = .ok (.iload 5, 2) := by decide +kernel
theorem dX12_findRow_305 : decode cX12_findRow 305 = .ok (.aload_n 0, 1) := by decide +kernel
theorem dX12_findRow_306 : decode cX12_findRow 306 = .ok (.invokevirtual 257, 3) := by decide +kernel
theorem dX12_findRow_309 : decode cX12_findRow 309 = .ok (.irem, 1) := by decide +kernel
theorem dX12_findRow_310 : decode cX12_findRow 310 = .ok (.iload_n 3, 1) := by decide +kernel
theorem dX12_findRow_311 : decode cX12_findRow 311 = .ok (.invokevirtual 388, 3) := by decide +kernel
theorem dX12_findRow_314 : decode cX12_findRow 314 = .ok (.istore_n 3, 1) := by decide +kernel
theorem dX12_findRow_315 : decode cX12_findRow 315 = .ok (.iinc 4 1, 3) := by decide +kernel
theorem dX12_findRow_318 : decode cX12_findRow 318 = .ok (.goto (-120), 3) := by decide +kernel
theorem dX12_findRow_321 : decode cX12_findRow 321 = .ok (.return_, 1) := by decide +kernel
theorem dX12_findTwo_0 : decode cX12_findTwo 0 = .ok (.aload_n 0, 1) := by decide +kernel
theorem dX12_findTwo_1 : decode cX12_findTwo 1 = .ok (.iconst 0, 1) := by decide +kernel
theorem dX12_findTwo_2 : decode cX12_findTwo 2 = .ok (.putfield 391, 3) := by decide +kernel
theorem dX12_findTwo_5 : decode cX12_findTwo 5 = .ok (.iconst 0, 1) := by decide +kernel
theorem dX12_findTwo_6 : decode cX12_findTwo 6 = .ok (.istore_n 2, 1) := by decide +kernel
theorem dX12_findTwo_7 : decode cX12_findTwo 7 = .ok (.iload_n 2, 1) := by decide +kernel
theorem dX12_findTwo_8 : decode cX12_findTwo 8 = .ok (.iconst 5, 1) := by decide +kernel
theorem dX12_findTwo_9 : decode cX12_findTwo 9 = .ok (.aload_n 0, 1) := by decide +kernel
theorem dX12_findTwo_10 : decode cX12_findTwo 10 = .ok (.invokevirtual 257, 3) := by decide +kernel
theorem dX12_findTwo_13 : decode cX12_findTwo 13 = .ok (.imul, 1) := by decide +kernel
theorem dX12_findTwo_14 : decode cX12_findTwo 14 = .ok (.if_icmp .ge 130, 3) := by decide +kernel
theorem dX12_findTwo_17 : decode cX12_findTwo 17 = .ok (.iconst 0, 1) := by decide +kernel
theorem dX12_findTwo_18 : decode cX12_findTwo 18 = .ok (.istore_n 3, 1) := by decide +kernel
theorem dX12_findTwo_19 : decode cX12_findTwo 19 = .ok (.iload_n 3, 1) := by decide +kernel
theorem dX12_findTwo_20 : decode cX12_findTwo 20 = .ok (.iload_n 1, 1) := by decide +kernel
theorem dX12_findTwo_21 : decode cX12_findTwo 21 = .ok (.iconst 1, 1) := by decide +kernel
theorem dX12_findTwo_22 : decode cX12_findTwo 22 = .ok (.if_icmp .ne 7, 3) := by decide +kernel
theorem dX12_findTwo_25 : decode cX12_findTwo 25 = .ok (.iconst 1, 1) := by decide +kernel
theorem dX12_findTwo_26 : decode cX12_findTwo 26 = .ok (.goto 9, 3) := by decide +kernel
theorem dX12_findTwo_29 : decode cX12_findTwo 29 = .ok (.iconst 5, 1) := by decide +kernel
theorem dX12_findTwo_30 : decode cX12_findTwo 30 = .ok (.aload_n 0, 1) := by decide +kernel
theorem dX12_findTwo_31 : decode cX12_findTwo 31 = .ok (.invokevirtual 257, 3) := by decide +kernel
theorem dX12_findTwo_34 : decode cX12_findTwo 34 = .ok (.imul, 1) := by decide +kernel
theorem dX12_findTwo_35 : decode cX12_findTwo 35 = .ok (.if_icmp .ge 103, 3) := by decide +kernel
theorem dX12_findTwo_38 : decode cX12_findTwo 38 = .ok (.aload_n 0, 1) := by decide +kernel
theorem dX12_findTwo_39 : decode cX12_findTwo 39 = .ok (.getfield 84, 3) := by decide +kernel
theorem dX12_findTwo_42 : decode cX12_findTwo 42 = .ok (.iconst 0, 1) := by decide +kernel
theorem dX12_findTwo_43 : decode cX12_findTwo 43 = .ok (.iload_n 2, 1) := by decide +kernel
theorem dX12_findTwo_44 : decode cX12_findTwo 44 = .ok (.iastore, 1) := by decide +kernel
theorem dX12_findTwo_45 : decode cX12_findTwo 45 = .ok (.aload_n 0, 1) := by decide +kernel
theorem dX12_findTwo_46 : decode cX12_findTwo 46 = .ok (.iload_n 2, 1) := by decide +kernel
theorem dX12_findTwo_47 : decode cX12_findTwo 47 = .ok (.aload_n 0, 1) := by decide +kernel
theorem dX12_findTwo_48 : decode cX12_findTwo 48 = .ok (.invokevirtual 257, 3) := by decide +kernel
theorem dX12_findTwo_51 : decode cX12_findTwo 51 = .ok (.if_icmp .ge 7, 3) := by decide +kernel
theorem dX12_findTwo_54 : decode cX12_findTwo 54 = .ok (.iconst 1, 1) := by decide +kernel
theorem dX12_findTwo_55 : decode cX12_findTwo 55 = .ok (.goto 4, 3) := by decide +kernel
theorem dX12_findTwo_58 : decode cX12_findTwo 58 = .ok (.iconst 0, 1) := by decide +kernel
theorem dX12_findTwo_59 : decode cX12_findTwo 59 = .ok (.putfield 290, 3) := by decide +kernel
theorem dX12_findTwo_62 : decode cX12_findTwo 62 = .ok (.iconst 1, 1) := by decide +kernel
theorem dX12_findTwo_63 : decode cX12_findTwo 63 = .ok (.iload_n 1, 1) := by decide +kernel
theorem dX12_findTwo_64 : decode cX12_findTwo 64 = .ok (.iconst 1, 1) := by decide +kernel
theorem dX12_findTwo_65 : decode cX12_findTwo 65 = .ok (.if_icmp .ne 7, 3) := by decide +kernel
theorem dX12_findTwo_68 : decode cX12_findTwo 68 = .ok (.iconst 0, 1) := by decide +kernel
theorem dX12_findTwo_69 : decode cX12_findTwo 69 = .ok (.goto 28, 3) := by decide +kernel
theorem dX12_findTwo_72 : decode cX12_findTwo 72 = .ok (.aload_n 0, 1) := by decide +kernel
theorem dX12_findTwo_73 : decode cX12_findTwo 73 = .ok (.iload_n 3, 1) := by decide +kernel
theorem dX12_findTwo_74 : decode cX12_findTwo 74 = .ok (.aload_n 0, 1) := by decide +kernel
theorem dX12_findTwo_75 : decode cX12_findTwo 75 = .ok (.invokevirtual 257, 3) := by decide +kernel
theorem dX12_findTwo_78 : decode cX12_findTwo 78 = .ok (.idiv, 1) := by decide +kernel
theorem dX12_findTwo_79 : decode cX12_findTwo 79 = .ok (.iload_n 3, 1) := by decide +kernel
theorem dX12_findTwo_80 : decode cX12_findTwo 80 = .ok (.aload_n 0, 1) := by decide +kernel
theorem dX12_findTwo_81 : decode cX12_findTwo 81 = .ok (.invokevirtual 257, 3) := by decide +kernel
theorem dX12_findTwo_84 : decode cX12_findTwo 84 = .ok (.irem, 1) := by decide +kernel
theorem dX12_findTwo_85 : decode cX12_findTwo 85 = .ok (.aload_n 0, 1) := by decide +kernel
theorem dX12_findTwo_86 : decode cX12_findTwo 86 = .ok (.getfield 23, 3) := by decide +kernel
theorem dX12_findTwo_89 : decode cX12_findTwo 89 = .ok (.iconst 0, 1) := by decide +kernel
theorem dX12_findTwo_90 : decode cX12_findTwo 90 = .ok (.aload_n 0, 1) := by decide +kernel
theorem dX12_findTwo_91 : decode cX12_findTwo 91 = .ok (.getfield 290, 3) := by decide +kernel
theorem dX12_findTwo_94 : decode cX12_findTwo 94 = .ok (.invokevirtual 299, 3) := by decide +kernel
theorem dX12_findTwo_97 : decode cX12_findTwo 97 = .ok (.iadd, 1) := by decide +kernel
theorem dX12_findTwo_98 : decode cX12_findTwo 98 = .ok (.istore 4, 2) := by decide +kernel
theorem dX12_findTwo_100 : decode cX12_findTwo 100 = .ok (.iload 4, 2) := by decide +kernel
theorem dX12_findTwo_102 : decode cX12_findTwo 102 = .ok (.aload_n 0, 1) := by decide +kernel
theorem dX12_findTwo_103 : decode cX12_findTwo 103 = .ok (.getfield 391, 3) := by decide +kernel
theorem dX12_findTwo_106 : decode cX12_findTwo 106 = .ok (.if_icmp .gt 6, 3) := by decide +kernel
theorem dX12_findTwo_109 : decode cX12_findTwo 109 = .ok (.goto 23, 3) := by decide +kernel
theorem dX12_findTwo_112 : decode cX12_findTwo 112 = .ok (.aload_n 0, 1) := by decide +kernel
theorem dX12_findTwo_113 : decode cX12_findTwo 113 = .ok (.iload 4, 2) := by decide +kernel
theorem dX12_findTwo_115 : decode cX12_findTwo 115 = .ok (.putfield 391, 3) := by decide +kernel
theorem dX12_findTwo_118 : decode cX12_findTwo 118 = .ok (.aload_n 0, 1) := by decide +kernel
theorem dX12_findTwo_119 : decode cX12_findTwo 119 = .ok (.getfield 97, 3) := by decide +kernel
theorem dX12_findTwo_122 : decode cX12_findTwo 122 = .ok (.iconst 0, 1) := by decide +kernel
theorem dX12_findTwo_123 : decode cX12_findTwo 123 = .ok (.iload_n 2, 1) := by decide +kernel
theorem dX12_findTwo_124 : decode cX12_findTwo 124 = .ok (.iastore, 1) := by decide +kernel
theorem dX12_findTwo_125 : decode cX12_findTwo 125 = .ok (.aload_n 0, 1) := by decide +kernel
theorem dX12_findTwo_126 : decode cX12_findTwo 126 = .ok (.getfield 97, 3) := by decide +kernel
theorem dX12_findTwo_129 : decode cX12_findTwo 129 = .ok (.iconst 1, 1) := by decide +kernel
theorem dX12_findTwo_130 : decode cX12_findTwo 130 = .ok (.iload_n 3, 1) := by decide +kernel
theorem dX12_findTwo_131 : decode cX12_findTwo 131 = .ok (.iastore, 1) := by decide +kernel
theorem dX12_findTwo_132 : decode cX12_findTwo 132 = .ok (.iinc 3 1, 3) := by decide +kernel
theorem dX12_findTwo_135 : decode cX12_findTwo 135 = .ok (.goto (-116), 3) := by decide +kernel
theorem dX12_findTwo_138 : decode cX12_findTwo 138 = .ok (.iinc 2 1, 3) := by decide +kernel
theorem dX12_findTwo_141 : decode cX12_findTwo 141 = .ok (.goto (-134), 3) := by decide +kernel
theorem dX12_findTwo_144 : decode cX12_findTwo 144 = .ok (.return_, 1) := by decide +kernel
theorem dX12_rows_0 : decode cX12_rows 0 = .ok (.aload_n 0, 1) := by decide +kernel
theorem dX12_rows_1 : decode cX12_rows 1 = .ok (.getfield 23, 3) := by decide +kernel
theorem dX12_rows_4 : decode cX12_rows 4 = .ok (.iconst 4, 1) := by decide +kernel
theorem dX12_rows_5 : decode cX12_rows 5 = .ok (.if_icmp .gt 11, 3) := by decide +kernel
theorem dX12_rows_8 : decode cX12_rows 8 = .ok (.aload_n 0, 1) := by decide +kernel
theorem dX12_rows_9 : decode cX12_rows 9 = .ok (.iload_n 1, 1) := by decide +kernel
theorem dX12_rows_10 : decode cX12_rows 10 = .ok (.invokevirtual 394, 3) := by decide +kernel
theorem dX12_rows_13 : decode cX12_rows 13 = .ok (.goto 8, 3) := by decide +kernel
theorem dX12_rows_16 : decode cX12_rows 16 = .ok (.aload_n 0, 1) := by decide +kernel
theorem dX12_rows_17 : decode cX12_rows 17 = .ok (.iload_n 1, 1) := by decide +kernel
theorem dX12_rows_18 : decode cX12_rows 18 = .ok (.invokevirtual 397, 3) := by decide +kernel
theorem dX12_rows_21 : decode cX12_rows 21 = .ok (.return_, 1) := by decide +kernel
theorem dX12_row_0 : decode cX12_row 0 = .ok (.aload_n 0, 1) := by decide +kernel
theorem dX12_row_1 : decode cX12_row 1 = .ok (.iconst 0, 1) := by decide +kernel
theorem dX12_row_2 : decode cX12_row 2 = .ok (.putfield 1, 3) := by decide +kernel
theorem dX12_row_5 : decode cX12_row 5 = .ok (.aload_n 0, 1) := by decide +kernel
theorem dX12_row_6 : decode cX12_row 6 = .ok (.aload_n 0, 1) := by decide +kernel
theorem dX12_row_7 : decode cX12_row 7 = .ok (.iload_n 1, 1) := by decide +kernel
theorem dX12_row_8 : decode cX12_row 8 = .ok (.invokevirtual 400, 3) := by decide +kernel
theorem dX12_row_11 : decode cX12_row 11 = .ok (.iconst 1, 1) := by decide +kernel
theorem dX12_row_12 : decode cX12_row 12 = .ok (.iconst 2, 1) := by decide +kernel
theorem dX12_row_13 : decode cX12_row 13 = .ok (.invokevirtual 157, 3) := by decide +kernel
theorem dX12_row_16 : decode cX12_row 16 = .ok (.ifCond .ne 5, 3) := by decide +kernel
theorem dX12_row_19 : decode cX12_row 19 = .ok (.iconst 0, 1) := by decide +kernel
theorem dX12_row_20 : decode cX12_row 20 = .ok (.ireturn, 1) := by decide +kernel
theorem dX12_row_21 : decode cX12_row 21 = .ok (.aload_n 0, 1) := by decide +kernel
theorem dX12_row_22 : decode cX12_row 22 = .ok (.iload_n 1, 1) := by decide +kernel
theorem dX12_row_23 : decode cX12_row 23 = .ok (.invokevirtual 403, 3) := by decide +kernel
theorem dX12_row_26 : decode cX12_row 26 = .ok (.aload_n 0, 1) := by decide +kernel
theorem dX12_row_27 : decode cX12_row 27 = .ok (.getfield 391, 3) := by decide +kernel
theorem dX12_row_30 : decode cX12_row 30 = .ok (.ireturn, 1) := by decide +kernel
theorem dX12_rowCall_0 : decode cX12_rowCall 0 = .ok (.aload_n 0, 1) := by decide +kernel
theorem dX12_rowCall_1 : decode cX12_rowCall 1 = .ok (.iconst 0, 1) := by decide +kernel
theorem dX12_rowCall_2 : decode cX12_rowCall 2 = .ok (.putfield 1, 3) := by decide +kernel
theorem dX12_rowCall_5 : decode cX12_rowCall 5 = .ok (.aload_n 0, 1) := by decide +kernel
theorem dX12_rowCall_6 : decode cX12_rowCall 6 = .ok (.aload_n 0, 1) := by decide +kernel
theorem dX12_rowCall_7 : decode cX12_rowCall 7 = .ok (.iload_n 1, 1) := by decide +kernel
theorem dX12_rowCall_8 : decode cX12_rowCall 8 = .ok (.invokevirtual 400, 3) := by decide +kernel
theorem dX12_rowCall_11 : decode cX12_rowCall 11 = .ok (.iconst 1, 1) := by decide +kernel
theorem dX12_rowCall_12 : decode cX12_rowCall 12 = .ok (.iconst 2, 1) := by decide +kernel
theorem dX12_rowCall_13 : decode cX12_rowCall 13 = .ok (.invokevirtual 157, 3) := by decide +kernel
theorem dX12_rowCall_16 : decode cX12_rowCall 16 = .ok (.ifCond .ne 5, 3) := by decide +kernel
theorem dX12_rowCall_19 : decode cX12_rowCall 19 = .ok (.iconst 0, 1) := by decide +kernel
theorem dX12_rowCall_20 : decode cX12_rowCall 20 = .ok (.ireturn, 1) := by decide +kernel
theorem dX12_rowCall_21 : decode cX12_rowCall 21 = .ok (.aload_n 0, 1) := by decide +kernel
theorem dX12_rowCall_22 : decode cX12_rowCall 22 = .ok (.iload_n 1, 1) := by decide +kernel
theorem dX12_rowCall_23 : decode cX12_rowCall 23 = .ok (.invokevirtual 403, 3) := by decide +kernel
theorem dX12_rowCall_26 : decode cX12_rowCall 26 = .ok (.iload_n 2, 1) := by decide +kernel
theorem dX12_rowCall_27 : decode cX12_rowCall 27 = .ok (.iconst 0, 1) := by decide +kernel
theorem dX12_rowCall_28 : decode cX12_rowCall 28 = .ok (.iload_n 1, 1) := by decide +kernel
theorem dX12_rowCall_29 : decode cX12_rowCall 29 = .ok (.iconst 1, 1) := by decide +kernel
theorem dX12_rowCall_30 : decode cX12_rowCall 30 = .ok (.isub, 1) := by decide +kernel
theorem dX12_rowCall_31 : decode cX12_rowCall 31 = .ok (.invokestatic 250, 3) := by decide +kernel
theorem dX12_rowCall_34 : decode cX12_rowCall 34 = .ok (.ifCond .eq 32, 3) := by decide +kernel
theorem dX12_rowCall_37 : decode cX12_rowCall 37 = .ok (.bipush 100, 2) := by decide +kernel
theorem dX12_rowCall_39 : decode cX12_rowCall 39 = .ok (.aload_n 0, 1) := by decide +kernel
theorem dX12_rowCall_40 : decode cX12_rowCall 40 = .ok (.getfield 97, 3) := by decide +kernel
theorem dX12_rowCall_43 : decode cX12_rowCall 43 = .ok (.iload_n 2, 1) := by decide +kernel
theorem dX12_rowCall_44 : decode cX12_rowCall 44 = .ok (.iaload, 1) := by decide +kernel
theorem dX12_rowCall_45 : decode cX12_rowCall 45 = .ok (.aload_n 0, 1) := by decide +kernel
theorem dX12_rowCall_46 : decode cX12_rowCall 46 = .ok (.invokevirtual 257, 3) := by decide +kernel
theorem dX12_rowCall_49 : decode cX12_rowCall 49 = .ok (.idiv, 1) := by decide +kernel
theorem dX12_rowCall_50 : decode cX12_rowCall 50 = .ok (.imul, 1) := by decide +kernel
theorem dX12_rowCall_51 : decode cX12_rowCall 51 = .ok (.aload_n 0, 1) := by decide +kernel
theorem dX12_rowCall_52 : decode cX12_rowCall 52 = .ok (.getfield 97, 3) := by decide +kernel
theorem dX12_rowCall_55 : decode cX12_rowCall 55 = .ok (.iload_n 2, 1) := by decide +kernel
theorem dX12_rowCall_56 : decode cX12_rowCall 56 = .ok (.iaload, 1) := by decide +kernel
theorem dX12_rowCall_57 : decode cX12_rowCall 57 = .ok (.aload_n 0, 1) := by decide +kernel
theorem dX12_rowCall_58 : decode cX12_rowCall 58 = .ok (.invokevirtual 257, 3) := by decide +kernel
theorem dX12_rowCall_61 : decode cX12_rowCall 61 = .ok (.irem, 1) := by decide +kernel
theorem dX12_rowCall_62 : decode cX12_rowCall 62 = .ok (.iadd, 1) := by decide +kernel
theorem dX12_rowCall_63 : decode cX12_rowCall 63 = .ok (.goto 4, 3) := by decide +kernel
theorem dX12_rowCall_66 : decode cX12_rowCall 66 = .ok (.iconst (-1), 1) := by decide +kernel
theorem dX12_rowCall_67 : decode cX12_rowCall 67 = .ok (.ireturn, 1) := by decide +kernel
theorem dX12_goesTo_0 : decode cX12_goesTo 0 = .ok (.aload_n 0, 1) := by decide +kernel
theorem dX12_goesTo_1 : decode cX12_goesTo 1 = .ok (.iload_n 1, 1) := by decide +kernel
theorem dX12_goesTo_2 : decode cX12_goesTo 2 = .ok (.invokevirtual 409, 3) := by decide +kernel
theorem dX12_goesTo_5 : decode cX12_goesTo 5 = .ok (.aload_n 0, 1) := by decide +kernel
theorem dX12_goesTo_6 : decode cX12_goesTo 6 = .ok (.getfield 36, 3) := by decide +kernel
theorem dX12_goesTo_9 : decode cX12_goesTo 9 = .ok (.iload_n 1, 1) := by decide +kernel
theorem dX12_goesTo_10 : decode cX12_goesTo 10 = .ok (.iconst 0, 1) := by decide +kernel
theorem dX12_goesTo_11 : decode cX12_goesTo 11 = .ok (.iastore, 1) := by decide +kernel
theorem dX12_goesTo_12 : decode cX12_goesTo 12 = .ok (.iconst 0, 1) := by decide +kernel
theorem dX12_goesTo_13 : decode cX12_goesTo 13 = .ok (.istore_n 3, 1) := by decide +kernel
theorem dX12_goesTo_14 : decode cX12_goesTo 14 = .ok (.iload_n 3, 1) := by decide +kernel
theorem dX12_goesTo_15 : decode cX12_goesTo 15 = .ok (.iload_n 2, 1) := by decide +kernel
theorem dX12_goesTo_16 : decode cX12_goesTo 16 = .ok (.if_icmp .ge 15, 3) := by decide +kernel
theorem dX12_goesTo_19 : decode cX12_goesTo 19 = .ok (.aload_n 0, 1) := by decide +kernel
theorem dX12_goesTo_20 : decode cX12_goesTo 20 = .ok (.iload_n 1, 1) := by decide +kernel
theorem dX12_goesTo_21 : decode cX12_goesTo 21 = .ok (.iload_n 3, 1) := by decide +kernel
theorem dX12_goesTo_22 : decode cX12_goesTo 22 = .ok (.invokevirtual 412, 3) := by decide +kernel
theorem dX12_goesTo_25 : decode cX12_goesTo 25 = .ok (.iinc 3 1, 3) := by decide +kernel
theorem dX12_goesTo_28 : decode cX12_goesTo 28 = .ok (.goto (-14), 3) := by decide +kernel
theorem dX12_goesTo_31 : decode cX12_goesTo 31 = .ok (.return_, 1) := by decide +kernel
theorem dX12_was_0 : decode cX12_was 0 = .ok (.aload_n 0, 1) := by decide +kernel
theorem dX12_was_1 : decode cX12_was 1 = .ok (.iconst 0, 1) := by decide +kernel
theorem dX12_was_2 : decode cX12_was 2 = .ok (.putfield 1, 3) := by decide +kernel
theorem dX12_was_5 : decode cX12_was 5 = .ok (.aload_n 0, 1) := by decide +kernel
theorem dX12_was_6 : decode cX12_was 6 = .ok (.iload_n 1, 1) := by decide +kernel
theorem dX12_was_7 : decode cX12_was 7 = .ok (.iconst 1, 1) := by decide +kernel
theorem dX12_was_8 : decode cX12_was 8 = .ok (.invokevirtual 260, 3) := by decide +kernel
theorem dX12_was_11 : decode cX12_was 11 = .ok (.ifCond .eq 35, 3) := by decide +kernel
theorem dX12_was_14 : decode cX12_was 14 = .ok (.aload_n 0, 1) := by decide +kernel
theorem dX12_was_15 : decode cX12_was 15 = .ok (.aload_n 0, 1) := by decide +kernel
theorem dX12_was_16 : decode cX12_was 16 = .ok (.iload_n 1, 1) := by decide +kernel
theorem dX12_was_17 : decode cX12_was 17 = .ok (.iload_n 2, 1) := by decide +kernel
theorem dX12_was_18 : decode cX12_was 18 = .ok (.invokevirtual 415, 3) := by decide +kernel
theorem dX12_was_21 : decode cX12_was 21 = .ok (.ifCond .eq 16, 3) := by decide +kernel
theorem dX12_was_24 : decode cX12_was 24 = .ok (.iload_n 3, 1) := by decide +kernel
theorem dX12_was_25 : decode cX12_was 25 = .ok (.iconst 0, 1) := by decide +kernel
theorem dX12_was_26 : decode cX12_was 26 = .ok (.iconst 2, 1) := by decide +kernel
theorem dX12_was_27 : decode cX12_was 27 = .ok (.invokestatic 250, 3) := by decide +kernel
theorem dX12_was_30 : decode cX12_was 30 = .ok (.ifCond .eq 7, 3) := by decide +kernel
theorem dX12_was_33 : decode cX12_was 33 = .ok (.iconst 1, 1) := by decide +kernel
theorem dX12_was_34 : decode cX12_was 34 = .ok (.goto 4, 3) := by decide +kernel
theorem dX12_was_37 : decode cX12_was 37 = .ok (.iconst 0, 1) := by decide +kernel
theorem dX12_was_38 : decode cX12_was 38 = .ok (.iconst 2, 1) := by decide +kernel
theorem dX12_was_39 : decode cX12_was 39 = .ok (.iconst 2, 1) := by decide +kernel
theorem dX12_was_40 : decode cX12_was 40 = .ok (.invokevirtual 157, 3) := by decide +kernel
theorem dX12_was_43 : decode cX12_was 43 = .ok (.ifCond .ne 5, 3) := by decide +kernel
theorem dX12_was_46 : decode cX12_was 46 = .ok (.iconst 0, 1) := by decide +kernel
theorem dX12_was_47 : decode cX12_was 47 = .ok (.ireturn, 1) := by decide +kernel
theorem dX12_was_48 : decode cX12_was 48 = .ok (.aload_n 0, 1) := by decide +kernel
theorem dX12_was_49 : decode cX12_was 49 = .ok (.iload_n 1, 1) := by decide +kernel
theorem dX12_was_50 : decode cX12_was 50 = .ok (.iload_n 2, 1) := by decide +kernel
theorem dX12_was_51 : decode cX12_was 51 = .ok (.invokevirtual 418, 3) := by decide +kernel
theorem dX12_was_54 : decode cX12_was 54 = .ok (.iload_n 3, 1) := by decide +kernel
theorem dX12_was_55 : decode cX12_was 55 = .ok (.ifCond .ne 12, 3) := by decide +kernel
theorem dX12_was_58 : decode cX12_was 58 = .ok (.aload_n 0, 1) := by decide +kernel
theorem dX12_was_59 : decode cX12_was 59 = .ok (.getfield 36, 3) := by decide +kernel
theorem dX12_was_62 : decode cX12_was 62 = .ok (.iload_n 1, 1) := by decide +kernel
theorem dX12_was_63 : decode cX12_was 63 = .ok (.iaload, 1) := by decide +kernel
theorem dX12_was_64 : decode cX12_was 64 = .ok (.goto 30, 3) := by decide +kernel
theorem dX12_was_67 : decode cX12_was 67 = .ok (.iload_n 3, 1) := by decide +kernel
theorem dX12_was_68 : decode cX12_was 68 = .ok (.iconst 1, 1) := by decide +kernel
theorem dX12_was_69 : decode cX12_was 69 = .ok (.if_icmp .ne 12, 3) := by decide +kernel
theorem dX12_was_72 : decode cX12_was 72 = .ok (.aload_n 0, 1) := by decide +kernel
theorem dX12_was_73 : decode cX12_was 73 = .ok (.iload_n 1, 1) := by decide +kernel
theorem dX12_was_74 : decode cX12_was 74 = .ok (.iconst 0, 1) := by decide +kernel
theorem dX12_was_75 : decode cX12_was 75 = .ok (.invokevirtual 280, 3) := by decide +kernel
theorem dX12_was_78 : decode cX12_was 78 = .ok (.goto 16, 3) := by decide +kernel
theorem dX12_was_81 : decode cX12_was 81 = .ok (.aload_n 0, 1) := by decide +kernel
theorem dX12_was_82 : decode cX12_was 82 = .ok (.iload_n 1, 1) := by decide +kernel
theorem dX12_was_83 : decode cX12_was 83 = .ok (.aload_n 0, 1) := by decide +kernel
theorem dX12_was_84 : decode cX12_was 84 = .ok (.getfield 36, 3) := by decide +kernel
theorem dX12_was_87 : decode cX12_was 87 = .ok (.iload_n 1, 1) := by decide +kernel
theorem dX12_was_88 : decode cX12_was 88 = .ok (.iaload, 1) := by decide +kernel
theorem dX12_was_89 : decode cX12_was 89 = .ok (.iconst 1, 1) := by decide +kernel
theorem dX12_was_90 : decode cX12_was 90 = .ok (.isub, 1) := by decide +kernel
theorem dX12_was_91 : decode cX12_was 91 = .ok (.invokevirtual 280, 3) := by decide +kernel
theorem dX12_was_94 : decode cX12_was 94 = .ok (.istore 4, 2) := by decide +kernel
theorem dX12_was_96 : decode cX12_was 96 = .ok (.aload_n 0, 1) := by decide +kernel
theorem dX12_was_97 : decode cX12_was 97 = .ok (.iload_n 1, 1) := by decide +kernel
theorem dX12_was_98 : decode cX12_was 98 = .ok (.invokevirtual 421, 3) := by decide +kernel
theorem dX12_was_101 : decode cX12_was 101 = .ok (.iload 4, 2) := by decide +kernel
theorem dX12_was_103 : decode cX12_was 103 = .ok (.ireturn, 1) := by decide +kernel
theorem dX12_asked_0 : decode cX12_asked 0 = .ok (.aload_n 0, 1) := by decide +kernel
theorem dX12_asked_1 : decode cX12_asked 1 = .ok (.iconst 0, 1) := by decide +kernel
theorem dX12_asked_2 : decode cX12_asked 2 = .ok (.putfield 1, 3) := by decide +kernel
theorem dX12_asked_5 : decode cX12_asked 5 = .ok (.aload_n 0, 1) := by decide +kernel
theorem dX12_asked_6 : decode cX12_asked 6 = .ok (.iload_n 1, 1) := by decide +kernel
theorem dX12_asked_7 : decode cX12_asked 7 = .ok (.iconst 1, 1) := by decide +kernel
theorem dX12_asked_8 : decode cX12_asked 8 = .ok (.invokevirtual 260, 3) := by decide +kernel
theorem dX12_asked_11 : decode cX12_asked 11 = .ok (.ifCond .eq 45, 3) := by decide +kernel
theorem dX12_asked_14 : decode cX12_asked 14 = .ok (.aload_n 0, 1) := by decide +kernel
theorem dX12_asked_15 : decode cX12_asked 15 = .ok (.aload_n 0, 1) := by decide +kernel
theorem dX12_asked_16 : decode cX12_asked 16 = .ok (.iload_n 1, 1) := by decide +kernel
theorem dX12_asked_17 : decode cX12_asked 17 = .ok (.iload_n 2, 1) := by decide +kernel
theorem dX12_asked_18 : decode cX12_asked 18 = .ok (.invokevirtual 415, 3) := by decide +kernel
theorem dX12_asked_21 : decode cX12_asked 21 = .ok (.ifCond .eq 26, 3) := by decide +kernel
theorem dX12_asked_24 : decode cX12_asked 24 = .ok (.iload_n 3, 1) := by decide +kernel
theorem dX12_asked_25 : decode cX12_asked 25 = .ok (.iconst 2, 1) := by decide +kernel
theorem dX12_asked_26 : decode cX12_asked 26 = .ok (.iconst 4, 1) := by decide +kernel
theorem dX12_asked_27 : decode cX12_asked 27 = .ok (.invokestatic 250, 3) := by decide +kernel
theorem dX12_asked_30 : decode cX12_asked 30 = .ok (.ifCond .eq 17, 3) := by decide +kernel
theorem dX12_asked_33 : decode cX12_asked 33 = .ok (.aload_n 0, 1) := by decide +kernel
theorem dX12_asked_34 : decode cX12_asked 34 = .ok (.iload_n 3, 1) := by decide +kernel
theorem dX12_asked_35 : decode cX12_asked 35 = .ok (.iload 4, 2) := by decide +kernel
theorem dX12_asked_37 : decode cX12_asked 37 = .ok (.invokevirtual 283, 3) := by decide +kernel
theorem dX12_asked_40 : decode cX12_asked 40 = .ok (.ifCond .eq 7, 3) := by decide +kernel
theorem dX12_asked_43 : decode cX12_asked 43 = .ok (.iconst 1, 1) := by decide +kernel
theorem dX12_asked_44 : decode cX12_asked 44 = .ok (.goto 4, 3) := by decide +kernel
theorem dX12_asked_47 : decode cX12_asked 47 = .ok (.iconst 0, 1) := by decide +kernel
theorem dX12_asked_48 : decode cX12_asked 48 = .ok (.iconst 2, 1) := by decide +kernel
theorem dX12_asked_49 : decode cX12_asked 49 = .ok (.iconst 2, 1) := by decide +kernel
theorem dX12_asked_50 : decode cX12_asked 50 = .ok (.invokevirtual 157, 3) := by decide +kernel
theorem dX12_asked_53 : decode cX12_asked 53 = .ok (.ifCond .ne 5, 3) := by decide +kernel
theorem dX12_asked_56 : decode cX12_asked 56 = .ok (.iconst 0, 1) := by decide +kernel
theorem dX12_asked_57 : decode cX12_asked 57 = .ok (.ireturn, 1) := by decide +kernel
theorem dX12_asked_58 : decode cX12_asked 58 = .ok (.aload_n 0, 1) := by decide +kernel
theorem dX12_asked_59 : decode cX12_asked 59 = .ok (.iload_n 1, 1) := by decide +kernel
theorem dX12_asked_60 : decode cX12_asked 60 = .ok (.iload_n 2, 1) := by decide +kernel
theorem dX12_asked_61 : decode cX12_asked 61 = .ok (.invokevirtual 418, 3) := by decide +kernel
theorem dX12_asked_64 : decode cX12_asked 64 = .ok (.aload_n 0, 1) := by decide +kernel
theorem dX12_asked_65 : decode cX12_asked 65 = .ok (.iload_n 1, 1) := by decide +kernel
theorem dX12_asked_66 : decode cX12_asked 66 = .ok (.iload_n 3, 1) := by decide +kernel
theorem dX12_asked_67 : decode cX12_asked 67 = .ok (.iload 4, 2) := by decide +kernel
theorem dX12_asked_69 : decode cX12_asked 69 = .ok (.invokevirtual 286, 3) := by decide +kernel
theorem dX12_asked_72 : decode cX12_asked 72 = .ok (.istore 5, 2) := by decide +kernel
theorem dX12_asked_74 : decode cX12_asked 74 = .ok (.aload_n 0, 1) := by decide +kernel
theorem dX12_asked_75 : decode cX12_asked 75 = .ok (.iload_n 1, 1) := by decide +kernel
theorem dX12_asked_76 : decode cX12_asked 76 = .ok (.invokevirtual 421, 3) := by decide +kernel
theorem dX12_asked_79 : decode cX12_asked 79 = .ok (.iload 5, 2) := by decide +kernel
theorem dX12_asked_81 : decode cX12_asked 81 = .ok (.ireturn, 1) := by decide +kernel
theorem dX12_room_0 : decode cX12_room 0 = .ok (.aload_n 0, 1) := by decide +kernel
theorem dX12_room_1 : decode cX12_room 1 = .ok (.iconst 0, 1) := by decide +kernel
theorem dX12_room_2 : decode cX12_room 2 = .ok (.putfield 1, 3) := by decide +kernel
theorem dX12_room_5 : decode cX12_room 5 = .ok (.aload_n 0, 1) := by decide +kernel
theorem dX12_room_6 : decode cX12_room 6 = .ok (.iload_n 1, 1) := by decide +kernel
theorem dX12_room_7 : decode cX12_room 7 = .ok (.iconst 1, 1) := by decide +kernel
theorem dX12_room_8 : decode cX12_room 8 = .ok (.invokevirtual 260, 3) := by decide +kernel
theorem dX12_room_11 : decode cX12_room 11 = .ok (.ifCond .eq 18, 3) := by decide +kernel
theorem dX12_room_14 : decode cX12_room 14 = .ok (.aload_n 0, 1) := by decide +kernel
theorem dX12_room_15 : decode cX12_room 15 = .ok (.iload_n 2, 1) := by decide +kernel
theorem dX12_room_16 : decode cX12_room 16 = .ok (.iconst 0, 1) := by decide +kernel
theorem dX12_room_17 : decode cX12_room 17 = .ok (.iconst 1, 1) := by decide +kernel
theorem dX12_room_18 : decode cX12_room 18 = .ok (.invokestatic 250, 3) := by decide +kernel
theorem dX12_room_21 : decode cX12_room 21 = .ok (.iconst 2, 1) := by decide +kernel
theorem dX12_room_22 : decode cX12_room 22 = .ok (.iconst 2, 1) := by decide +kernel
theorem dX12_room_23 : decode cX12_room 23 = .ok (.invokevirtual 157, 3) := by decide +kernel
theorem dX12_room_26 : decode cX12_room 26 = .ok (.ifCond .ne 5, 3) := by decide +kernel
theorem dX12_room_29 : decode cX12_room 29 = .ok (.iconst 0, 1) := by decide +kernel
theorem dX12_room_30 : decode cX12_room 30 = .ok (.ireturn, 1) := by decide +kernel
theorem dX12_room_31 : decode cX12_room 31 = .ok (.iload_n 2, 1) := by decide +kernel
theorem dX12_room_32 : decode cX12_room 32 = .ok (.iconst 1, 1) := by decide +kernel
theorem dX12_room_33 : decode cX12_room 33 = .ok (.if_icmp .ne 10, 3) := by decide +kernel
theorem dX12_room_36 : decode cX12_room 36 = .ok (.aload_n 0, 1) := by decide +kernel
theorem dX12_room_37 : decode cX12_room 37 = .ok (.getfield 45, 3) := by decide +kernel
theorem dX12_room_40 : decode cX12_room 40 = .ok (.iload_n 1, 1) := by decide +kernel
theorem dX12_room_41 : decode cX12_room 41 = .ok (.iaload, 1) := by decide +kernel
theorem dX12_room_42 : decode cX12_room 42 = .ok (.ireturn, 1) := by decide +kernel
theorem dX12_room_43 : decode cX12_room 43 = .ok (.aload_n 0, 1) := by decide +kernel
theorem dX12_room_44 : decode cX12_room 44 = .ok (.iload_n 1, 1) := by decide +kernel
theorem dX12_room_45 : decode cX12_room 45 = .ok (.invokevirtual 409, 3) := by decide +kernel
theorem dX12_room_48 : decode cX12_room 48 = .ok (.aload_n 0, 1) := by decide +kernel
theorem dX12_room_49 : decode cX12_room 49 = .ok (.getfield 36, 3) := by decide +kernel
theorem dX12_room_52 : decode cX12_room 52 = .ok (.iload_n 1, 1) := by decide +kernel
theorem dX12_room_53 : decode cX12_room 53 = .ok (.iconst 0, 1) := by decide +kernel
theorem dX12_room_54 : decode cX12_room 54 = .ok (.iastore, 1) := by decide +kernel
theorem dX12_room_55 : decode cX12_room 55 = .ok (.iconst 0, 1) := by decide +kernel
theorem dX12_room_56 : decode cX12_room 56 = .ok (.istore_n 3, 1) := by decide +kernel
theorem dX12_room_57 : decode cX12_room 57 = .ok (.iconst 0, 1) := by decide +kernel
theorem dX12_room_58 : decode cX12_room 58 = .ok (.istore 4, 2) := by decide +kernel
theorem dX12_room_60 : decode cX12_room 60 = .ok (.iload 4, 2) := by decide +kernel
theorem dX12_room_62 : decode cX12_room 62 = .ok (.aload_n 0, 1) := by decide +kernel
theorem dX12_room_63 : decode cX12_room 63 = .ok (.getfield 45, 3) := by decide +kernel
theorem dX12_room_66 : decode cX12_room 66 = .ok (.iload_n 1, 1) := by decide +kernel
theorem dX12_room_67 : decode cX12_room 67 = .ok (.iaload, 1) := by decide +kernel
theorem dX12_room_68 : decode cX12_room 68 = .ok (.if_icmp .ge 59, 3) := by decide +kernel
theorem dX12_room_71 : decode cX12_room 71 = .ok (.iload_n 3, 1) := by decide +kernel
theorem dX12_room_72 : decode cX12_room 72 = .ok (.aload_n 0, 1) := by decide +kernel
theorem dX12_room_73 : decode cX12_room 73 = .ok (.iload_n 1, 1) := by decide +kernel
theorem dX12_room_74 : decode cX12_room 74 = .ok (.aload_n 0, 1) := by decide +kernel
theorem dX12_room_75 : decode cX12_room 75 = .ok (.getfield 42, 3) := by decide +kernel
theorem dX12_room_78 : decode cX12_room 78 = .ok (.sipush 1000, 3) := by decide +kernel
theorem dX12_room_81 : decode cX12_room 81 = .ok (.iload_n 1, 1) := by decide +kernel
theorem dX12_room_82 : decode cX12_room 82 = .ok (.imul, 1) := by decide +kernel
theorem dX12_room_83 : decode cX12_room 83 = .ok (.iload 4, 2) := by decide +kernel
theorem dX12_room_85 : decode cX12_room 85 = .ok (.iadd, 1) := by decide +kernel
theorem dX12_room_86 : decode cX12_room 86 = .ok (.iaload, 1) := by decide +kernel
theorem dX12_room_87 : decode cX12_room 87 = .ok (.iconst 1, 1) := by decide +kernel
theorem dX12_room_88 : decode cX12_room 88 = .ok (.if_icmp .ne 7, 3) := by decide +kernel
theorem dX12_room_91 : decode cX12_room 91 = .ok (.iconst 0, 1) := by decide +kernel
theorem dX12_room_92 : decode cX12_room 92 = .ok (.goto 4, 3) := by decide +kernel
theorem dX12_room_95 : decode cX12_room 95 = .ok (.iconst 1, 1) := by decide +kernel
theorem dX12_room_96 : decode cX12_room 96 = .ok (.aload_n 0, 1) := by decide +kernel
theorem dX12_room_97 : decode cX12_room 97 = .ok (.getfield 39, 3) := by decide +kernel
theorem dX12_room_100 : decode cX12_room 100 = .ok (.sipush 1000, 3) := by decide +kernel
theorem dX12_room_103 : decode cX12_room 103 = .ok (.iload_n 1, 1) := by decide +kernel
theorem dX12_room_104 : decode cX12_room 104 = .ok (.imul, 1) := by decide +kernel
theorem dX12_room_105 : decode cX12_room 105 = .ok (.iload 4, 2) := by decide +kernel
theorem dX12_room_107 : decode cX12_room 107 = .ok (.iadd, 1) := by decide +kernel
theorem dX12_room_108 : decode cX12_room 108 = .ok (.iaload, 1) := by decide +kernel
theorem dX12_room_109 : decode cX12_room 109 = .ok (.invokevirtual 335, 3) := by decide +kernel
theorem dX12_room_112 : decode cX12_room 112 = .ok (.iadd, 1) := by decide +kernel
theorem dX12_room_113 : decode cX12_room 113 = .ok (.istore_n 3, 1) := by decide +kernel
theorem dX12_room_114 : decode cX12_room 114 = .ok (.aload_n 0, 1) := by decide +kernel
theorem dX12_room_115 : decode cX12_room 115 = .ok (.iload_n 1, 1) := by decide +kernel
theorem dX12_room_116 : decode cX12_room 116 = .ok (.iload 4, 2) := by decide +kernel
theorem dX12_room_118 : decode cX12_room 118 = .ok (.invokevirtual 412, 3) := by decide +kernel
theorem dX12_room_121 : decode cX12_room 121 = .ok (.iinc 4 1, 3) := by decide +kernel
theorem dX12_room_124 : decode cX12_room 124 = .ok (.goto (-64), 3) := by decide +kernel
theorem dX12_room_127 : decode cX12_room 127 = .ok (.aload_n 0, 1) := by decide +kernel
theorem dX12_room_128 : decode cX12_room 128 = .ok (.iload_n 1, 1) := by decide +kernel
theorem dX12_room_129 : decode cX12_room 129 = .ok (.invokevirtual 421, 3) := by decide +kernel
theorem dX12_room_132 : decode cX12_room 132 = .ok (.iload_n 3, 1) := by decide +kernel
theorem dX12_room_133 : decode cX12_room 133 = .ok (.ireturn, 1) := by decide +kernel
theorem dX12_calls_0 : decode cX12_calls 0 = .ok (.aload_n 0, 1) := by decide +kernel
theorem dX12_calls_1 : decode cX12_calls 1 = .ok (.iload_n 1, 1) := by decide +kernel
theorem dX12_calls_2 : decode cX12_calls 2 = .ok (.iload_n 2, 1) := by decide +kernel
theorem dX12_calls_3 : decode cX12_calls 3 = .ok (.iload_n 3, 1) := by decide +kernel
theorem dX12_calls_4 : decode cX12_calls 4 = .ok (.invokevirtual 335, 3) := by decide +kernel
theorem dX12_calls_7 : decode cX12_calls 7 = .ok (.istore 4, 2) := by decide +kernel
theorem dX12_calls_9 : decode cX12_calls 9 = .ok (.aload_n 0, 1) := by decide +kernel
theorem dX12_calls_10 : decode cX12_calls 10 = .ok (.iload_n 1, 1) := by decide +kernel
theorem dX12_calls_11 : decode cX12_calls 11 = .ok (.iload_n 3, 1) := by decide +kernel
theorem dX12_calls_12 : decode cX12_calls 12 = .ok (.invokevirtual 267, 3) := by decide +kernel
theorem dX12_calls_15 : decode cX12_calls 15 = .ok (.istore 5, 2) := by decide +kernel
theorem dX12_calls_17 : decode cX12_calls 17 = .ok (.iload_n 2, 1) := by decide +kernel
theorem dX12_calls_18 : decode cX12_calls 18 = .ok (.ifCond .ne 21, 3) := by decide +kernel
theorem dX12_calls_21 : decode cX12_calls 21 = .ok (.iload 5, 2) := by decide +kernel
theorem dX12_calls_23 : decode cX12_calls 23 = .ok (.ifCond .ne 16, 3) := by decide +kernel
theorem dX12_calls_26 : decode cX12_calls 26 = .ok (.aload_n 0, 1) := by decide +kernel
theorem dX12_calls_27 : decode cX12_calls 27 = .ok (.iload_n 1, 1) := by decide +kernel
theorem dX12_calls_28 : decode cX12_calls 28 = .ok (.iload_n 3, 1) := by decide +kernel
theorem dX12_calls_29 : decode cX12_calls 29 = .ok (.invokevirtual 270, 3) := by decide +kernel
theorem dX12_calls_32 : decode cX12_calls 32 = .ok (.aload_n 0, 1) := by decide +kernel
theorem dX12_calls_33 : decode cX12_calls 33 = .ok (.iload_n 1, 1) := by decide +kernel
theorem dX12_calls_34 : decode cX12_calls 34 = .ok (.iload_n 3, 1) := by decide +kernel
theorem dX12_calls_35 : decode cX12_calls 35 = .ok (.iconst 1, 1) := by decide +kernel
theorem dX12_calls_36 : decode cX12_calls 36 = .ok (.invokevirtual 273, 3) := by decide +kernel
theorem dX12_calls_39 : decode cX12_calls 39 = .ok (.iload_n 2, 1) := by decide +kernel
theorem dX12_calls_40 : decode cX12_calls 40 = .ok (.iconst 1, 1) := by decide +kernel
theorem dX12_calls_41 : decode cX12_calls 41 = .ok (.if_icmp .ne 21, 3) := by decide +kernel
theorem dX12_calls_44 : decode cX12_calls 44 = .ok (.iload 5, 2) := by decide +kernel
theorem dX12_calls_46 : decode cX12_calls 46 = .ok (.ifCond .eq 16, 3) := by decide +kernel
theorem dX12_calls_49 : decode cX12_calls 49 = .ok (.aload_n 0, 1) := by decide +kernel
theorem dX12_calls_50 : decode cX12_calls 50 = .ok (.iload_n 1, 1) := by decide +kernel
theorem dX12_calls_51 : decode cX12_calls 51 = .ok (.iload_n 3, 1) := by decide +kernel
theorem dX12_calls_52 : decode cX12_calls 52 = .ok (.invokevirtual 277, 3) := by decide +kernel
theorem dX12_calls_55 : decode cX12_calls 55 = .ok (.aload_n 0, 1) := by decide +kernel
theorem dX12_calls_56 : decode cX12_calls 56 = .ok (.iload_n 1, 1) := by decide +kernel
theorem dX12_calls_57 : decode cX12_calls 57 = .ok (.iload_n 3, 1) := by decide +kernel
theorem dX12_calls_58 : decode cX12_calls 58 = .ok (.iconst 0, 1) := by decide +kernel
theorem dX12_calls_59 : decode cX12_calls 59 = .ok (.invokevirtual 273, 3) := by decide +kernel
theorem dX12_calls_62 : decode cX12_calls 62 = .ok (.iload 4, 2) := by decide +kernel
theorem dX12_calls_64 : decode cX12_calls 64 = .ok (.ireturn, 1) := by decide +kernel
theorem dX12_joins_0 : decode cX12_joins 0 = .ok (.aload_n 0, 1) := by decide +kernel
theorem dX12_joins_1 : decode cX12_joins 1 = .ok (.iconst 0, 1) := by decide +kernel
theorem dX12_joins_2 : decode cX12_joins 2 = .ok (.putfield 1, 3) := by decide +kernel
theorem dX12_joins_5 : decode cX12_joins 5 = .ok (.aload_n 0, 1) := by decide +kernel
theorem dX12_joins_6 : decode cX12_joins 6 = .ok (.iload_n 1, 1) := by decide +kernel
theorem dX12_joins_7 : decode cX12_joins 7 = .ok (.iconst 1, 1) := by decide +kernel
theorem dX12_joins_8 : decode cX12_joins 8 = .ok (.invokevirtual 260, 3) := by decide +kernel
theorem dX12_joins_11 : decode cX12_joins 11 = .ok (.ifCond .eq 40, 3) := by decide +kernel
theorem dX12_joins_14 : decode cX12_joins 14 = .ok (.aload_n 0, 1) := by decide +kernel
theorem dX12_joins_15 : decode cX12_joins 15 = .ok (.iload_n 2, 1) := by decide +kernel
theorem dX12_joins_16 : decode cX12_joins 16 = .ok (.iconst 1, 1) := by decide +kernel
theorem dX12_joins_17 : decode cX12_joins 17 = .ok (.invokevirtual 260, 3) := by decide +kernel
theorem dX12_joins_20 : decode cX12_joins 20 = .ok (.ifCond .eq 31, 3) := by decide +kernel
theorem dX12_joins_23 : decode cX12_joins 23 = .ok (.aload_n 0, 1) := by decide +kernel
theorem dX12_joins_24 : decode cX12_joins 24 = .ok (.iload_n 1, 1) := by decide +kernel
theorem dX12_joins_25 : decode cX12_joins 25 = .ok (.iload_n 2, 1) := by decide +kernel
theorem dX12_joins_26 : decode cX12_joins 26 = .ok (.if_icmp .eq 16, 3) := by decide +kernel
theorem dX12_joins_29 : decode cX12_joins 29 = .ok (.iload_n 3, 1) := by decide +kernel
theorem dX12_joins_30 : decode cX12_joins 30 = .ok (.iconst 0, 1) := by decide +kernel
theorem dX12_joins_31 : decode cX12_joins 31 = .ok (.iconst 2, 1) := by decide +kernel
theorem dX12_joins_32 : decode cX12_joins 32 = .ok (.invokestatic 250, 3) := by decide +kernel
theorem dX12_joins_35 : decode cX12_joins 35 = .ok (.ifCond .eq 7, 3) := by decide +kernel
theorem dX12_joins_38 : decode cX12_joins 38 = .ok (.iconst 1, 1) := by decide +kernel
theorem dX12_joins_39 : decode cX12_joins 39 = .ok (.goto 4, 3) := by decide +kernel
theorem dX12_joins_42 : decode cX12_joins 42 = .ok (.iconst 0, 1) := by decide +kernel
theorem dX12_joins_43 : decode cX12_joins 43 = .ok (.iconst 2, 1) := by decide +kernel
theorem dX12_joins_44 : decode cX12_joins 44 = .ok (.iconst 2, 1) := by decide +kernel
theorem dX12_joins_45 : decode cX12_joins 45 = .ok (.invokevirtual 157, 3) := by decide +kernel
theorem dX12_joins_48 : decode cX12_joins 48 = .ok (.ifCond .ne 5, 3) := by decide +kernel
theorem dX12_joins_51 : decode cX12_joins 51 = .ok (.iconst 0, 1) := by decide +kernel
theorem dX12_joins_52 : decode cX12_joins 52 = .ok (.ireturn, 1) := by decide +kernel
theorem dX12_joins_53 : decode cX12_joins 53 = .ok (.iconst 0, 1) := by decide +kernel
theorem dX12_joins_54 : decode cX12_joins 54 = .ok (.istore 4, 2) := by decide +kernel
theorem dX12_joins_56 : decode cX12_joins 56 = .ok (.iconst 0, 1) := by decide +kernel
theorem dX12_joins_57 : decode cX12_joins 57 = .ok (.istore 5, 2) := by decide +kernel
theorem dX12_joins_59 : decode cX12_joins 59 = .ok (.iload_n 3, 1) := by decide +kernel
theorem dX12_joins_60 : decode cX12_joins 60 = .ok (.iconst 1, 1) := by decide +kernel
theorem dX12_joins_61 : decode cX12_joins 61 = .ok (.if_icmp .ne 7, 3) := by decide +kernel
theorem dX12_joins_64 : decode cX12_joins 64 = .ok (.iload_n 1, 1) := by decide +kernel
theorem dX12_joins_65 : decode cX12_joins 65 = .ok (.goto 4, 3) := by decide +kernel
theorem dX12_joins_68 : decode cX12_joins 68 = .ok (.iload_n 2, 1) := by decide +kernel
theorem dX12_joins_69 : decode cX12_joins 69 = .ok (.istore 6, 2) := by decide +kernel
theorem dX12_joins_71 : decode cX12_joins 71 = .ok (.iconst 0, 1) := by decide +kernel
theorem dX12_joins_72 : decode cX12_joins 72 = .ok (.istore 7, 2) := by decide +kernel
theorem dX12_joins_74 : decode cX12_joins 74 = .ok (.iload 7, 2) := by decide +kernel
theorem dX12_joins_76 : decode cX12_joins 76 = .ok (.aload_n 0, 1) := by decide +kernel
theorem dX12_joins_77 : decode cX12_joins 77 = .ok (.getfield 36, 3) := by decide +kernel
theorem dX12_joins_80 : decode cX12_joins 80 = .ok (.iload 6, 2) := by decide +kernel
theorem dX12_joins_82 : decode cX12_joins 82 = .ok (.iaload, 1) := by decide +kernel
theorem dX12_joins_83 : decode cX12_joins 83 = .ok (.if_icmp .ge 91, 3) := by decide +kernel
theorem dX12_joins_86 : decode cX12_joins 86 = .ok (.aload_n 0, 1) := by decide +kernel
theorem dX12_joins_87 : decode cX12_joins 87 = .ok (.iload 6, 2) := by decide +kernel
theorem dX12_joins_89 : decode cX12_joins 89 = .ok (.iload 7, 2) := by decide +kernel
theorem dX12_joins_91 : decode cX12_joins 91 = .ok (.invokevirtual 280, 3) := by decide +kernel
theorem dX12_joins_94 : decode cX12_joins 94 = .ok (.istore 8, 2) := by decide +kernel
theorem dX12_joins_96 : decode cX12_joins 96 = .ok (.aload_n 0, 1) := by decide +kernel
theorem dX12_joins_97 : decode cX12_joins 97 = .ok (.iload_n 3, 1) := by decide +kernel
theorem dX12_joins_98 : decode cX12_joins 98 = .ok (.iconst 1, 1) := by decide +kernel
theorem dX12_joins_99 : decode cX12_joins 99 = .ok (.if_icmp .ne 7, 3) := by decide +kernel
theorem dX12_joins_102 : decode cX12_joins 102 = .ok (.iload_n 2, 1) := by decide +kernel
theorem dX12_joins_103 : decode cX12_joins 103 = .ok (.goto 4, 3) := by decide +kernel
theorem dX12_joins_106 : decode cX12_joins 106 = .ok (.iload_n 1, 1) := by decide +kernel
theorem dX12_joins_107 : decode cX12_joins 107 = .ok (.iload 8, 2) := by decide +kernel
theorem dX12_joins_109 : decode cX12_joins 109 = .ok (.invokevirtual 267, 3) := by decide +kernel
theorem dX12_joins_112 : decode cX12_joins 112 = .ok (.istore 9, 2) := by decide +kernel
theorem dX12_joins_114 : decode cX12_joins 114 = .ok (.iload_n 3, 1) := by decide +kernel
theorem dX12_joins_115 : decode cX12_joins 115 = .ok (.iconst 1, 1) := by decide +kernel
theorem dX12_joins_116 : decode cX12_joins 116 = .ok (.if_icmp .ne 11, 3) := by decide +kernel
theorem dX12_joins_119 : decode cX12_joins 119 = .ok (.iload 9, 2) := by decide +kernel
theorem dX12_joins_121 : decode cX12_joins 121 = .ok (.ifCond .eq 6, 3) := by decide +kernel
theorem dX12_joins_124 : decode cX12_joins 124 = .ok (.goto 44, 3) := by decide +kernel
theorem dX12_joins_127 : decode cX12_joins 127 = .ok (.aload_n 0, 1) := by decide +kernel
theorem dX12_joins_128 : decode cX12_joins 128 = .ok (.getfield 103, 3) := by decide +kernel
theorem dX12_joins_131 : decode cX12_joins 131 = .ok (.iload 4, 2) := by decide +kernel
theorem dX12_joins_133 : decode cX12_joins 133 = .ok (.iload 8, 2) := by decide +kernel
theorem dX12_joins_135 : decode cX12_joins 135 = .ok (.iastore, 1) := by decide +kernel
theorem dX12_joins_136 : decode cX12_joins 136 = .ok (.iinc 4 1, 3) := by decide +kernel
theorem dX12_joins_139 : decode cX12_joins 139 = .ok (.iload 5, 2) := by decide +kernel
theorem dX12_joins_141 : decode cX12_joins 141 = .ok (.iload_n 3, 1) := by decide +kernel
theorem dX12_joins_142 : decode cX12_joins 142 = .ok (.ifCond .ne 8, 3) := by decide +kernel
theorem dX12_joins_145 : decode cX12_joins 145 = .ok (.iload 9, 2) := by decide +kernel
theorem dX12_joins_147 : decode cX12_joins 147 = .ok (.ifCond .ne 13, 3) := by decide +kernel
theorem dX12_joins_150 : decode cX12_joins 150 = .ok (.iload_n 3, 1) := by decide +kernel
theorem dX12_joins_151 : decode cX12_joins 151 = .ok (.iconst 2, 1) := by decide +kernel
theorem dX12_joins_152 : decode cX12_joins 152 = .ok (.if_icmp .ne 12, 3) := by decide +kernel
theorem dX12_joins_155 : decode cX12_joins 155 = .ok (.iload 9, 2) := by decide +kernel
theorem dX12_joins_157 : decode cX12_joins 157 = .ok (.ifCond .ne 7, 3) := by decide +kernel
theorem dX12_joins_160 : decode cX12_joins 160 = .ok (.iconst 0, 1) := by decide +kernel
theorem dX12_joins_161 : decode cX12_joins 161 = .ok (.goto 4, 3) := by decide +kernel
theorem dX12_joins_164 : decode cX12_joins 164 = .ok (.iconst 1, 1) := by decide +kernel
theorem dX12_joins_165 : decode cX12_joins 165 = .ok (.iadd, 1) := by decide +kernel
theorem dX12_joins_166 : decode cX12_joins 166 = .ok (.istore 5, 2) := by decide +kernel
theorem dX12_joins_168 : decode cX12_joins 168 = .ok (.iinc 7 1, 3) := by decide +kernel
theorem dX12_joins_171 : decode cX12_joins 171 = .ok (.goto (-97), 3) := by decide +kernel
theorem dX12_joins_174 : decode cX12_joins 174 = .ok (.iload_n 3, 1) := by decide +kernel
theorem dX12_joins_175 : decode cX12_joins 175 = .ok (.ifCond .ne 20, 3) := by decide +kernel
theorem dX12_joins_178 : decode cX12_joins 178 = .ok (.aload_n 0, 1) := by decide +kernel
theorem dX12_joins_179 : decode cX12_joins 179 = .ok (.getfield 36, 3) := by decide +kernel
theorem dX12_joins_182 : decode cX12_joins 182 = .ok (.iload_n 1, 1) := by decide +kernel
theorem dX12_joins_183 : decode cX12_joins 183 = .ok (.iaload, 1) := by decide +kernel
theorem dX12_joins_184 : decode cX12_joins 184 = .ok (.iload 5, 2) := by decide +kernel
theorem dX12_joins_186 : decode cX12_joins 186 = .ok (.iadd, 1) := by decide +kernel
theorem dX12_joins_187 : decode cX12_joins 187 = .ok (.sipush 2000, 3) := by decide +kernel
theorem dX12_joins_190 : decode cX12_joins 190 = .ok (.if_icmp .le 5, 3) := by decide +kernel
theorem dX12_joins_193 : decode cX12_joins 193 = .ok (.iconst (-1), 1) := by decide +kernel
theorem dX12_joins_194 : decode cX12_joins 194 = .ok (.ireturn, 1) := by decide +kernel
theorem dX12_joins_195 : decode cX12_joins 195 = .ok (.aload_n 0, 1) := by decide +kernel
theorem dX12_joins_196 : decode cX12_joins 196 = .ok (.getfield 45, 3) := by decide +kernel
theorem dX12_joins_199 : decode cX12_joins 199 = .ok (.iload_n 1, 1) := by decide +kernel
theorem dX12_joins_200 : decode cX12_joins 200 = .ok (.iaload, 1) := by decide +kernel
theorem dX12_joins_201 : decode cX12_joins 201 = .ok (.iload 5, 2) := by decide +kernel
theorem dX12_joins_203 : decode cX12_joins 203 = .ok (.iadd, 1) := by decide +kernel
theorem dX12_joins_204 : decode cX12_joins 204 = .ok (.sipush 1000, 3) := by decide +kernel
theorem dX12_joins_207 : decode cX12_joins 207 = .ok (.if_icmp .le 6, 3) := by decide +kernel
theorem dX12_joins_210 : decode cX12_joins 210 = .ok (.bipush (-2), 2) := by decide +kernel
theorem dX12_joins_212 : decode cX12_joins 212 = .ok (.ireturn, 1) := by decide +kernel
theorem dX12_joins_213 : decode cX12_joins 213 = .ok (.iconst 0, 1) := by decide +kernel
theorem dX12_joins_214 : decode cX12_joins 214 = .ok (.istore 7, 2) := by decide +kernel
theorem dX12_joins_216 : decode cX12_joins 216 = .ok (.iconst 0, 1) := by decide +kernel
theorem dX12_joins_217 : decode cX12_joins 217 = .ok (.istore 8, 2) := by decide +kernel
theorem dX12_joins_219 : decode cX12_joins 219 = .ok (.iload 8, 2) := by decide +kernel
theorem dX12_joins_221 : decode cX12_joins 221 = .ok (.iload 4, 2) := by decide +kernel
theorem dX12_joins_223 : decode cX12_joins 223 = .ok (.if_icmp .ge 35, 3) := by decide +kernel
theorem dX12_joins_226 : decode cX12_joins 226 = .ok (.iload 7, 2) := by decide +kernel
theorem dX12_joins_228 : decode cX12_joins 228 = .ok (.aload_n 0, 1) := by decide +kernel
theorem dX12_joins_229 : decode cX12_joins 229 = .ok (.iload_n 1, 1) := by decide +kernel
theorem dX12_joins_230 : decode cX12_joins 230 = .ok (.iload_n 3, 1) := by decide +kernel
theorem dX12_joins_231 : decode cX12_joins 231 = .ok (.ifCond .ne 7, 3) := by decide +kernel
theorem dX12_joins_234 : decode cX12_joins 234 = .ok (.iconst 0, 1) := by decide +kernel
theorem dX12_joins_235 : decode cX12_joins 235 = .ok (.goto 4, 3) := by decide +kernel
theorem dX12_joins_238 : decode cX12_joins 238 = .ok (.iconst 1, 1) := by decide +kernel
theorem dX12_joins_239 : decode cX12_joins 239 = .ok (.aload_n 0, 1) := by decide +kernel
theorem dX12_joins_240 : decode cX12_joins 240 = .ok (.getfield 103, 3) := by decide +kernel
theorem dX12_joins_243 : decode cX12_joins 243 = .ok (.iload 8, 2) := by decide +kernel
theorem dX12_joins_245 : decode cX12_joins 245 = .ok (.iaload, 1) := by decide +kernel
theorem dX12_joins_246 : decode cX12_joins 246 = .ok (.invokevirtual 424, 3) := by decide +kernel
theorem dX12_joins_249 : decode cX12_joins 249 = .ok (.iadd, 1) := by decide +kernel
theorem dX12_joins_250 : decode cX12_joins 250 = .ok (.istore 7, 2) := by decide +kernel
theorem dX12_joins_252 : decode cX12_joins 252 = .ok (.iinc 8 1, 3) := by decide +kernel
theorem dX12_joins_255 : decode cX12_joins 255 = .ok (.goto (-36), 3) := by decide +kernel
theorem dX12_joins_258 : decode cX12_joins 258 = .ok (.iload 7, 2) := by decide +kernel
theorem dX12_joins_260 : decode cX12_joins 260 = .ok (.ireturn, 1) := by decide +kernel
theorem dX12_split_0 : decode cX12_split 0 = .ok (.aload_n 0, 1) := by decide +kernel
theorem dX12_split_1 : decode cX12_split 1 = .ok (.iconst 0, 1) := by decide +kernel
theorem dX12_split_2 : decode cX12_split 2 = .ok (.putfield 1, 3) := by decide +kernel
theorem dX12_split_5 : decode cX12_split 5 = .ok (.aload_n 0, 1) := by decide +kernel
theorem dX12_split_6 : decode cX12_split 6 = .ok (.iload_n 1, 1) := by decide +kernel
theorem dX12_split_7 : decode cX12_split 7 = .ok (.iconst 1, 1) := by decide +kernel
theorem dX12_split_8 : decode cX12_split 8 = .ok (.invokevirtual 260, 3) := by decide +kernel
theorem dX12_split_11 : decode cX12_split 11 = .ok (.ifCond .eq 39, 3) := by decide +kernel
theorem dX12_split_14 : decode cX12_split 14 = .ok (.aload_n 0, 1) := by decide +kernel
theorem dX12_split_15 : decode cX12_split 15 = .ok (.iload_n 2, 1) := by decide +kernel
theorem dX12_split_16 : decode cX12_split 16 = .ok (.iconst 1, 1) := by decide +kernel
theorem dX12_split_17 : decode cX12_split 17 = .ok (.invokevirtual 260, 3) := by decide +kernel
theorem dX12_split_20 : decode cX12_split 20 = .ok (.ifCond .eq 30, 3) := by decide +kernel
theorem dX12_split_23 : decode cX12_split 23 = .ok (.aload_n 0, 1) := by decide +kernel
theorem dX12_split_24 : decode cX12_split 24 = .ok (.iload_n 1, 1) := by decide +kernel
theorem dX12_split_25 : decode cX12_split 25 = .ok (.iload_n 2, 1) := by decide +kernel
theorem dX12_split_26 : decode cX12_split 26 = .ok (.if_icmp .eq 15, 3) := by decide +kernel
theorem dX12_split_29 : decode cX12_split 29 = .ok (.aload_n 0, 1) := by decide +kernel
theorem dX12_split_30 : decode cX12_split 30 = .ok (.iload_n 3, 1) := by decide +kernel
theorem dX12_split_31 : decode cX12_split 31 = .ok (.invokevirtual 264, 3) := by decide +kernel
theorem dX12_split_34 : decode cX12_split 34 = .ok (.ifCond .eq 7, 3) := by decide +kernel
theorem dX12_split_37 : decode cX12_split 37 = .ok (.iconst 1, 1) := by decide +kernel
theorem dX12_split_38 : decode cX12_split 38 = .ok (.goto 4, 3) := by decide +kernel
theorem dX12_split_41 : decode cX12_split 41 = .ok (.iconst 0, 1) := by decide +kernel
theorem dX12_split_42 : decode cX12_split 42 = .ok (.iconst 2, 1) := by decide +kernel
theorem dX12_split_43 : decode cX12_split 43 = .ok (.iconst 2, 1) := by decide +kernel
theorem dX12_split_44 : decode cX12_split 44 = .ok (.invokevirtual 157, 3) := by decide +kernel
theorem dX12_split_47 : decode cX12_split 47 = .ok (.ifCond .ne 5, 3) := by decide +kernel
theorem dX12_split_50 : decode cX12_split 50 = .ok (.iconst 0, 1) := by decide +kernel
theorem dX12_split_51 : decode cX12_split 51 = .ok (.ireturn, 1) := by decide +kernel
theorem dX12_split_52 : decode cX12_split 52 = .ok (.iconst 0, 1) := by decide +kernel
theorem dX12_split_53 : decode cX12_split 53 = .ok (.istore 4, 2) := by decide +kernel
theorem dX12_split_55 : decode cX12_split 55 = .ok (.iconst 0, 1) := by decide +kernel
theorem dX12_split_56 : decode cX12_split 56 = .ok (.istore 5, 2) := by decide +kernel
theorem dX12_split_58 : decode cX12_split 58 = .ok (.aload_n 0, 1) := by decide +kernel
theorem dX12_split_59 : decode cX12_split 59 = .ok (.iload_n 1, 1) := by decide +kernel
theorem dX12_split_60 : decode cX12_split 60 = .ok (.iload_n 3, 1) := by decide +kernel
theorem dX12_split_61 : decode cX12_split 61 = .ok (.invokevirtual 254, 3) := by decide +kernel
theorem dX12_split_64 : decode cX12_split 64 = .ok (.istore 6, 2) := by decide +kernel
theorem dX12_split_66 : decode cX12_split 66 = .ok (.iload 6, 2) := by decide +kernel
theorem dX12_split_68 : decode cX12_split 68 = .ok (.aload_n 0, 1) := by decide +kernel
theorem dX12_split_69 : decode cX12_split 69 = .ok (.getfield 36, 3) := by decide +kernel
theorem dX12_split_72 : decode cX12_split 72 = .ok (.iload_n 1, 1) := by decide +kernel
theorem dX12_split_73 : decode cX12_split 73 = .ok (.iaload, 1) := by decide +kernel
theorem dX12_split_74 : decode cX12_split 74 = .ok (.if_icmp .ge 51, 3) := by decide +kernel
theorem dX12_split_77 : decode cX12_split 77 = .ok (.aload_n 0, 1) := by decide +kernel
theorem dX12_split_78 : decode cX12_split 78 = .ok (.getfield 103, 3) := by decide +kernel
theorem dX12_split_81 : decode cX12_split 81 = .ok (.iload 4, 2) := by decide +kernel
theorem dX12_split_83 : decode cX12_split 83 = .ok (.aload_n 0, 1) := by decide +kernel
theorem dX12_split_84 : decode cX12_split 84 = .ok (.iload_n 1, 1) := by decide +kernel
theorem dX12_split_85 : decode cX12_split 85 = .ok (.iload 6, 2) := by decide +kernel
theorem dX12_split_87 : decode cX12_split 87 = .ok (.invokevirtual 280, 3) := by decide +kernel
theorem dX12_split_90 : decode cX12_split 90 = .ok (.iastore, 1) := by decide +kernel
theorem dX12_split_91 : decode cX12_split 91 = .ok (.iload 5, 2) := by decide +kernel
theorem dX12_split_93 : decode cX12_split 93 = .ok (.aload_n 0, 1) := by decide +kernel
theorem dX12_split_94 : decode cX12_split 94 = .ok (.iload_n 2, 1) := by decide +kernel
theorem dX12_split_95 : decode cX12_split 95 = .ok (.aload_n 0, 1) := by decide +kernel
theorem dX12_split_96 : decode cX12_split 96 = .ok (.getfield 103, 3) := by decide +kernel
theorem dX12_split_99 : decode cX12_split 99 = .ok (.iload 4, 2) := by decide +kernel
theorem dX12_split_101 : decode cX12_split 101 = .ok (.iaload, 1) := by decide +kernel
theorem dX12_split_102 : decode cX12_split 102 = .ok (.invokevirtual 267, 3) := by decide +kernel
theorem dX12_split_105 : decode cX12_split 105 = .ok (.ifCond .eq 7, 3) := by decide +kernel
theorem dX12_split_108 : decode cX12_split 108 = .ok (.iconst 0, 1) := by decide +kernel
theorem dX12_split_109 : decode cX12_split 109 = .ok (.goto 4, 3) := by decide +kernel
theorem dX12_split_112 : decode cX12_split 112 = .ok (.iconst 1, 1) := by decide +kernel
theorem dX12_split_113 : decode cX12_split 113 = .ok (.iadd, 1) := by decide +kernel
theorem dX12_split_114 : decode cX12_split 114 = .ok (.istore 5, 2) := by decide +kernel
theorem dX12_split_116 : decode cX12_split 116 = .ok (.iinc 4 1, 3) := by decide +kernel
theorem dX12_split_119 : decode cX12_split 119 = .ok (.iinc 6 1, 3) := by decide +kernel
theorem dX12_split_122 : decode cX12_split 122 = .ok (.goto (-56), 3) := by decide +kernel
theorem dX12_split_125 : decode cX12_split 125 = .ok (.aload_n 0, 1) := by decide +kernel
theorem dX12_split_126 : decode cX12_split 126 = .ok (.getfield 36, 3) := by decide +kernel
theorem dX12_split_129 : decode cX12_split 129 = .ok (.iload_n 2, 1) := by decide +kernel
theorem dX12_split_130 : decode cX12_split 130 = .ok (.iaload, 1) := by decide +kernel
theorem dX12_split_131 : decode cX12_split 131 = .ok (.iload 5, 2) := by decide +kernel
theorem dX12_split_133 : decode cX12_split 133 = .ok (.iadd, 1) := by decide +kernel
theorem dX12_split_134 : decode cX12_split 134 = .ok (.sipush 2000, 3) := by decide +kernel
theorem dX12_split_137 : decode cX12_split 137 = .ok (.if_icmp .le 5, 3) := by decide +kernel
theorem dX12_split_140 : decode cX12_split 140 = .ok (.iconst (-1), 1) := by decide +kernel
theorem dX12_split_141 : decode cX12_split 141 = .ok (.ireturn, 1) := by decide +kernel
theorem dX12_split_142 : decode cX12_split 142 = .ok (.aload_n 0, 1) := by decide +kernel
theorem dX12_split_143 : decode cX12_split 143 = .ok (.getfield 45, 3) := by decide +kernel
theorem dX12_split_146 : decode cX12_split 146 = .ok (.iload_n 1, 1) := by decide +kernel
theorem dX12_split_147 : decode cX12_split 147 = .ok (.iaload, 1) := by decide +kernel
theorem dX12_split_148 : decode cX12_split 148 = .ok (.iload 4, 2) := by decide +kernel
theorem dX12_split_150 : decode cX12_split 150 = .ok (.iadd, 1) := by decide +kernel
theorem dX12_split_151 : decode cX12_split 151 = .ok (.sipush 1000, 3) := by decide +kernel
theorem dX12_split_154 : decode cX12_split 154 = .ok (.if_icmp .gt 18, 3) := by decide +kernel
theorem dX12_split_157 : decode cX12_split 157 = .ok (.aload_n 0, 1) := by decide +kernel
theorem dX12_split_158 : decode cX12_split 158 = .ok (.getfield 45, 3) := by decide +kernel
theorem dX12_split_161 : decode cX12_split 161 = .ok (.iload_n 2, 1) := by decide +kernel
theorem dX12_split_162 : decode cX12_split 162 = .ok (.iaload, 1) := by decide +kernel
theorem dX12_split_163 : decode cX12_split 163 = .ok (.iload 5, 2) := by decide +kernel
theorem dX12_split_165 : decode cX12_split 165 = .ok (.iadd, 1) := by decide +kernel
theorem dX12_split_166 : decode cX12_split 166 = .ok (.sipush 1000, 3) := by decide +kernel
theorem dX12_split_169 : decode cX12_split 169 = .ok (.if_icmp .le 6, 3) := by decide +kernel
theorem dX12_split_172 : decode cX12_split 172 = .ok (.bipush (-2), 2) := by decide +kernel
theorem dX12_split_174 : decode cX12_split 174 = .ok (.ireturn, 1) := by decide +kernel
theorem dX12_split_175 : decode cX12_split 175 = .ok (.iconst 0, 1) := by decide +kernel
theorem dX12_split_176 : decode cX12_split 176 = .ok (.istore 6, 2) := by decide +kernel
theorem dX12_split_178 : decode cX12_split 178 = .ok (.iconst 0, 1) := by decide +kernel
theorem dX12_split_179 : decode cX12_split 179 = .ok (.istore 7, 2) := by decide +kernel
theorem dX12_split_181 : decode cX12_split 181 = .ok (.iload 7, 2) := by decide +kernel
theorem dX12_split_183 : decode cX12_split 183 = .ok (.iload 4, 2) := by decide +kernel
theorem dX12_split_185 : decode cX12_split 185 = .ok (.if_icmp .ge 45, 3) := by decide +kernel
theorem dX12_split_188 : decode cX12_split 188 = .ok (.iload 6, 2) := by decide +kernel
theorem dX12_split_190 : decode cX12_split 190 = .ok (.aload_n 0, 1) := by decide +kernel
theorem dX12_split_191 : decode cX12_split 191 = .ok (.iload_n 1, 1) := by decide +kernel
theorem dX12_split_192 : decode cX12_split 192 = .ok (.iconst 1, 1) := by decide +kernel
theorem dX12_split_193 : decode cX12_split 193 = .ok (.aload_n 0, 1) := by decide +kernel
theorem dX12_split_194 : decode cX12_split 194 = .ok (.getfield 103, 3) := by decide +kernel
theorem dX12_split_197 : decode cX12_split 197 = .ok (.iload 7, 2) := by decide +kernel
theorem dX12_split_199 : decode cX12_split 199 = .ok (.iaload, 1) := by decide +kernel
theorem dX12_split_200 : decode cX12_split 200 = .ok (.invokevirtual 424, 3) := by decide +kernel
theorem dX12_split_203 : decode cX12_split 203 = .ok (.iadd, 1) := by decide +kernel
theorem dX12_split_204 : decode cX12_split 204 = .ok (.istore 6, 2) := by decide +kernel
theorem dX12_split_206 : decode cX12_split 206 = .ok (.iload 6, 2) := by decide +kernel
theorem dX12_split_208 : decode cX12_split 208 = .ok (.aload_n 0, 1) := by decide +kernel
theorem dX12_split_209 : decode cX12_split 209 = .ok (.iload_n 2, 1) := by decide +kernel
theorem dX12_split_210 : decode cX12_split 210 = .ok (.iconst 0, 1) := by decide +kernel
theorem dX12_split_211 : decode cX12_split 211 = .ok (.aload_n 0, 1) := by decide +kernel
theorem dX12_split_212 : decode cX12_split 212 = .ok (.getfield 103, 3) := by decide +kernel
theorem dX12_split_215 : decode cX12_split 215 = .ok (.iload 7, 2) := by decide +kernel
theorem dX12_split_217 : decode cX12_split 217 = .ok (.iaload, 1) := by decide +kernel
theorem dX12_split_218 : decode cX12_split 218 = .ok (.invokevirtual 424, 3) := by decide +kernel
theorem dX12_split_221 : decode cX12_split 221 = .ok (.iadd, 1) := by decide +kernel
theorem dX12_split_222 : decode cX12_split 222 = .ok (.istore 6, 2) := by decide +kernel
theorem dX12_split_224 : decode cX12_split 224 = .ok (.iinc 7 1, 3) := by decide +kernel
theorem dX12_split_227 : decode cX12_split 227 = .ok (.goto (-46), 3) := by decide +kernel
theorem dX12_split_230 : decode cX12_split 230 = .ok (.iload 6, 2) := by decide +kernel
theorem dX12_split_232 : decode cX12_split 232 = .ok (.ireturn, 1) := by decide +kernel
theorem dX12_steps_0 : decode cX12_steps 0 = .ok (.aload_n 0, 1) := by decide +kernel
theorem dX12_steps_1 : decode cX12_steps 1 = .ok (.getfield 438, 3) := by decide +kernel
theorem dX12_steps_4 : decode cX12_steps 4 = .ok (.sipush 2000, 3) := by decide +kernel
theorem dX12_steps_7 : decode cX12_steps 7 = .ok (.if_icmp .ne 5, 3) := by decide +kernel
theorem dX12_steps_10 : decode cX12_steps 10 = .ok (.iconst 0, 1) := by decide +kernel
theorem dX12_steps_11 : decode cX12_steps 11 = .ok (.ireturn, 1) := by decide +kernel
theorem dX12_steps_12 : decode cX12_steps 12 = .ok (.aload_n 0, 1) := by decide +kernel
theorem dX12_steps_13 : decode cX12_steps 13 = .ok (.iload_n 1, 1) := by decide +kernel
theorem dX12_steps_14 : decode cX12_steps 14 = .ok (.aload_n 0, 1) := by decide +kernel
theorem dX12_steps_15 : decode cX12_steps 15 = .ok (.getfield 69, 3) := by decide +kernel
theorem dX12_steps_18 : decode cX12_steps 18 = .ok (.iload_n 2, 1) := by decide +kernel
theorem dX12_steps_19 : decode cX12_steps 19 = .ok (.iaload, 1) := by decide +kernel
theorem dX12_steps_20 : decode cX12_steps 20 = .ok (.aload_n 0, 1) := by decide +kernel
theorem dX12_steps_21 : decode cX12_steps 21 = .ok (.getfield 72, 3) := by decide +kernel
theorem dX12_steps_24 : decode cX12_steps 24 = .ok (.iload_n 2, 1) := by decide +kernel
theorem dX12_steps_25 : decode cX12_steps 25 = .ok (.iaload, 1) := by decide +kernel
theorem dX12_steps_26 : decode cX12_steps 26 = .ok (.invokevirtual 441, 3) := by decide +kernel
theorem dX12_steps_29 : decode cX12_steps 29 = .ok (.aload_n 0, 1) := by decide +kernel
theorem dX12_steps_30 : decode cX12_steps 30 = .ok (.invokevirtual 257, 3) := by decide +kernel
theorem dX12_steps_33 : decode cX12_steps 33 = .ok (.iconst 1, 1) := by decide +kernel
theorem dX12_steps_34 : decode cX12_steps 34 = .ok (.isub, 1) := by decide +kernel
theorem dX12_steps_35 : decode cX12_steps 35 = .ok (.iand, 1) := by decide +kernel
theorem dX12_steps_36 : decode cX12_steps 36 = .ok (.istore_n 3, 1) := by decide +kernel
theorem dX12_steps_37 : decode cX12_steps 37 = .ok (.aload_n 0, 1) := by decide +kernel
theorem dX12_steps_38 : decode cX12_steps 38 = .ok (.getfield 66, 3) := by decide +kernel
theorem dX12_steps_41 : decode cX12_steps 41 = .ok (.iload_n 2, 1) := by decide +kernel
theorem dX12_steps_42 : decode cX12_steps 42 = .ok (.iaload, 1) := by decide +kernel
theorem dX12_steps_43 : decode cX12_steps 43 = .ok (.ifCond .ne 17, 3) := by decide +kernel
theorem dX12_steps_46 : decode cX12_steps 46 = .ok (.aload_n 0, 1) := by decide +kernel
theorem dX12_steps_47 : decode cX12_steps 47 = .ok (.getfield 36, 3) := by decide +kernel
theorem dX12_steps_50 : decode cX12_steps 50 = .ok (.iload_n 1, 1) := by decide +kernel
theorem dX12_steps_51 : decode cX12_steps 51 = .ok (.iaload, 1) := by decide +kernel
theorem dX12_steps_52 : decode cX12_steps 52 = .ok (.sipush 2000, 3) := by decide +kernel
theorem dX12_steps_55 : decode cX12_steps 55 = .ok (.if_icmp .ne 5, 3) := by decide +kernel
theorem dX12_steps_58 : decode cX12_steps 58 = .ok (.iconst 0, 1) := by decide +kernel
theorem dX12_steps_59 : decode cX12_steps 59 = .ok (.ireturn, 1) := by decide +kernel
theorem dX12_steps_60 : decode cX12_steps 60 = .ok (.aload_n 0, 1) := by decide +kernel
theorem dX12_steps_61 : decode cX12_steps 61 = .ok (.iload_n 1, 1) := by decide +kernel
theorem dX12_steps_62 : decode cX12_steps 62 = .ok (.aload_n 0, 1) := by decide +kernel
theorem dX12_steps_63 : decode cX12_steps 63 = .ok (.getfield 66, 3) := by decide +kernel
theorem dX12_steps_66 : decode cX12_steps 66 = .ok (.iload_n 2, 1) := by decide +kernel
theorem dX12_steps_67 : decode cX12_steps 67 = .ok (.iaload, 1) := by decide +kernel
theorem dX12_steps_68 : decode cX12_steps 68 = .ok (.iload_n 3, 1) := by decide +kernel
theorem dX12_steps_69 : decode cX12_steps 69 = .ok (.invokevirtual 335, 3) := by decide +kernel
theorem dX12_steps_72 : decode cX12_steps 72 = .ok (.istore 4, 2) := by decide +kernel
theorem dX12_steps_74 : decode cX12_steps 74 = .ok (.aload_n 0, 1) := by decide +kernel
theorem dX12_steps_75 : decode cX12_steps 75 = .ok (.dup, 1) := by decide +kernel
theorem dX12_steps_76 : decode cX12_steps 76 = .ok (.getfield 444, 3) := by decide +kernel
theorem dX12_steps_79 : decode cX12_steps 79 = .ok (.iload 4, 2) := by decide +kernel
theorem dX12_steps_81 : decode cX12_steps 81 = .ok (.iadd, 1) := by decide +kernel
theorem dX12_steps_82 : decode cX12_steps 82 = .ok (.putfield 444, 3) := by decide +kernel
theorem dX12_steps_85 : decode cX12_steps 85 = .ok (.iload 4, 2) := by decide +kernel
theorem dX12_steps_87 : decode cX12_steps 87 = .ok (.aload_n 0, 1) := by decide +kernel
theorem dX12_steps_88 : decode cX12_steps 88 = .ok (.getfield 447, 3) := by decide +kernel
theorem dX12_steps_91 : decode cX12_steps 91 = .ok (.if_icmp .le 17, 3) := by decide +kernel
theorem dX12_steps_94 : decode cX12_steps 94 = .ok (.aload_n 0, 1) := by decide +kernel
theorem dX12_steps_95 : decode cX12_steps 95 = .ok (.iload 4, 2) := by decide +kernel
theorem dX12_steps_97 : decode cX12_steps 97 = .ok (.putfield 447, 3) := by decide +kernel
theorem dX12_steps_100 : decode cX12_steps 100 = .ok (.aload_n 0, 1) := by decide +kernel
theorem dX12_steps_101 : decode cX12_steps 101 = .ok (.aload_n 0, 1) := by decide +kernel
theorem dX12_steps_102 : decode cX12_steps 102 = .ok (.getfield 438, 3) := by decide +kernel
theorem dX12_steps_105 : decode cX12_steps 105 = .ok (.putfield 450, 3) := by decide +kernel
theorem dX12_steps_108 : decode cX12_steps 108 = .ok (.aload_n 0, 1) := by decide +kernel
theorem dX12_steps_109 : decode cX12_steps 109 = .ok (.dup, 1) := by decide +kernel
theorem dX12_steps_110 : decode cX12_steps 110 = .ok (.getfield 453, 3) := by decide +kernel
theorem dX12_steps_113 : decode cX12_steps 113 = .ok (.aload_n 0, 1) := by decide +kernel
theorem dX12_steps_114 : decode cX12_steps 114 = .ok (.iload_n 1, 1) := by decide +kernel
theorem dX12_steps_115 : decode cX12_steps 115 = .ok (.aload_n 0, 1) := by decide +kernel
theorem dX12_steps_116 : decode cX12_steps 116 = .ok (.getfield 66, 3) := by decide +kernel
theorem dX12_steps_119 : decode cX12_steps 119 = .ok (.iload_n 2, 1) := by decide +kernel
theorem dX12_steps_120 : decode cX12_steps 120 = .ok (.iaload, 1) := by decide +kernel
theorem dX12_steps_121 : decode cX12_steps 121 = .ok (.iload_n 3, 1) := by decide +kernel
theorem dX12_steps_122 : decode cX12_steps 122 = .ok (.invokevirtual 338, 3) := by decide +kernel
theorem dX12_steps_125 : decode cX12_steps 125 = .ok (.iadd, 1) := by decide +kernel
theorem dX12_steps_126 : decode cX12_steps 126 = .ok (.putfield 453, 3) := by decide +kernel
theorem dX12_steps_129 : decode cX12_steps 129 = .ok (.aload_n 0, 1) := by decide +kernel
theorem dX12_steps_130 : decode cX12_steps 130 = .ok (.dup, 1) := by decide +kernel
theorem dX12_steps_131 : decode cX12_steps 131 = .ok (.getfield 456, 3) := by decide +kernel
theorem dX12_steps_134 : decode cX12_steps 134 = .ok (.aload_n 0, 1) := by decide +kernel
theorem dX12_steps_135 : decode cX12_steps 135 = .ok (.iload_n 1, 1) := by decide +kernel
theorem dX12_steps_136 : decode cX12_steps 136 = .ok (.aload_n 0, 1) := by decide +kernel
theorem dX12_steps_137 : decode cX12_steps 137 = .ok (.getfield 66, 3) := by decide +kernel
theorem dX12_steps_140 : decode cX12_steps 140 = .ok (.iload_n 2, 1) := by decide +kernel
theorem dX12_steps_141 : decode cX12_steps 141 = .ok (.iaload, 1) := by decide +kernel
theorem dX12_steps_142 : decode cX12_steps 142 = .ok (.iload_n 3, 1) := by decide +kernel
theorem dX12_steps_143 : decode cX12_steps 143 = .ok (.invokevirtual 341, 3) := by decide +kernel
theorem dX12_steps_146 : decode cX12_steps 146 = .ok (.iadd, 1) := by decide +kernel
theorem dX12_steps_147 : decode cX12_steps 147 = .ok (.putfield 456, 3) := by decide +kernel
theorem dX12_steps_150 : decode cX12_steps 150 = .ok (.aload_n 0, 1) := by decide +kernel
theorem dX12_steps_151 : decode cX12_steps 151 = .ok (.dup, 1) := by decide +kernel
theorem dX12_steps_152 : decode cX12_steps 152 = .ok (.getfield 438, 3) := by decide +kernel
theorem dX12_steps_155 : decode cX12_steps 155 = .ok (.iconst 1, 1) := by decide +kernel
theorem dX12_steps_156 : decode cX12_steps 156 = .ok (.iadd, 1) := by decide +kernel
theorem dX12_steps_157 : decode cX12_steps 157 = .ok (.putfield 438, 3) := by decide +kernel
theorem dX12_steps_160 : decode cX12_steps 160 = .ok (.aload_n 0, 1) := by decide +kernel
theorem dX12_steps_161 : decode cX12_steps 161 = .ok (.iload_n 1, 1) := by decide +kernel
theorem dX12_steps_162 : decode cX12_steps 162 = .ok (.iload_n 3, 1) := by decide +kernel
theorem dX12_steps_163 : decode cX12_steps 163 = .ok (.invokevirtual 267, 3) := by decide +kernel
theorem dX12_steps_166 : decode cX12_steps 166 = .ok (.istore 5, 2) := by decide +kernel
theorem dX12_steps_168 : decode cX12_steps 168 = .ok (.aload_n 0, 1) := by decide +kernel
theorem dX12_steps_169 : decode cX12_steps 169 = .ok (.aload_n 0, 1) := by decide +kernel
theorem dX12_steps_170 : decode cX12_steps 170 = .ok (.getfield 66, 3) := by decide +kernel
theorem dX12_steps_173 : decode cX12_steps 173 = .ok (.iload_n 2, 1) := by decide +kernel
theorem dX12_steps_174 : decode cX12_steps 174 = .ok (.iaload, 1) := by decide +kernel
theorem dX12_steps_175 : decode cX12_steps 175 = .ok (.ifCond .ne 16, 3) := by decide +kernel
theorem dX12_steps_178 : decode cX12_steps 178 = .ok (.iload 5, 2) := by decide +kernel
theorem dX12_steps_180 : decode cX12_steps 180 = .ok (.ifCond .eq 7, 3) := by decide +kernel
theorem dX12_steps_183 : decode cX12_steps 183 = .ok (.iconst 0, 1) := by decide +kernel
theorem dX12_steps_184 : decode cX12_steps 184 = .ok (.goto 19, 3) := by decide +kernel
theorem dX12_steps_187 : decode cX12_steps 187 = .ok (.iconst 1, 1) := by decide +kernel
theorem dX12_steps_188 : decode cX12_steps 188 = .ok (.goto 15, 3) := by decide +kernel
theorem dX12_steps_191 : decode cX12_steps 191 = .ok (.aload_n 0, 1) := by decide +kernel
theorem dX12_steps_192 : decode cX12_steps 192 = .ok (.iload_n 1, 1) := by decide +kernel
theorem dX12_steps_193 : decode cX12_steps 193 = .ok (.aload_n 0, 1) := by decide +kernel
theorem dX12_steps_194 : decode cX12_steps 194 = .ok (.getfield 66, 3) := by decide +kernel
theorem dX12_steps_197 : decode cX12_steps 197 = .ok (.iload_n 2, 1) := by decide +kernel
theorem dX12_steps_198 : decode cX12_steps 198 = .ok (.iaload, 1) := by decide +kernel
theorem dX12_steps_199 : decode cX12_steps 199 = .ok (.iload_n 3, 1) := by decide +kernel
theorem dX12_steps_200 : decode cX12_steps 200 = .ok (.invokevirtual 286, 3) := by decide +kernel
theorem dX12_steps_203 : decode cX12_steps 203 = .ok (.putfield 430, 3) := by decide +kernel
theorem dX12_steps_206 : decode cX12_steps 206 = .ok (.aload_n 0, 1) := by decide +kernel
theorem dX12_steps_207 : decode cX12_steps 207 = .ok (.getfield 66, 3) := by decide +kernel
theorem dX12_steps_210 : decode cX12_steps 210 = .ok (.iload_n 2, 1) := by decide +kernel
theorem dX12_steps_211 : decode cX12_steps 211 = .ok (.iaload, 1) := by decide +kernel
theorem dX12_steps_212 : decode cX12_steps 212 = .ok (.ifCond .ne 14, 3) := by decide +kernel
theorem dX12_steps_215 : decode cX12_steps 215 = .ok (.iload 5, 2) := by decide +kernel
theorem dX12_steps_217 : decode cX12_steps 217 = .ok (.ifCond .ne 9, 3) := by decide +kernel
theorem dX12_steps_220 : decode cX12_steps 220 = .ok (.aload_n 0, 1) := by decide +kernel
theorem dX12_steps_221 : decode cX12_steps 221 = .ok (.iload_n 1, 1) := by decide +kernel
theorem dX12_steps_222 : decode cX12_steps 222 = .ok (.iload_n 3, 1) := by decide +kernel
theorem dX12_steps_223 : decode cX12_steps 223 = .ok (.invokevirtual 270, 3) := by decide +kernel
theorem dX12_steps_226 : decode cX12_steps 226 = .ok (.aload_n 0, 1) := by decide +kernel
theorem dX12_steps_227 : decode cX12_steps 227 = .ok (.getfield 66, 3) := by decide +kernel
theorem dX12_steps_230 : decode cX12_steps 230 = .ok (.iload_n 2, 1) := by decide +kernel
theorem dX12_steps_231 : decode cX12_steps 231 = .ok (.iaload, 1) := by decide +kernel
theorem dX12_steps_232 : decode cX12_steps 232 = .ok (.iconst 1, 1) := by decide +kernel
theorem dX12_steps_233 : decode cX12_steps 233 = .ok (.if_icmp .ne 14, 3) := by decide +kernel
theorem dX12_steps_236 : decode cX12_steps 236 = .ok (.iload 5, 2) := by decide +kernel
theorem dX12_steps_238 : decode cX12_steps 238 = .ok (.ifCond .eq 9, 3) := by decide +kernel
theorem dX12_steps_241 : decode cX12_steps 241 = .ok (.aload_n 0, 1) := by decide +kernel
theorem dX12_steps_242 : decode cX12_steps 242 = .ok (.iload_n 1, 1) := by decide +kernel
theorem dX12_steps_243 : decode cX12_steps 243 = .ok (.iload_n 3, 1) := by decide +kernel
theorem dX12_steps_244 : decode cX12_steps 244 = .ok (.invokevirtual 277, 3) := by decide +kernel
theorem dX12_steps_247 : decode cX12_steps 247 = .ok (.iconst 1, 1) := by decide +kernel
theorem dX12_steps_248 : decode cX12_steps 248 = .ok (.ireturn, 1) := by decide +kernel
theorem dX12_goes_0 : decode cX12_goes 0 = .ok (.iload_n 3, 1) := by decide +kernel
theorem dX12_goes_1 : decode cX12_goes 1 = .ok (.istore 5, 2) := by decide +kernel
theorem dX12_goes_3 : decode cX12_goes 3 = .ok (.iload 5, 2) := by decide +kernel
theorem dX12_goes_5 : decode cX12_goes 5 = .ok (.iload 4, 2) := by decide +kernel
theorem dX12_goes_7 : decode cX12_goes 7 = .ok (.if_icmp .ge 129, 3) := by decide +kernel
theorem dX12_goes_10 : decode cX12_goes 10 = .ok (.bipush 60, 2) := by decide +kernel
theorem dX12_goes_12 : decode cX12_goes 12 = .ok (.iload_n 1, 1) := by decide +kernel
theorem dX12_goes_13 : decode cX12_goes 13 = .ok (.imul, 1) := by decide +kernel
theorem dX12_goes_14 : decode cX12_goes 14 = .ok (.iload 5, 2) := by decide +kernel
theorem dX12_goes_16 : decode cX12_goes 16 = .ok (.iadd, 1) := by decide +kernel
theorem dX12_goes_17 : decode cX12_goes 17 = .ok (.istore 6, 2) := by decide +kernel
theorem dX12_goes_19 : decode cX12_goes 19 = .ok (.aload_n 0, 1) := by decide +kernel
theorem dX12_goes_20 : decode cX12_goes 20 = .ok (.getfield 66, 3) := by decide +kernel
theorem dX12_goes_23 : decode cX12_goes 23 = .ok (.iload 6, 2) := by decide +kernel
theorem dX12_goes_25 : decode cX12_goes 25 = .ok (.iaload, 1) := by decide +kernel
theorem dX12_goes_26 : decode cX12_goes 26 = .ok (.iconst 5, 1) := by decide +kernel
theorem dX12_goes_27 : decode cX12_goes 27 = .ok (.if_icmp .eq 21, 3) := by decide +kernel
theorem dX12_goes_30 : decode cX12_goes 30 = .ok (.aload_n 0, 1) := by decide +kernel
theorem dX12_goes_31 : decode cX12_goes 31 = .ok (.iload_n 2, 1) := by decide +kernel
theorem dX12_goes_32 : decode cX12_goes 32 = .ok (.iload 6, 2) := by decide +kernel
theorem dX12_goes_34 : decode cX12_goes 34 = .ok (.invokevirtual 459, 3) := by decide +kernel
theorem dX12_goes_37 : decode cX12_goes 37 = .ok (.ifCond .ne 5, 3) := by decide +kernel
theorem dX12_goes_40 : decode cX12_goes 40 = .ok (.iconst 0, 1) := by decide +kernel
theorem dX12_goes_41 : decode cX12_goes 41 = .ok (.ireturn, 1) := by decide +kernel
theorem dX12_goes_42 : decode cX12_goes 42 = .ok (.iinc 5 1, 3) := by decide +kernel
theorem dX12_goes_45 : decode cX12_goes 45 = .ok (.goto (-42), 3) := by decide +kernel
theorem dX12_goes_48 : decode cX12_goes 48 = .ok (.aload_n 0, 1) := by decide +kernel
theorem dX12_goes_49 : decode cX12_goes 49 = .ok (.dup, 1) := by decide +kernel
theorem dX12_goes_50 : decode cX12_goes 50 = .ok (.getfield 427, 3) := by decide +kernel
theorem dX12_goes_53 : decode cX12_goes 53 = .ok (.iconst 1, 1) := by decide +kernel
theorem dX12_goes_54 : decode cX12_goes 54 = .ok (.iadd, 1) := by decide +kernel
theorem dX12_goes_55 : decode cX12_goes 55 = .ok (.putfield 427, 3) := by decide +kernel
theorem dX12_goes_58 : decode cX12_goes 58 = .ok (.iconst 0, 1) := by decide +kernel
theorem dX12_goes_59 : decode cX12_goes 59 = .ok (.istore 7, 2) := by decide +kernel
theorem dX12_goes_61 : decode cX12_goes 61 = .ok (.iload 7, 2) := by decide +kernel
theorem dX12_goes_63 : decode cX12_goes 63 = .ok (.aload_n 0, 1) := by decide +kernel
theorem dX12_goes_64 : decode cX12_goes 64 = .ok (.getfield 69, 3) := by decide +kernel
theorem dX12_goes_67 : decode cX12_goes 67 = .ok (.iload 6, 2) := by decide +kernel
theorem dX12_goes_69 : decode cX12_goes 69 = .ok (.iaload, 1) := by decide +kernel
theorem dX12_goes_70 : decode cX12_goes 70 = .ok (.if_icmp .ge 44, 3) := by decide +kernel
theorem dX12_goes_73 : decode cX12_goes 73 = .ok (.aload_n 0, 1) := by decide +kernel
theorem dX12_goes_74 : decode cX12_goes 74 = .ok (.getfield 106, 3) := by decide +kernel
theorem dX12_goes_77 : decode cX12_goes 77 = .ok (.aload_n 0, 1) := by decide +kernel
theorem dX12_goes_78 : decode cX12_goes 78 = .ok (.getfield 427, 3) := by decide +kernel
theorem dX12_goes_81 : decode cX12_goes 81 = .ok (.iconst 1, 1) := by decide +kernel
theorem dX12_goes_82 : decode cX12_goes 82 = .ok (.isub, 1) := by decide +kernel
theorem dX12_goes_83 : decode cX12_goes 83 = .ok (.iload 7, 2) := by decide +kernel
theorem dX12_goes_85 : decode cX12_goes 85 = .ok (.iastore, 1) := by decide +kernel
theorem dX12_goes_86 : decode cX12_goes 86 = .ok (.aload_n 0, 1) := by decide +kernel
theorem dX12_goes_87 : decode cX12_goes 87 = .ok (.iload_n 1, 1) := by decide +kernel
theorem dX12_goes_88 : decode cX12_goes 88 = .ok (.iload_n 2, 1) := by decide +kernel
theorem dX12_goes_89 : decode cX12_goes 89 = .ok (.iload 5, 2) := by decide +kernel
theorem dX12_goes_91 : decode cX12_goes 91 = .ok (.iconst 1, 1) := by decide +kernel
theorem dX12_goes_92 : decode cX12_goes 92 = .ok (.iadd, 1) := by decide +kernel
theorem dX12_goes_93 : decode cX12_goes 93 = .ok (.aload_n 0, 1) := by decide +kernel
theorem dX12_goes_94 : decode cX12_goes 94 = .ok (.getfield 72, 3) := by decide +kernel
theorem dX12_goes_97 : decode cX12_goes 97 = .ok (.iload 6, 2) := by decide +kernel
theorem dX12_goes_99 : decode cX12_goes 99 = .ok (.iaload, 1) := by decide +kernel
theorem dX12_goes_100 : decode cX12_goes 100 = .ok (.invokevirtual 461, 3) := by decide +kernel
theorem dX12_goes_103 : decode cX12_goes 103 = .ok (.ifCond .ne 5, 3) := by decide +kernel
theorem dX12_goes_106 : decode cX12_goes 106 = .ok (.iconst 0, 1) := by decide +kernel
theorem dX12_goes_107 : decode cX12_goes 107 = .ok (.ireturn, 1) := by decide +kernel
theorem dX12_goes_108 : decode cX12_goes 108 = .ok (.iinc 7 1, 3) := by decide +kernel
theorem dX12_goes_111 : decode cX12_goes 111 = .ok (.goto (-50), 3) := by decide +kernel
theorem dX12_goes_114 : decode cX12_goes 114 = .ok (.aload_n 0, 1) := by decide +kernel
theorem dX12_goes_115 : decode cX12_goes 115 = .ok (.dup, 1) := by decide +kernel
theorem dX12_goes_116 : decode cX12_goes 116 = .ok (.getfield 427, 3) := by decide +kernel
theorem dX12_goes_119 : decode cX12_goes 119 = .ok (.iconst 1, 1) := by decide +kernel
theorem dX12_goes_120 : decode cX12_goes 120 = .ok (.isub, 1) := by decide +kernel
theorem dX12_goes_121 : decode cX12_goes 121 = .ok (.putfield 427, 3) := by decide +kernel
theorem dX12_goes_124 : decode cX12_goes 124 = .ok (.aload_n 0, 1) := by decide +kernel
theorem dX12_goes_125 : decode cX12_goes 125 = .ok (.getfield 72, 3) := by decide +kernel
theorem dX12_goes_128 : decode cX12_goes 128 = .ok (.iload 6, 2) := by decide +kernel
theorem dX12_goes_130 : decode cX12_goes 130 = .ok (.iaload, 1) := by decide +kernel
theorem dX12_goes_131 : decode cX12_goes 131 = .ok (.istore 5, 2) := by decide +kernel
theorem dX12_goes_133 : decode cX12_goes 133 = .ok (.goto (-130), 3) := by decide +kernel
theorem dX12_goes_136 : decode cX12_goes 136 = .ok (.iconst 1, 1) := by decide +kernel
theorem dX12_goes_137 : decode cX12_goes 137 = .ok (.ireturn, 1) := by decide +kernel
theorem dX12_works_0 : decode cX12_works 0 = .ok (.aload_n 0, 1) := by decide +kernel
theorem dX12_works_1 : decode cX12_works 1 = .ok (.iload_n 2, 1) := by decide +kernel
theorem dX12_works_2 : decode cX12_works 2 = .ok (.invokevirtual 409, 3) := by decide +kernel
theorem dX12_works_5 : decode cX12_works 5 = .ok (.aload_n 0, 1) := by decide +kernel
theorem dX12_works_6 : decode cX12_works 6 = .ok (.iload_n 3, 1) := by decide +kernel
theorem dX12_works_7 : decode cX12_works 7 = .ok (.putfield 433, 3) := by decide +kernel
theorem dX12_works_10 : decode cX12_works 10 = .ok (.aload_n 0, 1) := by decide +kernel
theorem dX12_works_11 : decode cX12_works 11 = .ok (.iconst 0, 1) := by decide +kernel
theorem dX12_works_12 : decode cX12_works 12 = .ok (.putfield 430, 3) := by decide +kernel
theorem dX12_works_15 : decode cX12_works 15 = .ok (.aload_n 0, 1) := by decide +kernel
theorem dX12_works_16 : decode cX12_works 16 = .ok (.iconst 0, 1) := by decide +kernel
theorem dX12_works_17 : decode cX12_works 17 = .ok (.putfield 438, 3) := by decide +kernel
theorem dX12_works_20 : decode cX12_works 20 = .ok (.aload_n 0, 1) := by decide +kernel
theorem dX12_works_21 : decode cX12_works 21 = .ok (.iconst 0, 1) := by decide +kernel
theorem dX12_works_22 : decode cX12_works 22 = .ok (.putfield 444, 3) := by decide +kernel
theorem dX12_works_25 : decode cX12_works 25 = .ok (.aload_n 0, 1) := by decide +kernel
theorem dX12_works_26 : decode cX12_works 26 = .ok (.iconst 0, 1) := by decide +kernel
theorem dX12_works_27 : decode cX12_works 27 = .ok (.putfield 447, 3) := by decide +kernel
theorem dX12_works_30 : decode cX12_works 30 = .ok (.aload_n 0, 1) := by decide +kernel
theorem dX12_works_31 : decode cX12_works 31 = .ok (.iconst (-1), 1) := by decide +kernel
theorem dX12_works_32 : decode cX12_works 32 = .ok (.putfield 450, 3) := by decide +kernel
theorem dX12_works_35 : decode cX12_works 35 = .ok (.aload_n 0, 1) := by decide +kernel
theorem dX12_works_36 : decode cX12_works 36 = .ok (.iconst 0, 1) := by decide +kernel
theorem dX12_works_37 : decode cX12_works 37 = .ok (.putfield 453, 3) := by decide +kernel
theorem dX12_works_40 : decode cX12_works 40 = .ok (.aload_n 0, 1) := by decide +kernel
theorem dX12_works_41 : decode cX12_works 41 = .ok (.iconst 0, 1) := by decide +kernel
theorem dX12_works_42 : decode cX12_works 42 = .ok (.putfield 456, 3) := by decide +kernel
theorem dX12_works_45 : decode cX12_works 45 = .ok (.aload_n 0, 1) := by decide +kernel
theorem dX12_works_46 : decode cX12_works 46 = .ok (.iconst 0, 1) := by decide +kernel
theorem dX12_works_47 : decode cX12_works 47 = .ok (.putfield 427, 3) := by decide +kernel
theorem dX12_works_50 : decode cX12_works 50 = .ok (.aload_n 0, 1) := by decide +kernel
theorem dX12_works_51 : decode cX12_works 51 = .ok (.iload_n 1, 1) := by decide +kernel
theorem dX12_works_52 : decode cX12_works 52 = .ok (.iload_n 2, 1) := by decide +kernel
theorem dX12_works_53 : decode cX12_works 53 = .ok (.iconst 0, 1) := by decide +kernel
theorem dX12_works_54 : decode cX12_works 54 = .ok (.aload_n 0, 1) := by decide +kernel
theorem dX12_works_55 : decode cX12_works 55 = .ok (.getfield 63, 3) := by decide +kernel
theorem dX12_works_58 : decode cX12_works 58 = .ok (.iload_n 1, 1) := by decide +kernel
theorem dX12_works_59 : decode cX12_works 59 = .ok (.iaload, 1) := by decide +kernel
theorem dX12_works_60 : decode cX12_works 60 = .ok (.invokevirtual 461, 3) := by decide +kernel
theorem dX12_works_63 : decode cX12_works 63 = .ok (.pop, 1) := by decide +kernel
theorem dX12_works_64 : decode cX12_works 64 = .ok (.aload_n 0, 1) := by decide +kernel
theorem dX12_works_65 : decode cX12_works 65 = .ok (.aload_n 0, 1) := by decide +kernel
theorem dX12_works_66 : decode cX12_works 66 = .ok (.getfield 36, 3) := by decide +kernel
theorem dX12_works_69 : decode cX12_works 69 = .ok (.iload_n 2, 1) := by decide +kernel
theorem dX12_works_70 : decode cX12_works 70 = .ok (.iaload, 1) := by decide +kernel
theorem dX12_works_71 : decode cX12_works 71 = .ok (.putfield 465, 3) := by decide +kernel
theorem dX12_works_74 : decode cX12_works 74 = .ok (.aload_n 0, 1) := by decide +kernel
theorem dX12_works_75 : decode cX12_works 75 = .ok (.iload_n 2, 1) := by decide +kernel
theorem dX12_works_76 : decode cX12_works 76 = .ok (.invokevirtual 421, 3) := by decide +kernel
theorem dX12_works_79 : decode cX12_works 79 = .ok (.return_, 1) := by decide +kernel
theorem dX12_steals_0 : decode cX12_steals 0 = .ok (.aload_n 0, 1) := by decide +kernel
theorem dX12_steals_1 : decode cX12_steals 1 = .ok (.iconst 0, 1) := by decide +kernel
theorem dX12_steals_2 : decode cX12_steals 2 = .ok (.putfield 1, 3) := by decide +kernel
theorem dX12_steals_5 : decode cX12_steals 5 = .ok (.aload_n 0, 1) := by decide +kernel
theorem dX12_steals_6 : decode cX12_steals 6 = .ok (.iload_n 2, 1) := by decide +kernel
theorem dX12_steals_7 : decode cX12_steals 7 = .ok (.iconst 1, 1) := by decide +kernel
theorem dX12_steals_8 : decode cX12_steals 8 = .ok (.invokevirtual 260, 3) := by decide +kernel
theorem dX12_steals_11 : decode cX12_steals 11 = .ok (.ifCond .eq 28, 3) := by decide +kernel
theorem dX12_steals_14 : decode cX12_steals 14 = .ok (.aload_n 0, 1) := by decide +kernel
theorem dX12_steals_15 : decode cX12_steals 15 = .ok (.iload_n 1, 1) := by decide +kernel
theorem dX12_steals_16 : decode cX12_steals 16 = .ok (.invokevirtual 468, 3) := by decide +kernel
theorem dX12_steals_19 : decode cX12_steals 19 = .ok (.ifCond .eq 20, 3) := by decide +kernel
theorem dX12_steals_22 : decode cX12_steals 22 = .ok (.aload_n 0, 1) := by decide +kernel
theorem dX12_steals_23 : decode cX12_steals 23 = .ok (.iload 4, 2) := by decide +kernel
theorem dX12_steals_25 : decode cX12_steals 25 = .ok (.iconst 0, 1) := by decide +kernel
theorem dX12_steals_26 : decode cX12_steals 26 = .ok (.bipush 6, 2) := by decide +kernel
theorem dX12_steals_28 : decode cX12_steals 28 = .ok (.invokestatic 250, 3) := by decide +kernel
theorem dX12_steals_31 : decode cX12_steals 31 = .ok (.iconst 3, 1) := by decide +kernel
theorem dX12_steals_32 : decode cX12_steals 32 = .ok (.iconst 2, 1) := by decide +kernel
theorem dX12_steals_33 : decode cX12_steals 33 = .ok (.invokevirtual 157, 3) := by decide +kernel
theorem dX12_steals_36 : decode cX12_steals 36 = .ok (.ifCond .ne 5, 3) := by decide +kernel
theorem dX12_steals_39 : decode cX12_steals 39 = .ok (.iconst 0, 1) := by decide +kernel
theorem dX12_steals_40 : decode cX12_steals 40 = .ok (.ireturn, 1) := by decide +kernel
theorem dX12_steals_41 : decode cX12_steals 41 = .ok (.aload_n 0, 1) := by decide +kernel
theorem dX12_steals_42 : decode cX12_steals 42 = .ok (.iload_n 1, 1) := by decide +kernel
theorem dX12_steals_43 : decode cX12_steals 43 = .ok (.iload_n 2, 1) := by decide +kernel
theorem dX12_steals_44 : decode cX12_steals 44 = .ok (.iload_n 3, 1) := by decide +kernel
theorem dX12_steals_45 : decode cX12_steals 45 = .ok (.invokevirtual 471, 3) := by decide +kernel
theorem dX12_steals_48 : decode cX12_steals 48 = .ok (.iload 4, 2) := by decide +kernel
theorem dX12_steals_50 : decode cX12_steals 50 = .ok (.tableswitch 68 0 5 #[38, 43, 48, 53, 58, 63], 38) := by decide +kernel
theorem dX12_steals_88 : decode cX12_steals 88 = .ok (.aload_n 0, 1) := by decide +kernel
theorem dX12_steals_89 : decode cX12_steals 89 = .ok (.getfield 438, 3) := by decide +kernel
theorem dX12_steals_92 : decode cX12_steals 92 = .ok (.ireturn, 1) := by decide +kernel
theorem dX12_steals_93 : decode cX12_steals 93 = .ok (.aload_n 0, 1) := by decide +kernel
theorem dX12_steals_94 : decode cX12_steals 94 = .ok (.getfield 444, 3) := by decide +kernel
theorem dX12_steals_97 : decode cX12_steals 97 = .ok (.ireturn, 1) := by decide +kernel
theorem dX12_steals_98 : decode cX12_steals 98 = .ok (.aload_n 0, 1) := by decide +kernel
theorem dX12_steals_99 : decode cX12_steals 99 = .ok (.getfield 447, 3) := by decide +kernel
theorem dX12_steals_102 : decode cX12_steals 102 = .ok (.ireturn, 1) := by decide +kernel
theorem dX12_steals_103 : decode cX12_steals 103 = .ok (.aload_n 0, 1) := by decide +kernel
theorem dX12_steals_104 : decode cX12_steals 104 = .ok (.getfield 450, 3) := by decide +kernel
theorem dX12_steals_107 : decode cX12_steals 107 = .ok (.ireturn, 1) := by decide +kernel
theorem dX12_steals_108 : decode cX12_steals 108 = .ok (.aload_n 0, 1) := by decide +kernel
theorem dX12_steals_109 : decode cX12_steals 109 = .ok (.getfield 453, 3) := by decide +kernel
theorem dX12_steals_112 : decode cX12_steals 112 = .ok (.ireturn, 1) := by decide +kernel
theorem dX12_steals_113 : decode cX12_steals 113 = .ok (.aload_n 0, 1) := by decide +kernel
theorem dX12_steals_114 : decode cX12_steals 114 = .ok (.getfield 456, 3) := by decide +kernel
theorem dX12_steals_117 : decode cX12_steals 117 = .ok (.ireturn, 1) := by decide +kernel
theorem dX12_steals_118 : decode cX12_steals 118 = .ok (.aload_n 0, 1) := by decide +kernel
theorem dX12_steals_119 : decode cX12_steals 119 = .ok (.getfield 465, 3) := by decide +kernel
theorem dX12_steals_122 : decode cX12_steals 122 = .ok (.ireturn, 1) := by decide +kernel
theorem dX12_seeds_0 : decode cX12_seeds 0 = .ok (.aload_n 0, 1) := by decide +kernel
theorem dX12_seeds_1 : decode cX12_seeds 1 = .ok (.iconst 0, 1) := by decide +kernel
theorem dX12_seeds_2 : decode cX12_seeds 2 = .ok (.putfield 1, 3) := by decide +kernel
theorem dX12_seeds_5 : decode cX12_seeds 5 = .ok (.aload_n 0, 1) := by decide +kernel
theorem dX12_seeds_6 : decode cX12_seeds 6 = .ok (.iload_n 2, 1) := by decide +kernel
theorem dX12_seeds_7 : decode cX12_seeds 7 = .ok (.iconst 1, 1) := by decide +kernel
theorem dX12_seeds_8 : decode cX12_seeds 8 = .ok (.invokevirtual 260, 3) := by decide +kernel
theorem dX12_seeds_11 : decode cX12_seeds 11 = .ok (.ifCond .eq 46, 3) := by decide +kernel
theorem dX12_seeds_14 : decode cX12_seeds 14 = .ok (.aload_n 0, 1) := by decide +kernel
theorem dX12_seeds_15 : decode cX12_seeds 15 = .ok (.iload_n 1, 1) := by decide +kernel
theorem dX12_seeds_16 : decode cX12_seeds 16 = .ok (.invokevirtual 468, 3) := by decide +kernel
theorem dX12_seeds_19 : decode cX12_seeds 19 = .ok (.ifCond .eq 38, 3) := by decide +kernel
theorem dX12_seeds_22 : decode cX12_seeds 22 = .ok (.aload_n 0, 1) := by decide +kernel
theorem dX12_seeds_23 : decode cX12_seeds 23 = .ok (.iload 4, 2) := by decide +kernel
theorem dX12_seeds_25 : decode cX12_seeds 25 = .ok (.iconst 1, 1) := by decide +kernel
theorem dX12_seeds_26 : decode cX12_seeds 26 = .ok (.bipush 20, 2) := by decide +kernel
theorem dX12_seeds_28 : decode cX12_seeds 28 = .ok (.invokestatic 250, 3) := by decide +kernel
theorem dX12_seeds_31 : decode cX12_seeds 31 = .ok (.ifCond .eq 17, 3) := by decide +kernel
theorem dX12_seeds_34 : decode cX12_seeds 34 = .ok (.iload 5, 2) := by decide +kernel
theorem dX12_seeds_36 : decode cX12_seeds 36 = .ok (.iconst 0, 1) := by decide +kernel
theorem dX12_seeds_37 : decode cX12_seeds 37 = .ok (.iconst 1, 1) := by decide +kernel
theorem dX12_seeds_38 : decode cX12_seeds 38 = .ok (.invokestatic 250, 3) := by decide +kernel
theorem dX12_seeds_41 : decode cX12_seeds 41 = .ok (.ifCond .eq 7, 3) := by decide +kernel
theorem dX12_seeds_44 : decode cX12_seeds 44 = .ok (.iconst 1, 1) := by decide +kernel
theorem dX12_seeds_45 : decode cX12_seeds 45 = .ok (.goto 4, 3) := by decide +kernel
theorem dX12_seeds_48 : decode cX12_seeds 48 = .ok (.iconst 0, 1) := by decide +kernel
theorem dX12_seeds_49 : decode cX12_seeds 49 = .ok (.iconst 3, 1) := by decide +kernel
theorem dX12_seeds_50 : decode cX12_seeds 50 = .ok (.iconst 2, 1) := by decide +kernel
theorem dX12_seeds_51 : decode cX12_seeds 51 = .ok (.invokevirtual 157, 3) := by decide +kernel
theorem dX12_seeds_54 : decode cX12_seeds 54 = .ok (.ifCond .ne 5, 3) := by decide +kernel
theorem dX12_seeds_57 : decode cX12_seeds 57 = .ok (.iconst 0, 1) := by decide +kernel
theorem dX12_seeds_58 : decode cX12_seeds 58 = .ok (.ireturn, 1) := by decide +kernel
theorem dX12_seeds_59 : decode cX12_seeds 59 = .ok (.iconst (-1), 1) := by decide +kernel
theorem dX12_seeds_60 : decode cX12_seeds 60 = .ok (.istore 6, 2) := by decide +kernel
theorem dX12_seeds_62 : decode cX12_seeds 62 = .ok (.iconst 0, 1) := by decide +kernel
theorem dX12_seeds_63 : decode cX12_seeds 63 = .ok (.istore 7, 2) := by decide +kernel
theorem dX12_seeds_65 : decode cX12_seeds 65 = .ok (.iconst 0, 1) := by decide +kernel
theorem dX12_seeds_66 : decode cX12_seeds 66 = .ok (.istore 8, 2) := by decide +kernel
theorem dX12_seeds_68 : decode cX12_seeds 68 = .ok (.iload 8, 2) := by decide +kernel
theorem dX12_seeds_70 : decode cX12_seeds 70 = .ok (.iload 4, 2) := by decide +kernel
theorem dX12_seeds_72 : decode cX12_seeds 72 = .ok (.if_icmp .ge 47, 3) := by decide +kernel
theorem dX12_seeds_75 : decode cX12_seeds 75 = .ok (.aload_n 0, 1) := by decide +kernel
theorem dX12_seeds_76 : decode cX12_seeds 76 = .ok (.iload_n 1, 1) := by decide +kernel
theorem dX12_seeds_77 : decode cX12_seeds 77 = .ok (.iload_n 2, 1) := by decide +kernel
theorem dX12_seeds_78 : decode cX12_seeds 78 = .ok (.iload_n 3, 1) := by decide +kernel
theorem dX12_seeds_79 : decode cX12_seeds 79 = .ok (.iload 8, 2) := by decide +kernel
theorem dX12_seeds_81 : decode cX12_seeds 81 = .ok (.iadd, 1) := by decide +kernel
theorem dX12_seeds_82 : decode cX12_seeds 82 = .ok (.invokevirtual 471, 3) := by decide +kernel
theorem dX12_seeds_85 : decode cX12_seeds 85 = .ok (.iload 6, 2) := by decide +kernel
theorem dX12_seeds_87 : decode cX12_seeds 87 = .ok (.iconst (-1), 1) := by decide +kernel
theorem dX12_seeds_88 : decode cX12_seeds 88 = .ok (.if_icmp .eq 15, 3) := by decide +kernel
theorem dX12_seeds_91 : decode cX12_seeds 91 = .ok (.aload_n 0, 1) := by decide +kernel
theorem dX12_seeds_92 : decode cX12_seeds 92 = .ok (.getfield 447, 3) := by decide +kernel
theorem dX12_seeds_95 : decode cX12_seeds 95 = .ok (.iload 7, 2) := by decide +kernel
theorem dX12_seeds_97 : decode cX12_seeds 97 = .ok (.if_icmp .gt 6, 3) := by decide +kernel
theorem dX12_seeds_100 : decode cX12_seeds 100 = .ok (.goto 13, 3) := by decide +kernel
theorem dX12_seeds_103 : decode cX12_seeds 103 = .ok (.iload 8, 2) := by decide +kernel
theorem dX12_seeds_105 : decode cX12_seeds 105 = .ok (.istore 6, 2) := by decide +kernel
theorem dX12_seeds_107 : decode cX12_seeds 107 = .ok (.aload_n 0, 1) := by decide +kernel
theorem dX12_seeds_108 : decode cX12_seeds 108 = .ok (.getfield 447, 3) := by decide +kernel
theorem dX12_seeds_111 : decode cX12_seeds 111 = .ok (.istore 7, 2) := by decide +kernel
theorem dX12_seeds_113 : decode cX12_seeds 113 = .ok (.iinc 8 1, 3) := by decide +kernel
theorem dX12_seeds_116 : decode cX12_seeds 116 = .ok (.goto (-48), 3) := by decide +kernel
theorem dX12_seeds_119 : decode cX12_seeds 119 = .ok (.iload 5, 2) := by decide +kernel
theorem dX12_seeds_121 : decode cX12_seeds 121 = .ok (.ifCond .ne 8, 3) := by decide +kernel
theorem dX12_seeds_124 : decode cX12_seeds 124 = .ok (.iload 6, 2) := by decide +kernel
theorem dX12_seeds_126 : decode cX12_seeds 126 = .ok (.goto 5, 3) := by decide +kernel
theorem dX12_seeds_129 : decode cX12_seeds 129 = .ok (.iload 7, 2) := by decide +kernel
theorem dX12_seeds_131 : decode cX12_seeds 131 = .ok (.ireturn, 1) := by decide +kernel
def L_X12_findRow_207 (N : Nat) (g : gp) (a0 : Nat) (x1 : Int32) (kt198 : Int32 → Int32 → dp → Option (dp)) : Nat → Int32 → Int32 → Int32 → dp → Option (dp)
  | 0, _, _, _, _ => none
  | n + 1, x3v, x4v, x5v, δ => (D_X12_all N g a0 δ).bind fun r_11 => if r_11.1 = 0 then none else (D_X12_all N g a0 r_11.2).bind fun r_13 => if r_13.1 = 0 then none else (D_X12_touchSet N g a0 (x5v / r_11.1) (x5v - x5v / r_13.1 * r_13.1) x3v r_13.2).bind fun r_15 => (q_O g 12 43 a0).bind fun b_16 => (D_X12_all N g a0 r_15.2).bind fun r_18 => if r_18.1 = 0 then none else (D_X12_all N g a0 r_18.2).bind fun r_20 => if r_20.1 = 0 then none else (D_X12_behind N g a0 (x5v / r_18.1) (x5v - x5v / r_20.1 * r_20.1) x3v r_20.2).bind fun r_22 => if ((65536 * ((x1 - x4v) - 1)) + r_22.1) < 0 ∨ q_N g b_16 ≤ ((65536 * ((x1 - x4v) - 1)) + r_22.1).toNatClampNeg then none else (q_O g 12 43 a0).bind fun b_23 => if ((65536 * (x1 - x4v)) + x3v) < 0 ∨ q_N g b_23 ≤ ((65536 * (x1 - x4v)) + x3v).toNatClampNeg then none else if (r_15.1 + (q_R r_22.2 b_16 ((65536 * ((x1 - x4v) - 1)) + r_22.1).toNatClampNeg)) = (q_R r_22.2 b_23 ((65536 * (x1 - x4v)) + x3v).toNatClampNeg) then ((q_O g 12 44 a0).bind fun b_26 => if x4v < 0 ∨ q_N g b_26 ≤ x4v.toNatClampNeg then none else bd (s_R r_22.2 b_26 x4v.toNatClampNeg x5v) fun δ_28 => (D_X12_all N g a0 δ_28).bind fun r_30 => if r_30.1 = 0 then none else (D_X12_all N g a0 r_30.2).bind fun r_32 => if r_32.1 = 0 then none else (D_X12_behind N g a0 (x5v / r_30.1) (x5v - x5v / r_32.1 * r_32.1) x3v r_32.2).bind fun r_34 => bi (x4v + 1) fun x_35 => kt198 r_34.1 x_35 r_34.2) else (bi (x5v + 1) fun x_37 => L_X12_findRow_207 N g a0 x1 kt198 n x3v x4v x_37 r_22.2)
set_option maxHeartbeats 4000000 in
set_option maxRecDepth 100000 in
theorem t_L_X12_findRow_207 {l : Launch} {D : va_G} {cy : Nat → ClassId} {N d : Nat} {g : gp} (wt : WT g) (hl : l.stackTraces = false) (hd : 66 ≤ d) {a0 : Nat} {x1 : Int32} (k0 : q_K g a0 = 12) {kt198 : Int32 → Int32 → dp → Option (dp)} (hk198 : ∀ (x3v : Int32) (x4v : Int32) (δ : dp), AWD l D cy m_X12_findRow d 0 0 ev g 198 [(0, .ref a0), (1, .int x1), (3, .int x3v), (4, .int x4v)] [] δ (kt198 x3v x4v δ)) : ∀ (n : Nat) (x3v : Int32) (x4v : Int32) (x5v : Int32) (δ : dp), AWD l D cy m_X12_findRow d 0 0 ev g 207 [(0, .ref a0), (1, .int x1), (3, .int x3v), (4, .int x4v), (5, .int x5v)] [] δ (L_X12_findRow_207 N g a0 x1 kt198 n x3v x4v x5v δ) := by
  intro n
  induction n with
  | zero => intro x3v x4v x5v δ ; exact w_none
  | succ n ih =>
    intro x3v x4v x5v δ 
    unfold L_X12_findRow_207
    refine w_aload_n 0 0 (μ := m_X12_findRow) (pc := 207) dX12_findRow_207 rfl rfl ?_
    refine w_iload 4 (μ := m_X12_findRow) (pc := 208) dX12_findRow_208 rfl ?_
    refine w_aload_n 0 0 (μ := m_X12_findRow) (pc := 210) dX12_findRow_210 rfl rfl ?_
    refine w_callV (As := []) (rest := [.int x5v, .ref a0]) (μ := m_X12_findRow) (pc := 211) dX12_findRow_211 cv_X12_257 rfl rfl k0 (by decide) rfl (Nat.le_of_ble_eq_true rfl) (d' := d - 1) (by omega) he_i (c_X12_all wt hl (d := d - 1) (by omega) k0) (fun r_11 => ?_)
    refine w_gn (fun z_12 => ?_)
    refine w_idiv (μ := m_X12_findRow) (pc := 214) dX12_findRow_214 z_12 ?_
    refine w_iload 4 (μ := m_X12_findRow) (pc := 215) dX12_findRow_215 rfl ?_
    refine w_aload_n 0 0 (μ := m_X12_findRow) (pc := 217) dX12_findRow_217 rfl rfl ?_
    refine w_callV (As := []) (rest := [.int x5v, .int (x5v / r_11.1), .ref a0]) (μ := m_X12_findRow) (pc := 218) dX12_findRow_218 cv_X12_257 rfl rfl k0 (by decide) rfl (Nat.le_of_ble_eq_true rfl) (d' := d - 1) (by omega) he_i (c_X12_all wt hl (d := d - 1) (by omega) k0) (fun r_13 => ?_)
    refine w_gn (fun z_14 => ?_)
    refine w_irem (μ := m_X12_findRow) (pc := 221) dX12_findRow_221 z_14 ?_
    refine w_iload_n 2 3 (μ := m_X12_findRow) (pc := 222) dX12_findRow_222 rfl rfl ?_
    refine w_callV (As := [.int (x5v / r_11.1), .int (x5v - x5v / r_13.1 * r_13.1), .int x3v]) (rest := []) (μ := m_X12_findRow) (pc := 223) dX12_findRow_223 cv_X12_384 rfl rfl k0 (by decide) rfl (Nat.le_of_ble_eq_true rfl) (d' := d - 1) (by omega) he_i (c_X12_touchSet wt hl (d := d - 1) (by omega) k0) (fun r_15 => ?_)
    refine w_aload_n 0 0 (μ := m_X12_findRow) (pc := 226) dX12_findRow_226 rfl rfl ?_
    refine w_getO (μ := m_X12_findRow) (pc := 227) dX12_findRow_227 fl_X12_94 ir_12_43 id_12_43 k0 (fun b_16 e_17 => ?_)
    refine w_ldc_w (v := 65536) (μ := m_X12_findRow) (pc := 230) dX12_findRow_230 cn_X12_387 ?_
    refine w_iload_n 1 1 (μ := m_X12_findRow) (pc := 233) dX12_findRow_233 rfl rfl ?_
    refine w_iload 3 (μ := m_X12_findRow) (pc := 234) dX12_findRow_234 rfl ?_
    refine w_isub (μ := m_X12_findRow) (pc := 236) dX12_findRow_236 ?_
    refine w_iconst (v := 1) (μ := m_X12_findRow) (pc := 237) dX12_findRow_237 (by decide) ?_
    refine w_isub (μ := m_X12_findRow) (pc := 238) dX12_findRow_238 ?_
    refine w_imul (μ := m_X12_findRow) (pc := 239) dX12_findRow_239 ?_
    refine w_aload_n 0 0 (μ := m_X12_findRow) (pc := 240) dX12_findRow_240 rfl rfl ?_
    refine w_iload 4 (μ := m_X12_findRow) (pc := 241) dX12_findRow_241 rfl ?_
    refine w_aload_n 0 0 (μ := m_X12_findRow) (pc := 243) dX12_findRow_243 rfl rfl ?_
    refine w_callV (As := []) (rest := [.int x5v, .ref a0, .int (65536 * ((x1 - x4v) - 1)), .ref b_16, .int r_15.1]) (μ := m_X12_findRow) (pc := 244) dX12_findRow_244 cv_X12_257 rfl rfl k0 (by decide) rfl (Nat.le_of_ble_eq_true rfl) (d' := d - 1) (by omega) he_i (c_X12_all wt hl (d := d - 1) (by omega) k0) (fun r_18 => ?_)
    refine w_gn (fun z_19 => ?_)
    refine w_idiv (μ := m_X12_findRow) (pc := 247) dX12_findRow_247 z_19 ?_
    refine w_iload 4 (μ := m_X12_findRow) (pc := 248) dX12_findRow_248 rfl ?_
    refine w_aload_n 0 0 (μ := m_X12_findRow) (pc := 250) dX12_findRow_250 rfl rfl ?_
    refine w_callV (As := []) (rest := [.int x5v, .int (x5v / r_18.1), .ref a0, .int (65536 * ((x1 - x4v) - 1)), .ref b_16, .int r_15.1]) (μ := m_X12_findRow) (pc := 251) dX12_findRow_251 cv_X12_257 rfl rfl k0 (by decide) rfl (Nat.le_of_ble_eq_true rfl) (d' := d - 1) (by omega) he_i (c_X12_all wt hl (d := d - 1) (by omega) k0) (fun r_20 => ?_)
    refine w_gn (fun z_21 => ?_)
    refine w_irem (μ := m_X12_findRow) (pc := 254) dX12_findRow_254 z_21 ?_
    refine w_iload_n 2 3 (μ := m_X12_findRow) (pc := 255) dX12_findRow_255 rfl rfl ?_
    refine w_callV (As := [.int (x5v / r_18.1), .int (x5v - x5v / r_20.1 * r_20.1), .int x3v]) (rest := [.int (65536 * ((x1 - x4v) - 1)), .ref b_16, .int r_15.1]) (μ := m_X12_findRow) (pc := 256) dX12_findRow_256 cv_X12_388 rfl rfl k0 (by decide) rfl (Nat.le_of_ble_eq_true rfl) (d' := d - 1) (by omega) he_i (c_X12_behind wt hl (d := d - 1) (by omega) k0) (fun r_22 => ?_)
    refine w_iadd (μ := m_X12_findRow) (pc := 259) dX12_findRow_259 ?_
    refine w_ald (μ := m_X12_findRow) (pc := 260) dX12_findRow_260 (wt_12_43 wt k0 e_17) ?_
    refine w_iadd (μ := m_X12_findRow) (pc := 261) dX12_findRow_261 ?_
    refine w_aload_n 0 0 (μ := m_X12_findRow) (pc := 262) dX12_findRow_262 rfl rfl ?_
    refine w_getO (μ := m_X12_findRow) (pc := 263) dX12_findRow_263 fl_X12_94 ir_12_43 id_12_43 k0 (fun b_23 e_24 => ?_)
    refine w_ldc_w (v := 65536) (μ := m_X12_findRow) (pc := 266) dX12_findRow_266 cn_X12_387 ?_
    refine w_iload_n 1 1 (μ := m_X12_findRow) (pc := 269) dX12_findRow_269 rfl rfl ?_
    refine w_iload 3 (μ := m_X12_findRow) (pc := 270) dX12_findRow_270 rfl ?_
    refine w_isub (μ := m_X12_findRow) (pc := 272) dX12_findRow_272 ?_
    refine w_imul (μ := m_X12_findRow) (pc := 273) dX12_findRow_273 ?_
    refine w_iload_n 2 3 (μ := m_X12_findRow) (pc := 274) dX12_findRow_274 rfl rfl ?_
    refine w_iadd (μ := m_X12_findRow) (pc := 275) dX12_findRow_275 ?_
    refine w_ald (μ := m_X12_findRow) (pc := 276) dX12_findRow_276 (wt_12_43 wt k0 e_24) ?_
    refine w_icmp_eq 286 (μ := m_X12_findRow) (pc := 277) dX12_findRow_277 (by decide) (fun c_25 => ?_) (fun c_25 => ?_)
    · refine w_aload_n 0 0 (μ := m_X12_findRow) (pc := 286) dX12_findRow_286 rfl rfl ?_
      refine w_getO (μ := m_X12_findRow) (pc := 287) dX12_findRow_287 fl_X12_97 ir_12_44 id_12_44 k0 (fun b_26 e_27 => ?_)
      refine w_iload 3 (μ := m_X12_findRow) (pc := 290) dX12_findRow_290 rfl ?_
      refine w_iload 4 (μ := m_X12_findRow) (pc := 292) dX12_findRow_292 rfl ?_
      refine w_ast (μ := m_X12_findRow) (pc := 294) dX12_findRow_294 (wt_12_44 wt k0 e_27) ?_
      refine w_bd (fun δ_28 e_29 => ?_)
      refine w_aload_n 0 0 (μ := m_X12_findRow) (pc := 295) dX12_findRow_295 rfl rfl ?_
      refine w_iload 4 (μ := m_X12_findRow) (pc := 296) dX12_findRow_296 rfl ?_
      refine w_aload_n 0 0 (μ := m_X12_findRow) (pc := 298) dX12_findRow_298 rfl rfl ?_
      refine w_callV (As := []) (rest := [.int x5v, .ref a0]) (μ := m_X12_findRow) (pc := 299) dX12_findRow_299 cv_X12_257 rfl rfl k0 (by decide) rfl (Nat.le_of_ble_eq_true rfl) (d' := d - 1) (by omega) he_i (c_X12_all wt hl (d := d - 1) (by omega) k0) (fun r_30 => ?_)
      refine w_gn (fun z_31 => ?_)
      refine w_idiv (μ := m_X12_findRow) (pc := 302) dX12_findRow_302 z_31 ?_
      refine w_iload 4 (μ := m_X12_findRow) (pc := 303) dX12_findRow_303 rfl ?_
      refine w_aload_n 0 0 (μ := m_X12_findRow) (pc := 305) dX12_findRow_305 rfl rfl ?_
      refine w_callV (As := []) (rest := [.int x5v, .int (x5v / r_30.1), .ref a0]) (μ := m_X12_findRow) (pc := 306) dX12_findRow_306 cv_X12_257 rfl rfl k0 (by decide) rfl (Nat.le_of_ble_eq_true rfl) (d' := d - 1) (by omega) he_i (c_X12_all wt hl (d := d - 1) (by omega) k0) (fun r_32 => ?_)
      refine w_gn (fun z_33 => ?_)
      refine w_irem (μ := m_X12_findRow) (pc := 309) dX12_findRow_309 z_33 ?_
      refine w_iload_n 2 3 (μ := m_X12_findRow) (pc := 310) dX12_findRow_310 rfl rfl ?_
      refine w_callV (As := [.int (x5v / r_30.1), .int (x5v - x5v / r_32.1 * r_32.1), .int x3v]) (rest := []) (μ := m_X12_findRow) (pc := 311) dX12_findRow_311 cv_X12_388 rfl rfl k0 (by decide) rfl (Nat.le_of_ble_eq_true rfl) (d' := d - 1) (by omega) he_i (c_X12_behind wt hl (d := d - 1) (by omega) k0) (fun r_34 => ?_)
      refine w_istore_n [(3, .int r_34.1), (0, .ref a0), (1, .int x1), (4, .int x4v), (5, .int x5v)] (μ := m_X12_findRow) (pc := 314) dX12_findRow_314 rfl (by decide) rfl ?_
      refine w_inb (fun x_35 e_36 => ?_)
      refine w_iinc 3 [(4, .int x_35), (3, .int r_34.1), (0, .ref a0), (1, .int x1), (5, .int x5v)] (μ := m_X12_findRow) (pc := 315) dX12_findRow_315 rfl (by rw [e_36]; rfl) (by decide) rfl ?_
      refine w_goto 198 (μ := m_X12_findRow) (pc := 318) dX12_findRow_318 (by decide) ?_
      refine w_lv [2, 3, 1, 0] rfl ?_
      exact hk198 _ _ _
    · refine w_inb (fun x_37 e_38 => ?_)
      refine w_iinc 4 [(5, .int x_37), (0, .ref a0), (1, .int x1), (3, .int x3v), (4, .int x4v)] (μ := m_X12_findRow) (pc := 280) dX12_findRow_280 rfl (by rw [e_38]; rfl) (by decide) rfl ?_
      refine w_goto 207 (μ := m_X12_findRow) (pc := 283) dX12_findRow_283 (by decide) ?_
      refine w_lv [1, 2, 3, 4, 0] rfl ?_
      exact ih _ _ _ _
def L_X12_findRow_198 (N : Nat) (g : gp) (a0 : Nat) (x1 : Int32) : Nat → Int32 → Int32 → dp → Option (dp)
  | 0, _, _, _ => none
  | n + 1, x3v, x4v, δ => if x1 ≤ x4v then (some δ) else (L_X12_findRow_207 N g a0 x1 (L_X12_findRow_198 N g a0 x1 n) N x3v x4v 0 δ)
set_option maxHeartbeats 4000000 in
set_option maxRecDepth 100000 in
theorem t_L_X12_findRow_198 {l : Launch} {D : va_G} {cy : Nat → ClassId} {N d : Nat} {g : gp} (wt : WT g) (hl : l.stackTraces = false) (hd : 66 ≤ d) {a0 : Nat} {x1 : Int32} (k0 : q_K g a0 = 12) : ∀ (n : Nat) (x3v : Int32) (x4v : Int32) (δ : dp), AWD l D cy m_X12_findRow d 0 0 ev g 198 [(0, .ref a0), (1, .int x1), (3, .int x3v), (4, .int x4v)] [] δ (L_X12_findRow_198 N g a0 x1 n x3v x4v δ) := by
  intro n
  induction n with
  | zero => intro x3v x4v δ ; exact w_none
  | succ n ih =>
    intro x3v x4v δ 
    unfold L_X12_findRow_198
    refine w_iload 3 (μ := m_X12_findRow) (pc := 198) dX12_findRow_198 rfl ?_
    refine w_iload_n 1 1 (μ := m_X12_findRow) (pc := 200) dX12_findRow_200 rfl rfl ?_
    refine w_icmp_ge 321 (μ := m_X12_findRow) (pc := 201) dX12_findRow_201 (by decide) (fun c_10 => ?_) (fun c_10 => ?_)
    · exact w_vret (μ := m_X12_findRow) (pc := 321) dX12_findRow_321 rfl rfl
    · refine w_iconst (v := 0) (μ := m_X12_findRow) (pc := 204) dX12_findRow_204 (by decide) ?_
      refine w_istore [(5, .int 0), (0, .ref a0), (1, .int x1), (3, .int x3v), (4, .int x4v)] (μ := m_X12_findRow) (pc := 205) dX12_findRow_205 (by decide) rfl ?_
      refine w_lv [1, 2, 3, 4, 0] rfl ?_
      exact t_L_X12_findRow_207 wt hl (by omega) k0 ih N _ _ _ _
def J_X12_findRow_167 (N : Nat) (g : gp) (a0 : Nat) (x1 : Int32) (kt29 : Int32 → Int32 → dp → Option (dp)) (kt37 : Int32 → Int32 → Int32 → dp → Option (dp)) (x2v : Int32) (x3v : Int32) (x4v : Int32) (δ : dp) : Option (dp) :=
  bi (x4v + 1) fun x_50 => kt37 x2v x3v x_50 δ
set_option maxHeartbeats 4000000 in
set_option maxRecDepth 100000 in
theorem t_J_X12_findRow_167 {l : Launch} {D : va_G} {cy : Nat → ClassId} {N d : Nat} {g : gp} (wt : WT g) (hl : l.stackTraces = false) (hd : 66 ≤ d) {a0 : Nat} {x1 : Int32} (k0 : q_K g a0 = 12) {kt29 : Int32 → Int32 → dp → Option (dp)} {kt37 : Int32 → Int32 → Int32 → dp → Option (dp)} (hk29 : ∀ (x2v : Int32) (x3v : Int32) (δ : dp), AWD l D cy m_X12_findRow d 0 0 ev g 29 [(0, .ref a0), (1, .int x1), (2, .int x2v), (3, .int x3v)] [] δ (kt29 x2v x3v δ)) (hk37 : ∀ (x2v : Int32) (x3v : Int32) (x4v : Int32) (δ : dp), AWD l D cy m_X12_findRow d 0 0 ev g 37 [(0, .ref a0), (1, .int x1), (2, .int x2v), (3, .int x3v), (4, .int x4v)] [] δ (kt37 x2v x3v x4v δ)) : ∀ (x2v : Int32) (x3v : Int32) (x4v : Int32) (δ : dp), AWD l D cy m_X12_findRow d 0 0 ev g 167 [(0, .ref a0), (1, .int x1), (2, .int x2v), (3, .int x3v), (4, .int x4v)] [] δ (J_X12_findRow_167 N g a0 x1 kt29 kt37 x2v x3v x4v δ) := by
    intro x2v x3v x4v δ 
    unfold J_X12_findRow_167
    refine w_inb (fun x_50 e_51 => ?_)
    refine w_iinc 4 [(4, .int x_50), (0, .ref a0), (1, .int x1), (2, .int x2v), (3, .int x3v)] (μ := m_X12_findRow) (pc := 167) dX12_findRow_167 rfl (by rw [e_51]; rfl) (by decide) rfl ?_
    refine w_goto 37 (μ := m_X12_findRow) (pc := 170) dX12_findRow_170 (by decide) ?_
    refine w_lv [1, 2, 3, 4, 0] rfl ?_
    exact hk37 _ _ _ _
def J_X12_findRow_144 (N : Nat) (g : gp) (a0 : Nat) (x1 : Int32) (kt29 : Int32 → Int32 → dp → Option (dp)) (kt37 : Int32 → Int32 → Int32 → dp → Option (dp)) (kt63 : Int32 → Int32 → Int32 → Int32 → Int32 → dp → Option (dp)) (xs0 : Int32) (x2v : Int32) (x3v : Int32) (x4v : Int32) (x6v : Int32) (δ : dp) : Option (dp) :=
  bi (x6v + 1) fun x_67 => kt63 x2v x3v x4v xs0 x_67 δ
set_option maxHeartbeats 4000000 in
set_option maxRecDepth 100000 in
theorem t_J_X12_findRow_144 {l : Launch} {D : va_G} {cy : Nat → ClassId} {N d : Nat} {g : gp} (wt : WT g) (hl : l.stackTraces = false) (hd : 66 ≤ d) {a0 : Nat} {x1 : Int32} (k0 : q_K g a0 = 12) {kt29 : Int32 → Int32 → dp → Option (dp)} {kt37 : Int32 → Int32 → Int32 → dp → Option (dp)} {kt63 : Int32 → Int32 → Int32 → Int32 → Int32 → dp → Option (dp)} (hk29 : ∀ (x2v : Int32) (x3v : Int32) (δ : dp), AWD l D cy m_X12_findRow d 0 0 ev g 29 [(0, .ref a0), (1, .int x1), (2, .int x2v), (3, .int x3v)] [] δ (kt29 x2v x3v δ)) (hk37 : ∀ (x2v : Int32) (x3v : Int32) (x4v : Int32) (δ : dp), AWD l D cy m_X12_findRow d 0 0 ev g 37 [(0, .ref a0), (1, .int x1), (2, .int x2v), (3, .int x3v), (4, .int x4v)] [] δ (kt37 x2v x3v x4v δ)) (hk63 : ∀ (x2v : Int32) (x3v : Int32) (x4v : Int32) (x5v : Int32) (x6v : Int32) (δ : dp), AWD l D cy m_X12_findRow d 0 0 ev g 63 [(0, .ref a0), (1, .int x1), (2, .int x2v), (3, .int x3v), (4, .int x4v), (5, .int x5v), (6, .int x6v)] [] δ (kt63 x2v x3v x4v x5v x6v δ)) : ∀ (xs0 : Int32) (x2v : Int32) (x3v : Int32) (x4v : Int32) (x6v : Int32) (δ : dp), AWD l D cy m_X12_findRow d 0 0 ev g 144 [(0, .ref a0), (1, .int x1), (2, .int x2v), (3, .int x3v), (4, .int x4v), (6, .int x6v)] [.int xs0] δ (J_X12_findRow_144 N g a0 x1 kt29 kt37 kt63 xs0 x2v x3v x4v x6v δ) := by
    intro xs0 x2v x3v x4v x6v δ 
    unfold J_X12_findRow_144
    refine w_istore [(5, .int xs0), (0, .ref a0), (1, .int x1), (2, .int x2v), (3, .int x3v), (4, .int x4v), (6, .int x6v)] (μ := m_X12_findRow) (pc := 144) dX12_findRow_144 (by decide) rfl ?_
    refine w_inb (fun x_67 e_68 => ?_)
    refine w_iinc 6 [(6, .int x_67), (5, .int xs0), (0, .ref a0), (1, .int x1), (2, .int x2v), (3, .int x3v), (4, .int x4v)] (μ := m_X12_findRow) (pc := 146) dX12_findRow_146 rfl (by rw [e_68]; rfl) (by decide) rfl ?_
    refine w_goto 63 (μ := m_X12_findRow) (pc := 149) dX12_findRow_149 (by decide) ?_
    refine w_lv [2, 3, 4, 5, 6, 1, 0] rfl ?_
    exact hk63 _ _ _ _ _ _
def L_X12_findRow_63 (N : Nat) (g : gp) (a0 : Nat) (x1 : Int32) (kt29 : Int32 → Int32 → dp → Option (dp)) (kt37 : Int32 → Int32 → Int32 → dp → Option (dp)) : Nat → Int32 → Int32 → Int32 → Int32 → Int32 → dp → Option (dp)
  | 0, _, _, _, _, _, _ => none
  | n + 1, x2v, x3v, x4v, x5v, x6v, δ => (D_X12_all N g a0 δ).bind fun r_44 => if (5 * r_44.1) ≤ x6v then ((q_O g 12 43 a0).bind fun b_46 => if ((65536 * x3v) + x4v) < 0 ∨ q_N g b_46 ≤ ((65536 * x3v) + x4v).toNatClampNeg then none else bd (s_R r_44.2 b_46 ((65536 * x3v) + x4v).toNatClampNeg x5v) fun δ_48 => J_X12_findRow_167 N g a0 x1 kt29 kt37 x2v x3v x4v δ_48) else ((D_X12_all N g a0 r_44.2).bind fun r_52 => if r_52.1 = 0 then none else (D_X12_all N g a0 r_52.2).bind fun r_54 => if r_54.1 = 0 then none else (D_X12_touchSet N g a0 (x6v / r_52.1) (x6v - x6v / r_54.1 * r_54.1) x4v r_54.2).bind fun r_56 => (q_O g 12 43 a0).bind fun b_57 => (D_X12_all N g a0 r_56.2).bind fun r_59 => if r_59.1 = 0 then none else (D_X12_all N g a0 r_59.2).bind fun r_61 => if r_61.1 = 0 then none else (D_X12_behind N g a0 (x6v / r_59.1) (x6v - x6v / r_61.1 * r_61.1) x4v r_61.2).bind fun r_63 => if ((65536 * (x3v - 1)) + r_63.1) < 0 ∨ q_N g b_57 ≤ ((65536 * (x3v - 1)) + r_63.1).toNatClampNeg then none else bi (r_56.1 + (q_R r_63.2 b_57 ((65536 * (x3v - 1)) + r_63.1).toNatClampNeg)) fun x_64 => if x_64 ≤ x5v then (J_X12_findRow_144 N g a0 x1 kt29 kt37 (L_X12_findRow_63 N g a0 x1 kt29 kt37 n) x5v x2v x3v x4v x6v r_63.2) else (J_X12_findRow_144 N g a0 x1 kt29 kt37 (L_X12_findRow_63 N g a0 x1 kt29 kt37 n) x_64 x2v x3v x4v x6v r_63.2))
set_option maxHeartbeats 4000000 in
set_option maxRecDepth 100000 in
theorem t_L_X12_findRow_63 {l : Launch} {D : va_G} {cy : Nat → ClassId} {N d : Nat} {g : gp} (wt : WT g) (hl : l.stackTraces = false) (hd : 66 ≤ d) {a0 : Nat} {x1 : Int32} (k0 : q_K g a0 = 12) {kt29 : Int32 → Int32 → dp → Option (dp)} {kt37 : Int32 → Int32 → Int32 → dp → Option (dp)} (hk29 : ∀ (x2v : Int32) (x3v : Int32) (δ : dp), AWD l D cy m_X12_findRow d 0 0 ev g 29 [(0, .ref a0), (1, .int x1), (2, .int x2v), (3, .int x3v)] [] δ (kt29 x2v x3v δ)) (hk37 : ∀ (x2v : Int32) (x3v : Int32) (x4v : Int32) (δ : dp), AWD l D cy m_X12_findRow d 0 0 ev g 37 [(0, .ref a0), (1, .int x1), (2, .int x2v), (3, .int x3v), (4, .int x4v)] [] δ (kt37 x2v x3v x4v δ)) : ∀ (n : Nat) (x2v : Int32) (x3v : Int32) (x4v : Int32) (x5v : Int32) (x6v : Int32) (δ : dp), AWD l D cy m_X12_findRow d 0 0 ev g 63 [(0, .ref a0), (1, .int x1), (2, .int x2v), (3, .int x3v), (4, .int x4v), (5, .int x5v), (6, .int x6v)] [] δ (L_X12_findRow_63 N g a0 x1 kt29 kt37 n x2v x3v x4v x5v x6v δ) := by
  intro n
  induction n with
  | zero => intro x2v x3v x4v x5v x6v δ ; exact w_none
  | succ n ih =>
    intro x2v x3v x4v x5v x6v δ 
    unfold L_X12_findRow_63
    refine w_iload 6 (μ := m_X12_findRow) (pc := 63) dX12_findRow_63 rfl ?_
    refine w_iconst (v := 5) (μ := m_X12_findRow) (pc := 65) dX12_findRow_65 (by decide) ?_
    refine w_aload_n 0 0 (μ := m_X12_findRow) (pc := 66) dX12_findRow_66 rfl rfl ?_
    refine w_callV (As := []) (rest := [.int 5, .int x6v]) (μ := m_X12_findRow) (pc := 67) dX12_findRow_67 cv_X12_257 rfl rfl k0 (by decide) rfl (Nat.le_of_ble_eq_true rfl) (d' := d - 1) (by omega) he_i (c_X12_all wt hl (d := d - 1) (by omega) k0) (fun r_44 => ?_)
    refine w_imul (μ := m_X12_findRow) (pc := 70) dX12_findRow_70 ?_
    refine w_icmp_ge 152 (μ := m_X12_findRow) (pc := 71) dX12_findRow_71 (by decide) (fun c_45 => ?_) (fun c_45 => ?_)
    · refine w_aload_n 0 0 (μ := m_X12_findRow) (pc := 152) dX12_findRow_152 rfl rfl ?_
      refine w_getO (μ := m_X12_findRow) (pc := 153) dX12_findRow_153 fl_X12_94 ir_12_43 id_12_43 k0 (fun b_46 e_47 => ?_)
      refine w_ldc_w (v := 65536) (μ := m_X12_findRow) (pc := 156) dX12_findRow_156 cn_X12_387 ?_
      refine w_iload_n 3 3 (μ := m_X12_findRow) (pc := 159) dX12_findRow_159 rfl rfl ?_
      refine w_imul (μ := m_X12_findRow) (pc := 160) dX12_findRow_160 ?_
      refine w_iload 4 (μ := m_X12_findRow) (pc := 161) dX12_findRow_161 rfl ?_
      refine w_iadd (μ := m_X12_findRow) (pc := 163) dX12_findRow_163 ?_
      refine w_iload 5 (μ := m_X12_findRow) (pc := 164) dX12_findRow_164 rfl ?_
      refine w_ast (μ := m_X12_findRow) (pc := 166) dX12_findRow_166 (wt_12_43 wt k0 e_47) ?_
      refine w_bd (fun δ_48 e_49 => ?_)
      refine w_lv [0, 1, 2, 3, 4] rfl ?_
      exact t_J_X12_findRow_167 wt hl (by omega) k0 hk29 hk37 _ _ _ _
    · refine w_aload_n 0 0 (μ := m_X12_findRow) (pc := 74) dX12_findRow_74 rfl rfl ?_
      refine w_iload 6 (μ := m_X12_findRow) (pc := 75) dX12_findRow_75 rfl ?_
      refine w_aload_n 0 0 (μ := m_X12_findRow) (pc := 77) dX12_findRow_77 rfl rfl ?_
      refine w_callV (As := []) (rest := [.int x6v, .ref a0]) (μ := m_X12_findRow) (pc := 78) dX12_findRow_78 cv_X12_257 rfl rfl k0 (by decide) rfl (Nat.le_of_ble_eq_true rfl) (d' := d - 1) (by omega) he_i (c_X12_all wt hl (d := d - 1) (by omega) k0) (fun r_52 => ?_)
      refine w_gn (fun z_53 => ?_)
      refine w_idiv (μ := m_X12_findRow) (pc := 81) dX12_findRow_81 z_53 ?_
      refine w_iload 6 (μ := m_X12_findRow) (pc := 82) dX12_findRow_82 rfl ?_
      refine w_aload_n 0 0 (μ := m_X12_findRow) (pc := 84) dX12_findRow_84 rfl rfl ?_
      refine w_callV (As := []) (rest := [.int x6v, .int (x6v / r_52.1), .ref a0]) (μ := m_X12_findRow) (pc := 85) dX12_findRow_85 cv_X12_257 rfl rfl k0 (by decide) rfl (Nat.le_of_ble_eq_true rfl) (d' := d - 1) (by omega) he_i (c_X12_all wt hl (d := d - 1) (by omega) k0) (fun r_54 => ?_)
      refine w_gn (fun z_55 => ?_)
      refine w_irem (μ := m_X12_findRow) (pc := 88) dX12_findRow_88 z_55 ?_
      refine w_iload 4 (μ := m_X12_findRow) (pc := 89) dX12_findRow_89 rfl ?_
      refine w_callV (As := [.int (x6v / r_52.1), .int (x6v - x6v / r_54.1 * r_54.1), .int x4v]) (rest := []) (μ := m_X12_findRow) (pc := 91) dX12_findRow_91 cv_X12_384 rfl rfl k0 (by decide) rfl (Nat.le_of_ble_eq_true rfl) (d' := d - 1) (by omega) he_i (c_X12_touchSet wt hl (d := d - 1) (by omega) k0) (fun r_56 => ?_)
      refine w_aload_n 0 0 (μ := m_X12_findRow) (pc := 94) dX12_findRow_94 rfl rfl ?_
      refine w_getO (μ := m_X12_findRow) (pc := 95) dX12_findRow_95 fl_X12_94 ir_12_43 id_12_43 k0 (fun b_57 e_58 => ?_)
      refine w_ldc_w (v := 65536) (μ := m_X12_findRow) (pc := 98) dX12_findRow_98 cn_X12_387 ?_
      refine w_iload_n 3 3 (μ := m_X12_findRow) (pc := 101) dX12_findRow_101 rfl rfl ?_
      refine w_iconst (v := 1) (μ := m_X12_findRow) (pc := 102) dX12_findRow_102 (by decide) ?_
      refine w_isub (μ := m_X12_findRow) (pc := 103) dX12_findRow_103 ?_
      refine w_imul (μ := m_X12_findRow) (pc := 104) dX12_findRow_104 ?_
      refine w_aload_n 0 0 (μ := m_X12_findRow) (pc := 105) dX12_findRow_105 rfl rfl ?_
      refine w_iload 6 (μ := m_X12_findRow) (pc := 106) dX12_findRow_106 rfl ?_
      refine w_aload_n 0 0 (μ := m_X12_findRow) (pc := 108) dX12_findRow_108 rfl rfl ?_
      refine w_callV (As := []) (rest := [.int x6v, .ref a0, .int (65536 * (x3v - 1)), .ref b_57, .int r_56.1]) (μ := m_X12_findRow) (pc := 109) dX12_findRow_109 cv_X12_257 rfl rfl k0 (by decide) rfl (Nat.le_of_ble_eq_true rfl) (d' := d - 1) (by omega) he_i (c_X12_all wt hl (d := d - 1) (by omega) k0) (fun r_59 => ?_)
      refine w_gn (fun z_60 => ?_)
      refine w_idiv (μ := m_X12_findRow) (pc := 112) dX12_findRow_112 z_60 ?_
      refine w_iload 6 (μ := m_X12_findRow) (pc := 113) dX12_findRow_113 rfl ?_
      refine w_aload_n 0 0 (μ := m_X12_findRow) (pc := 115) dX12_findRow_115 rfl rfl ?_
      refine w_callV (As := []) (rest := [.int x6v, .int (x6v / r_59.1), .ref a0, .int (65536 * (x3v - 1)), .ref b_57, .int r_56.1]) (μ := m_X12_findRow) (pc := 116) dX12_findRow_116 cv_X12_257 rfl rfl k0 (by decide) rfl (Nat.le_of_ble_eq_true rfl) (d' := d - 1) (by omega) he_i (c_X12_all wt hl (d := d - 1) (by omega) k0) (fun r_61 => ?_)
      refine w_gn (fun z_62 => ?_)
      refine w_irem (μ := m_X12_findRow) (pc := 119) dX12_findRow_119 z_62 ?_
      refine w_iload 4 (μ := m_X12_findRow) (pc := 120) dX12_findRow_120 rfl ?_
      refine w_callV (As := [.int (x6v / r_59.1), .int (x6v - x6v / r_61.1 * r_61.1), .int x4v]) (rest := [.int (65536 * (x3v - 1)), .ref b_57, .int r_56.1]) (μ := m_X12_findRow) (pc := 122) dX12_findRow_122 cv_X12_388 rfl rfl k0 (by decide) rfl (Nat.le_of_ble_eq_true rfl) (d' := d - 1) (by omega) he_i (c_X12_behind wt hl (d := d - 1) (by omega) k0) (fun r_63 => ?_)
      refine w_iadd (μ := m_X12_findRow) (pc := 125) dX12_findRow_125 ?_
      refine w_ald (μ := m_X12_findRow) (pc := 126) dX12_findRow_126 (wt_12_43 wt k0 e_58) ?_
      refine w_iadd (μ := m_X12_findRow) (pc := 127) dX12_findRow_127 ?_
      refine w_bi (fun x_64 e_65 => ?_)
      refine w_istore [(7, .int x_64), (0, .ref a0), (1, .int x1), (2, .int x2v), (3, .int x3v), (4, .int x4v), (5, .int x5v), (6, .int x6v)] (μ := m_X12_findRow) (pc := 128) dX12_findRow_128 (by decide) rfl ?_
      refine w_iload 0 (μ := m_X12_findRow) (pc := 130) dX12_findRow_130 rfl ?_
      refine w_iload 6 (μ := m_X12_findRow) (pc := 132) dX12_findRow_132 rfl ?_
      refine w_icmp_le 142 (μ := m_X12_findRow) (pc := 134) dX12_findRow_134 (by decide) (fun c_66 => ?_) (fun c_66 => ?_)
      · refine w_iload 6 (μ := m_X12_findRow) (pc := 142) dX12_findRow_142 rfl ?_
        refine w_lv [1, 2, 3, 4, 5, 7] rfl ?_
        exact t_J_X12_findRow_144 wt hl (by omega) k0 hk29 hk37 ih _ _ _ _ _ _
      · refine w_iload 0 (μ := m_X12_findRow) (pc := 137) dX12_findRow_137 rfl ?_
        refine w_goto 144 (μ := m_X12_findRow) (pc := 139) dX12_findRow_139 (by decide) ?_
        refine w_lv [1, 2, 3, 4, 5, 7] rfl ?_
        exact t_J_X12_findRow_144 wt hl (by omega) k0 hk29 hk37 ih _ _ _ _ _ _
def L_X12_findRow_37 (N : Nat) (g : gp) (a0 : Nat) (x1 : Int32) (kt29 : Int32 → Int32 → dp → Option (dp)) : Nat → Int32 → Int32 → Int32 → dp → Option (dp)
  | 0, _, _, _, _ => none
  | n + 1, x2v, x3v, x4v, δ => if x2v ≤ x4v then (bi (x3v + 1) fun x_40 => kt29 x2v x_40 δ) else ((D_X12_ones N g x4v δ).bind fun r_42 => if r_42.1 ≤ (x1 - x3v) then (L_X12_findRow_63 N g a0 x1 kt29 (L_X12_findRow_37 N g a0 x1 kt29 n) N x2v x3v x4v 0 0 r_42.2) else (J_X12_findRow_167 N g a0 x1 kt29 (L_X12_findRow_37 N g a0 x1 kt29 n) x2v x3v x4v r_42.2))
set_option maxHeartbeats 4000000 in
set_option maxRecDepth 100000 in
theorem t_L_X12_findRow_37 {l : Launch} {D : va_G} {cy : Nat → ClassId} {N d : Nat} {g : gp} (wt : WT g) (hl : l.stackTraces = false) (hd : 66 ≤ d) {a0 : Nat} {x1 : Int32} (k0 : q_K g a0 = 12) {kt29 : Int32 → Int32 → dp → Option (dp)} (hk29 : ∀ (x2v : Int32) (x3v : Int32) (δ : dp), AWD l D cy m_X12_findRow d 0 0 ev g 29 [(0, .ref a0), (1, .int x1), (2, .int x2v), (3, .int x3v)] [] δ (kt29 x2v x3v δ)) : ∀ (n : Nat) (x2v : Int32) (x3v : Int32) (x4v : Int32) (δ : dp), AWD l D cy m_X12_findRow d 0 0 ev g 37 [(0, .ref a0), (1, .int x1), (2, .int x2v), (3, .int x3v), (4, .int x4v)] [] δ (L_X12_findRow_37 N g a0 x1 kt29 n x2v x3v x4v δ) := by
  intro n
  induction n with
  | zero => intro x2v x3v x4v δ ; exact w_none
  | succ n ih =>
    intro x2v x3v x4v δ 
    unfold L_X12_findRow_37
    refine w_iload 4 (μ := m_X12_findRow) (pc := 37) dX12_findRow_37 rfl ?_
    refine w_iload_n 2 2 (μ := m_X12_findRow) (pc := 39) dX12_findRow_39 rfl rfl ?_
    refine w_icmp_ge 173 (μ := m_X12_findRow) (pc := 40) dX12_findRow_40 (by decide) (fun c_39 => ?_) (fun c_39 => ?_)
    · refine w_inb (fun x_40 e_41 => ?_)
      refine w_iinc 3 [(3, .int x_40), (0, .ref a0), (1, .int x1), (2, .int x2v), (4, .int x4v)] (μ := m_X12_findRow) (pc := 173) dX12_findRow_173 rfl (by rw [e_41]; rfl) (by decide) rfl ?_
      refine w_goto 29 (μ := m_X12_findRow) (pc := 176) dX12_findRow_176 (by decide) ?_
      refine w_lv [1, 2, 3, 0] rfl ?_
      exact hk29 _ _ _
    · refine w_iload 4 (μ := m_X12_findRow) (pc := 43) dX12_findRow_43 rfl ?_
      refine w_callS (As := [.int x4v]) (rest := []) (μ := m_X12_findRow) (pc := 45) dX12_findRow_45 cs_X12_381 rfl rfl (Nat.le_of_ble_eq_true rfl) (d' := d - 1) (by omega) he_i (c_X12_ones wt hl (d := d - 1) (by omega) ) (fun r_42 => ?_)
      refine w_iload_n 1 1 (μ := m_X12_findRow) (pc := 48) dX12_findRow_48 rfl rfl ?_
      refine w_iload_n 3 3 (μ := m_X12_findRow) (pc := 49) dX12_findRow_49 rfl rfl ?_
      refine w_isub (μ := m_X12_findRow) (pc := 50) dX12_findRow_50 ?_
      refine w_icmp_le 57 (μ := m_X12_findRow) (pc := 51) dX12_findRow_51 (by decide) (fun c_43 => ?_) (fun c_43 => ?_)
      · refine w_iconst (v := 0) (μ := m_X12_findRow) (pc := 57) dX12_findRow_57 (by decide) ?_
        refine w_istore [(5, .int 0), (0, .ref a0), (1, .int x1), (2, .int x2v), (3, .int x3v), (4, .int x4v)] (μ := m_X12_findRow) (pc := 58) dX12_findRow_58 (by decide) rfl ?_
        refine w_iconst (v := 0) (μ := m_X12_findRow) (pc := 60) dX12_findRow_60 (by decide) ?_
        refine w_istore [(6, .int 0), (5, .int 0), (0, .ref a0), (1, .int x1), (2, .int x2v), (3, .int x3v), (4, .int x4v)] (μ := m_X12_findRow) (pc := 61) dX12_findRow_61 (by decide) rfl ?_
        refine w_lv [2, 3, 4, 5, 6, 1, 0] rfl ?_
        exact t_L_X12_findRow_63 wt hl (by omega) k0 hk29 ih N _ _ _ _ _ _
      · refine w_goto 167 (μ := m_X12_findRow) (pc := 54) dX12_findRow_54 (by decide) ?_
        exact t_J_X12_findRow_167 wt hl (by omega) k0 hk29 ih _ _ _ _
def L_X12_findRow_29 (N : Nat) (g : gp) (a0 : Nat) (x1 : Int32) : Nat → Int32 → Int32 → dp → Option (dp)
  | 0, _, _, _ => none
  | n + 1, x2v, x3v, δ => if x1 < x3v then ((q_O g 12 43 a0).bind fun b_6 => if (65536 * x1) < 0 ∨ q_N g b_6 ≤ (65536 * x1).toNatClampNeg then none else bd (s_I δ 12 45 a0 (q_R δ b_6 (65536 * x1).toNatClampNeg)) fun δ_8 => L_X12_findRow_198 N g a0 x1 N 0 0 δ_8) else (L_X12_findRow_37 N g a0 x1 (L_X12_findRow_29 N g a0 x1 n) N x2v x3v 0 δ)
set_option maxHeartbeats 4000000 in
set_option maxRecDepth 100000 in
theorem t_L_X12_findRow_29 {l : Launch} {D : va_G} {cy : Nat → ClassId} {N d : Nat} {g : gp} (wt : WT g) (hl : l.stackTraces = false) (hd : 66 ≤ d) {a0 : Nat} {x1 : Int32} (k0 : q_K g a0 = 12) : ∀ (n : Nat) (x2v : Int32) (x3v : Int32) (δ : dp), AWD l D cy m_X12_findRow d 0 0 ev g 29 [(0, .ref a0), (1, .int x1), (2, .int x2v), (3, .int x3v)] [] δ (L_X12_findRow_29 N g a0 x1 n x2v x3v δ) := by
  intro n
  induction n with
  | zero => intro x2v x3v δ ; exact w_none
  | succ n ih =>
    intro x2v x3v δ 
    unfold L_X12_findRow_29
    refine w_iload_n 3 3 (μ := m_X12_findRow) (pc := 29) dX12_findRow_29 rfl rfl ?_
    refine w_iload_n 1 1 (μ := m_X12_findRow) (pc := 30) dX12_findRow_30 rfl rfl ?_
    refine w_icmp_gt 179 (μ := m_X12_findRow) (pc := 31) dX12_findRow_31 (by decide) (fun c_5 => ?_) (fun c_5 => ?_)
    · refine w_aload_n 0 0 (μ := m_X12_findRow) (pc := 179) dX12_findRow_179 rfl rfl ?_
      refine w_aload_n 0 0 (μ := m_X12_findRow) (pc := 180) dX12_findRow_180 rfl rfl ?_
      refine w_getO (μ := m_X12_findRow) (pc := 181) dX12_findRow_181 fl_X12_94 ir_12_43 id_12_43 k0 (fun b_6 e_7 => ?_)
      refine w_ldc_w (v := 65536) (μ := m_X12_findRow) (pc := 184) dX12_findRow_184 cn_X12_387 ?_
      refine w_iload_n 1 1 (μ := m_X12_findRow) (pc := 187) dX12_findRow_187 rfl rfl ?_
      refine w_imul (μ := m_X12_findRow) (pc := 188) dX12_findRow_188 ?_
      refine w_ald (μ := m_X12_findRow) (pc := 189) dX12_findRow_189 (wt_12_43 wt k0 e_7) ?_
      refine w_putI (μ := m_X12_findRow) (pc := 190) dX12_findRow_190 fl_X12_391 flw_12_45 ir_12_45 k0 ?_
      refine w_bd (fun δ_8 e_9 => ?_)
      refine w_iconst (v := 0) (μ := m_X12_findRow) (pc := 193) dX12_findRow_193 (by decide) ?_
      refine w_istore_n [(3, .int 0), (0, .ref a0), (1, .int x1), (2, .int x2v)] (μ := m_X12_findRow) (pc := 194) dX12_findRow_194 rfl (by decide) rfl ?_
      refine w_iconst (v := 0) (μ := m_X12_findRow) (pc := 195) dX12_findRow_195 (by decide) ?_
      refine w_istore [(4, .int 0), (3, .int 0), (0, .ref a0), (1, .int x1), (2, .int x2v)] (μ := m_X12_findRow) (pc := 196) dX12_findRow_196 (by decide) rfl ?_
      refine w_lv [2, 3, 1, 0] rfl ?_
      exact t_L_X12_findRow_198 wt hl (by omega) k0 N _ _ _
    · refine w_iconst (v := 0) (μ := m_X12_findRow) (pc := 34) dX12_findRow_34 (by decide) ?_
      refine w_istore [(4, .int 0), (0, .ref a0), (1, .int x1), (2, .int x2v), (3, .int x3v)] (μ := m_X12_findRow) (pc := 35) dX12_findRow_35 (by decide) rfl ?_
      refine w_lv [1, 2, 3, 4, 0] rfl ?_
      exact t_L_X12_findRow_37 wt hl (by omega) k0 ih N _ _ _ _
def L_X12_findRow_9 (N : Nat) (g : gp) (a0 : Nat) (x1 : Int32) : Nat → Int32 → Int32 → dp → Option (dp)
  | 0, _, _, _ => none
  | n + 1, x2v, x3v, δ => if x2v ≤ x3v then (L_X12_findRow_29 N g a0 x1 N x2v 1 δ) else ((q_O g 12 43 a0).bind fun b_69 => if x3v < 0 ∨ q_N g b_69 ≤ x3v.toNatClampNeg then none else bd (s_R δ b_69 x3v.toNatClampNeg 0) fun δ_71 => bi (x3v + 1) fun x_73 => L_X12_findRow_9 N g a0 x1 n x2v x_73 δ_71)
set_option maxHeartbeats 4000000 in
set_option maxRecDepth 100000 in
theorem t_L_X12_findRow_9 {l : Launch} {D : va_G} {cy : Nat → ClassId} {N d : Nat} {g : gp} (wt : WT g) (hl : l.stackTraces = false) (hd : 66 ≤ d) {a0 : Nat} {x1 : Int32} (k0 : q_K g a0 = 12) : ∀ (n : Nat) (x2v : Int32) (x3v : Int32) (δ : dp), AWD l D cy m_X12_findRow d 0 0 ev g 9 [(0, .ref a0), (1, .int x1), (2, .int x2v), (3, .int x3v)] [] δ (L_X12_findRow_9 N g a0 x1 n x2v x3v δ) := by
  intro n
  induction n with
  | zero => intro x2v x3v δ ; exact w_none
  | succ n ih =>
    intro x2v x3v δ 
    unfold L_X12_findRow_9
    refine w_iload_n 3 3 (μ := m_X12_findRow) (pc := 9) dX12_findRow_9 rfl rfl ?_
    refine w_iload_n 2 2 (μ := m_X12_findRow) (pc := 10) dX12_findRow_10 rfl rfl ?_
    refine w_icmp_ge 27 (μ := m_X12_findRow) (pc := 11) dX12_findRow_11 (by decide) (fun c_4 => ?_) (fun c_4 => ?_)
    · refine w_iconst (v := 1) (μ := m_X12_findRow) (pc := 27) dX12_findRow_27 (by decide) ?_
      refine w_istore_n [(3, .int 1), (0, .ref a0), (1, .int x1), (2, .int x2v)] (μ := m_X12_findRow) (pc := 28) dX12_findRow_28 rfl (by decide) rfl ?_
      refine w_lv [1, 2, 3, 0] rfl ?_
      exact t_L_X12_findRow_29 wt hl (by omega) k0 N _ _ _
    · refine w_aload_n 0 0 (μ := m_X12_findRow) (pc := 14) dX12_findRow_14 rfl rfl ?_
      refine w_getO (μ := m_X12_findRow) (pc := 15) dX12_findRow_15 fl_X12_94 ir_12_43 id_12_43 k0 (fun b_69 e_70 => ?_)
      refine w_iload_n 3 3 (μ := m_X12_findRow) (pc := 18) dX12_findRow_18 rfl rfl ?_
      refine w_iconst (v := 0) (μ := m_X12_findRow) (pc := 19) dX12_findRow_19 (by decide) ?_
      refine w_ast (μ := m_X12_findRow) (pc := 20) dX12_findRow_20 (wt_12_43 wt k0 e_70) ?_
      refine w_bd (fun δ_71 e_72 => ?_)
      refine w_inb (fun x_73 e_74 => ?_)
      refine w_iinc 3 [(3, .int x_73), (0, .ref a0), (1, .int x1), (2, .int x2v)] (μ := m_X12_findRow) (pc := 21) dX12_findRow_21 rfl (by rw [e_74]; rfl) (by decide) rfl ?_
      refine w_goto 9 (μ := m_X12_findRow) (pc := 24) dX12_findRow_24 (by decide) ?_
      refine w_lv [1, 2, 3, 0] rfl ?_
      exact ih _ _ _
def D_X12_findRow (N : Nat) (g : gp) (a0 : Nat) (x1 : Int32) (δ : dp) : Option (dp) :=
  (D_X12_all N g a0 δ).bind fun r_1 => bi (1 <<< (r_1.1 &&& 31)) fun x_2 => L_X12_findRow_9 N g a0 x1 N x_2 0 r_1.2
set_option maxHeartbeats 4000000 in
set_option maxRecDepth 100000 in
theorem c_X12_findRow {l : Launch} {D : va_G} {cy : Nat → ClassId} {N d : Nat} {g : gp} (wt : WT g) (hl : l.stackTraces = false) (hd : 66 ≤ d) {a0 : Nat} {x1 : Int32} {δ : dp} (k0 : q_K g a0 = 12) : CalD l D cy m_X12_findRow d 0 0 ev g [.ref a0, .int x1] δ (D_X12_findRow N g a0 x1 δ) := by
  refine CalD.of (by decide +kernel) (Nat.le_of_ble_eq_true rfl) hl ?_
  unfold D_X12_findRow
  refine w_iconst (v := 1) (μ := m_X12_findRow) (pc := 0) dX12_findRow_0 (by decide) ?_
  refine w_aload_n 0 0 (μ := m_X12_findRow) (pc := 1) dX12_findRow_1 rfl rfl ?_
  refine w_callV (As := []) (rest := [.int 1]) (μ := m_X12_findRow) (pc := 2) dX12_findRow_2 cv_X12_257 rfl rfl k0 (by decide) rfl (Nat.le_of_ble_eq_true rfl) (d' := d - 1) (by omega) he_i (c_X12_all wt hl (d := d - 1) (by omega) k0) (fun r_1 => ?_)
  refine w_ishl (μ := m_X12_findRow) (pc := 5) dX12_findRow_5 ?_
  refine w_bi (fun x_2 e_3 => ?_)
  refine w_istore_n [(2, .int x_2), (0, .ref a0), (1, .int x1)] (μ := m_X12_findRow) (pc := 6) dX12_findRow_6 rfl (by decide) rfl ?_
  refine w_iconst (v := 0) (μ := m_X12_findRow) (pc := 7) dX12_findRow_7 (by decide) ?_
  refine w_istore_n [(3, .int 0), (2, .int x_2), (0, .ref a0), (1, .int x1)] (μ := m_X12_findRow) (pc := 8) dX12_findRow_8 rfl (by decide) rfl ?_
  refine w_lv [2, 3, 1, 0] rfl ?_
  exact t_L_X12_findRow_9 wt hl (by omega) k0 N _ _ _
def J_X12_findTwo_132 (N : Nat) (g : gp) (a0 : Nat) (x1 : Int32) (kt7 : Int32 → dp → Option (dp)) (kt19 : Int32 → Int32 → dp → Option (dp)) (x2v : Int32) (x3v : Int32) (δ : dp) : Option (dp) :=
  bi (x3v + 1) fun x_37 => kt19 x2v x_37 δ
set_option maxHeartbeats 4000000 in
set_option maxRecDepth 100000 in
theorem t_J_X12_findTwo_132 {l : Launch} {D : va_G} {cy : Nat → ClassId} {N d : Nat} {g : gp} (wt : WT g) (hl : l.stackTraces = false) (hd : 65 ≤ d) {a0 : Nat} {x1 : Int32} (k0 : q_K g a0 = 12) {kt7 : Int32 → dp → Option (dp)} {kt19 : Int32 → Int32 → dp → Option (dp)} (hk7 : ∀ (x2v : Int32) (δ : dp), AWD l D cy m_X12_findTwo d 0 0 ev g 7 [(0, .ref a0), (1, .int x1), (2, .int x2v)] [] δ (kt7 x2v δ)) (hk19 : ∀ (x2v : Int32) (x3v : Int32) (δ : dp), AWD l D cy m_X12_findTwo d 0 0 ev g 19 [(0, .ref a0), (1, .int x1), (2, .int x2v), (3, .int x3v)] [] δ (kt19 x2v x3v δ)) : ∀ (x2v : Int32) (x3v : Int32) (δ : dp), AWD l D cy m_X12_findTwo d 0 0 ev g 132 [(0, .ref a0), (1, .int x1), (2, .int x2v), (3, .int x3v)] [] δ (J_X12_findTwo_132 N g a0 x1 kt7 kt19 x2v x3v δ) := by
    intro x2v x3v δ 
    unfold J_X12_findTwo_132
    refine w_inb (fun x_37 e_38 => ?_)
    refine w_iinc 3 [(3, .int x_37), (0, .ref a0), (1, .int x1), (2, .int x2v)] (μ := m_X12_findTwo) (pc := 132) dX12_findTwo_132 rfl (by rw [e_38]; rfl) (by decide) rfl ?_
    refine w_goto 19 (μ := m_X12_findTwo) (pc := 135) dX12_findTwo_135 (by decide) ?_
    refine w_lv [1, 2, 3, 0] rfl ?_
    exact hk19 _ _ _
def J_X12_findTwo_97 (N : Nat) (g : gp) (a0 : Nat) (x1 : Int32) (kt7 : Int32 → dp → Option (dp)) (kt19 : Int32 → Int32 → dp → Option (dp)) (xs0 : Int32) (xs1 : Int32) (x2v : Int32) (x3v : Int32) (δ : dp) : Option (dp) :=
  bi (xs1 + xs0) fun x_24 => if (q_I δ 12 45 a0) < x_24 then (bd (s_I δ 12 45 a0 x_24) fun δ_27 => (q_O g 12 44 a0).bind fun b_29 => if (0 : Int32) < 0 ∨ q_N g b_29 ≤ (0 : Int32).toNatClampNeg then none else bd (s_R δ_27 b_29 (0 : Int32).toNatClampNeg x2v) fun δ_31 => (q_O g 12 44 a0).bind fun b_33 => if (1 : Int32) < 0 ∨ q_N g b_33 ≤ (1 : Int32).toNatClampNeg then none else bd (s_R δ_31 b_33 (1 : Int32).toNatClampNeg x3v) fun δ_35 => J_X12_findTwo_132 N g a0 x1 kt7 kt19 x2v x3v δ_35) else (J_X12_findTwo_132 N g a0 x1 kt7 kt19 x2v x3v δ)
set_option maxHeartbeats 4000000 in
set_option maxRecDepth 100000 in
theorem t_J_X12_findTwo_97 {l : Launch} {D : va_G} {cy : Nat → ClassId} {N d : Nat} {g : gp} (wt : WT g) (hl : l.stackTraces = false) (hd : 65 ≤ d) {a0 : Nat} {x1 : Int32} (k0 : q_K g a0 = 12) {kt7 : Int32 → dp → Option (dp)} {kt19 : Int32 → Int32 → dp → Option (dp)} (hk7 : ∀ (x2v : Int32) (δ : dp), AWD l D cy m_X12_findTwo d 0 0 ev g 7 [(0, .ref a0), (1, .int x1), (2, .int x2v)] [] δ (kt7 x2v δ)) (hk19 : ∀ (x2v : Int32) (x3v : Int32) (δ : dp), AWD l D cy m_X12_findTwo d 0 0 ev g 19 [(0, .ref a0), (1, .int x1), (2, .int x2v), (3, .int x3v)] [] δ (kt19 x2v x3v δ)) : ∀ (xs0 : Int32) (xs1 : Int32) (x2v : Int32) (x3v : Int32) (δ : dp), AWD l D cy m_X12_findTwo d 0 0 ev g 97 [(0, .ref a0), (1, .int x1), (2, .int x2v), (3, .int x3v)] [.int xs0, .int xs1] δ (J_X12_findTwo_97 N g a0 x1 kt7 kt19 xs0 xs1 x2v x3v δ) := by
    intro xs0 xs1 x2v x3v δ 
    unfold J_X12_findTwo_97
    refine w_iadd (μ := m_X12_findTwo) (pc := 97) dX12_findTwo_97 ?_
    refine w_bi (fun x_24 e_25 => ?_)
    refine w_istore [(4, .int x_24), (0, .ref a0), (1, .int x1), (2, .int x2v), (3, .int x3v)] (μ := m_X12_findTwo) (pc := 98) dX12_findTwo_98 (by decide) rfl ?_
    refine w_iload 0 (μ := m_X12_findTwo) (pc := 100) dX12_findTwo_100 rfl ?_
    refine w_aload_n 1 0 (μ := m_X12_findTwo) (pc := 102) dX12_findTwo_102 rfl rfl ?_
    refine w_getI (μ := m_X12_findTwo) (pc := 103) dX12_findTwo_103 fl_X12_391 ir_12_45 k0 ?_
    refine w_icmp_gt 112 (μ := m_X12_findTwo) (pc := 106) dX12_findTwo_106 (by decide) (fun c_26 => ?_) (fun c_26 => ?_)
    · refine w_aload_n 1 0 (μ := m_X12_findTwo) (pc := 112) dX12_findTwo_112 rfl rfl ?_
      refine w_iload 0 (μ := m_X12_findTwo) (pc := 113) dX12_findTwo_113 rfl ?_
      refine w_putI (μ := m_X12_findTwo) (pc := 115) dX12_findTwo_115 fl_X12_391 flw_12_45 ir_12_45 k0 ?_
      refine w_bd (fun δ_27 e_28 => ?_)
      refine w_aload_n 1 0 (μ := m_X12_findTwo) (pc := 118) dX12_findTwo_118 rfl rfl ?_
      refine w_getO (μ := m_X12_findTwo) (pc := 119) dX12_findTwo_119 fl_X12_97 ir_12_44 id_12_44 k0 (fun b_29 e_30 => ?_)
      refine w_iconst (v := 0) (μ := m_X12_findTwo) (pc := 122) dX12_findTwo_122 (by decide) ?_
      refine w_iload_n 3 2 (μ := m_X12_findTwo) (pc := 123) dX12_findTwo_123 rfl rfl ?_
      refine w_ast (μ := m_X12_findTwo) (pc := 124) dX12_findTwo_124 (wt_12_44 wt k0 e_30) ?_
      refine w_bd (fun δ_31 e_32 => ?_)
      refine w_aload_n 1 0 (μ := m_X12_findTwo) (pc := 125) dX12_findTwo_125 rfl rfl ?_
      refine w_getO (μ := m_X12_findTwo) (pc := 126) dX12_findTwo_126 fl_X12_97 ir_12_44 id_12_44 k0 (fun b_33 e_34 => ?_)
      refine w_iconst (v := 1) (μ := m_X12_findTwo) (pc := 129) dX12_findTwo_129 (by decide) ?_
      refine w_iload_n 4 3 (μ := m_X12_findTwo) (pc := 130) dX12_findTwo_130 rfl rfl ?_
      refine w_ast (μ := m_X12_findTwo) (pc := 131) dX12_findTwo_131 (wt_12_44 wt k0 e_34) ?_
      refine w_bd (fun δ_35 e_36 => ?_)
      refine w_lv [1, 2, 3, 4] rfl ?_
      exact t_J_X12_findTwo_132 wt hl (by omega) k0 hk7 hk19 _ _ _
    · refine w_goto 132 (μ := m_X12_findTwo) (pc := 109) dX12_findTwo_109 (by decide) ?_
      refine w_lv [1, 2, 3, 4] rfl ?_
      exact t_J_X12_findTwo_132 wt hl (by omega) k0 hk7 hk19 _ _ _
def J_X12_findTwo_59 (N : Nat) (g : gp) (a0 : Nat) (x1 : Int32) (kt7 : Int32 → dp → Option (dp)) (kt19 : Int32 → Int32 → dp → Option (dp)) (xs0 : Int32) (as1 : Nat) (x2v : Int32) (x3v : Int32) (δ : dp) : Option (dp) :=
  bd (s_I δ 12 36 as1 xs0) fun δ_16 => if x1 = (1 : Int32) then (J_X12_findTwo_97 N g a0 x1 kt7 kt19 0 1 x2v x3v δ_16) else ((D_X12_all N g a0 δ_16).bind fun r_19 => if r_19.1 = 0 then none else (D_X12_all N g a0 r_19.2).bind fun r_21 => if r_21.1 = 0 then none else (D_X12_touch N g a0 (x3v / r_19.1) (x3v - x3v / r_21.1 * r_21.1) (q_I r_21.2 12 10 a0) 0 (q_I r_21.2 12 36 a0) r_21.2).bind fun r_23 => J_X12_findTwo_97 N g a0 x1 kt7 kt19 r_23.1 1 x2v x3v r_23.2)
set_option maxHeartbeats 4000000 in
set_option maxRecDepth 100000 in
theorem t_J_X12_findTwo_59 {l : Launch} {D : va_G} {cy : Nat → ClassId} {N d : Nat} {g : gp} (wt : WT g) (hl : l.stackTraces = false) (hd : 65 ≤ d) {a0 : Nat} {x1 : Int32} (k0 : q_K g a0 = 12) {kt7 : Int32 → dp → Option (dp)} {kt19 : Int32 → Int32 → dp → Option (dp)} (hk7 : ∀ (x2v : Int32) (δ : dp), AWD l D cy m_X12_findTwo d 0 0 ev g 7 [(0, .ref a0), (1, .int x1), (2, .int x2v)] [] δ (kt7 x2v δ)) (hk19 : ∀ (x2v : Int32) (x3v : Int32) (δ : dp), AWD l D cy m_X12_findTwo d 0 0 ev g 19 [(0, .ref a0), (1, .int x1), (2, .int x2v), (3, .int x3v)] [] δ (kt19 x2v x3v δ)) : ∀ (xs0 : Int32) (as1 : Nat) (x2v : Int32) (x3v : Int32) (δ : dp), q_K g as1 = 12 → AWD l D cy m_X12_findTwo d 0 0 ev g 59 [(0, .ref a0), (1, .int x1), (2, .int x2v), (3, .int x3v)] [.int xs0, .ref as1] δ (J_X12_findTwo_59 N g a0 x1 kt7 kt19 xs0 as1 x2v x3v δ) := by
    intro xs0 as1 x2v x3v δ has1
    unfold J_X12_findTwo_59
    refine w_putI (μ := m_X12_findTwo) (pc := 59) dX12_findTwo_59 fl_X12_290 flw_12_36 ir_12_36 has1 ?_
    refine w_bd (fun δ_16 e_17 => ?_)
    refine w_iconst (v := 1) (μ := m_X12_findTwo) (pc := 62) dX12_findTwo_62 (by decide) ?_
    refine w_iload_n 1 1 (μ := m_X12_findTwo) (pc := 63) dX12_findTwo_63 rfl rfl ?_
    refine w_iconst (v := 1) (μ := m_X12_findTwo) (pc := 64) dX12_findTwo_64 (by decide) ?_
    refine w_icmp_ne 72 (μ := m_X12_findTwo) (pc := 65) dX12_findTwo_65 (by decide) (fun c_18 => ?_) (fun c_18 => ?_)
    · refine w_aload_n 0 0 (μ := m_X12_findTwo) (pc := 72) dX12_findTwo_72 rfl rfl ?_
      refine w_iload_n 3 3 (μ := m_X12_findTwo) (pc := 73) dX12_findTwo_73 rfl rfl ?_
      refine w_aload_n 0 0 (μ := m_X12_findTwo) (pc := 74) dX12_findTwo_74 rfl rfl ?_
      refine w_callV (As := []) (rest := [.int x3v, .ref a0, .int 1]) (μ := m_X12_findTwo) (pc := 75) dX12_findTwo_75 cv_X12_257 rfl rfl k0 (by decide) rfl (Nat.le_of_ble_eq_true rfl) (d' := d - 1) (by omega) he_i (c_X12_all wt hl (d := d - 1) (by omega) k0) (fun r_19 => ?_)
      refine w_gn (fun z_20 => ?_)
      refine w_idiv (μ := m_X12_findTwo) (pc := 78) dX12_findTwo_78 z_20 ?_
      refine w_iload_n 3 3 (μ := m_X12_findTwo) (pc := 79) dX12_findTwo_79 rfl rfl ?_
      refine w_aload_n 0 0 (μ := m_X12_findTwo) (pc := 80) dX12_findTwo_80 rfl rfl ?_
      refine w_callV (As := []) (rest := [.int x3v, .int (x3v / r_19.1), .ref a0, .int 1]) (μ := m_X12_findTwo) (pc := 81) dX12_findTwo_81 cv_X12_257 rfl rfl k0 (by decide) rfl (Nat.le_of_ble_eq_true rfl) (d' := d - 1) (by omega) he_i (c_X12_all wt hl (d := d - 1) (by omega) k0) (fun r_21 => ?_)
      refine w_gn (fun z_22 => ?_)
      refine w_irem (μ := m_X12_findTwo) (pc := 84) dX12_findTwo_84 z_22 ?_
      refine w_aload_n 0 0 (μ := m_X12_findTwo) (pc := 85) dX12_findTwo_85 rfl rfl ?_
      refine w_getI (μ := m_X12_findTwo) (pc := 86) dX12_findTwo_86 fl_X12_23 ir_12_10 k0 ?_
      refine w_iconst (v := 0) (μ := m_X12_findTwo) (pc := 89) dX12_findTwo_89 (by decide) ?_
      refine w_aload_n 0 0 (μ := m_X12_findTwo) (pc := 90) dX12_findTwo_90 rfl rfl ?_
      refine w_getI (μ := m_X12_findTwo) (pc := 91) dX12_findTwo_91 fl_X12_290 ir_12_36 k0 ?_
      refine w_callV (As := [.int (x3v / r_19.1), .int (x3v - x3v / r_21.1 * r_21.1), .int (q_I r_21.2 12 10 a0), .int 0, .int (q_I r_21.2 12 36 a0)]) (rest := [.int 1]) (μ := m_X12_findTwo) (pc := 94) dX12_findTwo_94 cv_X12_299 rfl rfl k0 (by decide) rfl (Nat.le_of_ble_eq_true rfl) (d' := d - 1) (by omega) he_i (c_X12_touch wt hl (d := d - 1) (by omega) k0) (fun r_23 => ?_)
      exact t_J_X12_findTwo_97 wt hl (by omega) k0 hk7 hk19 _ _ _ _ _
    · refine w_iconst (v := 0) (μ := m_X12_findTwo) (pc := 68) dX12_findTwo_68 (by decide) ?_
      refine w_goto 97 (μ := m_X12_findTwo) (pc := 69) dX12_findTwo_69 (by decide) ?_
      exact t_J_X12_findTwo_97 wt hl (by omega) k0 hk7 hk19 _ _ _ _ _
def J_X12_findTwo_35 (N : Nat) (g : gp) (a0 : Nat) (x1 : Int32) (kt7 : Int32 → dp → Option (dp)) (kt19 : Int32 → Int32 → dp → Option (dp)) (xs0 : Int32) (xs1 : Int32) (x2v : Int32) (x3v : Int32) (δ : dp) : Option (dp) :=
  if xs0 ≤ xs1 then (bi (x2v + 1) fun x_8 => kt7 x_8 δ) else ((q_O g 12 35 a0).bind fun b_10 => if (0 : Int32) < 0 ∨ q_N g b_10 ≤ (0 : Int32).toNatClampNeg then none else bd (s_R δ b_10 (0 : Int32).toNatClampNeg x2v) fun δ_12 => (D_X12_all N g a0 δ_12).bind fun r_14 => if r_14.1 ≤ x2v then (J_X12_findTwo_59 N g a0 x1 kt7 kt19 0 a0 x2v x3v r_14.2) else (J_X12_findTwo_59 N g a0 x1 kt7 kt19 1 a0 x2v x3v r_14.2))
set_option maxHeartbeats 4000000 in
set_option maxRecDepth 100000 in
theorem t_J_X12_findTwo_35 {l : Launch} {D : va_G} {cy : Nat → ClassId} {N d : Nat} {g : gp} (wt : WT g) (hl : l.stackTraces = false) (hd : 65 ≤ d) {a0 : Nat} {x1 : Int32} (k0 : q_K g a0 = 12) {kt7 : Int32 → dp → Option (dp)} {kt19 : Int32 → Int32 → dp → Option (dp)} (hk7 : ∀ (x2v : Int32) (δ : dp), AWD l D cy m_X12_findTwo d 0 0 ev g 7 [(0, .ref a0), (1, .int x1), (2, .int x2v)] [] δ (kt7 x2v δ)) (hk19 : ∀ (x2v : Int32) (x3v : Int32) (δ : dp), AWD l D cy m_X12_findTwo d 0 0 ev g 19 [(0, .ref a0), (1, .int x1), (2, .int x2v), (3, .int x3v)] [] δ (kt19 x2v x3v δ)) : ∀ (xs0 : Int32) (xs1 : Int32) (x2v : Int32) (x3v : Int32) (δ : dp), AWD l D cy m_X12_findTwo d 0 0 ev g 35 [(0, .ref a0), (1, .int x1), (2, .int x2v), (3, .int x3v)] [.int xs0, .int xs1] δ (J_X12_findTwo_35 N g a0 x1 kt7 kt19 xs0 xs1 x2v x3v δ) := by
    intro xs0 xs1 x2v x3v δ 
    unfold J_X12_findTwo_35
    refine w_icmp_ge 138 (μ := m_X12_findTwo) (pc := 35) dX12_findTwo_35 (by decide) (fun c_7 => ?_) (fun c_7 => ?_)
    · refine w_inb (fun x_8 e_9 => ?_)
      refine w_iinc 2 [(2, .int x_8), (0, .ref a0), (1, .int x1), (3, .int x3v)] (μ := m_X12_findTwo) (pc := 138) dX12_findTwo_138 rfl (by rw [e_9]; rfl) (by decide) rfl ?_
      refine w_goto 7 (μ := m_X12_findTwo) (pc := 141) dX12_findTwo_141 (by decide) ?_
      refine w_lv [1, 2, 0] rfl ?_
      exact hk7 _ _
    · refine w_aload_n 0 0 (μ := m_X12_findTwo) (pc := 38) dX12_findTwo_38 rfl rfl ?_
      refine w_getO (μ := m_X12_findTwo) (pc := 39) dX12_findTwo_39 fl_X12_84 ir_12_35 id_12_35 k0 (fun b_10 e_11 => ?_)
      refine w_iconst (v := 0) (μ := m_X12_findTwo) (pc := 42) dX12_findTwo_42 (by decide) ?_
      refine w_iload_n 2 2 (μ := m_X12_findTwo) (pc := 43) dX12_findTwo_43 rfl rfl ?_
      refine w_ast (μ := m_X12_findTwo) (pc := 44) dX12_findTwo_44 (wt_12_35 wt k0 e_11) ?_
      refine w_bd (fun δ_12 e_13 => ?_)
      refine w_aload_n 0 0 (μ := m_X12_findTwo) (pc := 45) dX12_findTwo_45 rfl rfl ?_
      refine w_iload_n 2 2 (μ := m_X12_findTwo) (pc := 46) dX12_findTwo_46 rfl rfl ?_
      refine w_aload_n 0 0 (μ := m_X12_findTwo) (pc := 47) dX12_findTwo_47 rfl rfl ?_
      refine w_callV (As := []) (rest := [.int x2v, .ref a0]) (μ := m_X12_findTwo) (pc := 48) dX12_findTwo_48 cv_X12_257 rfl rfl k0 (by decide) rfl (Nat.le_of_ble_eq_true rfl) (d' := d - 1) (by omega) he_i (c_X12_all wt hl (d := d - 1) (by omega) k0) (fun r_14 => ?_)
      refine w_icmp_ge 58 (μ := m_X12_findTwo) (pc := 51) dX12_findTwo_51 (by decide) (fun c_15 => ?_) (fun c_15 => ?_)
      · refine w_iconst (v := 0) (μ := m_X12_findTwo) (pc := 58) dX12_findTwo_58 (by decide) ?_
        exact t_J_X12_findTwo_59 wt hl (by omega) k0 hk7 hk19 _ _ _ _ _ k0
      · refine w_iconst (v := 1) (μ := m_X12_findTwo) (pc := 54) dX12_findTwo_54 (by decide) ?_
        refine w_goto 59 (μ := m_X12_findTwo) (pc := 55) dX12_findTwo_55 (by decide) ?_
        exact t_J_X12_findTwo_59 wt hl (by omega) k0 hk7 hk19 _ _ _ _ _ k0
def L_X12_findTwo_19 (N : Nat) (g : gp) (a0 : Nat) (x1 : Int32) (kt7 : Int32 → dp → Option (dp)) : Nat → Int32 → Int32 → dp → Option (dp)
  | 0, _, _, _ => none
  | n + 1, x2v, x3v, δ => if x1 = (1 : Int32) then (J_X12_findTwo_35 N g a0 x1 kt7 (L_X12_findTwo_19 N g a0 x1 kt7 n) 1 x3v x2v x3v δ) else ((D_X12_all N g a0 δ).bind fun r_6 => J_X12_findTwo_35 N g a0 x1 kt7 (L_X12_findTwo_19 N g a0 x1 kt7 n) (5 * r_6.1) x3v x2v x3v r_6.2)
set_option maxHeartbeats 4000000 in
set_option maxRecDepth 100000 in
theorem t_L_X12_findTwo_19 {l : Launch} {D : va_G} {cy : Nat → ClassId} {N d : Nat} {g : gp} (wt : WT g) (hl : l.stackTraces = false) (hd : 65 ≤ d) {a0 : Nat} {x1 : Int32} (k0 : q_K g a0 = 12) {kt7 : Int32 → dp → Option (dp)} (hk7 : ∀ (x2v : Int32) (δ : dp), AWD l D cy m_X12_findTwo d 0 0 ev g 7 [(0, .ref a0), (1, .int x1), (2, .int x2v)] [] δ (kt7 x2v δ)) : ∀ (n : Nat) (x2v : Int32) (x3v : Int32) (δ : dp), AWD l D cy m_X12_findTwo d 0 0 ev g 19 [(0, .ref a0), (1, .int x1), (2, .int x2v), (3, .int x3v)] [] δ (L_X12_findTwo_19 N g a0 x1 kt7 n x2v x3v δ) := by
  intro n
  induction n with
  | zero => intro x2v x3v δ ; exact w_none
  | succ n ih =>
    intro x2v x3v δ 
    unfold L_X12_findTwo_19
    refine w_iload_n 3 3 (μ := m_X12_findTwo) (pc := 19) dX12_findTwo_19 rfl rfl ?_
    refine w_iload_n 1 1 (μ := m_X12_findTwo) (pc := 20) dX12_findTwo_20 rfl rfl ?_
    refine w_iconst (v := 1) (μ := m_X12_findTwo) (pc := 21) dX12_findTwo_21 (by decide) ?_
    refine w_icmp_ne 29 (μ := m_X12_findTwo) (pc := 22) dX12_findTwo_22 (by decide) (fun c_5 => ?_) (fun c_5 => ?_)
    · refine w_iconst (v := 5) (μ := m_X12_findTwo) (pc := 29) dX12_findTwo_29 (by decide) ?_
      refine w_aload_n 0 0 (μ := m_X12_findTwo) (pc := 30) dX12_findTwo_30 rfl rfl ?_
      refine w_callV (As := []) (rest := [.int 5, .int x3v]) (μ := m_X12_findTwo) (pc := 31) dX12_findTwo_31 cv_X12_257 rfl rfl k0 (by decide) rfl (Nat.le_of_ble_eq_true rfl) (d' := d - 1) (by omega) he_i (c_X12_all wt hl (d := d - 1) (by omega) k0) (fun r_6 => ?_)
      refine w_imul (μ := m_X12_findTwo) (pc := 34) dX12_findTwo_34 ?_
      exact t_J_X12_findTwo_35 wt hl (by omega) k0 hk7 ih _ _ _ _ _
    · refine w_iconst (v := 1) (μ := m_X12_findTwo) (pc := 25) dX12_findTwo_25 (by decide) ?_
      refine w_goto 35 (μ := m_X12_findTwo) (pc := 26) dX12_findTwo_26 (by decide) ?_
      exact t_J_X12_findTwo_35 wt hl (by omega) k0 hk7 ih _ _ _ _ _
def L_X12_findTwo_7 (N : Nat) (g : gp) (a0 : Nat) (x1 : Int32) : Nat → Int32 → dp → Option (dp)
  | 0, _, _ => none
  | n + 1, x2v, δ => (D_X12_all N g a0 δ).bind fun r_3 => if (5 * r_3.1) ≤ x2v then (some r_3.2) else (L_X12_findTwo_19 N g a0 x1 (L_X12_findTwo_7 N g a0 x1 n) N x2v 0 r_3.2)
set_option maxHeartbeats 4000000 in
set_option maxRecDepth 100000 in
theorem t_L_X12_findTwo_7 {l : Launch} {D : va_G} {cy : Nat → ClassId} {N d : Nat} {g : gp} (wt : WT g) (hl : l.stackTraces = false) (hd : 65 ≤ d) {a0 : Nat} {x1 : Int32} (k0 : q_K g a0 = 12) : ∀ (n : Nat) (x2v : Int32) (δ : dp), AWD l D cy m_X12_findTwo d 0 0 ev g 7 [(0, .ref a0), (1, .int x1), (2, .int x2v)] [] δ (L_X12_findTwo_7 N g a0 x1 n x2v δ) := by
  intro n
  induction n with
  | zero => intro x2v δ ; exact w_none
  | succ n ih =>
    intro x2v δ 
    unfold L_X12_findTwo_7
    refine w_iload_n 2 2 (μ := m_X12_findTwo) (pc := 7) dX12_findTwo_7 rfl rfl ?_
    refine w_iconst (v := 5) (μ := m_X12_findTwo) (pc := 8) dX12_findTwo_8 (by decide) ?_
    refine w_aload_n 0 0 (μ := m_X12_findTwo) (pc := 9) dX12_findTwo_9 rfl rfl ?_
    refine w_callV (As := []) (rest := [.int 5, .int x2v]) (μ := m_X12_findTwo) (pc := 10) dX12_findTwo_10 cv_X12_257 rfl rfl k0 (by decide) rfl (Nat.le_of_ble_eq_true rfl) (d' := d - 1) (by omega) he_i (c_X12_all wt hl (d := d - 1) (by omega) k0) (fun r_3 => ?_)
    refine w_imul (μ := m_X12_findTwo) (pc := 13) dX12_findTwo_13 ?_
    refine w_icmp_ge 144 (μ := m_X12_findTwo) (pc := 14) dX12_findTwo_14 (by decide) (fun c_4 => ?_) (fun c_4 => ?_)
    · exact w_vret (μ := m_X12_findTwo) (pc := 144) dX12_findTwo_144 rfl rfl
    · refine w_iconst (v := 0) (μ := m_X12_findTwo) (pc := 17) dX12_findTwo_17 (by decide) ?_
      refine w_istore_n [(3, .int 0), (0, .ref a0), (1, .int x1), (2, .int x2v)] (μ := m_X12_findTwo) (pc := 18) dX12_findTwo_18 rfl (by decide) rfl ?_
      refine w_lv [1, 2, 3, 0] rfl ?_
      exact t_L_X12_findTwo_19 wt hl (by omega) k0 ih N _ _ _
def D_X12_findTwo (N : Nat) (g : gp) (a0 : Nat) (x1 : Int32) (δ : dp) : Option (dp) :=
  bd (s_I δ 12 45 a0 0) fun δ_1 => L_X12_findTwo_7 N g a0 x1 N 0 δ_1
set_option maxHeartbeats 4000000 in
set_option maxRecDepth 100000 in
theorem c_X12_findTwo {l : Launch} {D : va_G} {cy : Nat → ClassId} {N d : Nat} {g : gp} (wt : WT g) (hl : l.stackTraces = false) (hd : 65 ≤ d) {a0 : Nat} {x1 : Int32} {δ : dp} (k0 : q_K g a0 = 12) : CalD l D cy m_X12_findTwo d 0 0 ev g [.ref a0, .int x1] δ (D_X12_findTwo N g a0 x1 δ) := by
  refine CalD.of (by decide +kernel) (Nat.le_of_ble_eq_true rfl) hl ?_
  unfold D_X12_findTwo
  refine w_aload_n 0 0 (μ := m_X12_findTwo) (pc := 0) dX12_findTwo_0 rfl rfl ?_
  refine w_iconst (v := 0) (μ := m_X12_findTwo) (pc := 1) dX12_findTwo_1 (by decide) ?_
  refine w_putI (μ := m_X12_findTwo) (pc := 2) dX12_findTwo_2 fl_X12_391 flw_12_45 ir_12_45 k0 ?_
  refine w_bd (fun δ_1 e_2 => ?_)
  refine w_iconst (v := 0) (μ := m_X12_findTwo) (pc := 5) dX12_findTwo_5 (by decide) ?_
  refine w_istore_n [(2, .int 0), (0, .ref a0), (1, .int x1)] (μ := m_X12_findTwo) (pc := 6) dX12_findTwo_6 rfl (by decide) rfl ?_
  refine w_lv [1, 2, 0] rfl ?_
  exact t_L_X12_findTwo_7 wt hl (by omega) k0 N _ _
def J_X12_rows_21 (N : Nat) (g : gp) (a0 : Nat) (x1 : Int32) (δ : dp) : Option (dp) :=
  some δ
set_option maxHeartbeats 4000000 in
set_option maxRecDepth 100000 in
theorem t_J_X12_rows_21 {l : Launch} {D : va_G} {cy : Nat → ClassId} {N d : Nat} {g : gp} (wt : WT g) (hl : l.stackTraces = false) (hd : 67 ≤ d) {a0 : Nat} {x1 : Int32} (k0 : q_K g a0 = 12) : ∀ (δ : dp), AWD l D cy m_X12_rows d 0 0 ev g 21 [] [] δ (J_X12_rows_21 N g a0 x1 δ) := by
    intro  δ 
    unfold J_X12_rows_21
    exact w_vret (μ := m_X12_rows) (pc := 21) dX12_rows_21 rfl rfl
def D_X12_rows (N : Nat) (g : gp) (a0 : Nat) (x1 : Int32) (δ : dp) : Option (dp) :=
  if (4 : Int32) < (q_I δ 12 10 a0) then ((D_X12_findTwo N g a0 x1 δ).bind fun r_2 => J_X12_rows_21 N g a0 x1 r_2) else ((D_X12_findRow N g a0 x1 δ).bind fun r_3 => J_X12_rows_21 N g a0 x1 r_3)
set_option maxHeartbeats 4000000 in
set_option maxRecDepth 100000 in
theorem c_X12_rows {l : Launch} {D : va_G} {cy : Nat → ClassId} {N d : Nat} {g : gp} (wt : WT g) (hl : l.stackTraces = false) (hd : 67 ≤ d) {a0 : Nat} {x1 : Int32} {δ : dp} (k0 : q_K g a0 = 12) : CalD l D cy m_X12_rows d 0 0 ev g [.ref a0, .int x1] δ (D_X12_rows N g a0 x1 δ) := by
  refine CalD.of (by decide +kernel) (Nat.le_of_ble_eq_true rfl) hl ?_
  unfold D_X12_rows
  refine w_aload_n 0 0 (μ := m_X12_rows) (pc := 0) dX12_rows_0 rfl rfl ?_
  refine w_getI (μ := m_X12_rows) (pc := 1) dX12_rows_1 fl_X12_23 ir_12_10 k0 ?_
  refine w_iconst (v := 4) (μ := m_X12_rows) (pc := 4) dX12_rows_4 (by decide) ?_
  refine w_icmp_gt 16 (μ := m_X12_rows) (pc := 5) dX12_rows_5 (by decide) (fun c_1 => ?_) (fun c_1 => ?_)
  · refine w_aload_n 0 0 (μ := m_X12_rows) (pc := 16) dX12_rows_16 rfl rfl ?_
    refine w_iload_n 1 1 (μ := m_X12_rows) (pc := 17) dX12_rows_17 rfl rfl ?_
    refine w_callV (As := [.int x1]) (rest := []) (μ := m_X12_rows) (pc := 18) dX12_rows_18 cv_X12_397 rfl rfl k0 (by decide) rfl (Nat.le_of_ble_eq_true rfl) (d' := d - 1) (by omega) he_v (c_X12_findTwo wt hl (d := d - 1) (by omega) k0) (fun r_2 => ?_)
    refine w_lv [] rfl ?_
    exact t_J_X12_rows_21 wt hl (by omega) k0 _
  · refine w_aload_n 0 0 (μ := m_X12_rows) (pc := 8) dX12_rows_8 rfl rfl ?_
    refine w_iload_n 1 1 (μ := m_X12_rows) (pc := 9) dX12_rows_9 rfl rfl ?_
    refine w_callV (As := [.int x1]) (rest := []) (μ := m_X12_rows) (pc := 10) dX12_rows_10 cv_X12_394 rfl rfl k0 (by decide) rfl (Nat.le_of_ble_eq_true rfl) (d' := d - 1) (by omega) he_v (c_X12_findRow wt hl (d := d - 1) (by omega) k0) (fun r_3 => ?_)
    refine w_goto 21 (μ := m_X12_rows) (pc := 13) dX12_rows_13 (by decide) ?_
    refine w_lv [] rfl ?_
    exact t_J_X12_rows_21 wt hl (by omega) k0 _
def D_X12_row (N : Nat) (g : gp) (a0 : Nat) (x1 : Int32) (δ : dp) : Option (Int32 × dp) :=
  bd (s_I δ 12 0 a0 0) fun δ_1 => (D_X12_isRow N g a0 x1 δ_1).bind fun r_3 => (D_X12_may N g a0 r_3.1 1 2 r_3.2).bind fun r_4 => if r_4.1 = 0 then (some (0, r_4.2)) else ((D_X12_rows N g a0 x1 r_4.2).bind fun r_6 => some (q_I r_6 12 45 a0, r_6))
set_option maxHeartbeats 4000000 in
set_option maxRecDepth 100000 in
theorem c_X12_row {l : Launch} {D : va_G} {cy : Nat → ClassId} {N d : Nat} {g : gp} (wt : WT g) (hl : l.stackTraces = false) (hd : 68 ≤ d) {a0 : Nat} {x1 : Int32} {δ : dp} (k0 : q_K g a0 = 12) : CalD l D cy m_X12_row d 0 0 ei g [.ref a0, .int x1] δ (D_X12_row N g a0 x1 δ) := by
  refine CalD.of (by decide +kernel) (Nat.le_of_ble_eq_true rfl) hl ?_
  unfold D_X12_row
  refine w_aload_n 0 0 (μ := m_X12_row) (pc := 0) dX12_row_0 rfl rfl ?_
  refine w_iconst (v := 0) (μ := m_X12_row) (pc := 1) dX12_row_1 (by decide) ?_
  refine w_putI (μ := m_X12_row) (pc := 2) dX12_row_2 fl_X12_1 flw_12_0 ir_12_0 k0 ?_
  refine w_bd (fun δ_1 e_2 => ?_)
  refine w_aload_n 0 0 (μ := m_X12_row) (pc := 5) dX12_row_5 rfl rfl ?_
  refine w_aload_n 0 0 (μ := m_X12_row) (pc := 6) dX12_row_6 rfl rfl ?_
  refine w_iload_n 1 1 (μ := m_X12_row) (pc := 7) dX12_row_7 rfl rfl ?_
  refine w_callV (As := [.int x1]) (rest := [.ref a0]) (μ := m_X12_row) (pc := 8) dX12_row_8 cv_X12_400 rfl rfl k0 (by decide) rfl (Nat.le_of_ble_eq_true rfl) (d' := d - 1) (by omega) he_i (c_X12_isRow wt hl (d := d - 1) (by omega) k0) (fun r_3 => ?_)
  refine w_iconst (v := 1) (μ := m_X12_row) (pc := 11) dX12_row_11 (by decide) ?_
  refine w_iconst (v := 2) (μ := m_X12_row) (pc := 12) dX12_row_12 (by decide) ?_
  refine w_callV (As := [.int r_3.1, .int 1, .int 2]) (rest := []) (μ := m_X12_row) (pc := 13) dX12_row_13 cv_X12_157 rfl rfl k0 (by decide) rfl (Nat.le_of_ble_eq_true rfl) (d' := d - 1) (by omega) he_i (c_X12_may wt hl (d := d - 1) (by omega) k0) (fun r_4 => ?_)
  refine w_if_ne 21 (μ := m_X12_row) (pc := 16) dX12_row_16 (by decide) (fun c_5 => ?_) (fun c_5 => ?_)
  · refine w_aload_n 0 0 (μ := m_X12_row) (pc := 21) dX12_row_21 rfl rfl ?_
    refine w_iload_n 1 1 (μ := m_X12_row) (pc := 22) dX12_row_22 rfl rfl ?_
    refine w_callV (As := [.int x1]) (rest := []) (μ := m_X12_row) (pc := 23) dX12_row_23 cv_X12_403 rfl rfl k0 (by decide) rfl (Nat.le_of_ble_eq_true rfl) (d' := d - 1) (by omega) he_v (c_X12_rows wt hl (d := d - 1) (by omega) k0) (fun r_6 => ?_)
    refine w_aload_n 0 0 (μ := m_X12_row) (pc := 26) dX12_row_26 rfl rfl ?_
    refine w_getI (μ := m_X12_row) (pc := 27) dX12_row_27 fl_X12_391 ir_12_45 k0 ?_
    exact w_iret (μ := m_X12_row) (pc := 30) dX12_row_30 rfl rfl
  · refine w_iconst (v := 0) (μ := m_X12_row) (pc := 19) dX12_row_19 (by decide) ?_
    exact w_iret (μ := m_X12_row) (pc := 20) dX12_row_20 rfl rfl
def J_X12_rowCall_67 (N : Nat) (g : gp) (a0 : Nat) (x1 : Int32) (x2 : Int32) (xs0 : Int32) (δ : dp) : Option (Int32 × dp) :=
  some (xs0, δ)
set_option maxHeartbeats 4000000 in
set_option maxRecDepth 100000 in
theorem t_J_X12_rowCall_67 {l : Launch} {D : va_G} {cy : Nat → ClassId} {N d : Nat} {g : gp} (wt : WT g) (hl : l.stackTraces = false) (hd : 68 ≤ d) {a0 : Nat} {x1 : Int32} {x2 : Int32} (k0 : q_K g a0 = 12) : ∀ (xs0 : Int32) (δ : dp), AWD l D cy m_X12_rowCall d 0 0 ei g 67 [] [.int xs0] δ (J_X12_rowCall_67 N g a0 x1 x2 xs0 δ) := by
    intro xs0 δ 
    unfold J_X12_rowCall_67
    exact w_iret (μ := m_X12_rowCall) (pc := 67) dX12_rowCall_67 rfl rfl
def D_X12_rowCall (N : Nat) (g : gp) (a0 : Nat) (x1 : Int32) (x2 : Int32) (δ : dp) : Option (Int32 × dp) :=
  bd (s_I δ 12 0 a0 0) fun δ_1 => (D_X12_isRow N g a0 x1 δ_1).bind fun r_3 => (D_X12_may N g a0 r_3.1 1 2 r_3.2).bind fun r_4 => if r_4.1 = 0 then (some (0, r_4.2)) else ((D_X12_rows N g a0 x1 r_4.2).bind fun r_6 => (D_X12_within N g x2 0 (x1 - 1) r_6).bind fun r_7 => if r_7.1 = 0 then (J_X12_rowCall_67 N g a0 x1 x2 ((-1)) r_7.2) else ((q_O g 12 44 a0).bind fun b_9 => if x2 < 0 ∨ q_N g b_9 ≤ x2.toNatClampNeg then none else (D_X12_all N g a0 r_7.2).bind fun r_11 => if r_11.1 = 0 then none else (q_O g 12 44 a0).bind fun b_13 => if x2 < 0 ∨ q_N g b_13 ≤ x2.toNatClampNeg then none else (D_X12_all N g a0 r_11.2).bind fun r_15 => if r_15.1 = 0 then none else J_X12_rowCall_67 N g a0 x1 x2 ((100 * ((q_R r_7.2 b_9 x2.toNatClampNeg) / r_11.1)) + ((q_R r_11.2 b_13 x2.toNatClampNeg) - (q_R r_11.2 b_13 x2.toNatClampNeg) / r_15.1 * r_15.1)) r_15.2))
set_option maxHeartbeats 4000000 in
set_option maxRecDepth 100000 in
theorem c_X12_rowCall {l : Launch} {D : va_G} {cy : Nat → ClassId} {N d : Nat} {g : gp} (wt : WT g) (hl : l.stackTraces = false) (hd : 68 ≤ d) {a0 : Nat} {x1 : Int32} {x2 : Int32} {δ : dp} (k0 : q_K g a0 = 12) : CalD l D cy m_X12_rowCall d 0 0 ei g [.ref a0, .int x1, .int x2] δ (D_X12_rowCall N g a0 x1 x2 δ) := by
  refine CalD.of (by decide +kernel) (Nat.le_of_ble_eq_true rfl) hl ?_
  unfold D_X12_rowCall
  refine w_aload_n 0 0 (μ := m_X12_rowCall) (pc := 0) dX12_rowCall_0 rfl rfl ?_
  refine w_iconst (v := 0) (μ := m_X12_rowCall) (pc := 1) dX12_rowCall_1 (by decide) ?_
  refine w_putI (μ := m_X12_rowCall) (pc := 2) dX12_rowCall_2 fl_X12_1 flw_12_0 ir_12_0 k0 ?_
  refine w_bd (fun δ_1 e_2 => ?_)
  refine w_aload_n 0 0 (μ := m_X12_rowCall) (pc := 5) dX12_rowCall_5 rfl rfl ?_
  refine w_aload_n 0 0 (μ := m_X12_rowCall) (pc := 6) dX12_rowCall_6 rfl rfl ?_
  refine w_iload_n 1 1 (μ := m_X12_rowCall) (pc := 7) dX12_rowCall_7 rfl rfl ?_
  refine w_callV (As := [.int x1]) (rest := [.ref a0]) (μ := m_X12_rowCall) (pc := 8) dX12_rowCall_8 cv_X12_400 rfl rfl k0 (by decide) rfl (Nat.le_of_ble_eq_true rfl) (d' := d - 1) (by omega) he_i (c_X12_isRow wt hl (d := d - 1) (by omega) k0) (fun r_3 => ?_)
  refine w_iconst (v := 1) (μ := m_X12_rowCall) (pc := 11) dX12_rowCall_11 (by decide) ?_
  refine w_iconst (v := 2) (μ := m_X12_rowCall) (pc := 12) dX12_rowCall_12 (by decide) ?_
  refine w_callV (As := [.int r_3.1, .int 1, .int 2]) (rest := []) (μ := m_X12_rowCall) (pc := 13) dX12_rowCall_13 cv_X12_157 rfl rfl k0 (by decide) rfl (Nat.le_of_ble_eq_true rfl) (d' := d - 1) (by omega) he_i (c_X12_may wt hl (d := d - 1) (by omega) k0) (fun r_4 => ?_)
  refine w_if_ne 21 (μ := m_X12_rowCall) (pc := 16) dX12_rowCall_16 (by decide) (fun c_5 => ?_) (fun c_5 => ?_)
  · refine w_aload_n 0 0 (μ := m_X12_rowCall) (pc := 21) dX12_rowCall_21 rfl rfl ?_
    refine w_iload_n 1 1 (μ := m_X12_rowCall) (pc := 22) dX12_rowCall_22 rfl rfl ?_
    refine w_callV (As := [.int x1]) (rest := []) (μ := m_X12_rowCall) (pc := 23) dX12_rowCall_23 cv_X12_403 rfl rfl k0 (by decide) rfl (Nat.le_of_ble_eq_true rfl) (d' := d - 1) (by omega) he_v (c_X12_rows wt hl (d := d - 1) (by omega) k0) (fun r_6 => ?_)
    refine w_iload_n 2 2 (μ := m_X12_rowCall) (pc := 26) dX12_rowCall_26 rfl rfl ?_
    refine w_iconst (v := 0) (μ := m_X12_rowCall) (pc := 27) dX12_rowCall_27 (by decide) ?_
    refine w_iload_n 1 1 (μ := m_X12_rowCall) (pc := 28) dX12_rowCall_28 rfl rfl ?_
    refine w_iconst (v := 1) (μ := m_X12_rowCall) (pc := 29) dX12_rowCall_29 (by decide) ?_
    refine w_isub (μ := m_X12_rowCall) (pc := 30) dX12_rowCall_30 ?_
    refine w_callS (As := [.int x2, .int 0, .int (x1 - 1)]) (rest := []) (μ := m_X12_rowCall) (pc := 31) dX12_rowCall_31 cs_X12_250 rfl rfl (Nat.le_of_ble_eq_true rfl) (d' := d - 1) (by omega) he_i (c_X12_within wt hl (d := d - 1) (by omega) ) (fun r_7 => ?_)
    refine w_if_eq 66 (μ := m_X12_rowCall) (pc := 34) dX12_rowCall_34 (by decide) (fun c_8 => ?_) (fun c_8 => ?_)
    · refine w_iconst (v := (-1)) (μ := m_X12_rowCall) (pc := 66) dX12_rowCall_66 (by decide) ?_
      refine w_lv [] rfl ?_
      exact t_J_X12_rowCall_67 wt hl (by omega) k0 _ _
    · refine w_bipush (v := 100) (μ := m_X12_rowCall) (pc := 37) dX12_rowCall_37 (by decide) ?_
      refine w_aload_n 0 0 (μ := m_X12_rowCall) (pc := 39) dX12_rowCall_39 rfl rfl ?_
      refine w_getO (μ := m_X12_rowCall) (pc := 40) dX12_rowCall_40 fl_X12_97 ir_12_44 id_12_44 k0 (fun b_9 e_10 => ?_)
      refine w_iload_n 2 2 (μ := m_X12_rowCall) (pc := 43) dX12_rowCall_43 rfl rfl ?_
      refine w_ald (μ := m_X12_rowCall) (pc := 44) dX12_rowCall_44 (wt_12_44 wt k0 e_10) ?_
      refine w_aload_n 0 0 (μ := m_X12_rowCall) (pc := 45) dX12_rowCall_45 rfl rfl ?_
      refine w_callV (As := []) (rest := [.int (q_R r_7.2 b_9 x2.toNatClampNeg), .int 100]) (μ := m_X12_rowCall) (pc := 46) dX12_rowCall_46 cv_X12_257 rfl rfl k0 (by decide) rfl (Nat.le_of_ble_eq_true rfl) (d' := d - 1) (by omega) he_i (c_X12_all wt hl (d := d - 1) (by omega) k0) (fun r_11 => ?_)
      refine w_gn (fun z_12 => ?_)
      refine w_idiv (μ := m_X12_rowCall) (pc := 49) dX12_rowCall_49 z_12 ?_
      refine w_imul (μ := m_X12_rowCall) (pc := 50) dX12_rowCall_50 ?_
      refine w_aload_n 0 0 (μ := m_X12_rowCall) (pc := 51) dX12_rowCall_51 rfl rfl ?_
      refine w_getO (μ := m_X12_rowCall) (pc := 52) dX12_rowCall_52 fl_X12_97 ir_12_44 id_12_44 k0 (fun b_13 e_14 => ?_)
      refine w_iload_n 2 2 (μ := m_X12_rowCall) (pc := 55) dX12_rowCall_55 rfl rfl ?_
      refine w_ald (μ := m_X12_rowCall) (pc := 56) dX12_rowCall_56 (wt_12_44 wt k0 e_14) ?_
      refine w_aload_n 0 0 (μ := m_X12_rowCall) (pc := 57) dX12_rowCall_57 rfl rfl ?_
      refine w_callV (As := []) (rest := [.int (q_R r_11.2 b_13 x2.toNatClampNeg), .int (100 * ((q_R r_7.2 b_9 x2.toNatClampNeg) / r_11.1))]) (μ := m_X12_rowCall) (pc := 58) dX12_rowCall_58 cv_X12_257 rfl rfl k0 (by decide) rfl (Nat.le_of_ble_eq_true rfl) (d' := d - 1) (by omega) he_i (c_X12_all wt hl (d := d - 1) (by omega) k0) (fun r_15 => ?_)
      refine w_gn (fun z_16 => ?_)
      refine w_irem (μ := m_X12_rowCall) (pc := 61) dX12_rowCall_61 z_16 ?_
      refine w_iadd (μ := m_X12_rowCall) (pc := 62) dX12_rowCall_62 ?_
      refine w_goto 67 (μ := m_X12_rowCall) (pc := 63) dX12_rowCall_63 (by decide) ?_
      refine w_lv [] rfl ?_
      exact t_J_X12_rowCall_67 wt hl (by omega) k0 _ _
  · refine w_iconst (v := 0) (μ := m_X12_rowCall) (pc := 19) dX12_rowCall_19 (by decide) ?_
    exact w_iret (μ := m_X12_rowCall) (pc := 20) dX12_rowCall_20 rfl rfl
def L_X12_goesTo_14 (N : Nat) (g : gp) (a0 : Nat) (x1 : Int32) (x2 : Int32) : Nat → Int32 → dp → Option (dp)
  | 0, _, _ => none
  | n + 1, x3v, δ => if x2 ≤ x3v then (some δ) else ((D_X12_changes N g a0 x1 x3v δ).bind fun r_7 => bi (x3v + 1) fun x_8 => L_X12_goesTo_14 N g a0 x1 x2 n x_8 r_7)
set_option maxHeartbeats 4000000 in
set_option maxRecDepth 100000 in
theorem t_L_X12_goesTo_14 {l : Launch} {D : va_G} {cy : Nat → ClassId} {N d : Nat} {g : gp} (wt : WT g) (hl : l.stackTraces = false) (hd : 4 ≤ d) {a0 : Nat} {x1 : Int32} {x2 : Int32} (k0 : q_K g a0 = 12) : ∀ (n : Nat) (x3v : Int32) (δ : dp), AWD l D cy m_X12_goesTo d 0 0 ev g 14 [(0, .ref a0), (1, .int x1), (2, .int x2), (3, .int x3v)] [] δ (L_X12_goesTo_14 N g a0 x1 x2 n x3v δ) := by
  intro n
  induction n with
  | zero => intro x3v δ ; exact w_none
  | succ n ih =>
    intro x3v δ 
    unfold L_X12_goesTo_14
    refine w_iload_n 3 3 (μ := m_X12_goesTo) (pc := 14) dX12_goesTo_14 rfl rfl ?_
    refine w_iload_n 2 2 (μ := m_X12_goesTo) (pc := 15) dX12_goesTo_15 rfl rfl ?_
    refine w_icmp_ge 31 (μ := m_X12_goesTo) (pc := 16) dX12_goesTo_16 (by decide) (fun c_6 => ?_) (fun c_6 => ?_)
    · exact w_vret (μ := m_X12_goesTo) (pc := 31) dX12_goesTo_31 rfl rfl
    · refine w_aload_n 0 0 (μ := m_X12_goesTo) (pc := 19) dX12_goesTo_19 rfl rfl ?_
      refine w_iload_n 1 1 (μ := m_X12_goesTo) (pc := 20) dX12_goesTo_20 rfl rfl ?_
      refine w_iload_n 3 3 (μ := m_X12_goesTo) (pc := 21) dX12_goesTo_21 rfl rfl ?_
      refine w_callV (As := [.int x1, .int x3v]) (rest := []) (μ := m_X12_goesTo) (pc := 22) dX12_goesTo_22 cv_X12_412 rfl rfl k0 (by decide) rfl (Nat.le_of_ble_eq_true rfl) (d' := d - 1) (by omega) he_v (c_X12_changes wt hl (d := d - 1) (by omega) k0) (fun r_7 => ?_)
      refine w_inb (fun x_8 e_9 => ?_)
      refine w_iinc 3 [(3, .int x_8), (0, .ref a0), (1, .int x1), (2, .int x2)] (μ := m_X12_goesTo) (pc := 25) dX12_goesTo_25 rfl (by rw [e_9]; rfl) (by decide) rfl ?_
      refine w_goto 14 (μ := m_X12_goesTo) (pc := 28) dX12_goesTo_28 (by decide) ?_
      refine w_lv [1, 2, 3, 0] rfl ?_
      exact ih _ _
def D_X12_goesTo (N : Nat) (g : gp) (a0 : Nat) (x1 : Int32) (x2 : Int32) (δ : dp) : Option (dp) :=
  (D_X12_keeps N g a0 x1 δ).bind fun r_1 => (q_O g 12 14 a0).bind fun b_2 => if x1 < 0 ∨ q_N g b_2 ≤ x1.toNatClampNeg then none else bd (s_R r_1 b_2 x1.toNatClampNeg 0) fun δ_4 => L_X12_goesTo_14 N g a0 x1 x2 N 0 δ_4
set_option maxHeartbeats 4000000 in
set_option maxRecDepth 100000 in
theorem c_X12_goesTo {l : Launch} {D : va_G} {cy : Nat → ClassId} {N d : Nat} {g : gp} (wt : WT g) (hl : l.stackTraces = false) (hd : 4 ≤ d) {a0 : Nat} {x1 : Int32} {x2 : Int32} {δ : dp} (k0 : q_K g a0 = 12) : CalD l D cy m_X12_goesTo d 0 0 ev g [.ref a0, .int x1, .int x2] δ (D_X12_goesTo N g a0 x1 x2 δ) := by
  refine CalD.of (by decide +kernel) (Nat.le_of_ble_eq_true rfl) hl ?_
  unfold D_X12_goesTo
  refine w_aload_n 0 0 (μ := m_X12_goesTo) (pc := 0) dX12_goesTo_0 rfl rfl ?_
  refine w_iload_n 1 1 (μ := m_X12_goesTo) (pc := 1) dX12_goesTo_1 rfl rfl ?_
  refine w_callV (As := [.int x1]) (rest := []) (μ := m_X12_goesTo) (pc := 2) dX12_goesTo_2 cv_X12_409 rfl rfl k0 (by decide) rfl (Nat.le_of_ble_eq_true rfl) (d' := d - 1) (by omega) he_v (c_X12_keeps wt hl (d := d - 1) (by omega) k0) (fun r_1 => ?_)
  refine w_aload_n 0 0 (μ := m_X12_goesTo) (pc := 5) dX12_goesTo_5 rfl rfl ?_
  refine w_getO (μ := m_X12_goesTo) (pc := 6) dX12_goesTo_6 fl_X12_36 ir_12_14 id_12_14 k0 (fun b_2 e_3 => ?_)
  refine w_iload_n 1 1 (μ := m_X12_goesTo) (pc := 9) dX12_goesTo_9 rfl rfl ?_
  refine w_iconst (v := 0) (μ := m_X12_goesTo) (pc := 10) dX12_goesTo_10 (by decide) ?_
  refine w_ast (μ := m_X12_goesTo) (pc := 11) dX12_goesTo_11 (wt_12_14 wt k0 e_3) ?_
  refine w_bd (fun δ_4 e_5 => ?_)
  refine w_iconst (v := 0) (μ := m_X12_goesTo) (pc := 12) dX12_goesTo_12 (by decide) ?_
  refine w_istore_n [(3, .int 0), (0, .ref a0), (1, .int x1), (2, .int x2)] (μ := m_X12_goesTo) (pc := 13) dX12_goesTo_13 rfl (by decide) rfl ?_
  refine w_lv [1, 2, 3, 0] rfl ?_
  exact t_L_X12_goesTo_14 wt hl (by omega) k0 N _ _
def J_X12_was_46 (N : Nat) (g : gp) (a0 : Nat) (x1 : Int32) (x2 : Int32) (x3 : Int32) (δ : dp) : Option (Int32 × dp) :=
  some (0, δ)
set_option maxHeartbeats 4000000 in
set_option maxRecDepth 100000 in
theorem t_J_X12_was_46 {l : Launch} {D : va_G} {cy : Nat → ClassId} {N d : Nat} {g : gp} (wt : WT g) (hl : l.stackTraces = false) (hd : 5 ≤ d) {a0 : Nat} {x1 : Int32} {x2 : Int32} {x3 : Int32} (k0 : q_K g a0 = 12) : ∀ (δ : dp), AWD l D cy m_X12_was d 0 0 ei g 46 [] [] δ (J_X12_was_46 N g a0 x1 x2 x3 δ) := by
    intro  δ 
    unfold J_X12_was_46
    refine w_iconst (v := 0) (μ := m_X12_was) (pc := 46) dX12_was_46 (by decide) ?_
    exact w_iret (μ := m_X12_was) (pc := 47) dX12_was_47 rfl rfl
def J_X12_was_94 (N : Nat) (g : gp) (a0 : Nat) (x1 : Int32) (x2 : Int32) (x3 : Int32) (xs0 : Int32) (δ : dp) : Option (Int32 × dp) :=
  (D_X12_comesBack N g a0 x1 δ).bind fun r_15 => some (xs0, r_15)
set_option maxHeartbeats 4000000 in
set_option maxRecDepth 100000 in
theorem t_J_X12_was_94 {l : Launch} {D : va_G} {cy : Nat → ClassId} {N d : Nat} {g : gp} (wt : WT g) (hl : l.stackTraces = false) (hd : 5 ≤ d) {a0 : Nat} {x1 : Int32} {x2 : Int32} {x3 : Int32} (k0 : q_K g a0 = 12) : ∀ (xs0 : Int32) (δ : dp), AWD l D cy m_X12_was d 0 0 ei g 94 [(0, .ref a0), (1, .int x1)] [.int xs0] δ (J_X12_was_94 N g a0 x1 x2 x3 xs0 δ) := by
    intro xs0 δ 
    unfold J_X12_was_94
    refine w_istore [(4, .int xs0), (0, .ref a0), (1, .int x1)] (μ := m_X12_was) (pc := 94) dX12_was_94 (by decide) rfl ?_
    refine w_aload_n 1 0 (μ := m_X12_was) (pc := 96) dX12_was_96 rfl rfl ?_
    refine w_iload_n 2 1 (μ := m_X12_was) (pc := 97) dX12_was_97 rfl rfl ?_
    refine w_callV (As := [.int x1]) (rest := []) (μ := m_X12_was) (pc := 98) dX12_was_98 cv_X12_421 rfl rfl k0 (by decide) rfl (Nat.le_of_ble_eq_true rfl) (d' := d - 1) (by omega) he_v (c_X12_comesBack wt hl (d := d - 1) (by omega) k0) (fun r_15 => ?_)
    refine w_iload 0 (μ := m_X12_was) (pc := 101) dX12_was_101 rfl ?_
    exact w_iret (μ := m_X12_was) (pc := 103) dX12_was_103 rfl rfl
def J_X12_was_38 (N : Nat) (g : gp) (a0 : Nat) (x1 : Int32) (x2 : Int32) (x3 : Int32) (xs0 : Int32) (as1 : Nat) (δ : dp) : Option (Int32 × dp) :=
  (D_X12_may N g as1 xs0 2 2 δ).bind fun r_7 => if r_7.1 = 0 then (J_X12_was_46 N g a0 x1 x2 x3 r_7.2) else ((D_X12_goesTo N g a0 x1 x2 r_7.2).bind fun r_9 => if x3 = 0 then ((q_O g 12 14 a0).bind fun b_17 => if x1 < 0 ∨ q_N g b_17 ≤ x1.toNatClampNeg then none else J_X12_was_94 N g a0 x1 x2 x3 (q_R r_9 b_17 x1.toNatClampNeg) r_9) else (if x3 = (1 : Int32) then ((D_X12_numberAt N g a0 x1 0 r_9).bind fun r_16 => J_X12_was_94 N g a0 x1 x2 x3 r_16.1 r_16.2) else ((q_O g 12 14 a0).bind fun b_12 => if x1 < 0 ∨ q_N g b_12 ≤ x1.toNatClampNeg then none else (D_X12_numberAt N g a0 x1 ((q_R r_9 b_12 x1.toNatClampNeg) - 1) r_9).bind fun r_14 => J_X12_was_94 N g a0 x1 x2 x3 r_14.1 r_14.2)))
set_option maxHeartbeats 4000000 in
set_option maxRecDepth 100000 in
theorem t_J_X12_was_38 {l : Launch} {D : va_G} {cy : Nat → ClassId} {N d : Nat} {g : gp} (wt : WT g) (hl : l.stackTraces = false) (hd : 5 ≤ d) {a0 : Nat} {x1 : Int32} {x2 : Int32} {x3 : Int32} (k0 : q_K g a0 = 12) : ∀ (xs0 : Int32) (as1 : Nat) (δ : dp), q_K g as1 = 12 → AWD l D cy m_X12_was d 0 0 ei g 38 [(0, .ref a0), (1, .int x1), (2, .int x2), (3, .int x3)] [.int xs0, .ref as1] δ (J_X12_was_38 N g a0 x1 x2 x3 xs0 as1 δ) := by
    intro xs0 as1 δ has1
    unfold J_X12_was_38
    refine w_iconst (v := 2) (μ := m_X12_was) (pc := 38) dX12_was_38 (by decide) ?_
    refine w_iconst (v := 2) (μ := m_X12_was) (pc := 39) dX12_was_39 (by decide) ?_
    refine w_callV (As := [.int xs0, .int 2, .int 2]) (rest := []) (μ := m_X12_was) (pc := 40) dX12_was_40 cv_X12_157 rfl rfl has1 (by decide) rfl (Nat.le_of_ble_eq_true rfl) (d' := d - 1) (by omega) he_i (c_X12_may wt hl (d := d - 1) (by omega) has1) (fun r_7 => ?_)
    refine w_if_ne 48 (μ := m_X12_was) (pc := 43) dX12_was_43 (by decide) (fun c_8 => ?_) (fun c_8 => ?_)
    · refine w_aload_n 0 0 (μ := m_X12_was) (pc := 48) dX12_was_48 rfl rfl ?_
      refine w_iload_n 1 1 (μ := m_X12_was) (pc := 49) dX12_was_49 rfl rfl ?_
      refine w_iload_n 2 2 (μ := m_X12_was) (pc := 50) dX12_was_50 rfl rfl ?_
      refine w_callV (As := [.int x1, .int x2]) (rest := []) (μ := m_X12_was) (pc := 51) dX12_was_51 cv_X12_418 rfl rfl k0 (by decide) rfl (Nat.le_of_ble_eq_true rfl) (d' := d - 1) (by omega) he_v (c_X12_goesTo wt hl (d := d - 1) (by omega) k0) (fun r_9 => ?_)
      refine w_iload_n 3 3 (μ := m_X12_was) (pc := 54) dX12_was_54 rfl rfl ?_
      refine w_if_ne 67 (μ := m_X12_was) (pc := 55) dX12_was_55 (by decide) (fun c_10 => ?_) (fun c_10 => ?_)
      · refine w_iload_n 3 3 (μ := m_X12_was) (pc := 67) dX12_was_67 rfl rfl ?_
        refine w_iconst (v := 1) (μ := m_X12_was) (pc := 68) dX12_was_68 (by decide) ?_
        refine w_icmp_ne 81 (μ := m_X12_was) (pc := 69) dX12_was_69 (by decide) (fun c_11 => ?_) (fun c_11 => ?_)
        · refine w_aload_n 0 0 (μ := m_X12_was) (pc := 81) dX12_was_81 rfl rfl ?_
          refine w_iload_n 1 1 (μ := m_X12_was) (pc := 82) dX12_was_82 rfl rfl ?_
          refine w_aload_n 0 0 (μ := m_X12_was) (pc := 83) dX12_was_83 rfl rfl ?_
          refine w_getO (μ := m_X12_was) (pc := 84) dX12_was_84 fl_X12_36 ir_12_14 id_12_14 k0 (fun b_12 e_13 => ?_)
          refine w_iload_n 1 1 (μ := m_X12_was) (pc := 87) dX12_was_87 rfl rfl ?_
          refine w_ald (μ := m_X12_was) (pc := 88) dX12_was_88 (wt_12_14 wt k0 e_13) ?_
          refine w_iconst (v := 1) (μ := m_X12_was) (pc := 89) dX12_was_89 (by decide) ?_
          refine w_isub (μ := m_X12_was) (pc := 90) dX12_was_90 ?_
          refine w_callV (As := [.int x1, .int ((q_R r_9 b_12 x1.toNatClampNeg) - 1)]) (rest := []) (μ := m_X12_was) (pc := 91) dX12_was_91 cv_X12_280 rfl rfl k0 (by decide) rfl (Nat.le_of_ble_eq_true rfl) (d' := d - 1) (by omega) he_i (c_X12_numberAt wt hl (d := d - 1) (by omega) k0) (fun r_14 => ?_)
          refine w_lv [0, 1] rfl ?_
          exact t_J_X12_was_94 wt hl (by omega) k0 _ _
        · refine w_aload_n 0 0 (μ := m_X12_was) (pc := 72) dX12_was_72 rfl rfl ?_
          refine w_iload_n 1 1 (μ := m_X12_was) (pc := 73) dX12_was_73 rfl rfl ?_
          refine w_iconst (v := 0) (μ := m_X12_was) (pc := 74) dX12_was_74 (by decide) ?_
          refine w_callV (As := [.int x1, .int 0]) (rest := []) (μ := m_X12_was) (pc := 75) dX12_was_75 cv_X12_280 rfl rfl k0 (by decide) rfl (Nat.le_of_ble_eq_true rfl) (d' := d - 1) (by omega) he_i (c_X12_numberAt wt hl (d := d - 1) (by omega) k0) (fun r_16 => ?_)
          refine w_goto 94 (μ := m_X12_was) (pc := 78) dX12_was_78 (by decide) ?_
          refine w_lv [0, 1] rfl ?_
          exact t_J_X12_was_94 wt hl (by omega) k0 _ _
      · refine w_aload_n 0 0 (μ := m_X12_was) (pc := 58) dX12_was_58 rfl rfl ?_
        refine w_getO (μ := m_X12_was) (pc := 59) dX12_was_59 fl_X12_36 ir_12_14 id_12_14 k0 (fun b_17 e_18 => ?_)
        refine w_iload_n 1 1 (μ := m_X12_was) (pc := 62) dX12_was_62 rfl rfl ?_
        refine w_ald (μ := m_X12_was) (pc := 63) dX12_was_63 (wt_12_14 wt k0 e_18) ?_
        refine w_goto 94 (μ := m_X12_was) (pc := 64) dX12_was_64 (by decide) ?_
        refine w_lv [0, 1] rfl ?_
        exact t_J_X12_was_94 wt hl (by omega) k0 _ _
    · refine w_lv [] rfl ?_
      exact t_J_X12_was_46 wt hl (by omega) k0 _
def J_X12_was_37 (N : Nat) (g : gp) (a0 : Nat) (x1 : Int32) (x2 : Int32) (x3 : Int32) (as0 : Nat) (δ : dp) : Option (Int32 × dp) :=
  J_X12_was_38 N g a0 x1 x2 x3 0 as0 δ
set_option maxHeartbeats 4000000 in
set_option maxRecDepth 100000 in
theorem t_J_X12_was_37 {l : Launch} {D : va_G} {cy : Nat → ClassId} {N d : Nat} {g : gp} (wt : WT g) (hl : l.stackTraces = false) (hd : 5 ≤ d) {a0 : Nat} {x1 : Int32} {x2 : Int32} {x3 : Int32} (k0 : q_K g a0 = 12) : ∀ (as0 : Nat) (δ : dp), q_K g as0 = 12 → AWD l D cy m_X12_was d 0 0 ei g 37 [(0, .ref a0), (1, .int x1), (2, .int x2), (3, .int x3)] [.ref as0] δ (J_X12_was_37 N g a0 x1 x2 x3 as0 δ) := by
    intro as0 δ has0
    unfold J_X12_was_37
    refine w_iconst (v := 0) (μ := m_X12_was) (pc := 37) dX12_was_37 (by decide) ?_
    exact t_J_X12_was_38 wt hl (by omega) k0 _ _ _ has0
def D_X12_was (N : Nat) (g : gp) (a0 : Nat) (x1 : Int32) (x2 : Int32) (x3 : Int32) (δ : dp) : Option (Int32 × dp) :=
  bd (s_I δ 12 0 a0 0) fun δ_1 => (D_X12_isHouse N g a0 x1 1 δ_1).bind fun r_3 => if r_3.1 = 0 then (J_X12_was_46 N g a0 x1 x2 x3 r_3.2) else ((D_X12_isTime N g a0 x1 x2 r_3.2).bind fun r_5 => if r_5.1 = 0 then (J_X12_was_37 N g a0 x1 x2 x3 a0 r_5.2) else ((D_X12_within N g x3 0 2 r_5.2).bind fun r_19 => if r_19.1 = 0 then (J_X12_was_37 N g a0 x1 x2 x3 a0 r_19.2) else (J_X12_was_38 N g a0 x1 x2 x3 1 a0 r_19.2)))
set_option maxHeartbeats 4000000 in
set_option maxRecDepth 100000 in
theorem c_X12_was {l : Launch} {D : va_G} {cy : Nat → ClassId} {N d : Nat} {g : gp} (wt : WT g) (hl : l.stackTraces = false) (hd : 5 ≤ d) {a0 : Nat} {x1 : Int32} {x2 : Int32} {x3 : Int32} {δ : dp} (k0 : q_K g a0 = 12) : CalD l D cy m_X12_was d 0 0 ei g [.ref a0, .int x1, .int x2, .int x3] δ (D_X12_was N g a0 x1 x2 x3 δ) := by
  refine CalD.of (by decide +kernel) (Nat.le_of_ble_eq_true rfl) hl ?_
  unfold D_X12_was
  refine w_aload_n 0 0 (μ := m_X12_was) (pc := 0) dX12_was_0 rfl rfl ?_
  refine w_iconst (v := 0) (μ := m_X12_was) (pc := 1) dX12_was_1 (by decide) ?_
  refine w_putI (μ := m_X12_was) (pc := 2) dX12_was_2 fl_X12_1 flw_12_0 ir_12_0 k0 ?_
  refine w_bd (fun δ_1 e_2 => ?_)
  refine w_aload_n 0 0 (μ := m_X12_was) (pc := 5) dX12_was_5 rfl rfl ?_
  refine w_iload_n 1 1 (μ := m_X12_was) (pc := 6) dX12_was_6 rfl rfl ?_
  refine w_iconst (v := 1) (μ := m_X12_was) (pc := 7) dX12_was_7 (by decide) ?_
  refine w_callV (As := [.int x1, .int 1]) (rest := []) (μ := m_X12_was) (pc := 8) dX12_was_8 cv_X12_260 rfl rfl k0 (by decide) rfl (Nat.le_of_ble_eq_true rfl) (d' := d - 1) (by omega) he_i (c_X12_isHouse wt hl (d := d - 1) (by omega) k0) (fun r_3 => ?_)
  refine w_if_eq 46 (μ := m_X12_was) (pc := 11) dX12_was_11 (by decide) (fun c_4 => ?_) (fun c_4 => ?_)
  · refine w_lv [] rfl ?_
    exact t_J_X12_was_46 wt hl (by omega) k0 _
  · refine w_aload_n 0 0 (μ := m_X12_was) (pc := 14) dX12_was_14 rfl rfl ?_
    refine w_aload_n 0 0 (μ := m_X12_was) (pc := 15) dX12_was_15 rfl rfl ?_
    refine w_iload_n 1 1 (μ := m_X12_was) (pc := 16) dX12_was_16 rfl rfl ?_
    refine w_iload_n 2 2 (μ := m_X12_was) (pc := 17) dX12_was_17 rfl rfl ?_
    refine w_callV (As := [.int x1, .int x2]) (rest := [.ref a0]) (μ := m_X12_was) (pc := 18) dX12_was_18 cv_X12_415 rfl rfl k0 (by decide) rfl (Nat.le_of_ble_eq_true rfl) (d' := d - 1) (by omega) he_i (c_X12_isTime wt hl (d := d - 1) (by omega) k0) (fun r_5 => ?_)
    refine w_if_eq 37 (μ := m_X12_was) (pc := 21) dX12_was_21 (by decide) (fun c_6 => ?_) (fun c_6 => ?_)
    · exact t_J_X12_was_37 wt hl (by omega) k0 _ _ k0
    · refine w_iload_n 3 3 (μ := m_X12_was) (pc := 24) dX12_was_24 rfl rfl ?_
      refine w_iconst (v := 0) (μ := m_X12_was) (pc := 25) dX12_was_25 (by decide) ?_
      refine w_iconst (v := 2) (μ := m_X12_was) (pc := 26) dX12_was_26 (by decide) ?_
      refine w_callS (As := [.int x3, .int 0, .int 2]) (rest := [.ref a0]) (μ := m_X12_was) (pc := 27) dX12_was_27 cs_X12_250 rfl rfl (Nat.le_of_ble_eq_true rfl) (d' := d - 1) (by omega) he_i (c_X12_within wt hl (d := d - 1) (by omega) ) (fun r_19 => ?_)
      refine w_if_eq 37 (μ := m_X12_was) (pc := 30) dX12_was_30 (by decide) (fun c_20 => ?_) (fun c_20 => ?_)
      · exact t_J_X12_was_37 wt hl (by omega) k0 _ _ k0
      · refine w_iconst (v := 1) (μ := m_X12_was) (pc := 33) dX12_was_33 (by decide) ?_
        refine w_goto 38 (μ := m_X12_was) (pc := 34) dX12_was_34 (by decide) ?_
        exact t_J_X12_was_38 wt hl (by omega) k0 _ _ _ k0
def J_X12_asked_56 (N : Nat) (g : gp) (a0 : Nat) (x1 : Int32) (x2 : Int32) (x3 : Int32) (x4 : Int32) (δ : dp) : Option (Int32 × dp) :=
  some (0, δ)
set_option maxHeartbeats 4000000 in
set_option maxRecDepth 100000 in
theorem t_J_X12_asked_56 {l : Launch} {D : va_G} {cy : Nat → ClassId} {N d : Nat} {g : gp} (wt : WT g) (hl : l.stackTraces = false) (hd : 5 ≤ d) {a0 : Nat} {x1 : Int32} {x2 : Int32} {x3 : Int32} {x4 : Int32} (k0 : q_K g a0 = 12) : ∀ (δ : dp), AWD l D cy m_X12_asked d 0 0 ei g 56 [] [] δ (J_X12_asked_56 N g a0 x1 x2 x3 x4 δ) := by
    intro  δ 
    unfold J_X12_asked_56
    refine w_iconst (v := 0) (μ := m_X12_asked) (pc := 56) dX12_asked_56 (by decide) ?_
    exact w_iret (μ := m_X12_asked) (pc := 57) dX12_asked_57 rfl rfl
def J_X12_asked_48 (N : Nat) (g : gp) (a0 : Nat) (x1 : Int32) (x2 : Int32) (x3 : Int32) (x4 : Int32) (xs0 : Int32) (as1 : Nat) (δ : dp) : Option (Int32 × dp) :=
  (D_X12_may N g as1 xs0 2 2 δ).bind fun r_7 => if r_7.1 = 0 then (J_X12_asked_56 N g a0 x1 x2 x3 x4 r_7.2) else ((D_X12_goesTo N g a0 x1 x2 r_7.2).bind fun r_9 => (D_X12_answer N g a0 x1 x3 x4 r_9).bind fun r_10 => (D_X12_comesBack N g a0 x1 r_10.2).bind fun r_11 => some (r_10.1, r_11))
set_option maxHeartbeats 4000000 in
set_option maxRecDepth 100000 in
theorem t_J_X12_asked_48 {l : Launch} {D : va_G} {cy : Nat → ClassId} {N d : Nat} {g : gp} (wt : WT g) (hl : l.stackTraces = false) (hd : 5 ≤ d) {a0 : Nat} {x1 : Int32} {x2 : Int32} {x3 : Int32} {x4 : Int32} (k0 : q_K g a0 = 12) : ∀ (xs0 : Int32) (as1 : Nat) (δ : dp), q_K g as1 = 12 → AWD l D cy m_X12_asked d 0 0 ei g 48 [(0, .ref a0), (1, .int x1), (2, .int x2), (3, .int x3), (4, .int x4)] [.int xs0, .ref as1] δ (J_X12_asked_48 N g a0 x1 x2 x3 x4 xs0 as1 δ) := by
    intro xs0 as1 δ has1
    unfold J_X12_asked_48
    refine w_iconst (v := 2) (μ := m_X12_asked) (pc := 48) dX12_asked_48 (by decide) ?_
    refine w_iconst (v := 2) (μ := m_X12_asked) (pc := 49) dX12_asked_49 (by decide) ?_
    refine w_callV (As := [.int xs0, .int 2, .int 2]) (rest := []) (μ := m_X12_asked) (pc := 50) dX12_asked_50 cv_X12_157 rfl rfl has1 (by decide) rfl (Nat.le_of_ble_eq_true rfl) (d' := d - 1) (by omega) he_i (c_X12_may wt hl (d := d - 1) (by omega) has1) (fun r_7 => ?_)
    refine w_if_ne 58 (μ := m_X12_asked) (pc := 53) dX12_asked_53 (by decide) (fun c_8 => ?_) (fun c_8 => ?_)
    · refine w_aload_n 0 0 (μ := m_X12_asked) (pc := 58) dX12_asked_58 rfl rfl ?_
      refine w_iload_n 1 1 (μ := m_X12_asked) (pc := 59) dX12_asked_59 rfl rfl ?_
      refine w_iload_n 2 2 (μ := m_X12_asked) (pc := 60) dX12_asked_60 rfl rfl ?_
      refine w_callV (As := [.int x1, .int x2]) (rest := []) (μ := m_X12_asked) (pc := 61) dX12_asked_61 cv_X12_418 rfl rfl k0 (by decide) rfl (Nat.le_of_ble_eq_true rfl) (d' := d - 1) (by omega) he_v (c_X12_goesTo wt hl (d := d - 1) (by omega) k0) (fun r_9 => ?_)
      refine w_aload_n 0 0 (μ := m_X12_asked) (pc := 64) dX12_asked_64 rfl rfl ?_
      refine w_iload_n 1 1 (μ := m_X12_asked) (pc := 65) dX12_asked_65 rfl rfl ?_
      refine w_iload_n 3 3 (μ := m_X12_asked) (pc := 66) dX12_asked_66 rfl rfl ?_
      refine w_iload 4 (μ := m_X12_asked) (pc := 67) dX12_asked_67 rfl ?_
      refine w_callV (As := [.int x1, .int x3, .int x4]) (rest := []) (μ := m_X12_asked) (pc := 69) dX12_asked_69 cv_X12_286 rfl rfl k0 (by decide) rfl (Nat.le_of_ble_eq_true rfl) (d' := d - 1) (by omega) he_i (c_X12_answer wt hl (d := d - 1) (by omega) k0) (fun r_10 => ?_)
      refine w_istore [(5, .int r_10.1), (0, .ref a0), (1, .int x1), (2, .int x2), (3, .int x3), (4, .int x4)] (μ := m_X12_asked) (pc := 72) dX12_asked_72 (by decide) rfl ?_
      refine w_aload_n 1 0 (μ := m_X12_asked) (pc := 74) dX12_asked_74 rfl rfl ?_
      refine w_iload_n 2 1 (μ := m_X12_asked) (pc := 75) dX12_asked_75 rfl rfl ?_
      refine w_callV (As := [.int x1]) (rest := []) (μ := m_X12_asked) (pc := 76) dX12_asked_76 cv_X12_421 rfl rfl k0 (by decide) rfl (Nat.le_of_ble_eq_true rfl) (d' := d - 1) (by omega) he_v (c_X12_comesBack wt hl (d := d - 1) (by omega) k0) (fun r_11 => ?_)
      refine w_iload 0 (μ := m_X12_asked) (pc := 79) dX12_asked_79 rfl ?_
      exact w_iret (μ := m_X12_asked) (pc := 81) dX12_asked_81 rfl rfl
    · refine w_lv [] rfl ?_
      exact t_J_X12_asked_56 wt hl (by omega) k0 _
def J_X12_asked_47 (N : Nat) (g : gp) (a0 : Nat) (x1 : Int32) (x2 : Int32) (x3 : Int32) (x4 : Int32) (as0 : Nat) (δ : dp) : Option (Int32 × dp) :=
  J_X12_asked_48 N g a0 x1 x2 x3 x4 0 as0 δ
set_option maxHeartbeats 4000000 in
set_option maxRecDepth 100000 in
theorem t_J_X12_asked_47 {l : Launch} {D : va_G} {cy : Nat → ClassId} {N d : Nat} {g : gp} (wt : WT g) (hl : l.stackTraces = false) (hd : 5 ≤ d) {a0 : Nat} {x1 : Int32} {x2 : Int32} {x3 : Int32} {x4 : Int32} (k0 : q_K g a0 = 12) : ∀ (as0 : Nat) (δ : dp), q_K g as0 = 12 → AWD l D cy m_X12_asked d 0 0 ei g 47 [(0, .ref a0), (1, .int x1), (2, .int x2), (3, .int x3), (4, .int x4)] [.ref as0] δ (J_X12_asked_47 N g a0 x1 x2 x3 x4 as0 δ) := by
    intro as0 δ has0
    unfold J_X12_asked_47
    refine w_iconst (v := 0) (μ := m_X12_asked) (pc := 47) dX12_asked_47 (by decide) ?_
    exact t_J_X12_asked_48 wt hl (by omega) k0 _ _ _ has0
def D_X12_asked (N : Nat) (g : gp) (a0 : Nat) (x1 : Int32) (x2 : Int32) (x3 : Int32) (x4 : Int32) (δ : dp) : Option (Int32 × dp) :=
  bd (s_I δ 12 0 a0 0) fun δ_1 => (D_X12_isHouse N g a0 x1 1 δ_1).bind fun r_3 => if r_3.1 = 0 then (J_X12_asked_56 N g a0 x1 x2 x3 x4 r_3.2) else ((D_X12_isTime N g a0 x1 x2 r_3.2).bind fun r_5 => if r_5.1 = 0 then (J_X12_asked_47 N g a0 x1 x2 x3 x4 a0 r_5.2) else ((D_X12_within N g x3 2 4 r_5.2).bind fun r_12 => if r_12.1 = 0 then (J_X12_asked_47 N g a0 x1 x2 x3 x4 a0 r_12.2) else ((D_X12_mayAsk N g a0 x3 x4 r_12.2).bind fun r_14 => if r_14.1 = 0 then (J_X12_asked_47 N g a0 x1 x2 x3 x4 a0 r_14.2) else (J_X12_asked_48 N g a0 x1 x2 x3 x4 1 a0 r_14.2))))
set_option maxHeartbeats 4000000 in
set_option maxRecDepth 100000 in
theorem c_X12_asked {l : Launch} {D : va_G} {cy : Nat → ClassId} {N d : Nat} {g : gp} (wt : WT g) (hl : l.stackTraces = false) (hd : 5 ≤ d) {a0 : Nat} {x1 : Int32} {x2 : Int32} {x3 : Int32} {x4 : Int32} {δ : dp} (k0 : q_K g a0 = 12) : CalD l D cy m_X12_asked d 0 0 ei g [.ref a0, .int x1, .int x2, .int x3, .int x4] δ (D_X12_asked N g a0 x1 x2 x3 x4 δ) := by
  refine CalD.of (by decide +kernel) (Nat.le_of_ble_eq_true rfl) hl ?_
  unfold D_X12_asked
  refine w_aload_n 0 0 (μ := m_X12_asked) (pc := 0) dX12_asked_0 rfl rfl ?_
  refine w_iconst (v := 0) (μ := m_X12_asked) (pc := 1) dX12_asked_1 (by decide) ?_
  refine w_putI (μ := m_X12_asked) (pc := 2) dX12_asked_2 fl_X12_1 flw_12_0 ir_12_0 k0 ?_
  refine w_bd (fun δ_1 e_2 => ?_)
  refine w_aload_n 0 0 (μ := m_X12_asked) (pc := 5) dX12_asked_5 rfl rfl ?_
  refine w_iload_n 1 1 (μ := m_X12_asked) (pc := 6) dX12_asked_6 rfl rfl ?_
  refine w_iconst (v := 1) (μ := m_X12_asked) (pc := 7) dX12_asked_7 (by decide) ?_
  refine w_callV (As := [.int x1, .int 1]) (rest := []) (μ := m_X12_asked) (pc := 8) dX12_asked_8 cv_X12_260 rfl rfl k0 (by decide) rfl (Nat.le_of_ble_eq_true rfl) (d' := d - 1) (by omega) he_i (c_X12_isHouse wt hl (d := d - 1) (by omega) k0) (fun r_3 => ?_)
  refine w_if_eq 56 (μ := m_X12_asked) (pc := 11) dX12_asked_11 (by decide) (fun c_4 => ?_) (fun c_4 => ?_)
  · refine w_lv [] rfl ?_
    exact t_J_X12_asked_56 wt hl (by omega) k0 _
  · refine w_aload_n 0 0 (μ := m_X12_asked) (pc := 14) dX12_asked_14 rfl rfl ?_
    refine w_aload_n 0 0 (μ := m_X12_asked) (pc := 15) dX12_asked_15 rfl rfl ?_
    refine w_iload_n 1 1 (μ := m_X12_asked) (pc := 16) dX12_asked_16 rfl rfl ?_
    refine w_iload_n 2 2 (μ := m_X12_asked) (pc := 17) dX12_asked_17 rfl rfl ?_
    refine w_callV (As := [.int x1, .int x2]) (rest := [.ref a0]) (μ := m_X12_asked) (pc := 18) dX12_asked_18 cv_X12_415 rfl rfl k0 (by decide) rfl (Nat.le_of_ble_eq_true rfl) (d' := d - 1) (by omega) he_i (c_X12_isTime wt hl (d := d - 1) (by omega) k0) (fun r_5 => ?_)
    refine w_if_eq 47 (μ := m_X12_asked) (pc := 21) dX12_asked_21 (by decide) (fun c_6 => ?_) (fun c_6 => ?_)
    · exact t_J_X12_asked_47 wt hl (by omega) k0 _ _ k0
    · refine w_iload_n 3 3 (μ := m_X12_asked) (pc := 24) dX12_asked_24 rfl rfl ?_
      refine w_iconst (v := 2) (μ := m_X12_asked) (pc := 25) dX12_asked_25 (by decide) ?_
      refine w_iconst (v := 4) (μ := m_X12_asked) (pc := 26) dX12_asked_26 (by decide) ?_
      refine w_callS (As := [.int x3, .int 2, .int 4]) (rest := [.ref a0]) (μ := m_X12_asked) (pc := 27) dX12_asked_27 cs_X12_250 rfl rfl (Nat.le_of_ble_eq_true rfl) (d' := d - 1) (by omega) he_i (c_X12_within wt hl (d := d - 1) (by omega) ) (fun r_12 => ?_)
      refine w_if_eq 47 (μ := m_X12_asked) (pc := 30) dX12_asked_30 (by decide) (fun c_13 => ?_) (fun c_13 => ?_)
      · exact t_J_X12_asked_47 wt hl (by omega) k0 _ _ k0
      · refine w_aload_n 0 0 (μ := m_X12_asked) (pc := 33) dX12_asked_33 rfl rfl ?_
        refine w_iload_n 3 3 (μ := m_X12_asked) (pc := 34) dX12_asked_34 rfl rfl ?_
        refine w_iload 4 (μ := m_X12_asked) (pc := 35) dX12_asked_35 rfl ?_
        refine w_callV (As := [.int x3, .int x4]) (rest := [.ref a0]) (μ := m_X12_asked) (pc := 37) dX12_asked_37 cv_X12_283 rfl rfl k0 (by decide) rfl (Nat.le_of_ble_eq_true rfl) (d' := d - 1) (by omega) he_i (c_X12_mayAsk wt hl (d := d - 1) (by omega) k0) (fun r_14 => ?_)
        refine w_if_eq 47 (μ := m_X12_asked) (pc := 40) dX12_asked_40 (by decide) (fun c_15 => ?_) (fun c_15 => ?_)
        · exact t_J_X12_asked_47 wt hl (by omega) k0 _ _ k0
        · refine w_iconst (v := 1) (μ := m_X12_asked) (pc := 43) dX12_asked_43 (by decide) ?_
          refine w_goto 48 (μ := m_X12_asked) (pc := 44) dX12_asked_44 (by decide) ?_
          exact t_J_X12_asked_48 wt hl (by omega) k0 _ _ _ k0
def J_X12_room_29 (N : Nat) (g : gp) (a0 : Nat) (x1 : Int32) (x2 : Int32) (δ : dp) : Option (Int32 × dp) :=
  some (0, δ)
set_option maxHeartbeats 4000000 in
set_option maxRecDepth 100000 in
theorem t_J_X12_room_29 {l : Launch} {D : va_G} {cy : Nat → ClassId} {N d : Nat} {g : gp} (wt : WT g) (hl : l.stackTraces = false) (hd : 66 ≤ d) {a0 : Nat} {x1 : Int32} {x2 : Int32} (k0 : q_K g a0 = 12) : ∀ (δ : dp), AWD l D cy m_X12_room d 0 0 ei g 29 [] [] δ (J_X12_room_29 N g a0 x1 x2 δ) := by
    intro  δ 
    unfold J_X12_room_29
    refine w_iconst (v := 0) (μ := m_X12_room) (pc := 29) dX12_room_29 (by decide) ?_
    exact w_iret (μ := m_X12_room) (pc := 30) dX12_room_30 rfl rfl
def J_X12_room_96 (N : Nat) (g : gp) (a0 : Nat) (x1 : Int32) (x2 : Int32) (kt60 : Int32 → Int32 → dp → Option (Int32 × dp)) (xs0 : Int32) (xs1 : Int32) (as2 : Nat) (xs3 : Int32) (x4v : Int32) (δ : dp) : Option (Int32 × dp) :=
  (q_O g 12 15 a0).bind fun b_21 => if ((1000 * x1) + x4v) < 0 ∨ q_N g b_21 ≤ ((1000 * x1) + x4v).toNatClampNeg then none else (D_X12_halves N g as2 xs1 xs0 (q_R δ b_21 ((1000 * x1) + x4v).toNatClampNeg) δ).bind fun r_23 => bi (xs3 + r_23.1) fun x_24 => (D_X12_changes N g a0 x1 x4v r_23.2).bind fun r_26 => bi (x4v + 1) fun x_27 => kt60 x_24 x_27 r_26
set_option maxHeartbeats 4000000 in
set_option maxRecDepth 100000 in
theorem t_J_X12_room_96 {l : Launch} {D : va_G} {cy : Nat → ClassId} {N d : Nat} {g : gp} (wt : WT g) (hl : l.stackTraces = false) (hd : 66 ≤ d) {a0 : Nat} {x1 : Int32} {x2 : Int32} (k0 : q_K g a0 = 12) {kt60 : Int32 → Int32 → dp → Option (Int32 × dp)} (hk60 : ∀ (x3v : Int32) (x4v : Int32) (δ : dp), AWD l D cy m_X12_room d 0 0 ei g 60 [(0, .ref a0), (1, .int x1), (3, .int x3v), (4, .int x4v)] [] δ (kt60 x3v x4v δ)) : ∀ (xs0 : Int32) (xs1 : Int32) (as2 : Nat) (xs3 : Int32) (x4v : Int32) (δ : dp), q_K g as2 = 12 → AWD l D cy m_X12_room d 0 0 ei g 96 [(0, .ref a0), (1, .int x1), (4, .int x4v)] [.int xs0, .int xs1, .ref as2, .int xs3] δ (J_X12_room_96 N g a0 x1 x2 kt60 xs0 xs1 as2 xs3 x4v δ) := by
    intro xs0 xs1 as2 xs3 x4v δ has2
    unfold J_X12_room_96
    refine w_aload_n 0 0 (μ := m_X12_room) (pc := 96) dX12_room_96 rfl rfl ?_
    refine w_getO (μ := m_X12_room) (pc := 97) dX12_room_97 fl_X12_39 ir_12_15 id_12_15 k0 (fun b_21 e_22 => ?_)
    refine w_sipush (v := 1000) (μ := m_X12_room) (pc := 100) dX12_room_100 (by decide) ?_
    refine w_iload_n 1 1 (μ := m_X12_room) (pc := 103) dX12_room_103 rfl rfl ?_
    refine w_imul (μ := m_X12_room) (pc := 104) dX12_room_104 ?_
    refine w_iload 2 (μ := m_X12_room) (pc := 105) dX12_room_105 rfl ?_
    refine w_iadd (μ := m_X12_room) (pc := 107) dX12_room_107 ?_
    refine w_ald (μ := m_X12_room) (pc := 108) dX12_room_108 (wt_12_15 wt k0 e_22) ?_
    refine w_callV (As := [.int xs1, .int xs0, .int (q_R δ b_21 ((1000 * x1) + x4v).toNatClampNeg)]) (rest := [.int xs3]) (μ := m_X12_room) (pc := 109) dX12_room_109 cv_X12_335 rfl rfl has2 (by decide) rfl (Nat.le_of_ble_eq_true rfl) (d' := d - 1) (by omega) he_i (c_X12_halves wt hl (d := d - 1) (by omega) has2) (fun r_23 => ?_)
    refine w_iadd (μ := m_X12_room) (pc := 112) dX12_room_112 ?_
    refine w_bi (fun x_24 e_25 => ?_)
    refine w_istore_n [(3, .int x_24), (0, .ref a0), (1, .int x1), (4, .int x4v)] (μ := m_X12_room) (pc := 113) dX12_room_113 rfl (by decide) rfl ?_
    refine w_aload_n 1 0 (μ := m_X12_room) (pc := 114) dX12_room_114 rfl rfl ?_
    refine w_iload_n 2 1 (μ := m_X12_room) (pc := 115) dX12_room_115 rfl rfl ?_
    refine w_iload 3 (μ := m_X12_room) (pc := 116) dX12_room_116 rfl ?_
    refine w_callV (As := [.int x1, .int x4v]) (rest := []) (μ := m_X12_room) (pc := 118) dX12_room_118 cv_X12_412 rfl rfl k0 (by decide) rfl (Nat.le_of_ble_eq_true rfl) (d' := d - 1) (by omega) he_v (c_X12_changes wt hl (d := d - 1) (by omega) k0) (fun r_26 => ?_)
    refine w_inb (fun x_27 e_28 => ?_)
    refine w_iinc 3 [(4, .int x_27), (3, .int x_24), (0, .ref a0), (1, .int x1)] (μ := m_X12_room) (pc := 121) dX12_room_121 rfl (by rw [e_28]; rfl) (by decide) rfl ?_
    refine w_goto 60 (μ := m_X12_room) (pc := 124) dX12_room_124 (by decide) ?_
    refine w_lv [2, 3, 1, 0] rfl ?_
    exact hk60 _ _ _
def L_X12_room_60 (N : Nat) (g : gp) (a0 : Nat) (x1 : Int32) (x2 : Int32) : Nat → Int32 → Int32 → dp → Option (Int32 × dp)
  | 0, _, _, _ => none
  | n + 1, x3v, x4v, δ => (q_O g 12 17 a0).bind fun b_14 => if x1 < 0 ∨ q_N g b_14 ≤ x1.toNatClampNeg then none else if (q_R δ b_14 x1.toNatClampNeg) ≤ x4v then ((D_X12_comesBack N g a0 x1 δ).bind fun r_17 => some (x3v, r_17)) else ((q_O g 12 16 a0).bind fun b_18 => if ((1000 * x1) + x4v) < 0 ∨ q_N g b_18 ≤ ((1000 * x1) + x4v).toNatClampNeg then none else if (q_R δ b_18 ((1000 * x1) + x4v).toNatClampNeg) = (1 : Int32) then (J_X12_room_96 N g a0 x1 x2 (L_X12_room_60 N g a0 x1 x2 n) 0 x1 a0 x3v x4v δ) else (J_X12_room_96 N g a0 x1 x2 (L_X12_room_60 N g a0 x1 x2 n) 1 x1 a0 x3v x4v δ))
set_option maxHeartbeats 4000000 in
set_option maxRecDepth 100000 in
theorem t_L_X12_room_60 {l : Launch} {D : va_G} {cy : Nat → ClassId} {N d : Nat} {g : gp} (wt : WT g) (hl : l.stackTraces = false) (hd : 66 ≤ d) {a0 : Nat} {x1 : Int32} {x2 : Int32} (k0 : q_K g a0 = 12) : ∀ (n : Nat) (x3v : Int32) (x4v : Int32) (δ : dp), AWD l D cy m_X12_room d 0 0 ei g 60 [(0, .ref a0), (1, .int x1), (3, .int x3v), (4, .int x4v)] [] δ (L_X12_room_60 N g a0 x1 x2 n x3v x4v δ) := by
  intro n
  induction n with
  | zero => intro x3v x4v δ ; exact w_none
  | succ n ih =>
    intro x3v x4v δ 
    unfold L_X12_room_60
    refine w_iload 3 (μ := m_X12_room) (pc := 60) dX12_room_60 rfl ?_
    refine w_aload_n 0 0 (μ := m_X12_room) (pc := 62) dX12_room_62 rfl rfl ?_
    refine w_getO (μ := m_X12_room) (pc := 63) dX12_room_63 fl_X12_45 ir_12_17 id_12_17 k0 (fun b_14 e_15 => ?_)
    refine w_iload_n 1 1 (μ := m_X12_room) (pc := 66) dX12_room_66 rfl rfl ?_
    refine w_ald (μ := m_X12_room) (pc := 67) dX12_room_67 (wt_12_17 wt k0 e_15) ?_
    refine w_icmp_ge 127 (μ := m_X12_room) (pc := 68) dX12_room_68 (by decide) (fun c_16 => ?_) (fun c_16 => ?_)
    · refine w_aload_n 0 0 (μ := m_X12_room) (pc := 127) dX12_room_127 rfl rfl ?_
      refine w_iload_n 1 1 (μ := m_X12_room) (pc := 128) dX12_room_128 rfl rfl ?_
      refine w_callV (As := [.int x1]) (rest := []) (μ := m_X12_room) (pc := 129) dX12_room_129 cv_X12_421 rfl rfl k0 (by decide) rfl (Nat.le_of_ble_eq_true rfl) (d' := d - 1) (by omega) he_v (c_X12_comesBack wt hl (d := d - 1) (by omega) k0) (fun r_17 => ?_)
      refine w_iload_n 2 3 (μ := m_X12_room) (pc := 132) dX12_room_132 rfl rfl ?_
      exact w_iret (μ := m_X12_room) (pc := 133) dX12_room_133 rfl rfl
    · refine w_iload_n 2 3 (μ := m_X12_room) (pc := 71) dX12_room_71 rfl rfl ?_
      refine w_aload_n 0 0 (μ := m_X12_room) (pc := 72) dX12_room_72 rfl rfl ?_
      refine w_iload_n 1 1 (μ := m_X12_room) (pc := 73) dX12_room_73 rfl rfl ?_
      refine w_aload_n 0 0 (μ := m_X12_room) (pc := 74) dX12_room_74 rfl rfl ?_
      refine w_getO (μ := m_X12_room) (pc := 75) dX12_room_75 fl_X12_42 ir_12_16 id_12_16 k0 (fun b_18 e_19 => ?_)
      refine w_sipush (v := 1000) (μ := m_X12_room) (pc := 78) dX12_room_78 (by decide) ?_
      refine w_iload_n 1 1 (μ := m_X12_room) (pc := 81) dX12_room_81 rfl rfl ?_
      refine w_imul (μ := m_X12_room) (pc := 82) dX12_room_82 ?_
      refine w_iload 3 (μ := m_X12_room) (pc := 83) dX12_room_83 rfl ?_
      refine w_iadd (μ := m_X12_room) (pc := 85) dX12_room_85 ?_
      refine w_ald (μ := m_X12_room) (pc := 86) dX12_room_86 (wt_12_16 wt k0 e_19) ?_
      refine w_iconst (v := 1) (μ := m_X12_room) (pc := 87) dX12_room_87 (by decide) ?_
      refine w_icmp_ne 95 (μ := m_X12_room) (pc := 88) dX12_room_88 (by decide) (fun c_20 => ?_) (fun c_20 => ?_)
      · refine w_iconst (v := 1) (μ := m_X12_room) (pc := 95) dX12_room_95 (by decide) ?_
        refine w_lv [0, 1, 3] rfl ?_
        exact t_J_X12_room_96 wt hl (by omega) k0 ih _ _ _ _ _ _ k0
      · refine w_iconst (v := 0) (μ := m_X12_room) (pc := 91) dX12_room_91 (by decide) ?_
        refine w_goto 96 (μ := m_X12_room) (pc := 92) dX12_room_92 (by decide) ?_
        refine w_lv [0, 1, 3] rfl ?_
        exact t_J_X12_room_96 wt hl (by omega) k0 ih _ _ _ _ _ _ k0
def D_X12_room (N : Nat) (g : gp) (a0 : Nat) (x1 : Int32) (x2 : Int32) (δ : dp) : Option (Int32 × dp) :=
  bd (s_I δ 12 0 a0 0) fun δ_1 => (D_X12_isHouse N g a0 x1 1 δ_1).bind fun r_3 => if r_3.1 = 0 then (J_X12_room_29 N g a0 x1 x2 r_3.2) else ((D_X12_within N g x2 0 1 r_3.2).bind fun r_5 => (D_X12_may N g a0 r_5.1 2 2 r_5.2).bind fun r_6 => if r_6.1 = 0 then (J_X12_room_29 N g a0 x1 x2 r_6.2) else (if x2 = (1 : Int32) then ((q_O g 12 17 a0).bind fun b_29 => if x1 < 0 ∨ q_N g b_29 ≤ x1.toNatClampNeg then none else some (q_R r_6.2 b_29 x1.toNatClampNeg, r_6.2)) else ((D_X12_keeps N g a0 x1 r_6.2).bind fun r_9 => (q_O g 12 14 a0).bind fun b_10 => if x1 < 0 ∨ q_N g b_10 ≤ x1.toNatClampNeg then none else bd (s_R r_9 b_10 x1.toNatClampNeg 0) fun δ_12 => L_X12_room_60 N g a0 x1 x2 N 0 0 δ_12)))
set_option maxHeartbeats 4000000 in
set_option maxRecDepth 100000 in
theorem c_X12_room {l : Launch} {D : va_G} {cy : Nat → ClassId} {N d : Nat} {g : gp} (wt : WT g) (hl : l.stackTraces = false) (hd : 66 ≤ d) {a0 : Nat} {x1 : Int32} {x2 : Int32} {δ : dp} (k0 : q_K g a0 = 12) : CalD l D cy m_X12_room d 0 0 ei g [.ref a0, .int x1, .int x2] δ (D_X12_room N g a0 x1 x2 δ) := by
  refine CalD.of (by decide +kernel) (Nat.le_of_ble_eq_true rfl) hl ?_
  unfold D_X12_room
  refine w_aload_n 0 0 (μ := m_X12_room) (pc := 0) dX12_room_0 rfl rfl ?_
  refine w_iconst (v := 0) (μ := m_X12_room) (pc := 1) dX12_room_1 (by decide) ?_
  refine w_putI (μ := m_X12_room) (pc := 2) dX12_room_2 fl_X12_1 flw_12_0 ir_12_0 k0 ?_
  refine w_bd (fun δ_1 e_2 => ?_)
  refine w_aload_n 0 0 (μ := m_X12_room) (pc := 5) dX12_room_5 rfl rfl ?_
  refine w_iload_n 1 1 (μ := m_X12_room) (pc := 6) dX12_room_6 rfl rfl ?_
  refine w_iconst (v := 1) (μ := m_X12_room) (pc := 7) dX12_room_7 (by decide) ?_
  refine w_callV (As := [.int x1, .int 1]) (rest := []) (μ := m_X12_room) (pc := 8) dX12_room_8 cv_X12_260 rfl rfl k0 (by decide) rfl (Nat.le_of_ble_eq_true rfl) (d' := d - 1) (by omega) he_i (c_X12_isHouse wt hl (d := d - 1) (by omega) k0) (fun r_3 => ?_)
  refine w_if_eq 29 (μ := m_X12_room) (pc := 11) dX12_room_11 (by decide) (fun c_4 => ?_) (fun c_4 => ?_)
  · refine w_lv [] rfl ?_
    exact t_J_X12_room_29 wt hl (by omega) k0 _
  · refine w_aload_n 0 0 (μ := m_X12_room) (pc := 14) dX12_room_14 rfl rfl ?_
    refine w_iload_n 2 2 (μ := m_X12_room) (pc := 15) dX12_room_15 rfl rfl ?_
    refine w_iconst (v := 0) (μ := m_X12_room) (pc := 16) dX12_room_16 (by decide) ?_
    refine w_iconst (v := 1) (μ := m_X12_room) (pc := 17) dX12_room_17 (by decide) ?_
    refine w_callS (As := [.int x2, .int 0, .int 1]) (rest := [.ref a0]) (μ := m_X12_room) (pc := 18) dX12_room_18 cs_X12_250 rfl rfl (Nat.le_of_ble_eq_true rfl) (d' := d - 1) (by omega) he_i (c_X12_within wt hl (d := d - 1) (by omega) ) (fun r_5 => ?_)
    refine w_iconst (v := 2) (μ := m_X12_room) (pc := 21) dX12_room_21 (by decide) ?_
    refine w_iconst (v := 2) (μ := m_X12_room) (pc := 22) dX12_room_22 (by decide) ?_
    refine w_callV (As := [.int r_5.1, .int 2, .int 2]) (rest := []) (μ := m_X12_room) (pc := 23) dX12_room_23 cv_X12_157 rfl rfl k0 (by decide) rfl (Nat.le_of_ble_eq_true rfl) (d' := d - 1) (by omega) he_i (c_X12_may wt hl (d := d - 1) (by omega) k0) (fun r_6 => ?_)
    refine w_if_ne 31 (μ := m_X12_room) (pc := 26) dX12_room_26 (by decide) (fun c_7 => ?_) (fun c_7 => ?_)
    · refine w_iload_n 2 2 (μ := m_X12_room) (pc := 31) dX12_room_31 rfl rfl ?_
      refine w_iconst (v := 1) (μ := m_X12_room) (pc := 32) dX12_room_32 (by decide) ?_
      refine w_icmp_ne 43 (μ := m_X12_room) (pc := 33) dX12_room_33 (by decide) (fun c_8 => ?_) (fun c_8 => ?_)
      · refine w_aload_n 0 0 (μ := m_X12_room) (pc := 43) dX12_room_43 rfl rfl ?_
        refine w_iload_n 1 1 (μ := m_X12_room) (pc := 44) dX12_room_44 rfl rfl ?_
        refine w_callV (As := [.int x1]) (rest := []) (μ := m_X12_room) (pc := 45) dX12_room_45 cv_X12_409 rfl rfl k0 (by decide) rfl (Nat.le_of_ble_eq_true rfl) (d' := d - 1) (by omega) he_v (c_X12_keeps wt hl (d := d - 1) (by omega) k0) (fun r_9 => ?_)
        refine w_aload_n 0 0 (μ := m_X12_room) (pc := 48) dX12_room_48 rfl rfl ?_
        refine w_getO (μ := m_X12_room) (pc := 49) dX12_room_49 fl_X12_36 ir_12_14 id_12_14 k0 (fun b_10 e_11 => ?_)
        refine w_iload_n 1 1 (μ := m_X12_room) (pc := 52) dX12_room_52 rfl rfl ?_
        refine w_iconst (v := 0) (μ := m_X12_room) (pc := 53) dX12_room_53 (by decide) ?_
        refine w_ast (μ := m_X12_room) (pc := 54) dX12_room_54 (wt_12_14 wt k0 e_11) ?_
        refine w_bd (fun δ_12 e_13 => ?_)
        refine w_iconst (v := 0) (μ := m_X12_room) (pc := 55) dX12_room_55 (by decide) ?_
        refine w_istore_n [(3, .int 0), (0, .ref a0), (1, .int x1), (2, .int x2)] (μ := m_X12_room) (pc := 56) dX12_room_56 rfl (by decide) rfl ?_
        refine w_iconst (v := 0) (μ := m_X12_room) (pc := 57) dX12_room_57 (by decide) ?_
        refine w_istore [(4, .int 0), (3, .int 0), (0, .ref a0), (1, .int x1), (2, .int x2)] (μ := m_X12_room) (pc := 58) dX12_room_58 (by decide) rfl ?_
        refine w_lv [2, 3, 1, 0] rfl ?_
        exact t_L_X12_room_60 wt hl (by omega) k0 N _ _ _
      · refine w_aload_n 0 0 (μ := m_X12_room) (pc := 36) dX12_room_36 rfl rfl ?_
        refine w_getO (μ := m_X12_room) (pc := 37) dX12_room_37 fl_X12_45 ir_12_17 id_12_17 k0 (fun b_29 e_30 => ?_)
        refine w_iload_n 1 1 (μ := m_X12_room) (pc := 40) dX12_room_40 rfl rfl ?_
        refine w_ald (μ := m_X12_room) (pc := 41) dX12_room_41 (wt_12_17 wt k0 e_30) ?_
        exact w_iret (μ := m_X12_room) (pc := 42) dX12_room_42 rfl rfl
    · refine w_lv [] rfl ?_
      exact t_J_X12_room_29 wt hl (by omega) k0 _
def J_X12_calls_62 (N : Nat) (g : gp) (a0 : Nat) (x1 : Int32) (x2 : Int32) (x3 : Int32) (x4v : Int32) (δ : dp) : Option (Int32 × dp) :=
  some (x4v, δ)
set_option maxHeartbeats 4000000 in
set_option maxRecDepth 100000 in
theorem t_J_X12_calls_62 {l : Launch} {D : va_G} {cy : Nat → ClassId} {N d : Nat} {g : gp} (wt : WT g) (hl : l.stackTraces = false) (hd : 66 ≤ d) {a0 : Nat} {x1 : Int32} {x2 : Int32} {x3 : Int32} (k0 : q_K g a0 = 12) : ∀ (x4v : Int32) (δ : dp), AWD l D cy m_X12_calls d 0 0 ei g 62 [(4, .int x4v)] [] δ (J_X12_calls_62 N g a0 x1 x2 x3 x4v δ) := by
    intro x4v δ 
    unfold J_X12_calls_62
    refine w_iload 0 (μ := m_X12_calls) (pc := 62) dX12_calls_62 rfl ?_
    exact w_iret (μ := m_X12_calls) (pc := 64) dX12_calls_64 rfl rfl
def J_X12_calls_39 (N : Nat) (g : gp) (a0 : Nat) (x1 : Int32) (x2 : Int32) (x3 : Int32) (x4v : Int32) (x5v : Int32) (δ : dp) : Option (Int32 × dp) :=
  if x2 = (1 : Int32) then (if x5v = 0 then (J_X12_calls_62 N g a0 x1 x2 x3 x4v δ) else ((D_X12_leaves N g a0 x1 x3 δ).bind fun r_6 => (D_X12_notesDown N g a0 x1 x3 0 r_6).bind fun r_7 => J_X12_calls_62 N g a0 x1 x2 x3 x4v r_7)) else (J_X12_calls_62 N g a0 x1 x2 x3 x4v δ)
set_option maxHeartbeats 4000000 in
set_option maxRecDepth 100000 in
theorem t_J_X12_calls_39 {l : Launch} {D : va_G} {cy : Nat → ClassId} {N d : Nat} {g : gp} (wt : WT g) (hl : l.stackTraces = false) (hd : 66 ≤ d) {a0 : Nat} {x1 : Int32} {x2 : Int32} {x3 : Int32} (k0 : q_K g a0 = 12) : ∀ (x4v : Int32) (x5v : Int32) (δ : dp), AWD l D cy m_X12_calls d 0 0 ei g 39 [(0, .ref a0), (1, .int x1), (2, .int x2), (3, .int x3), (4, .int x4v), (5, .int x5v)] [] δ (J_X12_calls_39 N g a0 x1 x2 x3 x4v x5v δ) := by
    intro x4v x5v δ 
    unfold J_X12_calls_39
    refine w_iload_n 2 2 (μ := m_X12_calls) (pc := 39) dX12_calls_39 rfl rfl ?_
    refine w_iconst (v := 1) (μ := m_X12_calls) (pc := 40) dX12_calls_40 (by decide) ?_
    refine w_icmp_ne 62 (μ := m_X12_calls) (pc := 41) dX12_calls_41 (by decide) (fun c_4 => ?_) (fun c_4 => ?_)
    · refine w_lv [4] rfl ?_
      exact t_J_X12_calls_62 wt hl (by omega) k0 _ _
    · refine w_iload 5 (μ := m_X12_calls) (pc := 44) dX12_calls_44 rfl ?_
      refine w_if_eq 62 (μ := m_X12_calls) (pc := 46) dX12_calls_46 (by decide) (fun c_5 => ?_) (fun c_5 => ?_)
      · refine w_lv [4] rfl ?_
        exact t_J_X12_calls_62 wt hl (by omega) k0 _ _
      · refine w_aload_n 0 0 (μ := m_X12_calls) (pc := 49) dX12_calls_49 rfl rfl ?_
        refine w_iload_n 1 1 (μ := m_X12_calls) (pc := 50) dX12_calls_50 rfl rfl ?_
        refine w_iload_n 3 3 (μ := m_X12_calls) (pc := 51) dX12_calls_51 rfl rfl ?_
        refine w_callV (As := [.int x1, .int x3]) (rest := []) (μ := m_X12_calls) (pc := 52) dX12_calls_52 cv_X12_277 rfl rfl k0 (by decide) rfl (Nat.le_of_ble_eq_true rfl) (d' := d - 1) (by omega) he_v (c_X12_leaves wt hl (d := d - 1) (by omega) k0) (fun r_6 => ?_)
        refine w_aload_n 0 0 (μ := m_X12_calls) (pc := 55) dX12_calls_55 rfl rfl ?_
        refine w_iload_n 1 1 (μ := m_X12_calls) (pc := 56) dX12_calls_56 rfl rfl ?_
        refine w_iload_n 3 3 (μ := m_X12_calls) (pc := 57) dX12_calls_57 rfl rfl ?_
        refine w_iconst (v := 0) (μ := m_X12_calls) (pc := 58) dX12_calls_58 (by decide) ?_
        refine w_callV (As := [.int x1, .int x3, .int 0]) (rest := []) (μ := m_X12_calls) (pc := 59) dX12_calls_59 cv_X12_273 rfl rfl k0 (by decide) rfl (Nat.le_of_ble_eq_true rfl) (d' := d - 1) (by omega) he_v (c_X12_notesDown wt hl (d := d - 1) (by omega) k0) (fun r_7 => ?_)
        refine w_lv [4] rfl ?_
        exact t_J_X12_calls_62 wt hl (by omega) k0 _ _
def D_X12_calls (N : Nat) (g : gp) (a0 : Nat) (x1 : Int32) (x2 : Int32) (x3 : Int32) (δ : dp) : Option (Int32 × dp) :=
  (D_X12_halves N g a0 x1 x2 x3 δ).bind fun r_1 => (D_X12_isThere N g a0 x1 x3 r_1.2).bind fun r_2 => if x2 = 0 then (if r_2.1 = 0 then ((D_X12_comes N g a0 x1 x3 r_2.2).bind fun r_9 => (D_X12_notesDown N g a0 x1 x3 1 r_9).bind fun r_10 => J_X12_calls_39 N g a0 x1 x2 x3 r_1.1 r_2.1 r_10) else (J_X12_calls_39 N g a0 x1 x2 x3 r_1.1 r_2.1 r_2.2)) else (J_X12_calls_39 N g a0 x1 x2 x3 r_1.1 r_2.1 r_2.2)
set_option maxHeartbeats 4000000 in
set_option maxRecDepth 100000 in
theorem c_X12_calls {l : Launch} {D : va_G} {cy : Nat → ClassId} {N d : Nat} {g : gp} (wt : WT g) (hl : l.stackTraces = false) (hd : 66 ≤ d) {a0 : Nat} {x1 : Int32} {x2 : Int32} {x3 : Int32} {δ : dp} (k0 : q_K g a0 = 12) : CalD l D cy m_X12_calls d 0 0 ei g [.ref a0, .int x1, .int x2, .int x3] δ (D_X12_calls N g a0 x1 x2 x3 δ) := by
  refine CalD.of (by decide +kernel) (Nat.le_of_ble_eq_true rfl) hl ?_
  unfold D_X12_calls
  refine w_aload_n 0 0 (μ := m_X12_calls) (pc := 0) dX12_calls_0 rfl rfl ?_
  refine w_iload_n 1 1 (μ := m_X12_calls) (pc := 1) dX12_calls_1 rfl rfl ?_
  refine w_iload_n 2 2 (μ := m_X12_calls) (pc := 2) dX12_calls_2 rfl rfl ?_
  refine w_iload_n 3 3 (μ := m_X12_calls) (pc := 3) dX12_calls_3 rfl rfl ?_
  refine w_callV (As := [.int x1, .int x2, .int x3]) (rest := []) (μ := m_X12_calls) (pc := 4) dX12_calls_4 cv_X12_335 rfl rfl k0 (by decide) rfl (Nat.le_of_ble_eq_true rfl) (d' := d - 1) (by omega) he_i (c_X12_halves wt hl (d := d - 1) (by omega) k0) (fun r_1 => ?_)
  refine w_istore [(4, .int r_1.1), (0, .ref a0), (1, .int x1), (2, .int x2), (3, .int x3)] (μ := m_X12_calls) (pc := 7) dX12_calls_7 (by decide) rfl ?_
  refine w_aload_n 1 0 (μ := m_X12_calls) (pc := 9) dX12_calls_9 rfl rfl ?_
  refine w_iload_n 2 1 (μ := m_X12_calls) (pc := 10) dX12_calls_10 rfl rfl ?_
  refine w_iload_n 4 3 (μ := m_X12_calls) (pc := 11) dX12_calls_11 rfl rfl ?_
  refine w_callV (As := [.int x1, .int x3]) (rest := []) (μ := m_X12_calls) (pc := 12) dX12_calls_12 cv_X12_267 rfl rfl k0 (by decide) rfl (Nat.le_of_ble_eq_true rfl) (d' := d - 1) (by omega) he_i (c_X12_isThere wt hl (d := d - 1) (by omega) k0) (fun r_2 => ?_)
  refine w_istore [(5, .int r_2.1), (4, .int r_1.1), (0, .ref a0), (1, .int x1), (2, .int x2), (3, .int x3)] (μ := m_X12_calls) (pc := 15) dX12_calls_15 (by decide) rfl ?_
  refine w_iload_n 4 2 (μ := m_X12_calls) (pc := 17) dX12_calls_17 rfl rfl ?_
  refine w_if_ne 39 (μ := m_X12_calls) (pc := 18) dX12_calls_18 (by decide) (fun c_3 => ?_) (fun c_3 => ?_)
  · refine w_lv [2, 3, 4, 5, 1, 0] rfl ?_
    exact t_J_X12_calls_39 wt hl (by omega) k0 _ _ _
  · refine w_iload 0 (μ := m_X12_calls) (pc := 21) dX12_calls_21 rfl ?_
    refine w_if_ne 39 (μ := m_X12_calls) (pc := 23) dX12_calls_23 (by decide) (fun c_8 => ?_) (fun c_8 => ?_)
    · refine w_lv [2, 3, 4, 5, 1, 0] rfl ?_
      exact t_J_X12_calls_39 wt hl (by omega) k0 _ _ _
    · refine w_aload_n 2 0 (μ := m_X12_calls) (pc := 26) dX12_calls_26 rfl rfl ?_
      refine w_iload_n 3 1 (μ := m_X12_calls) (pc := 27) dX12_calls_27 rfl rfl ?_
      refine w_iload_n 5 3 (μ := m_X12_calls) (pc := 28) dX12_calls_28 rfl rfl ?_
      refine w_callV (As := [.int x1, .int x3]) (rest := []) (μ := m_X12_calls) (pc := 29) dX12_calls_29 cv_X12_270 rfl rfl k0 (by decide) rfl (Nat.le_of_ble_eq_true rfl) (d' := d - 1) (by omega) he_v (c_X12_comes wt hl (d := d - 1) (by omega) k0) (fun r_9 => ?_)
      refine w_aload_n 2 0 (μ := m_X12_calls) (pc := 32) dX12_calls_32 rfl rfl ?_
      refine w_iload_n 3 1 (μ := m_X12_calls) (pc := 33) dX12_calls_33 rfl rfl ?_
      refine w_iload_n 5 3 (μ := m_X12_calls) (pc := 34) dX12_calls_34 rfl rfl ?_
      refine w_iconst (v := 1) (μ := m_X12_calls) (pc := 35) dX12_calls_35 (by decide) ?_
      refine w_callV (As := [.int x1, .int x3, .int 1]) (rest := []) (μ := m_X12_calls) (pc := 36) dX12_calls_36 cv_X12_273 rfl rfl k0 (by decide) rfl (Nat.le_of_ble_eq_true rfl) (d' := d - 1) (by omega) he_v (c_X12_notesDown wt hl (d := d - 1) (by omega) k0) (fun r_10 => ?_)
      refine w_lv [2, 3, 4, 5, 1, 0] rfl ?_
      exact t_J_X12_calls_39 wt hl (by omega) k0 _ _ _
def J_X12_joins_51 (N : Nat) (g : gp) (a0 : Nat) (x1 : Int32) (x2 : Int32) (x3 : Int32) (δ : dp) : Option (Int32 × dp) :=
  some (0, δ)
set_option maxHeartbeats 4000000 in
set_option maxRecDepth 100000 in
theorem t_J_X12_joins_51 {l : Launch} {D : va_G} {cy : Nat → ClassId} {N d : Nat} {g : gp} (wt : WT g) (hl : l.stackTraces = false) (hd : 67 ≤ d) {a0 : Nat} {x1 : Int32} {x2 : Int32} {x3 : Int32} (k0 : q_K g a0 = 12) : ∀ (δ : dp), AWD l D cy m_X12_joins d 0 0 ei g 51 [] [] δ (J_X12_joins_51 N g a0 x1 x2 x3 δ) := by
    intro  δ 
    unfold J_X12_joins_51
    refine w_iconst (v := 0) (μ := m_X12_joins) (pc := 51) dX12_joins_51 (by decide) ?_
    exact w_iret (μ := m_X12_joins) (pc := 52) dX12_joins_52 rfl rfl
def J_X12_joins_239 (N : Nat) (g : gp) (a0 : Nat) (x1 : Int32) (x2 : Int32) (x3 : Int32) (kt219 : Int32 → Int32 → Int32 → dp → Option (Int32 × dp)) (xs0 : Int32) (xs1 : Int32) (as2 : Nat) (xs3 : Int32) (x4v : Int32) (x8v : Int32) (δ : dp) : Option (Int32 × dp) :=
  (q_O g 12 48 a0).bind fun b_20 => if x8v < 0 ∨ q_N g b_20 ≤ x8v.toNatClampNeg then none else (D_X12_calls N g as2 xs1 xs0 (q_R δ b_20 x8v.toNatClampNeg) δ).bind fun r_22 => bi (xs3 + r_22.1) fun x_23 => bi (x8v + 1) fun x_25 => kt219 x4v x_23 x_25 r_22.2
set_option maxHeartbeats 4000000 in
set_option maxRecDepth 100000 in
theorem t_J_X12_joins_239 {l : Launch} {D : va_G} {cy : Nat → ClassId} {N d : Nat} {g : gp} (wt : WT g) (hl : l.stackTraces = false) (hd : 67 ≤ d) {a0 : Nat} {x1 : Int32} {x2 : Int32} {x3 : Int32} (k0 : q_K g a0 = 12) {kt219 : Int32 → Int32 → Int32 → dp → Option (Int32 × dp)} (hk219 : ∀ (x4v : Int32) (x7v : Int32) (x8v : Int32) (δ : dp), AWD l D cy m_X12_joins d 0 0 ei g 219 [(0, .ref a0), (1, .int x1), (3, .int x3), (4, .int x4v), (7, .int x7v), (8, .int x8v)] [] δ (kt219 x4v x7v x8v δ)) : ∀ (xs0 : Int32) (xs1 : Int32) (as2 : Nat) (xs3 : Int32) (x4v : Int32) (x8v : Int32) (δ : dp), q_K g as2 = 12 → AWD l D cy m_X12_joins d 0 0 ei g 239 [(0, .ref a0), (1, .int x1), (3, .int x3), (4, .int x4v), (8, .int x8v)] [.int xs0, .int xs1, .ref as2, .int xs3] δ (J_X12_joins_239 N g a0 x1 x2 x3 kt219 xs0 xs1 as2 xs3 x4v x8v δ) := by
    intro xs0 xs1 as2 xs3 x4v x8v δ has2
    unfold J_X12_joins_239
    refine w_aload_n 0 0 (μ := m_X12_joins) (pc := 239) dX12_joins_239 rfl rfl ?_
    refine w_getO (μ := m_X12_joins) (pc := 240) dX12_joins_240 fl_X12_103 ir_12_48 id_12_48 k0 (fun b_20 e_21 => ?_)
    refine w_iload 4 (μ := m_X12_joins) (pc := 243) dX12_joins_243 rfl ?_
    refine w_ald (μ := m_X12_joins) (pc := 245) dX12_joins_245 (wt_12_48 wt k0 e_21) ?_
    refine w_callV (As := [.int xs1, .int xs0, .int (q_R δ b_20 x8v.toNatClampNeg)]) (rest := [.int xs3]) (μ := m_X12_joins) (pc := 246) dX12_joins_246 cv_X12_424 rfl rfl has2 (by decide) rfl (Nat.le_of_ble_eq_true rfl) (d' := d - 1) (by omega) he_i (c_X12_calls wt hl (d := d - 1) (by omega) has2) (fun r_22 => ?_)
    refine w_iadd (μ := m_X12_joins) (pc := 249) dX12_joins_249 ?_
    refine w_bi (fun x_23 e_24 => ?_)
    refine w_istore [(7, .int x_23), (0, .ref a0), (1, .int x1), (3, .int x3), (4, .int x4v), (8, .int x8v)] (μ := m_X12_joins) (pc := 250) dX12_joins_250 (by decide) rfl ?_
    refine w_inb (fun x_25 e_26 => ?_)
    refine w_iinc 5 [(8, .int x_25), (7, .int x_23), (0, .ref a0), (1, .int x1), (3, .int x3), (4, .int x4v)] (μ := m_X12_joins) (pc := 252) dX12_joins_252 rfl (by rw [e_26]; rfl) (by decide) rfl ?_
    refine w_goto 219 (μ := m_X12_joins) (pc := 255) dX12_joins_255 (by decide) ?_
    refine w_lv [2, 3, 4, 5, 1, 0] rfl ?_
    exact hk219 _ _ _ _
def L_X12_joins_219 (N : Nat) (g : gp) (a0 : Nat) (x1 : Int32) (x2 : Int32) (x3 : Int32) : Nat → Int32 → Int32 → Int32 → dp → Option (Int32 × dp)
  | 0, _, _, _, _ => none
  | n + 1, x4v, x7v, x8v, δ => if x4v ≤ x8v then (some (x7v, δ)) else (if x3 = 0 then (J_X12_joins_239 N g a0 x1 x2 x3 (L_X12_joins_219 N g a0 x1 x2 x3 n) 0 x1 a0 x7v x4v x8v δ) else (J_X12_joins_239 N g a0 x1 x2 x3 (L_X12_joins_219 N g a0 x1 x2 x3 n) 1 x1 a0 x7v x4v x8v δ))
set_option maxHeartbeats 4000000 in
set_option maxRecDepth 100000 in
theorem t_L_X12_joins_219 {l : Launch} {D : va_G} {cy : Nat → ClassId} {N d : Nat} {g : gp} (wt : WT g) (hl : l.stackTraces = false) (hd : 67 ≤ d) {a0 : Nat} {x1 : Int32} {x2 : Int32} {x3 : Int32} (k0 : q_K g a0 = 12) : ∀ (n : Nat) (x4v : Int32) (x7v : Int32) (x8v : Int32) (δ : dp), AWD l D cy m_X12_joins d 0 0 ei g 219 [(0, .ref a0), (1, .int x1), (3, .int x3), (4, .int x4v), (7, .int x7v), (8, .int x8v)] [] δ (L_X12_joins_219 N g a0 x1 x2 x3 n x4v x7v x8v δ) := by
  intro n
  induction n with
  | zero => intro x4v x7v x8v δ ; exact w_none
  | succ n ih =>
    intro x4v x7v x8v δ 
    unfold L_X12_joins_219
    refine w_iload 5 (μ := m_X12_joins) (pc := 219) dX12_joins_219 rfl ?_
    refine w_iload 3 (μ := m_X12_joins) (pc := 221) dX12_joins_221 rfl ?_
    refine w_icmp_ge 258 (μ := m_X12_joins) (pc := 223) dX12_joins_223 (by decide) (fun c_18 => ?_) (fun c_18 => ?_)
    · refine w_iload 4 (μ := m_X12_joins) (pc := 258) dX12_joins_258 rfl ?_
      exact w_iret (μ := m_X12_joins) (pc := 260) dX12_joins_260 rfl rfl
    · refine w_iload 4 (μ := m_X12_joins) (pc := 226) dX12_joins_226 rfl ?_
      refine w_aload_n 0 0 (μ := m_X12_joins) (pc := 228) dX12_joins_228 rfl rfl ?_
      refine w_iload_n 1 1 (μ := m_X12_joins) (pc := 229) dX12_joins_229 rfl rfl ?_
      refine w_iload_n 2 3 (μ := m_X12_joins) (pc := 230) dX12_joins_230 rfl rfl ?_
      refine w_if_ne 238 (μ := m_X12_joins) (pc := 231) dX12_joins_231 (by decide) (fun c_19 => ?_) (fun c_19 => ?_)
      · refine w_iconst (v := 1) (μ := m_X12_joins) (pc := 238) dX12_joins_238 (by decide) ?_
        refine w_lv [0, 1, 2, 3, 5] rfl ?_
        exact t_J_X12_joins_239 wt hl (by omega) k0 ih _ _ _ _ _ _ _ k0
      · refine w_iconst (v := 0) (μ := m_X12_joins) (pc := 234) dX12_joins_234 (by decide) ?_
        refine w_goto 239 (μ := m_X12_joins) (pc := 235) dX12_joins_235 (by decide) ?_
        refine w_lv [0, 1, 2, 3, 5] rfl ?_
        exact t_J_X12_joins_239 wt hl (by omega) k0 ih _ _ _ _ _ _ _ k0
def J_X12_joins_195 (N : Nat) (g : gp) (a0 : Nat) (x1 : Int32) (x2 : Int32) (x3 : Int32) (x4v : Int32) (x5v : Int32) (δ : dp) : Option (Int32 × dp) :=
  (q_O g 12 17 a0).bind fun b_15 => if x1 < 0 ∨ q_N g b_15 ≤ x1.toNatClampNeg then none else if ((q_R δ b_15 x1.toNatClampNeg) + x5v) ≤ (1000 : Int32) then (L_X12_joins_219 N g a0 x1 x2 x3 N x4v 0 0 δ) else (some ((-2), δ))
set_option maxHeartbeats 4000000 in
set_option maxRecDepth 100000 in
theorem t_J_X12_joins_195 {l : Launch} {D : va_G} {cy : Nat → ClassId} {N d : Nat} {g : gp} (wt : WT g) (hl : l.stackTraces = false) (hd : 67 ≤ d) {a0 : Nat} {x1 : Int32} {x2 : Int32} {x3 : Int32} (k0 : q_K g a0 = 12) : ∀ (x4v : Int32) (x5v : Int32) (δ : dp), AWD l D cy m_X12_joins d 0 0 ei g 195 [(0, .ref a0), (1, .int x1), (3, .int x3), (4, .int x4v), (5, .int x5v)] [] δ (J_X12_joins_195 N g a0 x1 x2 x3 x4v x5v δ) := by
    intro x4v x5v δ 
    unfold J_X12_joins_195
    refine w_aload_n 0 0 (μ := m_X12_joins) (pc := 195) dX12_joins_195 rfl rfl ?_
    refine w_getO (μ := m_X12_joins) (pc := 196) dX12_joins_196 fl_X12_45 ir_12_17 id_12_17 k0 (fun b_15 e_16 => ?_)
    refine w_iload_n 1 1 (μ := m_X12_joins) (pc := 199) dX12_joins_199 rfl rfl ?_
    refine w_ald (μ := m_X12_joins) (pc := 200) dX12_joins_200 (wt_12_17 wt k0 e_16) ?_
    refine w_iload 4 (μ := m_X12_joins) (pc := 201) dX12_joins_201 rfl ?_
    refine w_iadd (μ := m_X12_joins) (pc := 203) dX12_joins_203 ?_
    refine w_sipush (v := 1000) (μ := m_X12_joins) (pc := 204) dX12_joins_204 (by decide) ?_
    refine w_icmp_le 213 (μ := m_X12_joins) (pc := 207) dX12_joins_207 (by decide) (fun c_17 => ?_) (fun c_17 => ?_)
    · refine w_iconst (v := 0) (μ := m_X12_joins) (pc := 213) dX12_joins_213 (by decide) ?_
      refine w_istore [(7, .int 0), (0, .ref a0), (1, .int x1), (3, .int x3), (4, .int x4v), (5, .int x5v)] (μ := m_X12_joins) (pc := 214) dX12_joins_214 (by decide) rfl ?_
      refine w_iconst (v := 0) (μ := m_X12_joins) (pc := 216) dX12_joins_216 (by decide) ?_
      refine w_istore [(8, .int 0), (7, .int 0), (0, .ref a0), (1, .int x1), (3, .int x3), (4, .int x4v), (5, .int x5v)] (μ := m_X12_joins) (pc := 217) dX12_joins_217 (by decide) rfl ?_
      refine w_lv [2, 3, 4, 5, 1, 0] rfl ?_
      exact t_L_X12_joins_219 wt hl (by omega) k0 N _ _ _ _
    · refine w_bipush (v := (-2)) (μ := m_X12_joins) (pc := 210) dX12_joins_210 (by decide) ?_
      exact w_iret (μ := m_X12_joins) (pc := 212) dX12_joins_212 rfl rfl
def J_X12_joins_168 (N : Nat) (g : gp) (a0 : Nat) (x1 : Int32) (x2 : Int32) (x3 : Int32) (kt74 : Int32 → Int32 → Int32 → Int32 → dp → Option (Int32 × dp)) (x4v : Int32) (x5v : Int32) (x6v : Int32) (x7v : Int32) (δ : dp) : Option (Int32 × dp) :=
  bi (x7v + 1) fun x_44 => kt74 x4v x5v x6v x_44 δ
set_option maxHeartbeats 4000000 in
set_option maxRecDepth 100000 in
theorem t_J_X12_joins_168 {l : Launch} {D : va_G} {cy : Nat → ClassId} {N d : Nat} {g : gp} (wt : WT g) (hl : l.stackTraces = false) (hd : 67 ≤ d) {a0 : Nat} {x1 : Int32} {x2 : Int32} {x3 : Int32} (k0 : q_K g a0 = 12) {kt74 : Int32 → Int32 → Int32 → Int32 → dp → Option (Int32 × dp)} (hk74 : ∀ (x4v : Int32) (x5v : Int32) (x6v : Int32) (x7v : Int32) (δ : dp), AWD l D cy m_X12_joins d 0 0 ei g 74 [(0, .ref a0), (1, .int x1), (2, .int x2), (3, .int x3), (4, .int x4v), (5, .int x5v), (6, .int x6v), (7, .int x7v)] [] δ (kt74 x4v x5v x6v x7v δ)) : ∀ (x4v : Int32) (x5v : Int32) (x6v : Int32) (x7v : Int32) (δ : dp), AWD l D cy m_X12_joins d 0 0 ei g 168 [(0, .ref a0), (1, .int x1), (2, .int x2), (3, .int x3), (4, .int x4v), (5, .int x5v), (6, .int x6v), (7, .int x7v)] [] δ (J_X12_joins_168 N g a0 x1 x2 x3 kt74 x4v x5v x6v x7v δ) := by
    intro x4v x5v x6v x7v δ 
    unfold J_X12_joins_168
    refine w_inb (fun x_44 e_45 => ?_)
    refine w_iinc 7 [(7, .int x_44), (0, .ref a0), (1, .int x1), (2, .int x2), (3, .int x3), (4, .int x4v), (5, .int x5v), (6, .int x6v)] (μ := m_X12_joins) (pc := 168) dX12_joins_168 rfl (by rw [e_45]; rfl) (by decide) rfl ?_
    refine w_goto 74 (μ := m_X12_joins) (pc := 171) dX12_joins_171 (by decide) ?_
    refine w_lv [1, 2, 3, 4, 5, 6, 7, 0] rfl ?_
    exact hk74 _ _ _ _ _
def J_X12_joins_165 (N : Nat) (g : gp) (a0 : Nat) (x1 : Int32) (x2 : Int32) (x3 : Int32) (kt74 : Int32 → Int32 → Int32 → Int32 → dp → Option (Int32 × dp)) (xs0 : Int32) (xs1 : Int32) (x4v : Int32) (x6v : Int32) (x7v : Int32) (δ : dp) : Option (Int32 × dp) :=
  bi (xs1 + xs0) fun x_42 => J_X12_joins_168 N g a0 x1 x2 x3 kt74 x4v x_42 x6v x7v δ
set_option maxHeartbeats 4000000 in
set_option maxRecDepth 100000 in
theorem t_J_X12_joins_165 {l : Launch} {D : va_G} {cy : Nat → ClassId} {N d : Nat} {g : gp} (wt : WT g) (hl : l.stackTraces = false) (hd : 67 ≤ d) {a0 : Nat} {x1 : Int32} {x2 : Int32} {x3 : Int32} (k0 : q_K g a0 = 12) {kt74 : Int32 → Int32 → Int32 → Int32 → dp → Option (Int32 × dp)} (hk74 : ∀ (x4v : Int32) (x5v : Int32) (x6v : Int32) (x7v : Int32) (δ : dp), AWD l D cy m_X12_joins d 0 0 ei g 74 [(0, .ref a0), (1, .int x1), (2, .int x2), (3, .int x3), (4, .int x4v), (5, .int x5v), (6, .int x6v), (7, .int x7v)] [] δ (kt74 x4v x5v x6v x7v δ)) : ∀ (xs0 : Int32) (xs1 : Int32) (x4v : Int32) (x6v : Int32) (x7v : Int32) (δ : dp), AWD l D cy m_X12_joins d 0 0 ei g 165 [(0, .ref a0), (1, .int x1), (2, .int x2), (3, .int x3), (4, .int x4v), (6, .int x6v), (7, .int x7v)] [.int xs0, .int xs1] δ (J_X12_joins_165 N g a0 x1 x2 x3 kt74 xs0 xs1 x4v x6v x7v δ) := by
    intro xs0 xs1 x4v x6v x7v δ 
    unfold J_X12_joins_165
    refine w_iadd (μ := m_X12_joins) (pc := 165) dX12_joins_165 ?_
    refine w_bi (fun x_42 e_43 => ?_)
    refine w_istore [(5, .int x_42), (0, .ref a0), (1, .int x1), (2, .int x2), (3, .int x3), (4, .int x4v), (6, .int x6v), (7, .int x7v)] (μ := m_X12_joins) (pc := 166) dX12_joins_166 (by decide) rfl ?_
    refine w_lv [1, 2, 3, 4, 5, 0, 6, 7] rfl ?_
    exact t_J_X12_joins_168 wt hl (by omega) k0 hk74 _ _ _ _ _
def J_X12_joins_164 (N : Nat) (g : gp) (a0 : Nat) (x1 : Int32) (x2 : Int32) (x3 : Int32) (kt74 : Int32 → Int32 → Int32 → Int32 → dp → Option (Int32 × dp)) (xs0 : Int32) (x4v : Int32) (x6v : Int32) (x7v : Int32) (δ : dp) : Option (Int32 × dp) :=
  J_X12_joins_165 N g a0 x1 x2 x3 kt74 1 xs0 x4v x6v x7v δ
set_option maxHeartbeats 4000000 in
set_option maxRecDepth 100000 in
theorem t_J_X12_joins_164 {l : Launch} {D : va_G} {cy : Nat → ClassId} {N d : Nat} {g : gp} (wt : WT g) (hl : l.stackTraces = false) (hd : 67 ≤ d) {a0 : Nat} {x1 : Int32} {x2 : Int32} {x3 : Int32} (k0 : q_K g a0 = 12) {kt74 : Int32 → Int32 → Int32 → Int32 → dp → Option (Int32 × dp)} (hk74 : ∀ (x4v : Int32) (x5v : Int32) (x6v : Int32) (x7v : Int32) (δ : dp), AWD l D cy m_X12_joins d 0 0 ei g 74 [(0, .ref a0), (1, .int x1), (2, .int x2), (3, .int x3), (4, .int x4v), (5, .int x5v), (6, .int x6v), (7, .int x7v)] [] δ (kt74 x4v x5v x6v x7v δ)) : ∀ (xs0 : Int32) (x4v : Int32) (x6v : Int32) (x7v : Int32) (δ : dp), AWD l D cy m_X12_joins d 0 0 ei g 164 [(0, .ref a0), (1, .int x1), (2, .int x2), (3, .int x3), (4, .int x4v), (6, .int x6v), (7, .int x7v)] [.int xs0] δ (J_X12_joins_164 N g a0 x1 x2 x3 kt74 xs0 x4v x6v x7v δ) := by
    intro xs0 x4v x6v x7v δ 
    unfold J_X12_joins_164
    refine w_iconst (v := 1) (μ := m_X12_joins) (pc := 164) dX12_joins_164 (by decide) ?_
    exact t_J_X12_joins_165 wt hl (by omega) k0 hk74 _ _ _ _ _ _
def J_X12_joins_160 (N : Nat) (g : gp) (a0 : Nat) (x1 : Int32) (x2 : Int32) (x3 : Int32) (kt74 : Int32 → Int32 → Int32 → Int32 → dp → Option (Int32 × dp)) (xs0 : Int32) (x4v : Int32) (x6v : Int32) (x7v : Int32) (δ : dp) : Option (Int32 × dp) :=
  J_X12_joins_165 N g a0 x1 x2 x3 kt74 0 xs0 x4v x6v x7v δ
set_option maxHeartbeats 4000000 in
set_option maxRecDepth 100000 in
theorem t_J_X12_joins_160 {l : Launch} {D : va_G} {cy : Nat → ClassId} {N d : Nat} {g : gp} (wt : WT g) (hl : l.stackTraces = false) (hd : 67 ≤ d) {a0 : Nat} {x1 : Int32} {x2 : Int32} {x3 : Int32} (k0 : q_K g a0 = 12) {kt74 : Int32 → Int32 → Int32 → Int32 → dp → Option (Int32 × dp)} (hk74 : ∀ (x4v : Int32) (x5v : Int32) (x6v : Int32) (x7v : Int32) (δ : dp), AWD l D cy m_X12_joins d 0 0 ei g 74 [(0, .ref a0), (1, .int x1), (2, .int x2), (3, .int x3), (4, .int x4v), (5, .int x5v), (6, .int x6v), (7, .int x7v)] [] δ (kt74 x4v x5v x6v x7v δ)) : ∀ (xs0 : Int32) (x4v : Int32) (x6v : Int32) (x7v : Int32) (δ : dp), AWD l D cy m_X12_joins d 0 0 ei g 160 [(0, .ref a0), (1, .int x1), (2, .int x2), (3, .int x3), (4, .int x4v), (6, .int x6v), (7, .int x7v)] [.int xs0] δ (J_X12_joins_160 N g a0 x1 x2 x3 kt74 xs0 x4v x6v x7v δ) := by
    intro xs0 x4v x6v x7v δ 
    unfold J_X12_joins_160
    refine w_iconst (v := 0) (μ := m_X12_joins) (pc := 160) dX12_joins_160 (by decide) ?_
    refine w_goto 165 (μ := m_X12_joins) (pc := 161) dX12_joins_161 (by decide) ?_
    exact t_J_X12_joins_165 wt hl (by omega) k0 hk74 _ _ _ _ _ _
def J_X12_joins_150 (N : Nat) (g : gp) (a0 : Nat) (x1 : Int32) (x2 : Int32) (x3 : Int32) (kt74 : Int32 → Int32 → Int32 → Int32 → dp → Option (Int32 × dp)) (xs0 : Int32) (x4v : Int32) (x6v : Int32) (x7v : Int32) (x9v : Int32) (δ : dp) : Option (Int32 × dp) :=
  if x3 = (2 : Int32) then (if x9v = 0 then (J_X12_joins_160 N g a0 x1 x2 x3 kt74 xs0 x4v x6v x7v δ) else (J_X12_joins_164 N g a0 x1 x2 x3 kt74 xs0 x4v x6v x7v δ)) else (J_X12_joins_164 N g a0 x1 x2 x3 kt74 xs0 x4v x6v x7v δ)
set_option maxHeartbeats 4000000 in
set_option maxRecDepth 100000 in
theorem t_J_X12_joins_150 {l : Launch} {D : va_G} {cy : Nat → ClassId} {N d : Nat} {g : gp} (wt : WT g) (hl : l.stackTraces = false) (hd : 67 ≤ d) {a0 : Nat} {x1 : Int32} {x2 : Int32} {x3 : Int32} (k0 : q_K g a0 = 12) {kt74 : Int32 → Int32 → Int32 → Int32 → dp → Option (Int32 × dp)} (hk74 : ∀ (x4v : Int32) (x5v : Int32) (x6v : Int32) (x7v : Int32) (δ : dp), AWD l D cy m_X12_joins d 0 0 ei g 74 [(0, .ref a0), (1, .int x1), (2, .int x2), (3, .int x3), (4, .int x4v), (5, .int x5v), (6, .int x6v), (7, .int x7v)] [] δ (kt74 x4v x5v x6v x7v δ)) : ∀ (xs0 : Int32) (x4v : Int32) (x6v : Int32) (x7v : Int32) (x9v : Int32) (δ : dp), AWD l D cy m_X12_joins d 0 0 ei g 150 [(0, .ref a0), (1, .int x1), (2, .int x2), (3, .int x3), (4, .int x4v), (6, .int x6v), (7, .int x7v), (9, .int x9v)] [.int xs0] δ (J_X12_joins_150 N g a0 x1 x2 x3 kt74 xs0 x4v x6v x7v x9v δ) := by
    intro xs0 x4v x6v x7v x9v δ 
    unfold J_X12_joins_150
    refine w_iload_n 3 3 (μ := m_X12_joins) (pc := 150) dX12_joins_150 rfl rfl ?_
    refine w_iconst (v := 2) (μ := m_X12_joins) (pc := 151) dX12_joins_151 (by decide) ?_
    refine w_icmp_ne 164 (μ := m_X12_joins) (pc := 152) dX12_joins_152 (by decide) (fun c_41 => ?_) (fun c_41 => ?_)
    · refine w_lv [0, 1, 2, 3, 4, 5, 6] rfl ?_
      exact t_J_X12_joins_164 wt hl (by omega) k0 hk74 _ _ _ _ _
    · refine w_iload 7 (μ := m_X12_joins) (pc := 155) dX12_joins_155 rfl ?_
      refine w_if_ne 164 (μ := m_X12_joins) (pc := 157) dX12_joins_157 (by decide) (fun c_46 => ?_) (fun c_46 => ?_)
      · refine w_lv [0, 1, 2, 3, 4, 5, 6] rfl ?_
        exact t_J_X12_joins_164 wt hl (by omega) k0 hk74 _ _ _ _ _
      · refine w_lv [0, 1, 2, 3, 4, 5, 6] rfl ?_
        exact t_J_X12_joins_160 wt hl (by omega) k0 hk74 _ _ _ _ _
def J_X12_joins_127 (N : Nat) (g : gp) (a0 : Nat) (x1 : Int32) (x2 : Int32) (x3 : Int32) (kt74 : Int32 → Int32 → Int32 → Int32 → dp → Option (Int32 × dp)) (x4v : Int32) (x5v : Int32) (x6v : Int32) (x7v : Int32) (x8v : Int32) (x9v : Int32) (δ : dp) : Option (Int32 × dp) :=
  (q_O g 12 48 a0).bind fun b_34 => if x4v < 0 ∨ q_N g b_34 ≤ x4v.toNatClampNeg then none else bd (s_R δ b_34 x4v.toNatClampNeg x8v) fun δ_36 => bi (x4v + 1) fun x_38 => if x3 = 0 then (if x9v = 0 then (J_X12_joins_150 N g a0 x1 x2 x3 kt74 x5v x_38 x6v x7v x9v δ_36) else (J_X12_joins_160 N g a0 x1 x2 x3 kt74 x5v x_38 x6v x7v δ_36)) else (J_X12_joins_150 N g a0 x1 x2 x3 kt74 x5v x_38 x6v x7v x9v δ_36)
set_option maxHeartbeats 4000000 in
set_option maxRecDepth 100000 in
theorem t_J_X12_joins_127 {l : Launch} {D : va_G} {cy : Nat → ClassId} {N d : Nat} {g : gp} (wt : WT g) (hl : l.stackTraces = false) (hd : 67 ≤ d) {a0 : Nat} {x1 : Int32} {x2 : Int32} {x3 : Int32} (k0 : q_K g a0 = 12) {kt74 : Int32 → Int32 → Int32 → Int32 → dp → Option (Int32 × dp)} (hk74 : ∀ (x4v : Int32) (x5v : Int32) (x6v : Int32) (x7v : Int32) (δ : dp), AWD l D cy m_X12_joins d 0 0 ei g 74 [(0, .ref a0), (1, .int x1), (2, .int x2), (3, .int x3), (4, .int x4v), (5, .int x5v), (6, .int x6v), (7, .int x7v)] [] δ (kt74 x4v x5v x6v x7v δ)) : ∀ (x4v : Int32) (x5v : Int32) (x6v : Int32) (x7v : Int32) (x8v : Int32) (x9v : Int32) (δ : dp), AWD l D cy m_X12_joins d 0 0 ei g 127 [(0, .ref a0), (1, .int x1), (2, .int x2), (3, .int x3), (4, .int x4v), (5, .int x5v), (6, .int x6v), (7, .int x7v), (8, .int x8v), (9, .int x9v)] [] δ (J_X12_joins_127 N g a0 x1 x2 x3 kt74 x4v x5v x6v x7v x8v x9v δ) := by
    intro x4v x5v x6v x7v x8v x9v δ 
    unfold J_X12_joins_127
    refine w_aload_n 0 0 (μ := m_X12_joins) (pc := 127) dX12_joins_127 rfl rfl ?_
    refine w_getO (μ := m_X12_joins) (pc := 128) dX12_joins_128 fl_X12_103 ir_12_48 id_12_48 k0 (fun b_34 e_35 => ?_)
    refine w_iload 4 (μ := m_X12_joins) (pc := 131) dX12_joins_131 rfl ?_
    refine w_iload 8 (μ := m_X12_joins) (pc := 133) dX12_joins_133 rfl ?_
    refine w_ast (μ := m_X12_joins) (pc := 135) dX12_joins_135 (wt_12_48 wt k0 e_35) ?_
    refine w_bd (fun δ_36 e_37 => ?_)
    refine w_inb (fun x_38 e_39 => ?_)
    refine w_iinc 4 [(4, .int x_38), (0, .ref a0), (1, .int x1), (2, .int x2), (3, .int x3), (5, .int x5v), (6, .int x6v), (7, .int x7v), (8, .int x8v), (9, .int x9v)] (μ := m_X12_joins) (pc := 136) dX12_joins_136 rfl (by rw [e_39]; rfl) (by decide) rfl ?_
    refine w_iload 5 (μ := m_X12_joins) (pc := 139) dX12_joins_139 rfl ?_
    refine w_iload_n 4 3 (μ := m_X12_joins) (pc := 141) dX12_joins_141 rfl rfl ?_
    refine w_if_ne 150 (μ := m_X12_joins) (pc := 142) dX12_joins_142 (by decide) (fun c_40 => ?_) (fun c_40 => ?_)
    · refine w_lv [1, 2, 3, 4, 0, 6, 7, 9] rfl ?_
      exact t_J_X12_joins_150 wt hl (by omega) k0 hk74 _ _ _ _ _ _
    · refine w_iload 9 (μ := m_X12_joins) (pc := 145) dX12_joins_145 rfl ?_
      refine w_if_ne 160 (μ := m_X12_joins) (pc := 147) dX12_joins_147 (by decide) (fun c_47 => ?_) (fun c_47 => ?_)
      · refine w_lv [1, 2, 3, 4, 0, 6, 7] rfl ?_
        exact t_J_X12_joins_160 wt hl (by omega) k0 hk74 _ _ _ _ _
      · refine w_lv [1, 2, 3, 4, 0, 6, 7, 9] rfl ?_
        exact t_J_X12_joins_150 wt hl (by omega) k0 hk74 _ _ _ _ _ _
def J_X12_joins_107 (N : Nat) (g : gp) (a0 : Nat) (x1 : Int32) (x2 : Int32) (x3 : Int32) (kt74 : Int32 → Int32 → Int32 → Int32 → dp → Option (Int32 × dp)) (xs0 : Int32) (as1 : Nat) (x4v : Int32) (x5v : Int32) (x6v : Int32) (x7v : Int32) (x8v : Int32) (δ : dp) : Option (Int32 × dp) :=
  (D_X12_isThere N g as1 xs0 x8v δ).bind fun r_32 => if x3 = (1 : Int32) then (if r_32.1 = 0 then (J_X12_joins_127 N g a0 x1 x2 x3 kt74 x4v x5v x6v x7v x8v r_32.1 r_32.2) else (J_X12_joins_168 N g a0 x1 x2 x3 kt74 x4v x5v x6v x7v r_32.2)) else (J_X12_joins_127 N g a0 x1 x2 x3 kt74 x4v x5v x6v x7v x8v r_32.1 r_32.2)
set_option maxHeartbeats 4000000 in
set_option maxRecDepth 100000 in
theorem t_J_X12_joins_107 {l : Launch} {D : va_G} {cy : Nat → ClassId} {N d : Nat} {g : gp} (wt : WT g) (hl : l.stackTraces = false) (hd : 67 ≤ d) {a0 : Nat} {x1 : Int32} {x2 : Int32} {x3 : Int32} (k0 : q_K g a0 = 12) {kt74 : Int32 → Int32 → Int32 → Int32 → dp → Option (Int32 × dp)} (hk74 : ∀ (x4v : Int32) (x5v : Int32) (x6v : Int32) (x7v : Int32) (δ : dp), AWD l D cy m_X12_joins d 0 0 ei g 74 [(0, .ref a0), (1, .int x1), (2, .int x2), (3, .int x3), (4, .int x4v), (5, .int x5v), (6, .int x6v), (7, .int x7v)] [] δ (kt74 x4v x5v x6v x7v δ)) : ∀ (xs0 : Int32) (as1 : Nat) (x4v : Int32) (x5v : Int32) (x6v : Int32) (x7v : Int32) (x8v : Int32) (δ : dp), q_K g as1 = 12 → AWD l D cy m_X12_joins d 0 0 ei g 107 [(0, .ref a0), (1, .int x1), (2, .int x2), (3, .int x3), (4, .int x4v), (5, .int x5v), (6, .int x6v), (7, .int x7v), (8, .int x8v)] [.int xs0, .ref as1] δ (J_X12_joins_107 N g a0 x1 x2 x3 kt74 xs0 as1 x4v x5v x6v x7v x8v δ) := by
    intro xs0 as1 x4v x5v x6v x7v x8v δ has1
    unfold J_X12_joins_107
    refine w_iload 8 (μ := m_X12_joins) (pc := 107) dX12_joins_107 rfl ?_
    refine w_callV (As := [.int xs0, .int x8v]) (rest := []) (μ := m_X12_joins) (pc := 109) dX12_joins_109 cv_X12_267 rfl rfl has1 (by decide) rfl (Nat.le_of_ble_eq_true rfl) (d' := d - 1) (by omega) he_i (c_X12_isThere wt hl (d := d - 1) (by omega) has1) (fun r_32 => ?_)
    refine w_istore [(9, .int r_32.1), (0, .ref a0), (1, .int x1), (2, .int x2), (3, .int x3), (4, .int x4v), (5, .int x5v), (6, .int x6v), (7, .int x7v), (8, .int x8v)] (μ := m_X12_joins) (pc := 112) dX12_joins_112 (by decide) rfl ?_
    refine w_iload_n 4 3 (μ := m_X12_joins) (pc := 114) dX12_joins_114 rfl rfl ?_
    refine w_iconst (v := 1) (μ := m_X12_joins) (pc := 115) dX12_joins_115 (by decide) ?_
    refine w_icmp_ne 127 (μ := m_X12_joins) (pc := 116) dX12_joins_116 (by decide) (fun c_33 => ?_) (fun c_33 => ?_)
    · refine w_lv [1, 2, 3, 4, 5, 6, 7, 8, 9, 0] rfl ?_
      exact t_J_X12_joins_127 wt hl (by omega) k0 hk74 _ _ _ _ _ _ _
    · refine w_iload 0 (μ := m_X12_joins) (pc := 119) dX12_joins_119 rfl ?_
      refine w_if_eq 127 (μ := m_X12_joins) (pc := 121) dX12_joins_121 (by decide) (fun c_48 => ?_) (fun c_48 => ?_)
      · refine w_lv [1, 2, 3, 4, 5, 6, 7, 8, 9, 0] rfl ?_
        exact t_J_X12_joins_127 wt hl (by omega) k0 hk74 _ _ _ _ _ _ _
      · refine w_goto 168 (μ := m_X12_joins) (pc := 124) dX12_joins_124 (by decide) ?_
        refine w_lv [1, 2, 3, 4, 5, 6, 7, 8] rfl ?_
        exact t_J_X12_joins_168 wt hl (by omega) k0 hk74 _ _ _ _ _
def L_X12_joins_74 (N : Nat) (g : gp) (a0 : Nat) (x1 : Int32) (x2 : Int32) (x3 : Int32) : Nat → Int32 → Int32 → Int32 → Int32 → dp → Option (Int32 × dp)
  | 0, _, _, _, _, _ => none
  | n + 1, x4v, x5v, x6v, x7v, δ => (q_O g 12 14 a0).bind fun b_11 => if x6v < 0 ∨ q_N g b_11 ≤ x6v.toNatClampNeg then none else if (q_R δ b_11 x6v.toNatClampNeg) ≤ x7v then (if x3 = 0 then ((q_O g 12 14 a0).bind fun b_27 => if x1 < 0 ∨ q_N g b_27 ≤ x1.toNatClampNeg then none else if ((q_R δ b_27 x1.toNatClampNeg) + x5v) ≤ (2000 : Int32) then (J_X12_joins_195 N g a0 x1 x2 x3 x4v x5v δ) else (some ((-1), δ))) else (J_X12_joins_195 N g a0 x1 x2 x3 x4v x5v δ)) else ((D_X12_numberAt N g a0 x6v x7v δ).bind fun r_30 => if x3 = (1 : Int32) then (J_X12_joins_107 N g a0 x1 x2 x3 (L_X12_joins_74 N g a0 x1 x2 x3 n) x2 a0 x4v x5v x6v x7v r_30.1 r_30.2) else (J_X12_joins_107 N g a0 x1 x2 x3 (L_X12_joins_74 N g a0 x1 x2 x3 n) x1 a0 x4v x5v x6v x7v r_30.1 r_30.2))
set_option maxHeartbeats 4000000 in
set_option maxRecDepth 100000 in
theorem t_L_X12_joins_74 {l : Launch} {D : va_G} {cy : Nat → ClassId} {N d : Nat} {g : gp} (wt : WT g) (hl : l.stackTraces = false) (hd : 67 ≤ d) {a0 : Nat} {x1 : Int32} {x2 : Int32} {x3 : Int32} (k0 : q_K g a0 = 12) : ∀ (n : Nat) (x4v : Int32) (x5v : Int32) (x6v : Int32) (x7v : Int32) (δ : dp), AWD l D cy m_X12_joins d 0 0 ei g 74 [(0, .ref a0), (1, .int x1), (2, .int x2), (3, .int x3), (4, .int x4v), (5, .int x5v), (6, .int x6v), (7, .int x7v)] [] δ (L_X12_joins_74 N g a0 x1 x2 x3 n x4v x5v x6v x7v δ) := by
  intro n
  induction n with
  | zero => intro x4v x5v x6v x7v δ ; exact w_none
  | succ n ih =>
    intro x4v x5v x6v x7v δ 
    unfold L_X12_joins_74
    refine w_iload 7 (μ := m_X12_joins) (pc := 74) dX12_joins_74 rfl ?_
    refine w_aload_n 0 0 (μ := m_X12_joins) (pc := 76) dX12_joins_76 rfl rfl ?_
    refine w_getO (μ := m_X12_joins) (pc := 77) dX12_joins_77 fl_X12_36 ir_12_14 id_12_14 k0 (fun b_11 e_12 => ?_)
    refine w_iload 6 (μ := m_X12_joins) (pc := 80) dX12_joins_80 rfl ?_
    refine w_ald (μ := m_X12_joins) (pc := 82) dX12_joins_82 (wt_12_14 wt k0 e_12) ?_
    refine w_icmp_ge 174 (μ := m_X12_joins) (pc := 83) dX12_joins_83 (by decide) (fun c_13 => ?_) (fun c_13 => ?_)
    · refine w_iload_n 3 3 (μ := m_X12_joins) (pc := 174) dX12_joins_174 rfl rfl ?_
      refine w_if_ne 195 (μ := m_X12_joins) (pc := 175) dX12_joins_175 (by decide) (fun c_14 => ?_) (fun c_14 => ?_)
      · refine w_lv [0, 1, 3, 4, 5] rfl ?_
        exact t_J_X12_joins_195 wt hl (by omega) k0 _ _ _
      · refine w_aload_n 0 0 (μ := m_X12_joins) (pc := 178) dX12_joins_178 rfl rfl ?_
        refine w_getO (μ := m_X12_joins) (pc := 179) dX12_joins_179 fl_X12_36 ir_12_14 id_12_14 k0 (fun b_27 e_28 => ?_)
        refine w_iload_n 1 1 (μ := m_X12_joins) (pc := 182) dX12_joins_182 rfl rfl ?_
        refine w_ald (μ := m_X12_joins) (pc := 183) dX12_joins_183 (wt_12_14 wt k0 e_28) ?_
        refine w_iload 5 (μ := m_X12_joins) (pc := 184) dX12_joins_184 rfl ?_
        refine w_iadd (μ := m_X12_joins) (pc := 186) dX12_joins_186 ?_
        refine w_sipush (v := 2000) (μ := m_X12_joins) (pc := 187) dX12_joins_187 (by decide) ?_
        refine w_icmp_le 195 (μ := m_X12_joins) (pc := 190) dX12_joins_190 (by decide) (fun c_29 => ?_) (fun c_29 => ?_)
        · refine w_lv [0, 1, 3, 4, 5] rfl ?_
          exact t_J_X12_joins_195 wt hl (by omega) k0 _ _ _
        · refine w_iconst (v := (-1)) (μ := m_X12_joins) (pc := 193) dX12_joins_193 (by decide) ?_
          exact w_iret (μ := m_X12_joins) (pc := 194) dX12_joins_194 rfl rfl
    · refine w_aload_n 0 0 (μ := m_X12_joins) (pc := 86) dX12_joins_86 rfl rfl ?_
      refine w_iload 6 (μ := m_X12_joins) (pc := 87) dX12_joins_87 rfl ?_
      refine w_iload 7 (μ := m_X12_joins) (pc := 89) dX12_joins_89 rfl ?_
      refine w_callV (As := [.int x6v, .int x7v]) (rest := []) (μ := m_X12_joins) (pc := 91) dX12_joins_91 cv_X12_280 rfl rfl k0 (by decide) rfl (Nat.le_of_ble_eq_true rfl) (d' := d - 1) (by omega) he_i (c_X12_numberAt wt hl (d := d - 1) (by omega) k0) (fun r_30 => ?_)
      refine w_istore [(8, .int r_30.1), (0, .ref a0), (1, .int x1), (2, .int x2), (3, .int x3), (4, .int x4v), (5, .int x5v), (6, .int x6v), (7, .int x7v)] (μ := m_X12_joins) (pc := 94) dX12_joins_94 (by decide) rfl ?_
      refine w_aload_n 1 0 (μ := m_X12_joins) (pc := 96) dX12_joins_96 rfl rfl ?_
      refine w_iload_n 4 3 (μ := m_X12_joins) (pc := 97) dX12_joins_97 rfl rfl ?_
      refine w_iconst (v := 1) (μ := m_X12_joins) (pc := 98) dX12_joins_98 (by decide) ?_
      refine w_icmp_ne 106 (μ := m_X12_joins) (pc := 99) dX12_joins_99 (by decide) (fun c_31 => ?_) (fun c_31 => ?_)
      · refine w_iload_n 2 1 (μ := m_X12_joins) (pc := 106) dX12_joins_106 rfl rfl ?_
        refine w_lv [1, 2, 3, 4, 5, 6, 7, 8, 0] rfl ?_
        exact t_J_X12_joins_107 wt hl (by omega) k0 ih _ _ _ _ _ _ _ _ k0
      · refine w_iload_n 3 2 (μ := m_X12_joins) (pc := 102) dX12_joins_102 rfl rfl ?_
        refine w_goto 107 (μ := m_X12_joins) (pc := 103) dX12_joins_103 (by decide) ?_
        refine w_lv [1, 2, 3, 4, 5, 6, 7, 8, 0] rfl ?_
        exact t_J_X12_joins_107 wt hl (by omega) k0 ih _ _ _ _ _ _ _ _ k0
def J_X12_joins_69 (N : Nat) (g : gp) (a0 : Nat) (x1 : Int32) (x2 : Int32) (x3 : Int32) (xs0 : Int32) (x4v : Int32) (x5v : Int32) (δ : dp) : Option (Int32 × dp) :=
  L_X12_joins_74 N g a0 x1 x2 x3 N x4v x5v xs0 0 δ
set_option maxHeartbeats 4000000 in
set_option maxRecDepth 100000 in
theorem t_J_X12_joins_69 {l : Launch} {D : va_G} {cy : Nat → ClassId} {N d : Nat} {g : gp} (wt : WT g) (hl : l.stackTraces = false) (hd : 67 ≤ d) {a0 : Nat} {x1 : Int32} {x2 : Int32} {x3 : Int32} (k0 : q_K g a0 = 12) : ∀ (xs0 : Int32) (x4v : Int32) (x5v : Int32) (δ : dp), AWD l D cy m_X12_joins d 0 0 ei g 69 [(0, .ref a0), (1, .int x1), (2, .int x2), (3, .int x3), (4, .int x4v), (5, .int x5v)] [.int xs0] δ (J_X12_joins_69 N g a0 x1 x2 x3 xs0 x4v x5v δ) := by
    intro xs0 x4v x5v δ 
    unfold J_X12_joins_69
    refine w_istore [(6, .int xs0), (0, .ref a0), (1, .int x1), (2, .int x2), (3, .int x3), (4, .int x4v), (5, .int x5v)] (μ := m_X12_joins) (pc := 69) dX12_joins_69 (by decide) rfl ?_
    refine w_iconst (v := 0) (μ := m_X12_joins) (pc := 71) dX12_joins_71 (by decide) ?_
    refine w_istore [(7, .int 0), (6, .int xs0), (0, .ref a0), (1, .int x1), (2, .int x2), (3, .int x3), (4, .int x4v), (5, .int x5v)] (μ := m_X12_joins) (pc := 72) dX12_joins_72 (by decide) rfl ?_
    refine w_lv [2, 3, 4, 5, 6, 7, 1, 0] rfl ?_
    exact t_L_X12_joins_74 wt hl (by omega) k0 N _ _ _ _ _
def J_X12_joins_43 (N : Nat) (g : gp) (a0 : Nat) (x1 : Int32) (x2 : Int32) (x3 : Int32) (xs0 : Int32) (as1 : Nat) (δ : dp) : Option (Int32 × dp) :=
  (D_X12_may N g as1 xs0 2 2 δ).bind fun r_8 => if r_8.1 = 0 then (J_X12_joins_51 N g a0 x1 x2 x3 r_8.2) else (if x3 = (1 : Int32) then (J_X12_joins_69 N g a0 x1 x2 x3 x1 0 0 r_8.2) else (J_X12_joins_69 N g a0 x1 x2 x3 x2 0 0 r_8.2))
set_option maxHeartbeats 4000000 in
set_option maxRecDepth 100000 in
theorem t_J_X12_joins_43 {l : Launch} {D : va_G} {cy : Nat → ClassId} {N d : Nat} {g : gp} (wt : WT g) (hl : l.stackTraces = false) (hd : 67 ≤ d) {a0 : Nat} {x1 : Int32} {x2 : Int32} {x3 : Int32} (k0 : q_K g a0 = 12) : ∀ (xs0 : Int32) (as1 : Nat) (δ : dp), q_K g as1 = 12 → AWD l D cy m_X12_joins d 0 0 ei g 43 [(0, .ref a0), (1, .int x1), (2, .int x2), (3, .int x3)] [.int xs0, .ref as1] δ (J_X12_joins_43 N g a0 x1 x2 x3 xs0 as1 δ) := by
    intro xs0 as1 δ has1
    unfold J_X12_joins_43
    refine w_iconst (v := 2) (μ := m_X12_joins) (pc := 43) dX12_joins_43 (by decide) ?_
    refine w_iconst (v := 2) (μ := m_X12_joins) (pc := 44) dX12_joins_44 (by decide) ?_
    refine w_callV (As := [.int xs0, .int 2, .int 2]) (rest := []) (μ := m_X12_joins) (pc := 45) dX12_joins_45 cv_X12_157 rfl rfl has1 (by decide) rfl (Nat.le_of_ble_eq_true rfl) (d' := d - 1) (by omega) he_i (c_X12_may wt hl (d := d - 1) (by omega) has1) (fun r_8 => ?_)
    refine w_if_ne 53 (μ := m_X12_joins) (pc := 48) dX12_joins_48 (by decide) (fun c_9 => ?_) (fun c_9 => ?_)
    · refine w_iconst (v := 0) (μ := m_X12_joins) (pc := 53) dX12_joins_53 (by decide) ?_
      refine w_istore [(4, .int 0), (0, .ref a0), (1, .int x1), (2, .int x2), (3, .int x3)] (μ := m_X12_joins) (pc := 54) dX12_joins_54 (by decide) rfl ?_
      refine w_iconst (v := 0) (μ := m_X12_joins) (pc := 56) dX12_joins_56 (by decide) ?_
      refine w_istore [(5, .int 0), (4, .int 0), (0, .ref a0), (1, .int x1), (2, .int x2), (3, .int x3)] (μ := m_X12_joins) (pc := 57) dX12_joins_57 (by decide) rfl ?_
      refine w_iload_n 5 3 (μ := m_X12_joins) (pc := 59) dX12_joins_59 rfl rfl ?_
      refine w_iconst (v := 1) (μ := m_X12_joins) (pc := 60) dX12_joins_60 (by decide) ?_
      refine w_icmp_ne 68 (μ := m_X12_joins) (pc := 61) dX12_joins_61 (by decide) (fun c_10 => ?_) (fun c_10 => ?_)
      · refine w_iload_n 4 2 (μ := m_X12_joins) (pc := 68) dX12_joins_68 rfl rfl ?_
        refine w_lv [2, 3, 4, 5, 1, 0] rfl ?_
        exact t_J_X12_joins_69 wt hl (by omega) k0 _ _ _ _
      · refine w_iload_n 3 1 (μ := m_X12_joins) (pc := 64) dX12_joins_64 rfl rfl ?_
        refine w_goto 69 (μ := m_X12_joins) (pc := 65) dX12_joins_65 (by decide) ?_
        refine w_lv [2, 3, 4, 5, 1, 0] rfl ?_
        exact t_J_X12_joins_69 wt hl (by omega) k0 _ _ _ _
    · refine w_lv [] rfl ?_
      exact t_J_X12_joins_51 wt hl (by omega) k0 _
def J_X12_joins_42 (N : Nat) (g : gp) (a0 : Nat) (x1 : Int32) (x2 : Int32) (x3 : Int32) (as0 : Nat) (δ : dp) : Option (Int32 × dp) :=
  J_X12_joins_43 N g a0 x1 x2 x3 0 as0 δ
set_option maxHeartbeats 4000000 in
set_option maxRecDepth 100000 in
theorem t_J_X12_joins_42 {l : Launch} {D : va_G} {cy : Nat → ClassId} {N d : Nat} {g : gp} (wt : WT g) (hl : l.stackTraces = false) (hd : 67 ≤ d) {a0 : Nat} {x1 : Int32} {x2 : Int32} {x3 : Int32} (k0 : q_K g a0 = 12) : ∀ (as0 : Nat) (δ : dp), q_K g as0 = 12 → AWD l D cy m_X12_joins d 0 0 ei g 42 [(0, .ref a0), (1, .int x1), (2, .int x2), (3, .int x3)] [.ref as0] δ (J_X12_joins_42 N g a0 x1 x2 x3 as0 δ) := by
    intro as0 δ has0
    unfold J_X12_joins_42
    refine w_iconst (v := 0) (μ := m_X12_joins) (pc := 42) dX12_joins_42 (by decide) ?_
    exact t_J_X12_joins_43 wt hl (by omega) k0 _ _ _ has0
def D_X12_joins (N : Nat) (g : gp) (a0 : Nat) (x1 : Int32) (x2 : Int32) (x3 : Int32) (δ : dp) : Option (Int32 × dp) :=
  bd (s_I δ 12 0 a0 0) fun δ_1 => (D_X12_isHouse N g a0 x1 1 δ_1).bind fun r_3 => if r_3.1 = 0 then (J_X12_joins_51 N g a0 x1 x2 x3 r_3.2) else ((D_X12_isHouse N g a0 x2 1 r_3.2).bind fun r_5 => if r_5.1 = 0 then (J_X12_joins_51 N g a0 x1 x2 x3 r_5.2) else (if x1 = x2 then (J_X12_joins_42 N g a0 x1 x2 x3 a0 r_5.2) else ((D_X12_within N g x3 0 2 r_5.2).bind fun r_49 => if r_49.1 = 0 then (J_X12_joins_42 N g a0 x1 x2 x3 a0 r_49.2) else (J_X12_joins_43 N g a0 x1 x2 x3 1 a0 r_49.2))))
set_option maxHeartbeats 4000000 in
set_option maxRecDepth 100000 in
theorem c_X12_joins {l : Launch} {D : va_G} {cy : Nat → ClassId} {N d : Nat} {g : gp} (wt : WT g) (hl : l.stackTraces = false) (hd : 67 ≤ d) {a0 : Nat} {x1 : Int32} {x2 : Int32} {x3 : Int32} {δ : dp} (k0 : q_K g a0 = 12) : CalD l D cy m_X12_joins d 0 0 ei g [.ref a0, .int x1, .int x2, .int x3] δ (D_X12_joins N g a0 x1 x2 x3 δ) := by
  refine CalD.of (by decide +kernel) (Nat.le_of_ble_eq_true rfl) hl ?_
  unfold D_X12_joins
  refine w_aload_n 0 0 (μ := m_X12_joins) (pc := 0) dX12_joins_0 rfl rfl ?_
  refine w_iconst (v := 0) (μ := m_X12_joins) (pc := 1) dX12_joins_1 (by decide) ?_
  refine w_putI (μ := m_X12_joins) (pc := 2) dX12_joins_2 fl_X12_1 flw_12_0 ir_12_0 k0 ?_
  refine w_bd (fun δ_1 e_2 => ?_)
  refine w_aload_n 0 0 (μ := m_X12_joins) (pc := 5) dX12_joins_5 rfl rfl ?_
  refine w_iload_n 1 1 (μ := m_X12_joins) (pc := 6) dX12_joins_6 rfl rfl ?_
  refine w_iconst (v := 1) (μ := m_X12_joins) (pc := 7) dX12_joins_7 (by decide) ?_
  refine w_callV (As := [.int x1, .int 1]) (rest := []) (μ := m_X12_joins) (pc := 8) dX12_joins_8 cv_X12_260 rfl rfl k0 (by decide) rfl (Nat.le_of_ble_eq_true rfl) (d' := d - 1) (by omega) he_i (c_X12_isHouse wt hl (d := d - 1) (by omega) k0) (fun r_3 => ?_)
  refine w_if_eq 51 (μ := m_X12_joins) (pc := 11) dX12_joins_11 (by decide) (fun c_4 => ?_) (fun c_4 => ?_)
  · refine w_lv [] rfl ?_
    exact t_J_X12_joins_51 wt hl (by omega) k0 _
  · refine w_aload_n 0 0 (μ := m_X12_joins) (pc := 14) dX12_joins_14 rfl rfl ?_
    refine w_iload_n 2 2 (μ := m_X12_joins) (pc := 15) dX12_joins_15 rfl rfl ?_
    refine w_iconst (v := 1) (μ := m_X12_joins) (pc := 16) dX12_joins_16 (by decide) ?_
    refine w_callV (As := [.int x2, .int 1]) (rest := []) (μ := m_X12_joins) (pc := 17) dX12_joins_17 cv_X12_260 rfl rfl k0 (by decide) rfl (Nat.le_of_ble_eq_true rfl) (d' := d - 1) (by omega) he_i (c_X12_isHouse wt hl (d := d - 1) (by omega) k0) (fun r_5 => ?_)
    refine w_if_eq 51 (μ := m_X12_joins) (pc := 20) dX12_joins_20 (by decide) (fun c_6 => ?_) (fun c_6 => ?_)
    · refine w_lv [] rfl ?_
      exact t_J_X12_joins_51 wt hl (by omega) k0 _
    · refine w_aload_n 0 0 (μ := m_X12_joins) (pc := 23) dX12_joins_23 rfl rfl ?_
      refine w_iload_n 1 1 (μ := m_X12_joins) (pc := 24) dX12_joins_24 rfl rfl ?_
      refine w_iload_n 2 2 (μ := m_X12_joins) (pc := 25) dX12_joins_25 rfl rfl ?_
      refine w_icmp_eq 42 (μ := m_X12_joins) (pc := 26) dX12_joins_26 (by decide) (fun c_7 => ?_) (fun c_7 => ?_)
      · exact t_J_X12_joins_42 wt hl (by omega) k0 _ _ k0
      · refine w_iload_n 3 3 (μ := m_X12_joins) (pc := 29) dX12_joins_29 rfl rfl ?_
        refine w_iconst (v := 0) (μ := m_X12_joins) (pc := 30) dX12_joins_30 (by decide) ?_
        refine w_iconst (v := 2) (μ := m_X12_joins) (pc := 31) dX12_joins_31 (by decide) ?_
        refine w_callS (As := [.int x3, .int 0, .int 2]) (rest := [.ref a0]) (μ := m_X12_joins) (pc := 32) dX12_joins_32 cs_X12_250 rfl rfl (Nat.le_of_ble_eq_true rfl) (d' := d - 1) (by omega) he_i (c_X12_within wt hl (d := d - 1) (by omega) ) (fun r_49 => ?_)
        refine w_if_eq 42 (μ := m_X12_joins) (pc := 35) dX12_joins_35 (by decide) (fun c_50 => ?_) (fun c_50 => ?_)
        · exact t_J_X12_joins_42 wt hl (by omega) k0 _ _ k0
        · refine w_iconst (v := 1) (μ := m_X12_joins) (pc := 38) dX12_joins_38 (by decide) ?_
          refine w_goto 43 (μ := m_X12_joins) (pc := 39) dX12_joins_39 (by decide) ?_
          exact t_J_X12_joins_43 wt hl (by omega) k0 _ _ _ k0
def J_X12_split_50 (N : Nat) (g : gp) (a0 : Nat) (x1 : Int32) (x2 : Int32) (x3 : Int32) (δ : dp) : Option (Int32 × dp) :=
  some (0, δ)
set_option maxHeartbeats 4000000 in
set_option maxRecDepth 100000 in
theorem t_J_X12_split_50 {l : Launch} {D : va_G} {cy : Nat → ClassId} {N d : Nat} {g : gp} (wt : WT g) (hl : l.stackTraces = false) (hd : 67 ≤ d) {a0 : Nat} {x1 : Int32} {x2 : Int32} {x3 : Int32} (k0 : q_K g a0 = 12) : ∀ (δ : dp), AWD l D cy m_X12_split d 0 0 ei g 50 [] [] δ (J_X12_split_50 N g a0 x1 x2 x3 δ) := by
    intro  δ 
    unfold J_X12_split_50
    refine w_iconst (v := 0) (μ := m_X12_split) (pc := 50) dX12_split_50 (by decide) ?_
    exact w_iret (μ := m_X12_split) (pc := 51) dX12_split_51 rfl rfl
def J_X12_split_172 (N : Nat) (g : gp) (a0 : Nat) (x1 : Int32) (x2 : Int32) (x3 : Int32) (δ : dp) : Option (Int32 × dp) :=
  some ((-2), δ)
set_option maxHeartbeats 4000000 in
set_option maxRecDepth 100000 in
theorem t_J_X12_split_172 {l : Launch} {D : va_G} {cy : Nat → ClassId} {N d : Nat} {g : gp} (wt : WT g) (hl : l.stackTraces = false) (hd : 67 ≤ d) {a0 : Nat} {x1 : Int32} {x2 : Int32} {x3 : Int32} (k0 : q_K g a0 = 12) : ∀ (δ : dp), AWD l D cy m_X12_split d 0 0 ei g 172 [] [] δ (J_X12_split_172 N g a0 x1 x2 x3 δ) := by
    intro  δ 
    unfold J_X12_split_172
    refine w_bipush (v := (-2)) (μ := m_X12_split) (pc := 172) dX12_split_172 (by decide) ?_
    exact w_iret (μ := m_X12_split) (pc := 174) dX12_split_174 rfl rfl
def L_X12_split_181 (N : Nat) (g : gp) (a0 : Nat) (x1 : Int32) (x2 : Int32) (x3 : Int32) : Nat → Int32 → Int32 → Int32 → dp → Option (Int32 × dp)
  | 0, _, _, _, _ => none
  | n + 1, x4v, x6v, x7v, δ => if x4v ≤ x7v then (some (x6v, δ)) else ((q_O g 12 48 a0).bind fun b_24 => if x7v < 0 ∨ q_N g b_24 ≤ x7v.toNatClampNeg then none else (D_X12_calls N g a0 x1 1 (q_R δ b_24 x7v.toNatClampNeg) δ).bind fun r_26 => bi (x6v + r_26.1) fun x_27 => (q_O g 12 48 a0).bind fun b_29 => if x7v < 0 ∨ q_N g b_29 ≤ x7v.toNatClampNeg then none else (D_X12_calls N g a0 x2 0 (q_R r_26.2 b_29 x7v.toNatClampNeg) r_26.2).bind fun r_31 => bi (x_27 + r_31.1) fun x_32 => bi (x7v + 1) fun x_34 => L_X12_split_181 N g a0 x1 x2 x3 n x4v x_32 x_34 r_31.2)
set_option maxHeartbeats 4000000 in
set_option maxRecDepth 100000 in
theorem t_L_X12_split_181 {l : Launch} {D : va_G} {cy : Nat → ClassId} {N d : Nat} {g : gp} (wt : WT g) (hl : l.stackTraces = false) (hd : 67 ≤ d) {a0 : Nat} {x1 : Int32} {x2 : Int32} {x3 : Int32} (k0 : q_K g a0 = 12) : ∀ (n : Nat) (x4v : Int32) (x6v : Int32) (x7v : Int32) (δ : dp), AWD l D cy m_X12_split d 0 0 ei g 181 [(0, .ref a0), (1, .int x1), (2, .int x2), (4, .int x4v), (6, .int x6v), (7, .int x7v)] [] δ (L_X12_split_181 N g a0 x1 x2 x3 n x4v x6v x7v δ) := by
  intro n
  induction n with
  | zero => intro x4v x6v x7v δ ; exact w_none
  | succ n ih =>
    intro x4v x6v x7v δ 
    unfold L_X12_split_181
    refine w_iload 5 (μ := m_X12_split) (pc := 181) dX12_split_181 rfl ?_
    refine w_iload 3 (μ := m_X12_split) (pc := 183) dX12_split_183 rfl ?_
    refine w_icmp_ge 230 (μ := m_X12_split) (pc := 185) dX12_split_185 (by decide) (fun c_23 => ?_) (fun c_23 => ?_)
    · refine w_iload 4 (μ := m_X12_split) (pc := 230) dX12_split_230 rfl ?_
      exact w_iret (μ := m_X12_split) (pc := 232) dX12_split_232 rfl rfl
    · refine w_iload 4 (μ := m_X12_split) (pc := 188) dX12_split_188 rfl ?_
      refine w_aload_n 0 0 (μ := m_X12_split) (pc := 190) dX12_split_190 rfl rfl ?_
      refine w_iload_n 1 1 (μ := m_X12_split) (pc := 191) dX12_split_191 rfl rfl ?_
      refine w_iconst (v := 1) (μ := m_X12_split) (pc := 192) dX12_split_192 (by decide) ?_
      refine w_aload_n 0 0 (μ := m_X12_split) (pc := 193) dX12_split_193 rfl rfl ?_
      refine w_getO (μ := m_X12_split) (pc := 194) dX12_split_194 fl_X12_103 ir_12_48 id_12_48 k0 (fun b_24 e_25 => ?_)
      refine w_iload 5 (μ := m_X12_split) (pc := 197) dX12_split_197 rfl ?_
      refine w_ald (μ := m_X12_split) (pc := 199) dX12_split_199 (wt_12_48 wt k0 e_25) ?_
      refine w_callV (As := [.int x1, .int 1, .int (q_R δ b_24 x7v.toNatClampNeg)]) (rest := [.int x6v]) (μ := m_X12_split) (pc := 200) dX12_split_200 cv_X12_424 rfl rfl k0 (by decide) rfl (Nat.le_of_ble_eq_true rfl) (d' := d - 1) (by omega) he_i (c_X12_calls wt hl (d := d - 1) (by omega) k0) (fun r_26 => ?_)
      refine w_iadd (μ := m_X12_split) (pc := 203) dX12_split_203 ?_
      refine w_bi (fun x_27 e_28 => ?_)
      refine w_istore [(6, .int x_27), (0, .ref a0), (1, .int x1), (2, .int x2), (4, .int x4v), (7, .int x7v)] (μ := m_X12_split) (pc := 204) dX12_split_204 (by decide) rfl ?_
      refine w_iload 0 (μ := m_X12_split) (pc := 206) dX12_split_206 rfl ?_
      refine w_aload_n 1 0 (μ := m_X12_split) (pc := 208) dX12_split_208 rfl rfl ?_
      refine w_iload_n 3 2 (μ := m_X12_split) (pc := 209) dX12_split_209 rfl rfl ?_
      refine w_iconst (v := 0) (μ := m_X12_split) (pc := 210) dX12_split_210 (by decide) ?_
      refine w_aload_n 1 0 (μ := m_X12_split) (pc := 211) dX12_split_211 rfl rfl ?_
      refine w_getO (μ := m_X12_split) (pc := 212) dX12_split_212 fl_X12_103 ir_12_48 id_12_48 k0 (fun b_29 e_30 => ?_)
      refine w_iload 5 (μ := m_X12_split) (pc := 215) dX12_split_215 rfl ?_
      refine w_ald (μ := m_X12_split) (pc := 217) dX12_split_217 (wt_12_48 wt k0 e_30) ?_
      refine w_callV (As := [.int x2, .int 0, .int (q_R r_26.2 b_29 x7v.toNatClampNeg)]) (rest := [.int x_27]) (μ := m_X12_split) (pc := 218) dX12_split_218 cv_X12_424 rfl rfl k0 (by decide) rfl (Nat.le_of_ble_eq_true rfl) (d' := d - 1) (by omega) he_i (c_X12_calls wt hl (d := d - 1) (by omega) k0) (fun r_31 => ?_)
      refine w_iadd (μ := m_X12_split) (pc := 221) dX12_split_221 ?_
      refine w_bi (fun x_32 e_33 => ?_)
      refine w_istore [(6, .int x_32), (0, .ref a0), (1, .int x1), (2, .int x2), (4, .int x4v), (7, .int x7v)] (μ := m_X12_split) (pc := 222) dX12_split_222 (by decide) rfl ?_
      refine w_inb (fun x_34 e_35 => ?_)
      refine w_iinc 5 [(7, .int x_34), (6, .int x_32), (0, .ref a0), (1, .int x1), (2, .int x2), (4, .int x4v)] (μ := m_X12_split) (pc := 224) dX12_split_224 rfl (by rw [e_35]; rfl) (by decide) rfl ?_
      refine w_goto 181 (μ := m_X12_split) (pc := 227) dX12_split_227 (by decide) ?_
      refine w_lv [2, 3, 4, 5, 1, 0] rfl ?_
      exact ih _ _ _ _
def J_X12_split_113 (N : Nat) (g : gp) (a0 : Nat) (x1 : Int32) (x2 : Int32) (x3 : Int32) (kt66 : Int32 → Int32 → Int32 → dp → Option (Int32 × dp)) (xs0 : Int32) (xs1 : Int32) (x4v : Int32) (x6v : Int32) (δ : dp) : Option (Int32 × dp) :=
  bi (xs1 + xs0) fun x_45 => bi (x4v + 1) fun x_47 => bi (x6v + 1) fun x_49 => kt66 x_47 x_45 x_49 δ
set_option maxHeartbeats 4000000 in
set_option maxRecDepth 100000 in
theorem t_J_X12_split_113 {l : Launch} {D : va_G} {cy : Nat → ClassId} {N d : Nat} {g : gp} (wt : WT g) (hl : l.stackTraces = false) (hd : 67 ≤ d) {a0 : Nat} {x1 : Int32} {x2 : Int32} {x3 : Int32} (k0 : q_K g a0 = 12) {kt66 : Int32 → Int32 → Int32 → dp → Option (Int32 × dp)} (hk66 : ∀ (x4v : Int32) (x5v : Int32) (x6v : Int32) (δ : dp), AWD l D cy m_X12_split d 0 0 ei g 66 [(0, .ref a0), (1, .int x1), (2, .int x2), (4, .int x4v), (5, .int x5v), (6, .int x6v)] [] δ (kt66 x4v x5v x6v δ)) : ∀ (xs0 : Int32) (xs1 : Int32) (x4v : Int32) (x6v : Int32) (δ : dp), AWD l D cy m_X12_split d 0 0 ei g 113 [(0, .ref a0), (1, .int x1), (2, .int x2), (4, .int x4v), (6, .int x6v)] [.int xs0, .int xs1] δ (J_X12_split_113 N g a0 x1 x2 x3 kt66 xs0 xs1 x4v x6v δ) := by
    intro xs0 xs1 x4v x6v δ 
    unfold J_X12_split_113
    refine w_iadd (μ := m_X12_split) (pc := 113) dX12_split_113 ?_
    refine w_bi (fun x_45 e_46 => ?_)
    refine w_istore [(5, .int x_45), (0, .ref a0), (1, .int x1), (2, .int x2), (4, .int x4v), (6, .int x6v)] (μ := m_X12_split) (pc := 114) dX12_split_114 (by decide) rfl ?_
    refine w_inb (fun x_47 e_48 => ?_)
    refine w_iinc 4 [(4, .int x_47), (5, .int x_45), (0, .ref a0), (1, .int x1), (2, .int x2), (6, .int x6v)] (μ := m_X12_split) (pc := 116) dX12_split_116 rfl (by rw [e_48]; rfl) (by decide) rfl ?_
    refine w_inb (fun x_49 e_50 => ?_)
    refine w_iinc 5 [(6, .int x_49), (4, .int x_47), (5, .int x_45), (0, .ref a0), (1, .int x1), (2, .int x2)] (μ := m_X12_split) (pc := 119) dX12_split_119 rfl (by rw [e_50]; rfl) (by decide) rfl ?_
    refine w_goto 66 (μ := m_X12_split) (pc := 122) dX12_split_122 (by decide) ?_
    refine w_lv [3, 4, 5, 1, 2, 0] rfl ?_
    exact hk66 _ _ _ _
def L_X12_split_66 (N : Nat) (g : gp) (a0 : Nat) (x1 : Int32) (x2 : Int32) (x3 : Int32) : Nat → Int32 → Int32 → Int32 → dp → Option (Int32 × dp)
  | 0, _, _, _, _ => none
  | n + 1, x4v, x5v, x6v, δ => (q_O g 12 14 a0).bind fun b_11 => if x1 < 0 ∨ q_N g b_11 ≤ x1.toNatClampNeg then none else if (q_R δ b_11 x1.toNatClampNeg) ≤ x6v then ((q_O g 12 14 a0).bind fun b_14 => if x2 < 0 ∨ q_N g b_14 ≤ x2.toNatClampNeg then none else if ((q_R δ b_14 x2.toNatClampNeg) + x5v) ≤ (2000 : Int32) then ((q_O g 12 17 a0).bind fun b_17 => if x1 < 0 ∨ q_N g b_17 ≤ x1.toNatClampNeg then none else if (1000 : Int32) < ((q_R δ b_17 x1.toNatClampNeg) + x4v) then (J_X12_split_172 N g a0 x1 x2 x3 δ) else ((q_O g 12 17 a0).bind fun b_20 => if x2 < 0 ∨ q_N g b_20 ≤ x2.toNatClampNeg then none else if ((q_R δ b_20 x2.toNatClampNeg) + x5v) ≤ (1000 : Int32) then (L_X12_split_181 N g a0 x1 x2 x3 N x4v 0 0 δ) else (J_X12_split_172 N g a0 x1 x2 x3 δ))) else (some ((-1), δ))) else ((q_O g 12 48 a0).bind fun b_36 => (D_X12_numberAt N g a0 x1 x6v δ).bind fun r_38 => if x4v < 0 ∨ q_N g b_36 ≤ x4v.toNatClampNeg then none else bd (s_R r_38.2 b_36 x4v.toNatClampNeg r_38.1) fun δ_39 => (q_O g 12 48 a0).bind fun b_41 => if x4v < 0 ∨ q_N g b_41 ≤ x4v.toNatClampNeg then none else (D_X12_isThere N g a0 x2 (q_R δ_39 b_41 x4v.toNatClampNeg) δ_39).bind fun r_43 => if r_43.1 = 0 then (J_X12_split_113 N g a0 x1 x2 x3 (L_X12_split_66 N g a0 x1 x2 x3 n) 1 x5v x4v x6v r_43.2) else (J_X12_split_113 N g a0 x1 x2 x3 (L_X12_split_66 N g a0 x1 x2 x3 n) 0 x5v x4v x6v r_43.2))
set_option maxHeartbeats 4000000 in
set_option maxRecDepth 100000 in
theorem t_L_X12_split_66 {l : Launch} {D : va_G} {cy : Nat → ClassId} {N d : Nat} {g : gp} (wt : WT g) (hl : l.stackTraces = false) (hd : 67 ≤ d) {a0 : Nat} {x1 : Int32} {x2 : Int32} {x3 : Int32} (k0 : q_K g a0 = 12) : ∀ (n : Nat) (x4v : Int32) (x5v : Int32) (x6v : Int32) (δ : dp), AWD l D cy m_X12_split d 0 0 ei g 66 [(0, .ref a0), (1, .int x1), (2, .int x2), (4, .int x4v), (5, .int x5v), (6, .int x6v)] [] δ (L_X12_split_66 N g a0 x1 x2 x3 n x4v x5v x6v δ) := by
  intro n
  induction n with
  | zero => intro x4v x5v x6v δ ; exact w_none
  | succ n ih =>
    intro x4v x5v x6v δ 
    unfold L_X12_split_66
    refine w_iload 5 (μ := m_X12_split) (pc := 66) dX12_split_66 rfl ?_
    refine w_aload_n 0 0 (μ := m_X12_split) (pc := 68) dX12_split_68 rfl rfl ?_
    refine w_getO (μ := m_X12_split) (pc := 69) dX12_split_69 fl_X12_36 ir_12_14 id_12_14 k0 (fun b_11 e_12 => ?_)
    refine w_iload_n 1 1 (μ := m_X12_split) (pc := 72) dX12_split_72 rfl rfl ?_
    refine w_ald (μ := m_X12_split) (pc := 73) dX12_split_73 (wt_12_14 wt k0 e_12) ?_
    refine w_icmp_ge 125 (μ := m_X12_split) (pc := 74) dX12_split_74 (by decide) (fun c_13 => ?_) (fun c_13 => ?_)
    · refine w_aload_n 0 0 (μ := m_X12_split) (pc := 125) dX12_split_125 rfl rfl ?_
      refine w_getO (μ := m_X12_split) (pc := 126) dX12_split_126 fl_X12_36 ir_12_14 id_12_14 k0 (fun b_14 e_15 => ?_)
      refine w_iload_n 2 2 (μ := m_X12_split) (pc := 129) dX12_split_129 rfl rfl ?_
      refine w_ald (μ := m_X12_split) (pc := 130) dX12_split_130 (wt_12_14 wt k0 e_15) ?_
      refine w_iload 4 (μ := m_X12_split) (pc := 131) dX12_split_131 rfl ?_
      refine w_iadd (μ := m_X12_split) (pc := 133) dX12_split_133 ?_
      refine w_sipush (v := 2000) (μ := m_X12_split) (pc := 134) dX12_split_134 (by decide) ?_
      refine w_icmp_le 142 (μ := m_X12_split) (pc := 137) dX12_split_137 (by decide) (fun c_16 => ?_) (fun c_16 => ?_)
      · refine w_aload_n 0 0 (μ := m_X12_split) (pc := 142) dX12_split_142 rfl rfl ?_
        refine w_getO (μ := m_X12_split) (pc := 143) dX12_split_143 fl_X12_45 ir_12_17 id_12_17 k0 (fun b_17 e_18 => ?_)
        refine w_iload_n 1 1 (μ := m_X12_split) (pc := 146) dX12_split_146 rfl rfl ?_
        refine w_ald (μ := m_X12_split) (pc := 147) dX12_split_147 (wt_12_17 wt k0 e_18) ?_
        refine w_iload 3 (μ := m_X12_split) (pc := 148) dX12_split_148 rfl ?_
        refine w_iadd (μ := m_X12_split) (pc := 150) dX12_split_150 ?_
        refine w_sipush (v := 1000) (μ := m_X12_split) (pc := 151) dX12_split_151 (by decide) ?_
        refine w_icmp_gt 172 (μ := m_X12_split) (pc := 154) dX12_split_154 (by decide) (fun c_19 => ?_) (fun c_19 => ?_)
        · refine w_lv [] rfl ?_
          exact t_J_X12_split_172 wt hl (by omega) k0 _
        · refine w_aload_n 0 0 (μ := m_X12_split) (pc := 157) dX12_split_157 rfl rfl ?_
          refine w_getO (μ := m_X12_split) (pc := 158) dX12_split_158 fl_X12_45 ir_12_17 id_12_17 k0 (fun b_20 e_21 => ?_)
          refine w_iload_n 2 2 (μ := m_X12_split) (pc := 161) dX12_split_161 rfl rfl ?_
          refine w_ald (μ := m_X12_split) (pc := 162) dX12_split_162 (wt_12_17 wt k0 e_21) ?_
          refine w_iload 4 (μ := m_X12_split) (pc := 163) dX12_split_163 rfl ?_
          refine w_iadd (μ := m_X12_split) (pc := 165) dX12_split_165 ?_
          refine w_sipush (v := 1000) (μ := m_X12_split) (pc := 166) dX12_split_166 (by decide) ?_
          refine w_icmp_le 175 (μ := m_X12_split) (pc := 169) dX12_split_169 (by decide) (fun c_22 => ?_) (fun c_22 => ?_)
          · refine w_iconst (v := 0) (μ := m_X12_split) (pc := 175) dX12_split_175 (by decide) ?_
            refine w_istore [(6, .int 0), (0, .ref a0), (1, .int x1), (2, .int x2), (4, .int x4v), (5, .int x5v)] (μ := m_X12_split) (pc := 176) dX12_split_176 (by decide) rfl ?_
            refine w_iconst (v := 0) (μ := m_X12_split) (pc := 178) dX12_split_178 (by decide) ?_
            refine w_istore [(7, .int 0), (6, .int 0), (0, .ref a0), (1, .int x1), (2, .int x2), (4, .int x4v), (5, .int x5v)] (μ := m_X12_split) (pc := 179) dX12_split_179 (by decide) rfl ?_
            refine w_lv [2, 3, 4, 5, 1, 0] rfl ?_
            exact t_L_X12_split_181 wt hl (by omega) k0 N _ _ _ _
          · refine w_lv [] rfl ?_
            exact t_J_X12_split_172 wt hl (by omega) k0 _
      · refine w_iconst (v := (-1)) (μ := m_X12_split) (pc := 140) dX12_split_140 (by decide) ?_
        exact w_iret (μ := m_X12_split) (pc := 141) dX12_split_141 rfl rfl
    · refine w_aload_n 0 0 (μ := m_X12_split) (pc := 77) dX12_split_77 rfl rfl ?_
      refine w_getO (μ := m_X12_split) (pc := 78) dX12_split_78 fl_X12_103 ir_12_48 id_12_48 k0 (fun b_36 e_37 => ?_)
      refine w_iload 3 (μ := m_X12_split) (pc := 81) dX12_split_81 rfl ?_
      refine w_aload_n 0 0 (μ := m_X12_split) (pc := 83) dX12_split_83 rfl rfl ?_
      refine w_iload_n 1 1 (μ := m_X12_split) (pc := 84) dX12_split_84 rfl rfl ?_
      refine w_iload 5 (μ := m_X12_split) (pc := 85) dX12_split_85 rfl ?_
      refine w_callV (As := [.int x1, .int x6v]) (rest := [.int x4v, .ref b_36]) (μ := m_X12_split) (pc := 87) dX12_split_87 cv_X12_280 rfl rfl k0 (by decide) rfl (Nat.le_of_ble_eq_true rfl) (d' := d - 1) (by omega) he_i (c_X12_numberAt wt hl (d := d - 1) (by omega) k0) (fun r_38 => ?_)
      refine w_ast (μ := m_X12_split) (pc := 90) dX12_split_90 (wt_12_48 wt k0 e_37) ?_
      refine w_bd (fun δ_39 e_40 => ?_)
      refine w_iload 4 (μ := m_X12_split) (pc := 91) dX12_split_91 rfl ?_
      refine w_aload_n 0 0 (μ := m_X12_split) (pc := 93) dX12_split_93 rfl rfl ?_
      refine w_iload_n 2 2 (μ := m_X12_split) (pc := 94) dX12_split_94 rfl rfl ?_
      refine w_aload_n 0 0 (μ := m_X12_split) (pc := 95) dX12_split_95 rfl rfl ?_
      refine w_getO (μ := m_X12_split) (pc := 96) dX12_split_96 fl_X12_103 ir_12_48 id_12_48 k0 (fun b_41 e_42 => ?_)
      refine w_iload 3 (μ := m_X12_split) (pc := 99) dX12_split_99 rfl ?_
      refine w_ald (μ := m_X12_split) (pc := 101) dX12_split_101 (wt_12_48 wt k0 e_42) ?_
      refine w_callV (As := [.int x2, .int (q_R δ_39 b_41 x4v.toNatClampNeg)]) (rest := [.int x5v]) (μ := m_X12_split) (pc := 102) dX12_split_102 cv_X12_267 rfl rfl k0 (by decide) rfl (Nat.le_of_ble_eq_true rfl) (d' := d - 1) (by omega) he_i (c_X12_isThere wt hl (d := d - 1) (by omega) k0) (fun r_43 => ?_)
      refine w_if_eq 112 (μ := m_X12_split) (pc := 105) dX12_split_105 (by decide) (fun c_44 => ?_) (fun c_44 => ?_)
      · refine w_iconst (v := 1) (μ := m_X12_split) (pc := 112) dX12_split_112 (by decide) ?_
        refine w_lv [0, 1, 2, 3, 5] rfl ?_
        exact t_J_X12_split_113 wt hl (by omega) k0 ih _ _ _ _ _
      · refine w_iconst (v := 0) (μ := m_X12_split) (pc := 108) dX12_split_108 (by decide) ?_
        refine w_goto 113 (μ := m_X12_split) (pc := 109) dX12_split_109 (by decide) ?_
        refine w_lv [0, 1, 2, 3, 5] rfl ?_
        exact t_J_X12_split_113 wt hl (by omega) k0 ih _ _ _ _ _
def J_X12_split_42 (N : Nat) (g : gp) (a0 : Nat) (x1 : Int32) (x2 : Int32) (x3 : Int32) (xs0 : Int32) (as1 : Nat) (δ : dp) : Option (Int32 × dp) :=
  (D_X12_may N g as1 xs0 2 2 δ).bind fun r_8 => if r_8.1 = 0 then (J_X12_split_50 N g a0 x1 x2 x3 r_8.2) else ((D_X12_place N g a0 x1 x3 r_8.2).bind fun r_10 => L_X12_split_66 N g a0 x1 x2 x3 N 0 0 r_10.1 r_10.2)
set_option maxHeartbeats 4000000 in
set_option maxRecDepth 100000 in
theorem t_J_X12_split_42 {l : Launch} {D : va_G} {cy : Nat → ClassId} {N d : Nat} {g : gp} (wt : WT g) (hl : l.stackTraces = false) (hd : 67 ≤ d) {a0 : Nat} {x1 : Int32} {x2 : Int32} {x3 : Int32} (k0 : q_K g a0 = 12) : ∀ (xs0 : Int32) (as1 : Nat) (δ : dp), q_K g as1 = 12 → AWD l D cy m_X12_split d 0 0 ei g 42 [(0, .ref a0), (1, .int x1), (2, .int x2), (3, .int x3)] [.int xs0, .ref as1] δ (J_X12_split_42 N g a0 x1 x2 x3 xs0 as1 δ) := by
    intro xs0 as1 δ has1
    unfold J_X12_split_42
    refine w_iconst (v := 2) (μ := m_X12_split) (pc := 42) dX12_split_42 (by decide) ?_
    refine w_iconst (v := 2) (μ := m_X12_split) (pc := 43) dX12_split_43 (by decide) ?_
    refine w_callV (As := [.int xs0, .int 2, .int 2]) (rest := []) (μ := m_X12_split) (pc := 44) dX12_split_44 cv_X12_157 rfl rfl has1 (by decide) rfl (Nat.le_of_ble_eq_true rfl) (d' := d - 1) (by omega) he_i (c_X12_may wt hl (d := d - 1) (by omega) has1) (fun r_8 => ?_)
    refine w_if_ne 52 (μ := m_X12_split) (pc := 47) dX12_split_47 (by decide) (fun c_9 => ?_) (fun c_9 => ?_)
    · refine w_iconst (v := 0) (μ := m_X12_split) (pc := 52) dX12_split_52 (by decide) ?_
      refine w_istore [(4, .int 0), (0, .ref a0), (1, .int x1), (2, .int x2), (3, .int x3)] (μ := m_X12_split) (pc := 53) dX12_split_53 (by decide) rfl ?_
      refine w_iconst (v := 0) (μ := m_X12_split) (pc := 55) dX12_split_55 (by decide) ?_
      refine w_istore [(5, .int 0), (4, .int 0), (0, .ref a0), (1, .int x1), (2, .int x2), (3, .int x3)] (μ := m_X12_split) (pc := 56) dX12_split_56 (by decide) rfl ?_
      refine w_aload_n 2 0 (μ := m_X12_split) (pc := 58) dX12_split_58 rfl rfl ?_
      refine w_iload_n 3 1 (μ := m_X12_split) (pc := 59) dX12_split_59 rfl rfl ?_
      refine w_iload_n 5 3 (μ := m_X12_split) (pc := 60) dX12_split_60 rfl rfl ?_
      refine w_callV (As := [.int x1, .int x3]) (rest := []) (μ := m_X12_split) (pc := 61) dX12_split_61 cv_X12_254 rfl rfl k0 (by decide) rfl (Nat.le_of_ble_eq_true rfl) (d' := d - 1) (by omega) he_i (c_X12_place wt hl (d := d - 1) (by omega) k0) (fun r_10 => ?_)
      refine w_istore [(6, .int r_10.1), (5, .int 0), (4, .int 0), (0, .ref a0), (1, .int x1), (2, .int x2), (3, .int x3)] (μ := m_X12_split) (pc := 64) dX12_split_64 (by decide) rfl ?_
      refine w_lv [3, 4, 5, 2, 1, 0] rfl ?_
      exact t_L_X12_split_66 wt hl (by omega) k0 N _ _ _ _
    · refine w_lv [] rfl ?_
      exact t_J_X12_split_50 wt hl (by omega) k0 _
def J_X12_split_41 (N : Nat) (g : gp) (a0 : Nat) (x1 : Int32) (x2 : Int32) (x3 : Int32) (as0 : Nat) (δ : dp) : Option (Int32 × dp) :=
  J_X12_split_42 N g a0 x1 x2 x3 0 as0 δ
set_option maxHeartbeats 4000000 in
set_option maxRecDepth 100000 in
theorem t_J_X12_split_41 {l : Launch} {D : va_G} {cy : Nat → ClassId} {N d : Nat} {g : gp} (wt : WT g) (hl : l.stackTraces = false) (hd : 67 ≤ d) {a0 : Nat} {x1 : Int32} {x2 : Int32} {x3 : Int32} (k0 : q_K g a0 = 12) : ∀ (as0 : Nat) (δ : dp), q_K g as0 = 12 → AWD l D cy m_X12_split d 0 0 ei g 41 [(0, .ref a0), (1, .int x1), (2, .int x2), (3, .int x3)] [.ref as0] δ (J_X12_split_41 N g a0 x1 x2 x3 as0 δ) := by
    intro as0 δ has0
    unfold J_X12_split_41
    refine w_iconst (v := 0) (μ := m_X12_split) (pc := 41) dX12_split_41 (by decide) ?_
    exact t_J_X12_split_42 wt hl (by omega) k0 _ _ _ has0
def D_X12_split (N : Nat) (g : gp) (a0 : Nat) (x1 : Int32) (x2 : Int32) (x3 : Int32) (δ : dp) : Option (Int32 × dp) :=
  bd (s_I δ 12 0 a0 0) fun δ_1 => (D_X12_isHouse N g a0 x1 1 δ_1).bind fun r_3 => if r_3.1 = 0 then (J_X12_split_50 N g a0 x1 x2 x3 r_3.2) else ((D_X12_isHouse N g a0 x2 1 r_3.2).bind fun r_5 => if r_5.1 = 0 then (J_X12_split_50 N g a0 x1 x2 x3 r_5.2) else (if x1 = x2 then (J_X12_split_41 N g a0 x1 x2 x3 a0 r_5.2) else ((D_X12_isNumber N g a0 x3 r_5.2).bind fun r_51 => if r_51.1 = 0 then (J_X12_split_41 N g a0 x1 x2 x3 a0 r_51.2) else (J_X12_split_42 N g a0 x1 x2 x3 1 a0 r_51.2))))
set_option maxHeartbeats 4000000 in
set_option maxRecDepth 100000 in
theorem c_X12_split {l : Launch} {D : va_G} {cy : Nat → ClassId} {N d : Nat} {g : gp} (wt : WT g) (hl : l.stackTraces = false) (hd : 67 ≤ d) {a0 : Nat} {x1 : Int32} {x2 : Int32} {x3 : Int32} {δ : dp} (k0 : q_K g a0 = 12) : CalD l D cy m_X12_split d 0 0 ei g [.ref a0, .int x1, .int x2, .int x3] δ (D_X12_split N g a0 x1 x2 x3 δ) := by
  refine CalD.of (by decide +kernel) (Nat.le_of_ble_eq_true rfl) hl ?_
  unfold D_X12_split
  refine w_aload_n 0 0 (μ := m_X12_split) (pc := 0) dX12_split_0 rfl rfl ?_
  refine w_iconst (v := 0) (μ := m_X12_split) (pc := 1) dX12_split_1 (by decide) ?_
  refine w_putI (μ := m_X12_split) (pc := 2) dX12_split_2 fl_X12_1 flw_12_0 ir_12_0 k0 ?_
  refine w_bd (fun δ_1 e_2 => ?_)
  refine w_aload_n 0 0 (μ := m_X12_split) (pc := 5) dX12_split_5 rfl rfl ?_
  refine w_iload_n 1 1 (μ := m_X12_split) (pc := 6) dX12_split_6 rfl rfl ?_
  refine w_iconst (v := 1) (μ := m_X12_split) (pc := 7) dX12_split_7 (by decide) ?_
  refine w_callV (As := [.int x1, .int 1]) (rest := []) (μ := m_X12_split) (pc := 8) dX12_split_8 cv_X12_260 rfl rfl k0 (by decide) rfl (Nat.le_of_ble_eq_true rfl) (d' := d - 1) (by omega) he_i (c_X12_isHouse wt hl (d := d - 1) (by omega) k0) (fun r_3 => ?_)
  refine w_if_eq 50 (μ := m_X12_split) (pc := 11) dX12_split_11 (by decide) (fun c_4 => ?_) (fun c_4 => ?_)
  · refine w_lv [] rfl ?_
    exact t_J_X12_split_50 wt hl (by omega) k0 _
  · refine w_aload_n 0 0 (μ := m_X12_split) (pc := 14) dX12_split_14 rfl rfl ?_
    refine w_iload_n 2 2 (μ := m_X12_split) (pc := 15) dX12_split_15 rfl rfl ?_
    refine w_iconst (v := 1) (μ := m_X12_split) (pc := 16) dX12_split_16 (by decide) ?_
    refine w_callV (As := [.int x2, .int 1]) (rest := []) (μ := m_X12_split) (pc := 17) dX12_split_17 cv_X12_260 rfl rfl k0 (by decide) rfl (Nat.le_of_ble_eq_true rfl) (d' := d - 1) (by omega) he_i (c_X12_isHouse wt hl (d := d - 1) (by omega) k0) (fun r_5 => ?_)
    refine w_if_eq 50 (μ := m_X12_split) (pc := 20) dX12_split_20 (by decide) (fun c_6 => ?_) (fun c_6 => ?_)
    · refine w_lv [] rfl ?_
      exact t_J_X12_split_50 wt hl (by omega) k0 _
    · refine w_aload_n 0 0 (μ := m_X12_split) (pc := 23) dX12_split_23 rfl rfl ?_
      refine w_iload_n 1 1 (μ := m_X12_split) (pc := 24) dX12_split_24 rfl rfl ?_
      refine w_iload_n 2 2 (μ := m_X12_split) (pc := 25) dX12_split_25 rfl rfl ?_
      refine w_icmp_eq 41 (μ := m_X12_split) (pc := 26) dX12_split_26 (by decide) (fun c_7 => ?_) (fun c_7 => ?_)
      · exact t_J_X12_split_41 wt hl (by omega) k0 _ _ k0
      · refine w_aload_n 0 0 (μ := m_X12_split) (pc := 29) dX12_split_29 rfl rfl ?_
        refine w_iload_n 3 3 (μ := m_X12_split) (pc := 30) dX12_split_30 rfl rfl ?_
        refine w_callV (As := [.int x3]) (rest := [.ref a0]) (μ := m_X12_split) (pc := 31) dX12_split_31 cv_X12_264 rfl rfl k0 (by decide) rfl (Nat.le_of_ble_eq_true rfl) (d' := d - 1) (by omega) he_i (c_X12_isNumber wt hl (d := d - 1) (by omega) k0) (fun r_51 => ?_)
        refine w_if_eq 41 (μ := m_X12_split) (pc := 34) dX12_split_34 (by decide) (fun c_52 => ?_) (fun c_52 => ?_)
        · exact t_J_X12_split_41 wt hl (by omega) k0 _ _ k0
        · refine w_iconst (v := 1) (μ := m_X12_split) (pc := 37) dX12_split_37 (by decide) ?_
          refine w_goto 42 (μ := m_X12_split) (pc := 38) dX12_split_38 (by decide) ?_
          exact t_J_X12_split_42 wt hl (by omega) k0 _ _ _ k0
def J_X12_steps_247 (N : Nat) (g : gp) (a0 : Nat) (x1 : Int32) (x2 : Int32) (δ : dp) : Option (Int32 × dp) :=
  if (1 : Int32) = 0 ∨ (1 : Int32) = 1 then some (1, δ) else none
set_option maxHeartbeats 4000000 in
set_option maxRecDepth 100000 in
theorem t_J_X12_steps_247 {l : Launch} {D : va_G} {cy : Nat → ClassId} {N d : Nat} {g : gp} (wt : WT g) (hl : l.stackTraces = false) (hd : 66 ≤ d) {a0 : Nat} {x1 : Int32} {x2 : Int32} (k0 : q_K g a0 = 12) : ∀ (δ : dp), AWD l D cy m_X12_steps d 0 0 ei g 247 [] [] δ (J_X12_steps_247 N g a0 x1 x2 δ) := by
    intro  δ 
    unfold J_X12_steps_247
    refine w_iconst (v := 1) (μ := m_X12_steps) (pc := 247) dX12_steps_247 (by decide) ?_
    exact w_zret (μ := m_X12_steps) (pc := 248) dX12_steps_248 rfl rfl
def J_X12_steps_226 (N : Nat) (g : gp) (a0 : Nat) (x1 : Int32) (x2 : Int32) (x3v : Int32) (x5v : Int32) (δ : dp) : Option (Int32 × dp) :=
  (q_O g 12 29 a0).bind fun b_43 => if x2 < 0 ∨ q_N g b_43 ≤ x2.toNatClampNeg then none else if (q_R δ b_43 x2.toNatClampNeg) = (1 : Int32) then (if x5v = 0 then (J_X12_steps_247 N g a0 x1 x2 δ) else ((D_X12_leaves N g a0 x1 x3v δ).bind fun r_47 => J_X12_steps_247 N g a0 x1 x2 r_47)) else (J_X12_steps_247 N g a0 x1 x2 δ)
set_option maxHeartbeats 4000000 in
set_option maxRecDepth 100000 in
theorem t_J_X12_steps_226 {l : Launch} {D : va_G} {cy : Nat → ClassId} {N d : Nat} {g : gp} (wt : WT g) (hl : l.stackTraces = false) (hd : 66 ≤ d) {a0 : Nat} {x1 : Int32} {x2 : Int32} (k0 : q_K g a0 = 12) : ∀ (x3v : Int32) (x5v : Int32) (δ : dp), AWD l D cy m_X12_steps d 0 0 ei g 226 [(0, .ref a0), (1, .int x1), (2, .int x2), (3, .int x3v), (5, .int x5v)] [] δ (J_X12_steps_226 N g a0 x1 x2 x3v x5v δ) := by
    intro x3v x5v δ 
    unfold J_X12_steps_226
    refine w_aload_n 0 0 (μ := m_X12_steps) (pc := 226) dX12_steps_226 rfl rfl ?_
    refine w_getO (μ := m_X12_steps) (pc := 227) dX12_steps_227 fl_X12_66 ir_12_29 id_12_29 k0 (fun b_43 e_44 => ?_)
    refine w_iload_n 2 2 (μ := m_X12_steps) (pc := 230) dX12_steps_230 rfl rfl ?_
    refine w_ald (μ := m_X12_steps) (pc := 231) dX12_steps_231 (wt_12_29 wt k0 e_44) ?_
    refine w_iconst (v := 1) (μ := m_X12_steps) (pc := 232) dX12_steps_232 (by decide) ?_
    refine w_icmp_ne 247 (μ := m_X12_steps) (pc := 233) dX12_steps_233 (by decide) (fun c_45 => ?_) (fun c_45 => ?_)
    · refine w_lv [] rfl ?_
      exact t_J_X12_steps_247 wt hl (by omega) k0 _
    · refine w_iload 4 (μ := m_X12_steps) (pc := 236) dX12_steps_236 rfl ?_
      refine w_if_eq 247 (μ := m_X12_steps) (pc := 238) dX12_steps_238 (by decide) (fun c_46 => ?_) (fun c_46 => ?_)
      · refine w_lv [] rfl ?_
        exact t_J_X12_steps_247 wt hl (by omega) k0 _
      · refine w_aload_n 0 0 (μ := m_X12_steps) (pc := 241) dX12_steps_241 rfl rfl ?_
        refine w_iload_n 1 1 (μ := m_X12_steps) (pc := 242) dX12_steps_242 rfl rfl ?_
        refine w_iload_n 3 3 (μ := m_X12_steps) (pc := 243) dX12_steps_243 rfl rfl ?_
        refine w_callV (As := [.int x1, .int x3v]) (rest := []) (μ := m_X12_steps) (pc := 244) dX12_steps_244 cv_X12_277 rfl rfl k0 (by decide) rfl (Nat.le_of_ble_eq_true rfl) (d' := d - 1) (by omega) he_v (c_X12_leaves wt hl (d := d - 1) (by omega) k0) (fun r_47 => ?_)
        refine w_lv [] rfl ?_
        exact t_J_X12_steps_247 wt hl (by omega) k0 _
def J_X12_steps_203 (N : Nat) (g : gp) (a0 : Nat) (x1 : Int32) (x2 : Int32) (xs0 : Int32) (as1 : Nat) (x3v : Int32) (x5v : Int32) (δ : dp) : Option (Int32 × dp) :=
  bd (s_I δ 12 50 as1 xs0) fun δ_38 => (q_O g 12 29 a0).bind fun b_40 => if x2 < 0 ∨ q_N g b_40 ≤ x2.toNatClampNeg then none else if (q_R δ_38 b_40 x2.toNatClampNeg) = 0 then (if x5v = 0 then ((D_X12_comes N g a0 x1 x3v δ_38).bind fun r_49 => J_X12_steps_226 N g a0 x1 x2 x3v x5v r_49) else (J_X12_steps_226 N g a0 x1 x2 x3v x5v δ_38)) else (J_X12_steps_226 N g a0 x1 x2 x3v x5v δ_38)
set_option maxHeartbeats 4000000 in
set_option maxRecDepth 100000 in
theorem t_J_X12_steps_203 {l : Launch} {D : va_G} {cy : Nat → ClassId} {N d : Nat} {g : gp} (wt : WT g) (hl : l.stackTraces = false) (hd : 66 ≤ d) {a0 : Nat} {x1 : Int32} {x2 : Int32} (k0 : q_K g a0 = 12) : ∀ (xs0 : Int32) (as1 : Nat) (x3v : Int32) (x5v : Int32) (δ : dp), q_K g as1 = 12 → AWD l D cy m_X12_steps d 0 0 ei g 203 [(0, .ref a0), (1, .int x1), (2, .int x2), (3, .int x3v), (5, .int x5v)] [.int xs0, .ref as1] δ (J_X12_steps_203 N g a0 x1 x2 xs0 as1 x3v x5v δ) := by
    intro xs0 as1 x3v x5v δ has1
    unfold J_X12_steps_203
    refine w_putI (μ := m_X12_steps) (pc := 203) dX12_steps_203 fl_X12_430 flw_12_50 ir_12_50 has1 ?_
    refine w_bd (fun δ_38 e_39 => ?_)
    refine w_aload_n 0 0 (μ := m_X12_steps) (pc := 206) dX12_steps_206 rfl rfl ?_
    refine w_getO (μ := m_X12_steps) (pc := 207) dX12_steps_207 fl_X12_66 ir_12_29 id_12_29 k0 (fun b_40 e_41 => ?_)
    refine w_iload_n 2 2 (μ := m_X12_steps) (pc := 210) dX12_steps_210 rfl rfl ?_
    refine w_ald (μ := m_X12_steps) (pc := 211) dX12_steps_211 (wt_12_29 wt k0 e_41) ?_
    refine w_if_ne 226 (μ := m_X12_steps) (pc := 212) dX12_steps_212 (by decide) (fun c_42 => ?_) (fun c_42 => ?_)
    · exact t_J_X12_steps_226 wt hl (by omega) k0 _ _ _
    · refine w_iload 4 (μ := m_X12_steps) (pc := 215) dX12_steps_215 rfl ?_
      refine w_if_ne 226 (μ := m_X12_steps) (pc := 217) dX12_steps_217 (by decide) (fun c_48 => ?_) (fun c_48 => ?_)
      · exact t_J_X12_steps_226 wt hl (by omega) k0 _ _ _
      · refine w_aload_n 0 0 (μ := m_X12_steps) (pc := 220) dX12_steps_220 rfl rfl ?_
        refine w_iload_n 1 1 (μ := m_X12_steps) (pc := 221) dX12_steps_221 rfl rfl ?_
        refine w_iload_n 3 3 (μ := m_X12_steps) (pc := 222) dX12_steps_222 rfl rfl ?_
        refine w_callV (As := [.int x1, .int x3v]) (rest := []) (μ := m_X12_steps) (pc := 223) dX12_steps_223 cv_X12_270 rfl rfl k0 (by decide) rfl (Nat.le_of_ble_eq_true rfl) (d' := d - 1) (by omega) he_v (c_X12_comes wt hl (d := d - 1) (by omega) k0) (fun r_49 => ?_)
        exact t_J_X12_steps_226 wt hl (by omega) k0 _ _ _
def J_X12_steps_108 (N : Nat) (g : gp) (a0 : Nat) (x1 : Int32) (x2 : Int32) (x3v : Int32) (δ : dp) : Option (Int32 × dp) :=
  (q_O g 12 29 a0).bind fun b_19 => if x2 < 0 ∨ q_N g b_19 ≤ x2.toNatClampNeg then none else (D_X12_bits N g a0 x1 (q_R δ b_19 x2.toNatClampNeg) x3v δ).bind fun r_21 => bd (s_I r_21.2 12 55 a0 ((q_I δ 12 55 a0) + r_21.1)) fun δ_22 => (q_O g 12 29 a0).bind fun b_24 => if x2 < 0 ∨ q_N g b_24 ≤ x2.toNatClampNeg then none else (D_X12_sorted N g a0 x1 (q_R δ_22 b_24 x2.toNatClampNeg) x3v δ_22).bind fun r_26 => bd (s_I r_26.2 12 56 a0 ((q_I δ_22 12 56 a0) + r_26.1)) fun δ_27 => bd (s_I δ_27 12 51 a0 ((q_I δ_27 12 51 a0) + 1)) fun δ_29 => (D_X12_isThere N g a0 x1 x3v δ_29).bind fun r_31 => (q_O g 12 29 a0).bind fun b_32 => if x2 < 0 ∨ q_N g b_32 ≤ x2.toNatClampNeg then none else if (q_R r_31.2 b_32 x2.toNatClampNeg) = 0 then (if r_31.1 = 0 then (J_X12_steps_203 N g a0 x1 x2 1 a0 x3v r_31.1 r_31.2) else (J_X12_steps_203 N g a0 x1 x2 0 a0 x3v r_31.1 r_31.2)) else ((q_O g 12 29 a0).bind fun b_35 => if x2 < 0 ∨ q_N g b_35 ≤ x2.toNatClampNeg then none else (D_X12_answer N g a0 x1 (q_R r_31.2 b_35 x2.toNatClampNeg) x3v r_31.2).bind fun r_37 => J_X12_steps_203 N g a0 x1 x2 r_37.1 a0 x3v r_31.1 r_37.2)
set_option maxHeartbeats 4000000 in
set_option maxRecDepth 100000 in
theorem t_J_X12_steps_108 {l : Launch} {D : va_G} {cy : Nat → ClassId} {N d : Nat} {g : gp} (wt : WT g) (hl : l.stackTraces = false) (hd : 66 ≤ d) {a0 : Nat} {x1 : Int32} {x2 : Int32} (k0 : q_K g a0 = 12) : ∀ (x3v : Int32) (δ : dp), AWD l D cy m_X12_steps d 0 0 ei g 108 [(0, .ref a0), (1, .int x1), (2, .int x2), (3, .int x3v)] [] δ (J_X12_steps_108 N g a0 x1 x2 x3v δ) := by
    intro x3v δ 
    unfold J_X12_steps_108
    refine w_aload_n 0 0 (μ := m_X12_steps) (pc := 108) dX12_steps_108 rfl rfl ?_
    refine w_dup (μ := m_X12_steps) (pc := 109) dX12_steps_109 rfl ?_
    refine w_getI (μ := m_X12_steps) (pc := 110) dX12_steps_110 fl_X12_453 ir_12_55 k0 ?_
    refine w_aload_n 0 0 (μ := m_X12_steps) (pc := 113) dX12_steps_113 rfl rfl ?_
    refine w_iload_n 1 1 (μ := m_X12_steps) (pc := 114) dX12_steps_114 rfl rfl ?_
    refine w_aload_n 0 0 (μ := m_X12_steps) (pc := 115) dX12_steps_115 rfl rfl ?_
    refine w_getO (μ := m_X12_steps) (pc := 116) dX12_steps_116 fl_X12_66 ir_12_29 id_12_29 k0 (fun b_19 e_20 => ?_)
    refine w_iload_n 2 2 (μ := m_X12_steps) (pc := 119) dX12_steps_119 rfl rfl ?_
    refine w_ald (μ := m_X12_steps) (pc := 120) dX12_steps_120 (wt_12_29 wt k0 e_20) ?_
    refine w_iload_n 3 3 (μ := m_X12_steps) (pc := 121) dX12_steps_121 rfl rfl ?_
    refine w_callV (As := [.int x1, .int (q_R δ b_19 x2.toNatClampNeg), .int x3v]) (rest := [.int (q_I δ 12 55 a0), .ref a0]) (μ := m_X12_steps) (pc := 122) dX12_steps_122 cv_X12_338 rfl rfl k0 (by decide) rfl (Nat.le_of_ble_eq_true rfl) (d' := d - 1) (by omega) he_i (c_X12_bits wt hl (d := d - 1) (by omega) k0) (fun r_21 => ?_)
    refine w_iadd (μ := m_X12_steps) (pc := 125) dX12_steps_125 ?_
    refine w_putI (μ := m_X12_steps) (pc := 126) dX12_steps_126 fl_X12_453 flw_12_55 ir_12_55 k0 ?_
    refine w_bd (fun δ_22 e_23 => ?_)
    refine w_aload_n 0 0 (μ := m_X12_steps) (pc := 129) dX12_steps_129 rfl rfl ?_
    refine w_dup (μ := m_X12_steps) (pc := 130) dX12_steps_130 rfl ?_
    refine w_getI (μ := m_X12_steps) (pc := 131) dX12_steps_131 fl_X12_456 ir_12_56 k0 ?_
    refine w_aload_n 0 0 (μ := m_X12_steps) (pc := 134) dX12_steps_134 rfl rfl ?_
    refine w_iload_n 1 1 (μ := m_X12_steps) (pc := 135) dX12_steps_135 rfl rfl ?_
    refine w_aload_n 0 0 (μ := m_X12_steps) (pc := 136) dX12_steps_136 rfl rfl ?_
    refine w_getO (μ := m_X12_steps) (pc := 137) dX12_steps_137 fl_X12_66 ir_12_29 id_12_29 k0 (fun b_24 e_25 => ?_)
    refine w_iload_n 2 2 (μ := m_X12_steps) (pc := 140) dX12_steps_140 rfl rfl ?_
    refine w_ald (μ := m_X12_steps) (pc := 141) dX12_steps_141 (wt_12_29 wt k0 e_25) ?_
    refine w_iload_n 3 3 (μ := m_X12_steps) (pc := 142) dX12_steps_142 rfl rfl ?_
    refine w_callV (As := [.int x1, .int (q_R δ_22 b_24 x2.toNatClampNeg), .int x3v]) (rest := [.int (q_I δ_22 12 56 a0), .ref a0]) (μ := m_X12_steps) (pc := 143) dX12_steps_143 cv_X12_341 rfl rfl k0 (by decide) rfl (Nat.le_of_ble_eq_true rfl) (d' := d - 1) (by omega) he_i (c_X12_sorted wt hl (d := d - 1) (by omega) k0) (fun r_26 => ?_)
    refine w_iadd (μ := m_X12_steps) (pc := 146) dX12_steps_146 ?_
    refine w_putI (μ := m_X12_steps) (pc := 147) dX12_steps_147 fl_X12_456 flw_12_56 ir_12_56 k0 ?_
    refine w_bd (fun δ_27 e_28 => ?_)
    refine w_aload_n 0 0 (μ := m_X12_steps) (pc := 150) dX12_steps_150 rfl rfl ?_
    refine w_dup (μ := m_X12_steps) (pc := 151) dX12_steps_151 rfl ?_
    refine w_getI (μ := m_X12_steps) (pc := 152) dX12_steps_152 fl_X12_438 ir_12_51 k0 ?_
    refine w_iconst (v := 1) (μ := m_X12_steps) (pc := 155) dX12_steps_155 (by decide) ?_
    refine w_iadd (μ := m_X12_steps) (pc := 156) dX12_steps_156 ?_
    refine w_putI (μ := m_X12_steps) (pc := 157) dX12_steps_157 fl_X12_438 flw_12_51 ir_12_51 k0 ?_
    refine w_bd (fun δ_29 e_30 => ?_)
    refine w_aload_n 0 0 (μ := m_X12_steps) (pc := 160) dX12_steps_160 rfl rfl ?_
    refine w_iload_n 1 1 (μ := m_X12_steps) (pc := 161) dX12_steps_161 rfl rfl ?_
    refine w_iload_n 3 3 (μ := m_X12_steps) (pc := 162) dX12_steps_162 rfl rfl ?_
    refine w_callV (As := [.int x1, .int x3v]) (rest := []) (μ := m_X12_steps) (pc := 163) dX12_steps_163 cv_X12_267 rfl rfl k0 (by decide) rfl (Nat.le_of_ble_eq_true rfl) (d' := d - 1) (by omega) he_i (c_X12_isThere wt hl (d := d - 1) (by omega) k0) (fun r_31 => ?_)
    refine w_istore [(5, .int r_31.1), (0, .ref a0), (1, .int x1), (2, .int x2), (3, .int x3v)] (μ := m_X12_steps) (pc := 166) dX12_steps_166 (by decide) rfl ?_
    refine w_aload_n 1 0 (μ := m_X12_steps) (pc := 168) dX12_steps_168 rfl rfl ?_
    refine w_aload_n 1 0 (μ := m_X12_steps) (pc := 169) dX12_steps_169 rfl rfl ?_
    refine w_getO (μ := m_X12_steps) (pc := 170) dX12_steps_170 fl_X12_66 ir_12_29 id_12_29 k0 (fun b_32 e_33 => ?_)
    refine w_iload_n 3 2 (μ := m_X12_steps) (pc := 173) dX12_steps_173 rfl rfl ?_
    refine w_ald (μ := m_X12_steps) (pc := 174) dX12_steps_174 (wt_12_29 wt k0 e_33) ?_
    refine w_if_ne 191 (μ := m_X12_steps) (pc := 175) dX12_steps_175 (by decide) (fun c_34 => ?_) (fun c_34 => ?_)
    · refine w_aload_n 1 0 (μ := m_X12_steps) (pc := 191) dX12_steps_191 rfl rfl ?_
      refine w_iload_n 2 1 (μ := m_X12_steps) (pc := 192) dX12_steps_192 rfl rfl ?_
      refine w_aload_n 1 0 (μ := m_X12_steps) (pc := 193) dX12_steps_193 rfl rfl ?_
      refine w_getO (μ := m_X12_steps) (pc := 194) dX12_steps_194 fl_X12_66 ir_12_29 id_12_29 k0 (fun b_35 e_36 => ?_)
      refine w_iload_n 3 2 (μ := m_X12_steps) (pc := 197) dX12_steps_197 rfl rfl ?_
      refine w_ald (μ := m_X12_steps) (pc := 198) dX12_steps_198 (wt_12_29 wt k0 e_36) ?_
      refine w_iload_n 4 3 (μ := m_X12_steps) (pc := 199) dX12_steps_199 rfl rfl ?_
      refine w_callV (As := [.int x1, .int (q_R r_31.2 b_35 x2.toNatClampNeg), .int x3v]) (rest := [.ref a0]) (μ := m_X12_steps) (pc := 200) dX12_steps_200 cv_X12_286 rfl rfl k0 (by decide) rfl (Nat.le_of_ble_eq_true rfl) (d' := d - 1) (by omega) he_i (c_X12_answer wt hl (d := d - 1) (by omega) k0) (fun r_37 => ?_)
      refine w_lv [1, 2, 3, 4, 0] rfl ?_
      exact t_J_X12_steps_203 wt hl (by omega) k0 _ _ _ _ _ k0
    · refine w_iload 0 (μ := m_X12_steps) (pc := 178) dX12_steps_178 rfl ?_
      refine w_if_eq 187 (μ := m_X12_steps) (pc := 180) dX12_steps_180 (by decide) (fun c_50 => ?_) (fun c_50 => ?_)
      · refine w_iconst (v := 1) (μ := m_X12_steps) (pc := 187) dX12_steps_187 (by decide) ?_
        refine w_goto 203 (μ := m_X12_steps) (pc := 188) dX12_steps_188 (by decide) ?_
        refine w_lv [1, 2, 3, 4, 0] rfl ?_
        exact t_J_X12_steps_203 wt hl (by omega) k0 _ _ _ _ _ k0
      · refine w_iconst (v := 0) (μ := m_X12_steps) (pc := 183) dX12_steps_183 (by decide) ?_
        refine w_goto 203 (μ := m_X12_steps) (pc := 184) dX12_steps_184 (by decide) ?_
        refine w_lv [1, 2, 3, 4, 0] rfl ?_
        exact t_J_X12_steps_203 wt hl (by omega) k0 _ _ _ _ _ k0
def J_X12_steps_60 (N : Nat) (g : gp) (a0 : Nat) (x1 : Int32) (x2 : Int32) (x3v : Int32) (δ : dp) : Option (Int32 × dp) :=
  (q_O g 12 29 a0).bind fun b_13 => if x2 < 0 ∨ q_N g b_13 ≤ x2.toNatClampNeg then none else (D_X12_halves N g a0 x1 (q_R δ b_13 x2.toNatClampNeg) x3v δ).bind fun r_15 => bd (s_I r_15.2 12 52 a0 ((q_I r_15.2 12 52 a0) + r_15.1)) fun δ_16 => if r_15.1 ≤ (q_I δ_16 12 53 a0) then (J_X12_steps_108 N g a0 x1 x2 x3v δ_16) else (bd (s_I δ_16 12 53 a0 r_15.1) fun δ_51 => bd (s_I δ_51 12 54 a0 (q_I δ_51 12 51 a0)) fun δ_53 => J_X12_steps_108 N g a0 x1 x2 x3v δ_53)
set_option maxHeartbeats 4000000 in
set_option maxRecDepth 100000 in
theorem t_J_X12_steps_60 {l : Launch} {D : va_G} {cy : Nat → ClassId} {N d : Nat} {g : gp} (wt : WT g) (hl : l.stackTraces = false) (hd : 66 ≤ d) {a0 : Nat} {x1 : Int32} {x2 : Int32} (k0 : q_K g a0 = 12) : ∀ (x3v : Int32) (δ : dp), AWD l D cy m_X12_steps d 0 0 ei g 60 [(0, .ref a0), (1, .int x1), (2, .int x2), (3, .int x3v)] [] δ (J_X12_steps_60 N g a0 x1 x2 x3v δ) := by
    intro x3v δ 
    unfold J_X12_steps_60
    refine w_aload_n 0 0 (μ := m_X12_steps) (pc := 60) dX12_steps_60 rfl rfl ?_
    refine w_iload_n 1 1 (μ := m_X12_steps) (pc := 61) dX12_steps_61 rfl rfl ?_
    refine w_aload_n 0 0 (μ := m_X12_steps) (pc := 62) dX12_steps_62 rfl rfl ?_
    refine w_getO (μ := m_X12_steps) (pc := 63) dX12_steps_63 fl_X12_66 ir_12_29 id_12_29 k0 (fun b_13 e_14 => ?_)
    refine w_iload_n 2 2 (μ := m_X12_steps) (pc := 66) dX12_steps_66 rfl rfl ?_
    refine w_ald (μ := m_X12_steps) (pc := 67) dX12_steps_67 (wt_12_29 wt k0 e_14) ?_
    refine w_iload_n 3 3 (μ := m_X12_steps) (pc := 68) dX12_steps_68 rfl rfl ?_
    refine w_callV (As := [.int x1, .int (q_R δ b_13 x2.toNatClampNeg), .int x3v]) (rest := []) (μ := m_X12_steps) (pc := 69) dX12_steps_69 cv_X12_335 rfl rfl k0 (by decide) rfl (Nat.le_of_ble_eq_true rfl) (d' := d - 1) (by omega) he_i (c_X12_halves wt hl (d := d - 1) (by omega) k0) (fun r_15 => ?_)
    refine w_istore [(4, .int r_15.1), (0, .ref a0), (1, .int x1), (2, .int x2), (3, .int x3v)] (μ := m_X12_steps) (pc := 72) dX12_steps_72 (by decide) rfl ?_
    refine w_aload_n 1 0 (μ := m_X12_steps) (pc := 74) dX12_steps_74 rfl rfl ?_
    refine w_dup (μ := m_X12_steps) (pc := 75) dX12_steps_75 rfl ?_
    refine w_getI (μ := m_X12_steps) (pc := 76) dX12_steps_76 fl_X12_444 ir_12_52 k0 ?_
    refine w_iload 0 (μ := m_X12_steps) (pc := 79) dX12_steps_79 rfl ?_
    refine w_iadd (μ := m_X12_steps) (pc := 81) dX12_steps_81 ?_
    refine w_putI (μ := m_X12_steps) (pc := 82) dX12_steps_82 fl_X12_444 flw_12_52 ir_12_52 k0 ?_
    refine w_bd (fun δ_16 e_17 => ?_)
    refine w_iload 0 (μ := m_X12_steps) (pc := 85) dX12_steps_85 rfl ?_
    refine w_aload_n 1 0 (μ := m_X12_steps) (pc := 87) dX12_steps_87 rfl rfl ?_
    refine w_getI (μ := m_X12_steps) (pc := 88) dX12_steps_88 fl_X12_447 ir_12_53 k0 ?_
    refine w_icmp_le 108 (μ := m_X12_steps) (pc := 91) dX12_steps_91 (by decide) (fun c_18 => ?_) (fun c_18 => ?_)
    · refine w_lv [1, 2, 3, 4] rfl ?_
      exact t_J_X12_steps_108 wt hl (by omega) k0 _ _
    · refine w_aload_n 1 0 (μ := m_X12_steps) (pc := 94) dX12_steps_94 rfl rfl ?_
      refine w_iload 0 (μ := m_X12_steps) (pc := 95) dX12_steps_95 rfl ?_
      refine w_putI (μ := m_X12_steps) (pc := 97) dX12_steps_97 fl_X12_447 flw_12_53 ir_12_53 k0 ?_
      refine w_bd (fun δ_51 e_52 => ?_)
      refine w_aload_n 1 0 (μ := m_X12_steps) (pc := 100) dX12_steps_100 rfl rfl ?_
      refine w_aload_n 1 0 (μ := m_X12_steps) (pc := 101) dX12_steps_101 rfl rfl ?_
      refine w_getI (μ := m_X12_steps) (pc := 102) dX12_steps_102 fl_X12_438 ir_12_51 k0 ?_
      refine w_putI (μ := m_X12_steps) (pc := 105) dX12_steps_105 fl_X12_450 flw_12_54 ir_12_54 k0 ?_
      refine w_bd (fun δ_53 e_54 => ?_)
      refine w_lv [1, 2, 3, 4] rfl ?_
      exact t_J_X12_steps_108 wt hl (by omega) k0 _ _
def D_X12_steps (N : Nat) (g : gp) (a0 : Nat) (x1 : Int32) (x2 : Int32) (δ : dp) : Option (Int32 × dp) :=
  if (q_I δ 12 51 a0) = (2000 : Int32) then (if (0 : Int32) = 0 ∨ (0 : Int32) = 1 then some (0, δ) else none) else ((q_O g 12 30 a0).bind fun b_2 => if x2 < 0 ∨ q_N g b_2 ≤ x2.toNatClampNeg then none else (q_O g 12 31 a0).bind fun b_4 => if x2 < 0 ∨ q_N g b_4 ≤ x2.toNatClampNeg then none else (D_X12_worked N g a0 x1 (q_R δ b_2 x2.toNatClampNeg) (q_R δ b_4 x2.toNatClampNeg) δ).bind fun r_6 => (D_X12_all N g a0 r_6.2).bind fun r_7 => bi (r_6.1 &&& (r_7.1 - 1)) fun x_8 => (q_O g 12 29 a0).bind fun b_10 => if x2 < 0 ∨ q_N g b_10 ≤ x2.toNatClampNeg then none else if (q_R r_7.2 b_10 x2.toNatClampNeg) = 0 then ((q_O g 12 14 a0).bind fun b_55 => if x1 < 0 ∨ q_N g b_55 ≤ x1.toNatClampNeg then none else if (q_R r_7.2 b_55 x1.toNatClampNeg) = (2000 : Int32) then (if (0 : Int32) = 0 ∨ (0 : Int32) = 1 then some (0, r_7.2) else none) else (J_X12_steps_60 N g a0 x1 x2 x_8 r_7.2)) else (J_X12_steps_60 N g a0 x1 x2 x_8 r_7.2))
set_option maxHeartbeats 4000000 in
set_option maxRecDepth 100000 in
theorem c_X12_steps {l : Launch} {D : va_G} {cy : Nat → ClassId} {N d : Nat} {g : gp} (wt : WT g) (hl : l.stackTraces = false) (hd : 66 ≤ d) {a0 : Nat} {x1 : Int32} {x2 : Int32} {δ : dp} (k0 : q_K g a0 = 12) : CalD l D cy m_X12_steps d 0 0 ei g [.ref a0, .int x1, .int x2] δ (D_X12_steps N g a0 x1 x2 δ) := by
  refine CalD.of (by decide +kernel) (Nat.le_of_ble_eq_true rfl) hl ?_
  unfold D_X12_steps
  refine w_aload_n 0 0 (μ := m_X12_steps) (pc := 0) dX12_steps_0 rfl rfl ?_
  refine w_getI (μ := m_X12_steps) (pc := 1) dX12_steps_1 fl_X12_438 ir_12_51 k0 ?_
  refine w_sipush (v := 2000) (μ := m_X12_steps) (pc := 4) dX12_steps_4 (by decide) ?_
  refine w_icmp_ne 12 (μ := m_X12_steps) (pc := 7) dX12_steps_7 (by decide) (fun c_1 => ?_) (fun c_1 => ?_)
  · refine w_aload_n 0 0 (μ := m_X12_steps) (pc := 12) dX12_steps_12 rfl rfl ?_
    refine w_iload_n 1 1 (μ := m_X12_steps) (pc := 13) dX12_steps_13 rfl rfl ?_
    refine w_aload_n 0 0 (μ := m_X12_steps) (pc := 14) dX12_steps_14 rfl rfl ?_
    refine w_getO (μ := m_X12_steps) (pc := 15) dX12_steps_15 fl_X12_69 ir_12_30 id_12_30 k0 (fun b_2 e_3 => ?_)
    refine w_iload_n 2 2 (μ := m_X12_steps) (pc := 18) dX12_steps_18 rfl rfl ?_
    refine w_ald (μ := m_X12_steps) (pc := 19) dX12_steps_19 (wt_12_30 wt k0 e_3) ?_
    refine w_aload_n 0 0 (μ := m_X12_steps) (pc := 20) dX12_steps_20 rfl rfl ?_
    refine w_getO (μ := m_X12_steps) (pc := 21) dX12_steps_21 fl_X12_72 ir_12_31 id_12_31 k0 (fun b_4 e_5 => ?_)
    refine w_iload_n 2 2 (μ := m_X12_steps) (pc := 24) dX12_steps_24 rfl rfl ?_
    refine w_ald (μ := m_X12_steps) (pc := 25) dX12_steps_25 (wt_12_31 wt k0 e_5) ?_
    refine w_callV (As := [.int x1, .int (q_R δ b_2 x2.toNatClampNeg), .int (q_R δ b_4 x2.toNatClampNeg)]) (rest := []) (μ := m_X12_steps) (pc := 26) dX12_steps_26 cv_X12_441 rfl rfl k0 (by decide) rfl (Nat.le_of_ble_eq_true rfl) (d' := d - 1) (by omega) he_i (c_X12_worked wt hl (d := d - 1) (by omega) k0) (fun r_6 => ?_)
    refine w_aload_n 0 0 (μ := m_X12_steps) (pc := 29) dX12_steps_29 rfl rfl ?_
    refine w_callV (As := []) (rest := [.int r_6.1]) (μ := m_X12_steps) (pc := 30) dX12_steps_30 cv_X12_257 rfl rfl k0 (by decide) rfl (Nat.le_of_ble_eq_true rfl) (d' := d - 1) (by omega) he_i (c_X12_all wt hl (d := d - 1) (by omega) k0) (fun r_7 => ?_)
    refine w_iconst (v := 1) (μ := m_X12_steps) (pc := 33) dX12_steps_33 (by decide) ?_
    refine w_isub (μ := m_X12_steps) (pc := 34) dX12_steps_34 ?_
    refine w_iand (μ := m_X12_steps) (pc := 35) dX12_steps_35 ?_
    refine w_bi (fun x_8 e_9 => ?_)
    refine w_istore_n [(3, .int x_8), (0, .ref a0), (1, .int x1), (2, .int x2)] (μ := m_X12_steps) (pc := 36) dX12_steps_36 rfl (by decide) rfl ?_
    refine w_aload_n 1 0 (μ := m_X12_steps) (pc := 37) dX12_steps_37 rfl rfl ?_
    refine w_getO (μ := m_X12_steps) (pc := 38) dX12_steps_38 fl_X12_66 ir_12_29 id_12_29 k0 (fun b_10 e_11 => ?_)
    refine w_iload_n 3 2 (μ := m_X12_steps) (pc := 41) dX12_steps_41 rfl rfl ?_
    refine w_ald (μ := m_X12_steps) (pc := 42) dX12_steps_42 (wt_12_29 wt k0 e_11) ?_
    refine w_if_ne 60 (μ := m_X12_steps) (pc := 43) dX12_steps_43 (by decide) (fun c_12 => ?_) (fun c_12 => ?_)
    · refine w_lv [1, 2, 3, 0] rfl ?_
      exact t_J_X12_steps_60 wt hl (by omega) k0 _ _
    · refine w_aload_n 1 0 (μ := m_X12_steps) (pc := 46) dX12_steps_46 rfl rfl ?_
      refine w_getO (μ := m_X12_steps) (pc := 47) dX12_steps_47 fl_X12_36 ir_12_14 id_12_14 k0 (fun b_55 e_56 => ?_)
      refine w_iload_n 2 1 (μ := m_X12_steps) (pc := 50) dX12_steps_50 rfl rfl ?_
      refine w_ald (μ := m_X12_steps) (pc := 51) dX12_steps_51 (wt_12_14 wt k0 e_56) ?_
      refine w_sipush (v := 2000) (μ := m_X12_steps) (pc := 52) dX12_steps_52 (by decide) ?_
      refine w_icmp_ne 60 (μ := m_X12_steps) (pc := 55) dX12_steps_55 (by decide) (fun c_57 => ?_) (fun c_57 => ?_)
      · refine w_lv [1, 2, 3, 0] rfl ?_
        exact t_J_X12_steps_60 wt hl (by omega) k0 _ _
      · refine w_iconst (v := 0) (μ := m_X12_steps) (pc := 58) dX12_steps_58 (by decide) ?_
        exact w_zret (μ := m_X12_steps) (pc := 59) dX12_steps_59 rfl rfl
  · refine w_iconst (v := 0) (μ := m_X12_steps) (pc := 10) dX12_steps_10 (by decide) ?_
    exact w_zret (μ := m_X12_steps) (pc := 11) dX12_steps_11 rfl rfl
def L_X12_goes_61 (N : Nat) (g : gp) (T : Nat → Int32 → Int32 → Int32 → Int32 → dp → Option (Int32 × dp)) (a0 : Nat) (x1 : Int32) (x2 : Int32) (x3 : Int32) (x4 : Int32) (kt3 : Int32 → dp → Option (Int32 × dp)) : Nat → Int32 → Int32 → Int32 → dp → Option (Int32 × dp)
  | 0, _, _, _, _ => none
  | n + 1, x5v, x6v, x7v, δ => (q_O g 12 30 a0).bind fun b_9 => if x6v < 0 ∨ q_N g b_9 ≤ x6v.toNatClampNeg then none else if (q_R δ b_9 x6v.toNatClampNeg) ≤ x7v then (bd (s_I δ 12 58 a0 ((q_I δ 12 58 a0) - 1)) fun δ_12 => (q_O g 12 31 a0).bind fun b_14 => if x6v < 0 ∨ q_N g b_14 ≤ x6v.toNatClampNeg then none else bi (q_R δ_12 b_14 x6v.toNatClampNeg) fun x_16 => kt3 x_16 δ_12) else ((q_O g 12 57 a0).bind fun b_18 => if ((q_I δ 12 58 a0) - 1) < 0 ∨ q_N g b_18 ≤ ((q_I δ 12 58 a0) - 1).toNatClampNeg then none else bd (s_R δ b_18 ((q_I δ 12 58 a0) - 1).toNatClampNeg x7v) fun δ_20 => (q_O g 12 31 a0).bind fun b_22 => if x6v < 0 ∨ q_N g b_22 ≤ x6v.toNatClampNeg then none else (T a0 x1 x2 (x5v + 1) (q_R δ_20 b_22 x6v.toNatClampNeg) δ_20).bind fun r_24 => if r_24.1 = 0 then (if (0 : Int32) = 0 ∨ (0 : Int32) = 1 then some (0, r_24.2) else none) else (bi (x7v + 1) fun x_26 => L_X12_goes_61 N g T a0 x1 x2 x3 x4 kt3 n x5v x6v x_26 r_24.2))
set_option maxHeartbeats 4000000 in
set_option maxRecDepth 100000 in
theorem t_L_X12_goes_61 {l : Launch} {D : va_G} {cy : Nat → ClassId} {N d : Nat} {g : gp} (wt : WT g) (hl : l.stackTraces = false) {T : Nat → Int32 → Int32 → Int32 → Int32 → dp → Option (Int32 × dp)} {dh : Nat} (hT : ∀ (a0 : Nat) (x1 : Int32) (x2 : Int32) (x3 : Int32) (x4 : Int32) (δ : dp), q_K g a0 = 12 → CalD l D cy m_X12_goes dh 0 0 ei g [.ref a0, .int x1, .int x2, .int x3, .int x4] δ (T a0 x1 x2 x3 x4 δ)) (hh : dh + 1 ≤ d) (hd : 67 ≤ d) {a0 : Nat} {x1 : Int32} {x2 : Int32} {x3 : Int32} {x4 : Int32} (k0 : q_K g a0 = 12) {kt3 : Int32 → dp → Option (Int32 × dp)} (hk3 : ∀ (x5v : Int32) (δ : dp), AWD l D cy m_X12_goes d 0 0 ei g 3 [(0, .ref a0), (1, .int x1), (2, .int x2), (4, .int x4), (5, .int x5v)] [] δ (kt3 x5v δ)) : ∀ (n : Nat) (x5v : Int32) (x6v : Int32) (x7v : Int32) (δ : dp), AWD l D cy m_X12_goes d 0 0 ei g 61 [(0, .ref a0), (1, .int x1), (2, .int x2), (4, .int x4), (5, .int x5v), (6, .int x6v), (7, .int x7v)] [] δ (L_X12_goes_61 N g T a0 x1 x2 x3 x4 kt3 n x5v x6v x7v δ) := by
  intro n
  induction n with
  | zero => intro x5v x6v x7v δ ; exact w_none
  | succ n ih =>
    intro x5v x6v x7v δ 
    unfold L_X12_goes_61
    refine w_iload 6 (μ := m_X12_goes) (pc := 61) dX12_goes_61 rfl ?_
    refine w_aload_n 0 0 (μ := m_X12_goes) (pc := 63) dX12_goes_63 rfl rfl ?_
    refine w_getO (μ := m_X12_goes) (pc := 64) dX12_goes_64 fl_X12_69 ir_12_30 id_12_30 k0 (fun b_9 e_10 => ?_)
    refine w_iload 5 (μ := m_X12_goes) (pc := 67) dX12_goes_67 rfl ?_
    refine w_ald (μ := m_X12_goes) (pc := 69) dX12_goes_69 (wt_12_30 wt k0 e_10) ?_
    refine w_icmp_ge 114 (μ := m_X12_goes) (pc := 70) dX12_goes_70 (by decide) (fun c_11 => ?_) (fun c_11 => ?_)
    · refine w_aload_n 0 0 (μ := m_X12_goes) (pc := 114) dX12_goes_114 rfl rfl ?_
      refine w_dup (μ := m_X12_goes) (pc := 115) dX12_goes_115 rfl ?_
      refine w_getI (μ := m_X12_goes) (pc := 116) dX12_goes_116 fl_X12_427 ir_12_58 k0 ?_
      refine w_iconst (v := 1) (μ := m_X12_goes) (pc := 119) dX12_goes_119 (by decide) ?_
      refine w_isub (μ := m_X12_goes) (pc := 120) dX12_goes_120 ?_
      refine w_putI (μ := m_X12_goes) (pc := 121) dX12_goes_121 fl_X12_427 flw_12_58 ir_12_58 k0 ?_
      refine w_bd (fun δ_12 e_13 => ?_)
      refine w_aload_n 0 0 (μ := m_X12_goes) (pc := 124) dX12_goes_124 rfl rfl ?_
      refine w_getO (μ := m_X12_goes) (pc := 125) dX12_goes_125 fl_X12_72 ir_12_31 id_12_31 k0 (fun b_14 e_15 => ?_)
      refine w_iload 5 (μ := m_X12_goes) (pc := 128) dX12_goes_128 rfl ?_
      refine w_ald (μ := m_X12_goes) (pc := 130) dX12_goes_130 (wt_12_31 wt k0 e_15) ?_
      refine w_bi (fun x_16 e_17 => ?_)
      refine w_istore [(5, .int x_16), (0, .ref a0), (1, .int x1), (2, .int x2), (4, .int x4), (6, .int x6v), (7, .int x7v)] (μ := m_X12_goes) (pc := 131) dX12_goes_131 (by decide) rfl ?_
      refine w_goto 3 (μ := m_X12_goes) (pc := 133) dX12_goes_133 (by decide) ?_
      refine w_lv [1, 2, 3, 4, 0] rfl ?_
      exact hk3 _ _
    · refine w_aload_n 0 0 (μ := m_X12_goes) (pc := 73) dX12_goes_73 rfl rfl ?_
      refine w_getO (μ := m_X12_goes) (pc := 74) dX12_goes_74 fl_X12_106 ir_12_57 id_12_57 k0 (fun b_18 e_19 => ?_)
      refine w_aload_n 0 0 (μ := m_X12_goes) (pc := 77) dX12_goes_77 rfl rfl ?_
      refine w_getI (μ := m_X12_goes) (pc := 78) dX12_goes_78 fl_X12_427 ir_12_58 k0 ?_
      refine w_iconst (v := 1) (μ := m_X12_goes) (pc := 81) dX12_goes_81 (by decide) ?_
      refine w_isub (μ := m_X12_goes) (pc := 82) dX12_goes_82 ?_
      refine w_iload 6 (μ := m_X12_goes) (pc := 83) dX12_goes_83 rfl ?_
      refine w_ast (μ := m_X12_goes) (pc := 85) dX12_goes_85 (wt_12_57 wt k0 e_19) ?_
      refine w_bd (fun δ_20 e_21 => ?_)
      refine w_aload_n 0 0 (μ := m_X12_goes) (pc := 86) dX12_goes_86 rfl rfl ?_
      refine w_iload_n 1 1 (μ := m_X12_goes) (pc := 87) dX12_goes_87 rfl rfl ?_
      refine w_iload_n 2 2 (μ := m_X12_goes) (pc := 88) dX12_goes_88 rfl rfl ?_
      refine w_iload 4 (μ := m_X12_goes) (pc := 89) dX12_goes_89 rfl ?_
      refine w_iconst (v := 1) (μ := m_X12_goes) (pc := 91) dX12_goes_91 (by decide) ?_
      refine w_iadd (μ := m_X12_goes) (pc := 92) dX12_goes_92 ?_
      refine w_aload_n 0 0 (μ := m_X12_goes) (pc := 93) dX12_goes_93 rfl rfl ?_
      refine w_getO (μ := m_X12_goes) (pc := 94) dX12_goes_94 fl_X12_72 ir_12_31 id_12_31 k0 (fun b_22 e_23 => ?_)
      refine w_iload 5 (μ := m_X12_goes) (pc := 97) dX12_goes_97 rfl ?_
      refine w_ald (μ := m_X12_goes) (pc := 99) dX12_goes_99 (wt_12_31 wt k0 e_23) ?_
      refine w_callV (As := [.int x1, .int x2, .int (x5v + 1), .int (q_R δ_20 b_22 x6v.toNatClampNeg)]) (rest := []) (μ := m_X12_goes) (pc := 100) dX12_goes_100 cv_X12_461 rfl rfl k0 (by decide) rfl (Nat.le_of_ble_eq_true rfl) (d' := dh) (by omega) he_i (hT _ _ _ _ _ _ k0) (fun r_24 => ?_)
      refine w_if_ne 108 (μ := m_X12_goes) (pc := 103) dX12_goes_103 (by decide) (fun c_25 => ?_) (fun c_25 => ?_)
      · refine w_inb (fun x_26 e_27 => ?_)
        refine w_iinc 6 [(7, .int x_26), (0, .ref a0), (1, .int x1), (2, .int x2), (4, .int x4), (5, .int x5v), (6, .int x6v)] (μ := m_X12_goes) (pc := 108) dX12_goes_108 rfl (by rw [e_27]; rfl) (by decide) rfl ?_
        refine w_goto 61 (μ := m_X12_goes) (pc := 111) dX12_goes_111 (by decide) ?_
        refine w_lv [1, 2, 3, 4, 5, 6, 0] rfl ?_
        exact ih _ _ _ _
      · refine w_iconst (v := 0) (μ := m_X12_goes) (pc := 106) dX12_goes_106 (by decide) ?_
        exact w_zret (μ := m_X12_goes) (pc := 107) dX12_goes_107 rfl rfl
def L_X12_goes_3 (N : Nat) (g : gp) (T : Nat → Int32 → Int32 → Int32 → Int32 → dp → Option (Int32 × dp)) (a0 : Nat) (x1 : Int32) (x2 : Int32) (x3 : Int32) (x4 : Int32) : Nat → Int32 → dp → Option (Int32 × dp)
  | 0, _, _ => none
  | n + 1, x5v, δ => if x4 ≤ x5v then (if (1 : Int32) = 0 ∨ (1 : Int32) = 1 then some (1, δ) else none) else (bi ((60 * x1) + x5v) fun x_2 => (q_O g 12 29 a0).bind fun b_4 => if x_2 < 0 ∨ q_N g b_4 ≤ x_2.toNatClampNeg then none else if (q_R δ b_4 x_2.toNatClampNeg) = (5 : Int32) then (bd (s_I δ 12 58 a0 ((q_I δ 12 58 a0) + 1)) fun δ_7 => L_X12_goes_61 N g T a0 x1 x2 x3 x4 (L_X12_goes_3 N g T a0 x1 x2 x3 x4 n) N x5v x_2 0 δ_7) else ((D_X12_steps N g a0 x2 x_2 δ).bind fun r_28 => if r_28.1 = 0 then (if (0 : Int32) = 0 ∨ (0 : Int32) = 1 then some (0, r_28.2) else none) else (bi (x5v + 1) fun x_30 => L_X12_goes_3 N g T a0 x1 x2 x3 x4 n x_30 r_28.2)))
set_option maxHeartbeats 4000000 in
set_option maxRecDepth 100000 in
theorem t_L_X12_goes_3 {l : Launch} {D : va_G} {cy : Nat → ClassId} {N d : Nat} {g : gp} (wt : WT g) (hl : l.stackTraces = false) {T : Nat → Int32 → Int32 → Int32 → Int32 → dp → Option (Int32 × dp)} {dh : Nat} (hT : ∀ (a0 : Nat) (x1 : Int32) (x2 : Int32) (x3 : Int32) (x4 : Int32) (δ : dp), q_K g a0 = 12 → CalD l D cy m_X12_goes dh 0 0 ei g [.ref a0, .int x1, .int x2, .int x3, .int x4] δ (T a0 x1 x2 x3 x4 δ)) (hh : dh + 1 ≤ d) (hd : 67 ≤ d) {a0 : Nat} {x1 : Int32} {x2 : Int32} {x3 : Int32} {x4 : Int32} (k0 : q_K g a0 = 12) : ∀ (n : Nat) (x5v : Int32) (δ : dp), AWD l D cy m_X12_goes d 0 0 ei g 3 [(0, .ref a0), (1, .int x1), (2, .int x2), (4, .int x4), (5, .int x5v)] [] δ (L_X12_goes_3 N g T a0 x1 x2 x3 x4 n x5v δ) := by
  intro n
  induction n with
  | zero => intro x5v δ ; exact w_none
  | succ n ih =>
    intro x5v δ 
    unfold L_X12_goes_3
    refine w_iload 4 (μ := m_X12_goes) (pc := 3) dX12_goes_3 rfl ?_
    refine w_iload 3 (μ := m_X12_goes) (pc := 5) dX12_goes_5 rfl ?_
    refine w_icmp_ge 136 (μ := m_X12_goes) (pc := 7) dX12_goes_7 (by decide) (fun c_1 => ?_) (fun c_1 => ?_)
    · refine w_iconst (v := 1) (μ := m_X12_goes) (pc := 136) dX12_goes_136 (by decide) ?_
      exact w_zret (μ := m_X12_goes) (pc := 137) dX12_goes_137 rfl rfl
    · refine w_bipush (v := 60) (μ := m_X12_goes) (pc := 10) dX12_goes_10 (by decide) ?_
      refine w_iload_n 1 1 (μ := m_X12_goes) (pc := 12) dX12_goes_12 rfl rfl ?_
      refine w_imul (μ := m_X12_goes) (pc := 13) dX12_goes_13 ?_
      refine w_iload 4 (μ := m_X12_goes) (pc := 14) dX12_goes_14 rfl ?_
      refine w_iadd (μ := m_X12_goes) (pc := 16) dX12_goes_16 ?_
      refine w_bi (fun x_2 e_3 => ?_)
      refine w_istore [(6, .int x_2), (0, .ref a0), (1, .int x1), (2, .int x2), (4, .int x4), (5, .int x5v)] (μ := m_X12_goes) (pc := 17) dX12_goes_17 (by decide) rfl ?_
      refine w_aload_n 1 0 (μ := m_X12_goes) (pc := 19) dX12_goes_19 rfl rfl ?_
      refine w_getO (μ := m_X12_goes) (pc := 20) dX12_goes_20 fl_X12_66 ir_12_29 id_12_29 k0 (fun b_4 e_5 => ?_)
      refine w_iload 0 (μ := m_X12_goes) (pc := 23) dX12_goes_23 rfl ?_
      refine w_ald (μ := m_X12_goes) (pc := 25) dX12_goes_25 (wt_12_29 wt k0 e_5) ?_
      refine w_iconst (v := 5) (μ := m_X12_goes) (pc := 26) dX12_goes_26 (by decide) ?_
      refine w_icmp_eq 48 (μ := m_X12_goes) (pc := 27) dX12_goes_27 (by decide) (fun c_6 => ?_) (fun c_6 => ?_)
      · refine w_aload_n 1 0 (μ := m_X12_goes) (pc := 48) dX12_goes_48 rfl rfl ?_
        refine w_dup (μ := m_X12_goes) (pc := 49) dX12_goes_49 rfl ?_
        refine w_getI (μ := m_X12_goes) (pc := 50) dX12_goes_50 fl_X12_427 ir_12_58 k0 ?_
        refine w_iconst (v := 1) (μ := m_X12_goes) (pc := 53) dX12_goes_53 (by decide) ?_
        refine w_iadd (μ := m_X12_goes) (pc := 54) dX12_goes_54 ?_
        refine w_putI (μ := m_X12_goes) (pc := 55) dX12_goes_55 fl_X12_427 flw_12_58 ir_12_58 k0 ?_
        refine w_bd (fun δ_7 e_8 => ?_)
        refine w_iconst (v := 0) (μ := m_X12_goes) (pc := 58) dX12_goes_58 (by decide) ?_
        refine w_istore [(7, .int 0), (6, .int x_2), (0, .ref a0), (1, .int x1), (2, .int x2), (4, .int x4), (5, .int x5v)] (μ := m_X12_goes) (pc := 59) dX12_goes_59 (by decide) rfl ?_
        refine w_lv [2, 3, 4, 5, 6, 1, 0] rfl ?_
        exact t_L_X12_goes_61 wt hl hT (by omega) (by omega) k0 ih N _ _ _ _
      · refine w_aload_n 1 0 (μ := m_X12_goes) (pc := 30) dX12_goes_30 rfl rfl ?_
        refine w_iload_n 3 2 (μ := m_X12_goes) (pc := 31) dX12_goes_31 rfl rfl ?_
        refine w_iload 0 (μ := m_X12_goes) (pc := 32) dX12_goes_32 rfl ?_
        refine w_callV (As := [.int x2, .int x_2]) (rest := []) (μ := m_X12_goes) (pc := 34) dX12_goes_34 cv_X12_459 rfl rfl k0 (by decide) rfl (Nat.le_of_ble_eq_true rfl) (d' := d - 1) (by omega) he_i (c_X12_steps wt hl (d := d - 1) (by omega) k0) (fun r_28 => ?_)
        refine w_if_ne 42 (μ := m_X12_goes) (pc := 37) dX12_goes_37 (by decide) (fun c_29 => ?_) (fun c_29 => ?_)
        · refine w_inb (fun x_30 e_31 => ?_)
          refine w_iinc 5 [(5, .int x_30), (6, .int x_2), (0, .ref a0), (1, .int x1), (2, .int x2), (4, .int x4)] (μ := m_X12_goes) (pc := 42) dX12_goes_42 rfl (by rw [e_31]; rfl) (by decide) rfl ?_
          refine w_goto 3 (μ := m_X12_goes) (pc := 45) dX12_goes_45 (by decide) ?_
          refine w_lv [2, 3, 4, 5, 0] rfl ?_
          exact ih _ _
        · refine w_iconst (v := 0) (μ := m_X12_goes) (pc := 40) dX12_goes_40 (by decide) ?_
          exact w_zret (μ := m_X12_goes) (pc := 41) dX12_goes_41 rfl rfl
def B_X12_goes (N : Nat) (g : gp) (T : Nat → Int32 → Int32 → Int32 → Int32 → dp → Option (Int32 × dp)) (a0 : Nat) (x1 : Int32) (x2 : Int32) (x3 : Int32) (x4 : Int32) (δ : dp) : Option (Int32 × dp) :=
  L_X12_goes_3 N g T a0 x1 x2 x3 x4 N x3 δ
set_option maxHeartbeats 4000000 in
set_option maxRecDepth 100000 in
theorem c_b_X12_goes {l : Launch} {D : va_G} {cy : Nat → ClassId} {N d : Nat} {g : gp} (wt : WT g) (hl : l.stackTraces = false) {T : Nat → Int32 → Int32 → Int32 → Int32 → dp → Option (Int32 × dp)} {dh : Nat} (hT : ∀ (a0 : Nat) (x1 : Int32) (x2 : Int32) (x3 : Int32) (x4 : Int32) (δ : dp), q_K g a0 = 12 → CalD l D cy m_X12_goes dh 0 0 ei g [.ref a0, .int x1, .int x2, .int x3, .int x4] δ (T a0 x1 x2 x3 x4 δ)) (hh : dh + 1 ≤ d) (hd : 67 ≤ d) {a0 : Nat} {x1 : Int32} {x2 : Int32} {x3 : Int32} {x4 : Int32} {δ : dp} (k0 : q_K g a0 = 12) : CalD l D cy m_X12_goes d 0 0 ei g [.ref a0, .int x1, .int x2, .int x3, .int x4] δ (B_X12_goes N g T a0 x1 x2 x3 x4 δ) := by
  refine CalD.of (by decide +kernel) (Nat.le_of_ble_eq_true rfl) hl ?_
  unfold B_X12_goes
  refine w_iload_n 3 3 (μ := m_X12_goes) (pc := 0) dX12_goes_0 rfl rfl ?_
  refine w_istore [(5, .int x3), (0, .ref a0), (1, .int x1), (2, .int x2), (3, .int x3), (4, .int x4)] (μ := m_X12_goes) (pc := 1) dX12_goes_1 (by decide) rfl ?_
  refine w_lv [1, 2, 3, 5, 0] rfl ?_
  exact t_L_X12_goes_3 wt hl hT (by omega) (by omega) k0 N _ _
def E_X12_goes (N : Nat) (g : gp) : Nat → Nat → Int32 → Int32 → Int32 → Int32 → dp → Option (Int32 × dp)
  | 0, _, _, _, _, _, _ => none
  | k + 1, a0, x1, x2, x3, x4, δ => B_X12_goes N g (E_X12_goes N g k) a0 x1 x2 x3 x4 δ
theorem e_X12_goes {l : Launch} {D : va_G} {cy : Nat → ClassId} {N : Nat} {g : gp} (wt : WT g) (hl : l.stackTraces = false) : ∀ (k d : Nat), 67 + 1 * k ≤ d → ∀ (a0 : Nat) (x1 : Int32) (x2 : Int32) (x3 : Int32) (x4 : Int32) (δ : dp), q_K g a0 = 12 → CalD l D cy m_X12_goes d 0 0 ei g [.ref a0, .int x1, .int x2, .int x3, .int x4] δ (E_X12_goes N g k a0 x1 x2 x3 x4 δ) := by
  intro k
  induction k with
  | zero => intro d _ a0 x1 x2 x3 x4 δ k0 r hr; cases hr
  | succ k ih =>
    intro d hd a0 x1 x2 x3 x4 δ k0
    unfold E_X12_goes
    exact c_b_X12_goes wt hl (ih (67 + 1 * k) (Nat.le_refl _)) (by omega) (by omega) k0
def D_X12_goes (N : Nat) (g : gp) (a0 : Nat) (x1 : Int32) (x2 : Int32) (x3 : Int32) (x4 : Int32) (δ : dp) : Option (Int32 × dp) := E_X12_goes N g 20 a0 x1 x2 x3 x4 δ
theorem c_X12_goes {l : Launch} {D : va_G} {cy : Nat → ClassId} {N d : Nat} {g : gp} (wt : WT g) (hl : l.stackTraces = false) (hd : 87 ≤ d) {a0 : Nat} {x1 : Int32} {x2 : Int32} {x3 : Int32} {x4 : Int32} {δ : dp} (k0 : q_K g a0 = 12) : CalD l D cy m_X12_goes d 0 0 ei g [.ref a0, .int x1, .int x2, .int x3, .int x4] δ (D_X12_goes N g a0 x1 x2 x3 x4 δ) := e_X12_goes wt hl 20 d (by omega) _ _ _ _ _ _ k0
def D_X12_works (N : Nat) (g : gp) (a0 : Nat) (x1 : Int32) (x2 : Int32) (x3 : Int32) (δ : dp) : Option (dp) :=
  (D_X12_keeps N g a0 x2 δ).bind fun r_1 => bd (s_I r_1 12 49 a0 x3) fun δ_2 => bd (s_I δ_2 12 50 a0 0) fun δ_4 => bd (s_I δ_4 12 51 a0 0) fun δ_6 => bd (s_I δ_6 12 52 a0 0) fun δ_8 => bd (s_I δ_8 12 53 a0 0) fun δ_10 => bd (s_I δ_10 12 54 a0 ((-1))) fun δ_12 => bd (s_I δ_12 12 55 a0 0) fun δ_14 => bd (s_I δ_14 12 56 a0 0) fun δ_16 => bd (s_I δ_16 12 58 a0 0) fun δ_18 => (q_O g 12 28 a0).bind fun b_20 => if x1 < 0 ∨ q_N g b_20 ≤ x1.toNatClampNeg then none else (D_X12_goes N g a0 x1 x2 0 (q_R δ_18 b_20 x1.toNatClampNeg) δ_18).bind fun r_22 => (q_O g 12 14 a0).bind fun b_23 => if x2 < 0 ∨ q_N g b_23 ≤ x2.toNatClampNeg then none else bd (s_I r_22.2 12 59 a0 (q_R r_22.2 b_23 x2.toNatClampNeg)) fun δ_25 => (D_X12_comesBack N g a0 x2 δ_25).bind fun r_27 => some r_27
set_option maxHeartbeats 4000000 in
set_option maxRecDepth 100000 in
theorem c_X12_works {l : Launch} {D : va_G} {cy : Nat → ClassId} {N d : Nat} {g : gp} (wt : WT g) (hl : l.stackTraces = false) (hd : 88 ≤ d) {a0 : Nat} {x1 : Int32} {x2 : Int32} {x3 : Int32} {δ : dp} (k0 : q_K g a0 = 12) : CalD l D cy m_X12_works d 0 0 ev g [.ref a0, .int x1, .int x2, .int x3] δ (D_X12_works N g a0 x1 x2 x3 δ) := by
  refine CalD.of (by decide +kernel) (Nat.le_of_ble_eq_true rfl) hl ?_
  unfold D_X12_works
  refine w_aload_n 0 0 (μ := m_X12_works) (pc := 0) dX12_works_0 rfl rfl ?_
  refine w_iload_n 2 2 (μ := m_X12_works) (pc := 1) dX12_works_1 rfl rfl ?_
  refine w_callV (As := [.int x2]) (rest := []) (μ := m_X12_works) (pc := 2) dX12_works_2 cv_X12_409 rfl rfl k0 (by decide) rfl (Nat.le_of_ble_eq_true rfl) (d' := d - 1) (by omega) he_v (c_X12_keeps wt hl (d := d - 1) (by omega) k0) (fun r_1 => ?_)
  refine w_aload_n 0 0 (μ := m_X12_works) (pc := 5) dX12_works_5 rfl rfl ?_
  refine w_iload_n 3 3 (μ := m_X12_works) (pc := 6) dX12_works_6 rfl rfl ?_
  refine w_putI (μ := m_X12_works) (pc := 7) dX12_works_7 fl_X12_433 flw_12_49 ir_12_49 k0 ?_
  refine w_bd (fun δ_2 e_3 => ?_)
  refine w_aload_n 0 0 (μ := m_X12_works) (pc := 10) dX12_works_10 rfl rfl ?_
  refine w_iconst (v := 0) (μ := m_X12_works) (pc := 11) dX12_works_11 (by decide) ?_
  refine w_putI (μ := m_X12_works) (pc := 12) dX12_works_12 fl_X12_430 flw_12_50 ir_12_50 k0 ?_
  refine w_bd (fun δ_4 e_5 => ?_)
  refine w_aload_n 0 0 (μ := m_X12_works) (pc := 15) dX12_works_15 rfl rfl ?_
  refine w_iconst (v := 0) (μ := m_X12_works) (pc := 16) dX12_works_16 (by decide) ?_
  refine w_putI (μ := m_X12_works) (pc := 17) dX12_works_17 fl_X12_438 flw_12_51 ir_12_51 k0 ?_
  refine w_bd (fun δ_6 e_7 => ?_)
  refine w_aload_n 0 0 (μ := m_X12_works) (pc := 20) dX12_works_20 rfl rfl ?_
  refine w_iconst (v := 0) (μ := m_X12_works) (pc := 21) dX12_works_21 (by decide) ?_
  refine w_putI (μ := m_X12_works) (pc := 22) dX12_works_22 fl_X12_444 flw_12_52 ir_12_52 k0 ?_
  refine w_bd (fun δ_8 e_9 => ?_)
  refine w_aload_n 0 0 (μ := m_X12_works) (pc := 25) dX12_works_25 rfl rfl ?_
  refine w_iconst (v := 0) (μ := m_X12_works) (pc := 26) dX12_works_26 (by decide) ?_
  refine w_putI (μ := m_X12_works) (pc := 27) dX12_works_27 fl_X12_447 flw_12_53 ir_12_53 k0 ?_
  refine w_bd (fun δ_10 e_11 => ?_)
  refine w_aload_n 0 0 (μ := m_X12_works) (pc := 30) dX12_works_30 rfl rfl ?_
  refine w_iconst (v := (-1)) (μ := m_X12_works) (pc := 31) dX12_works_31 (by decide) ?_
  refine w_putI (μ := m_X12_works) (pc := 32) dX12_works_32 fl_X12_450 flw_12_54 ir_12_54 k0 ?_
  refine w_bd (fun δ_12 e_13 => ?_)
  refine w_aload_n 0 0 (μ := m_X12_works) (pc := 35) dX12_works_35 rfl rfl ?_
  refine w_iconst (v := 0) (μ := m_X12_works) (pc := 36) dX12_works_36 (by decide) ?_
  refine w_putI (μ := m_X12_works) (pc := 37) dX12_works_37 fl_X12_453 flw_12_55 ir_12_55 k0 ?_
  refine w_bd (fun δ_14 e_15 => ?_)
  refine w_aload_n 0 0 (μ := m_X12_works) (pc := 40) dX12_works_40 rfl rfl ?_
  refine w_iconst (v := 0) (μ := m_X12_works) (pc := 41) dX12_works_41 (by decide) ?_
  refine w_putI (μ := m_X12_works) (pc := 42) dX12_works_42 fl_X12_456 flw_12_56 ir_12_56 k0 ?_
  refine w_bd (fun δ_16 e_17 => ?_)
  refine w_aload_n 0 0 (μ := m_X12_works) (pc := 45) dX12_works_45 rfl rfl ?_
  refine w_iconst (v := 0) (μ := m_X12_works) (pc := 46) dX12_works_46 (by decide) ?_
  refine w_putI (μ := m_X12_works) (pc := 47) dX12_works_47 fl_X12_427 flw_12_58 ir_12_58 k0 ?_
  refine w_bd (fun δ_18 e_19 => ?_)
  refine w_aload_n 0 0 (μ := m_X12_works) (pc := 50) dX12_works_50 rfl rfl ?_
  refine w_iload_n 1 1 (μ := m_X12_works) (pc := 51) dX12_works_51 rfl rfl ?_
  refine w_iload_n 2 2 (μ := m_X12_works) (pc := 52) dX12_works_52 rfl rfl ?_
  refine w_iconst (v := 0) (μ := m_X12_works) (pc := 53) dX12_works_53 (by decide) ?_
  refine w_aload_n 0 0 (μ := m_X12_works) (pc := 54) dX12_works_54 rfl rfl ?_
  refine w_getO (μ := m_X12_works) (pc := 55) dX12_works_55 fl_X12_63 ir_12_28 id_12_28 k0 (fun b_20 e_21 => ?_)
  refine w_iload_n 1 1 (μ := m_X12_works) (pc := 58) dX12_works_58 rfl rfl ?_
  refine w_ald (μ := m_X12_works) (pc := 59) dX12_works_59 (wt_12_28 wt k0 e_21) ?_
  refine w_callV (As := [.int x1, .int x2, .int 0, .int (q_R δ_18 b_20 x1.toNatClampNeg)]) (rest := []) (μ := m_X12_works) (pc := 60) dX12_works_60 cv_X12_461 rfl rfl k0 (by decide) rfl (Nat.le_of_ble_eq_true rfl) (d' := d - 1) (by omega) he_i (c_X12_goes wt hl (d := d - 1) (by omega) k0) (fun r_22 => ?_)
  refine w_pop (μ := m_X12_works) (pc := 63) dX12_works_63 rfl ?_
  refine w_aload_n 0 0 (μ := m_X12_works) (pc := 64) dX12_works_64 rfl rfl ?_
  refine w_aload_n 0 0 (μ := m_X12_works) (pc := 65) dX12_works_65 rfl rfl ?_
  refine w_getO (μ := m_X12_works) (pc := 66) dX12_works_66 fl_X12_36 ir_12_14 id_12_14 k0 (fun b_23 e_24 => ?_)
  refine w_iload_n 2 2 (μ := m_X12_works) (pc := 69) dX12_works_69 rfl rfl ?_
  refine w_ald (μ := m_X12_works) (pc := 70) dX12_works_70 (wt_12_14 wt k0 e_24) ?_
  refine w_putI (μ := m_X12_works) (pc := 71) dX12_works_71 fl_X12_465 flw_12_59 ir_12_59 k0 ?_
  refine w_bd (fun δ_25 e_26 => ?_)
  refine w_aload_n 0 0 (μ := m_X12_works) (pc := 74) dX12_works_74 rfl rfl ?_
  refine w_iload_n 2 2 (μ := m_X12_works) (pc := 75) dX12_works_75 rfl rfl ?_
  refine w_callV (As := [.int x2]) (rest := []) (μ := m_X12_works) (pc := 76) dX12_works_76 cv_X12_421 rfl rfl k0 (by decide) rfl (Nat.le_of_ble_eq_true rfl) (d' := d - 1) (by omega) he_v (c_X12_comesBack wt hl (d := d - 1) (by omega) k0) (fun r_27 => ?_)
  exact w_vret (μ := m_X12_works) (pc := 79) dX12_works_79 rfl rfl
def J_X12_steals_39 (N : Nat) (g : gp) (a0 : Nat) (x1 : Int32) (x2 : Int32) (x3 : Int32) (x4 : Int32) (δ : dp) : Option (Int32 × dp) :=
  some (0, δ)
set_option maxHeartbeats 4000000 in
set_option maxRecDepth 100000 in
theorem t_J_X12_steals_39 {l : Launch} {D : va_G} {cy : Nat → ClassId} {N d : Nat} {g : gp} (wt : WT g) (hl : l.stackTraces = false) (hd : 89 ≤ d) {a0 : Nat} {x1 : Int32} {x2 : Int32} {x3 : Int32} {x4 : Int32} (k0 : q_K g a0 = 12) : ∀ (δ : dp), AWD l D cy m_X12_steals d 0 0 ei g 39 [] [] δ (J_X12_steals_39 N g a0 x1 x2 x3 x4 δ) := by
    intro  δ 
    unfold J_X12_steals_39
    refine w_iconst (v := 0) (μ := m_X12_steals) (pc := 39) dX12_steals_39 (by decide) ?_
    exact w_iret (μ := m_X12_steals) (pc := 40) dX12_steals_40 rfl rfl
def D_X12_steals (N : Nat) (g : gp) (a0 : Nat) (x1 : Int32) (x2 : Int32) (x3 : Int32) (x4 : Int32) (δ : dp) : Option (Int32 × dp) :=
  bd (s_I δ 12 0 a0 0) fun δ_1 => (D_X12_isHouse N g a0 x2 1 δ_1).bind fun r_3 => if r_3.1 = 0 then (J_X12_steals_39 N g a0 x1 x2 x3 x4 r_3.2) else ((D_X12_isThief N g a0 x1 r_3.2).bind fun r_5 => if r_5.1 = 0 then (J_X12_steals_39 N g a0 x1 x2 x3 x4 r_5.2) else ((D_X12_within N g x4 0 6 r_5.2).bind fun r_7 => (D_X12_may N g a0 r_7.1 3 2 r_7.2).bind fun r_8 => if r_8.1 = 0 then (J_X12_steals_39 N g a0 x1 x2 x3 x4 r_8.2) else ((D_X12_works N g a0 x1 x2 x3 r_8.2).bind fun r_10 => if x4 = 0 then (some (q_I r_10 12 51 a0, r_10)) else (if x4 = 1 then (some (q_I r_10 12 52 a0, r_10)) else (if x4 = 2 then (some (q_I r_10 12 53 a0, r_10)) else (if x4 = 3 then (some (q_I r_10 12 54 a0, r_10)) else (if x4 = 4 then (some (q_I r_10 12 55 a0, r_10)) else (if x4 = 5 then (some (q_I r_10 12 56 a0, r_10)) else (some (q_I r_10 12 59 a0, r_10))))))))))
set_option maxHeartbeats 4000000 in
set_option maxRecDepth 100000 in
theorem c_X12_steals {l : Launch} {D : va_G} {cy : Nat → ClassId} {N d : Nat} {g : gp} (wt : WT g) (hl : l.stackTraces = false) (hd : 89 ≤ d) {a0 : Nat} {x1 : Int32} {x2 : Int32} {x3 : Int32} {x4 : Int32} {δ : dp} (k0 : q_K g a0 = 12) : CalD l D cy m_X12_steals d 0 0 ei g [.ref a0, .int x1, .int x2, .int x3, .int x4] δ (D_X12_steals N g a0 x1 x2 x3 x4 δ) := by
  refine CalD.of (by decide +kernel) (Nat.le_of_ble_eq_true rfl) hl ?_
  unfold D_X12_steals
  refine w_aload_n 0 0 (μ := m_X12_steals) (pc := 0) dX12_steals_0 rfl rfl ?_
  refine w_iconst (v := 0) (μ := m_X12_steals) (pc := 1) dX12_steals_1 (by decide) ?_
  refine w_putI (μ := m_X12_steals) (pc := 2) dX12_steals_2 fl_X12_1 flw_12_0 ir_12_0 k0 ?_
  refine w_bd (fun δ_1 e_2 => ?_)
  refine w_aload_n 0 0 (μ := m_X12_steals) (pc := 5) dX12_steals_5 rfl rfl ?_
  refine w_iload_n 2 2 (μ := m_X12_steals) (pc := 6) dX12_steals_6 rfl rfl ?_
  refine w_iconst (v := 1) (μ := m_X12_steals) (pc := 7) dX12_steals_7 (by decide) ?_
  refine w_callV (As := [.int x2, .int 1]) (rest := []) (μ := m_X12_steals) (pc := 8) dX12_steals_8 cv_X12_260 rfl rfl k0 (by decide) rfl (Nat.le_of_ble_eq_true rfl) (d' := d - 1) (by omega) he_i (c_X12_isHouse wt hl (d := d - 1) (by omega) k0) (fun r_3 => ?_)
  refine w_if_eq 39 (μ := m_X12_steals) (pc := 11) dX12_steals_11 (by decide) (fun c_4 => ?_) (fun c_4 => ?_)
  · refine w_lv [] rfl ?_
    exact t_J_X12_steals_39 wt hl (by omega) k0 _
  · refine w_aload_n 0 0 (μ := m_X12_steals) (pc := 14) dX12_steals_14 rfl rfl ?_
    refine w_iload_n 1 1 (μ := m_X12_steals) (pc := 15) dX12_steals_15 rfl rfl ?_
    refine w_callV (As := [.int x1]) (rest := []) (μ := m_X12_steals) (pc := 16) dX12_steals_16 cv_X12_468 rfl rfl k0 (by decide) rfl (Nat.le_of_ble_eq_true rfl) (d' := d - 1) (by omega) he_i (c_X12_isThief wt hl (d := d - 1) (by omega) k0) (fun r_5 => ?_)
    refine w_if_eq 39 (μ := m_X12_steals) (pc := 19) dX12_steals_19 (by decide) (fun c_6 => ?_) (fun c_6 => ?_)
    · refine w_lv [] rfl ?_
      exact t_J_X12_steals_39 wt hl (by omega) k0 _
    · refine w_aload_n 0 0 (μ := m_X12_steals) (pc := 22) dX12_steals_22 rfl rfl ?_
      refine w_iload 4 (μ := m_X12_steals) (pc := 23) dX12_steals_23 rfl ?_
      refine w_iconst (v := 0) (μ := m_X12_steals) (pc := 25) dX12_steals_25 (by decide) ?_
      refine w_bipush (v := 6) (μ := m_X12_steals) (pc := 26) dX12_steals_26 (by decide) ?_
      refine w_callS (As := [.int x4, .int 0, .int 6]) (rest := [.ref a0]) (μ := m_X12_steals) (pc := 28) dX12_steals_28 cs_X12_250 rfl rfl (Nat.le_of_ble_eq_true rfl) (d' := d - 1) (by omega) he_i (c_X12_within wt hl (d := d - 1) (by omega) ) (fun r_7 => ?_)
      refine w_iconst (v := 3) (μ := m_X12_steals) (pc := 31) dX12_steals_31 (by decide) ?_
      refine w_iconst (v := 2) (μ := m_X12_steals) (pc := 32) dX12_steals_32 (by decide) ?_
      refine w_callV (As := [.int r_7.1, .int 3, .int 2]) (rest := []) (μ := m_X12_steals) (pc := 33) dX12_steals_33 cv_X12_157 rfl rfl k0 (by decide) rfl (Nat.le_of_ble_eq_true rfl) (d' := d - 1) (by omega) he_i (c_X12_may wt hl (d := d - 1) (by omega) k0) (fun r_8 => ?_)
      refine w_if_ne 41 (μ := m_X12_steals) (pc := 36) dX12_steals_36 (by decide) (fun c_9 => ?_) (fun c_9 => ?_)
      · refine w_aload_n 0 0 (μ := m_X12_steals) (pc := 41) dX12_steals_41 rfl rfl ?_
        refine w_iload_n 1 1 (μ := m_X12_steals) (pc := 42) dX12_steals_42 rfl rfl ?_
        refine w_iload_n 2 2 (μ := m_X12_steals) (pc := 43) dX12_steals_43 rfl rfl ?_
        refine w_iload_n 3 3 (μ := m_X12_steals) (pc := 44) dX12_steals_44 rfl rfl ?_
        refine w_callV (As := [.int x1, .int x2, .int x3]) (rest := []) (μ := m_X12_steals) (pc := 45) dX12_steals_45 cv_X12_471 rfl rfl k0 (by decide) rfl (Nat.le_of_ble_eq_true rfl) (d' := d - 1) (by omega) he_v (c_X12_works wt hl (d := d - 1) (by omega) k0) (fun r_10 => ?_)
        refine w_iload 4 (μ := m_X12_steals) (pc := 48) dX12_steals_48 rfl ?_
        refine w_by (fun c_11 => ?_) (fun c_11 => ?_)
        · refine w_tabIn (off := 38) 88 0 c_11 (μ := m_X12_steals) (pc := 50) dX12_steals_50 (by decide) (by decide) (by decide +kernel) (by decide) ?_
          refine w_aload_n 0 0 (μ := m_X12_steals) (pc := 88) dX12_steals_88 rfl rfl ?_
          refine w_getI (μ := m_X12_steals) (pc := 89) dX12_steals_89 fl_X12_438 ir_12_51 k0 ?_
          exact w_iret (μ := m_X12_steals) (pc := 92) dX12_steals_92 rfl rfl
        · skip
          refine w_by (fun c_12 => ?_) (fun c_12 => ?_)
          · refine w_tabIn (off := 43) 93 1 c_12 (μ := m_X12_steals) (pc := 50) dX12_steals_50 (by decide) (by decide) (by decide +kernel) (by decide) ?_
            refine w_aload_n 0 0 (μ := m_X12_steals) (pc := 93) dX12_steals_93 rfl rfl ?_
            refine w_getI (μ := m_X12_steals) (pc := 94) dX12_steals_94 fl_X12_444 ir_12_52 k0 ?_
            exact w_iret (μ := m_X12_steals) (pc := 97) dX12_steals_97 rfl rfl
          · skip
            refine w_by (fun c_13 => ?_) (fun c_13 => ?_)
            · refine w_tabIn (off := 48) 98 2 c_13 (μ := m_X12_steals) (pc := 50) dX12_steals_50 (by decide) (by decide) (by decide +kernel) (by decide) ?_
              refine w_aload_n 0 0 (μ := m_X12_steals) (pc := 98) dX12_steals_98 rfl rfl ?_
              refine w_getI (μ := m_X12_steals) (pc := 99) dX12_steals_99 fl_X12_447 ir_12_53 k0 ?_
              exact w_iret (μ := m_X12_steals) (pc := 102) dX12_steals_102 rfl rfl
            · skip
              refine w_by (fun c_14 => ?_) (fun c_14 => ?_)
              · refine w_tabIn (off := 53) 103 3 c_14 (μ := m_X12_steals) (pc := 50) dX12_steals_50 (by decide) (by decide) (by decide +kernel) (by decide) ?_
                refine w_aload_n 0 0 (μ := m_X12_steals) (pc := 103) dX12_steals_103 rfl rfl ?_
                refine w_getI (μ := m_X12_steals) (pc := 104) dX12_steals_104 fl_X12_450 ir_12_54 k0 ?_
                exact w_iret (μ := m_X12_steals) (pc := 107) dX12_steals_107 rfl rfl
              · skip
                refine w_by (fun c_15 => ?_) (fun c_15 => ?_)
                · refine w_tabIn (off := 58) 108 4 c_15 (μ := m_X12_steals) (pc := 50) dX12_steals_50 (by decide) (by decide) (by decide +kernel) (by decide) ?_
                  refine w_aload_n 0 0 (μ := m_X12_steals) (pc := 108) dX12_steals_108 rfl rfl ?_
                  refine w_getI (μ := m_X12_steals) (pc := 109) dX12_steals_109 fl_X12_453 ir_12_55 k0 ?_
                  exact w_iret (μ := m_X12_steals) (pc := 112) dX12_steals_112 rfl rfl
                · skip
                  refine w_by (fun c_16 => ?_) (fun c_16 => ?_)
                  · refine w_tabIn (off := 63) 113 5 c_16 (μ := m_X12_steals) (pc := 50) dX12_steals_50 (by decide) (by decide) (by decide +kernel) (by decide) ?_
                    refine w_aload_n 0 0 (μ := m_X12_steals) (pc := 113) dX12_steals_113 rfl rfl ?_
                    refine w_getI (μ := m_X12_steals) (pc := 114) dX12_steals_114 fl_X12_456 ir_12_56 k0 ?_
                    exact w_iret (μ := m_X12_steals) (pc := 117) dX12_steals_117 rfl rfl
                  · skip
                    refine w_tabOut 118 (μ := m_X12_steals) (pc := 50) dX12_steals_50 (by have c_11i : _ ≠ (0 : Int) := tabne c_11; have c_12i : _ ≠ (1 : Int) := tabne c_12; have c_13i : _ ≠ (2 : Int) := tabne c_13; have c_14i : _ ≠ (3 : Int) := tabne c_14; have c_15i : _ ≠ (4 : Int) := tabne c_15; have c_16i : _ ≠ (5 : Int) := tabne c_16; omega) (by decide) ?_
                    refine w_aload_n 0 0 (μ := m_X12_steals) (pc := 118) dX12_steals_118 rfl rfl ?_
                    refine w_getI (μ := m_X12_steals) (pc := 119) dX12_steals_119 fl_X12_465 ir_12_59 k0 ?_
                    exact w_iret (μ := m_X12_steals) (pc := 122) dX12_steals_122 rfl rfl
      · refine w_lv [] rfl ?_
        exact t_J_X12_steals_39 wt hl (by omega) k0 _
def J_X12_seeds_57 (N : Nat) (g : gp) (a0 : Nat) (x1 : Int32) (x2 : Int32) (x3 : Int32) (x4 : Int32) (x5 : Int32) (δ : dp) : Option (Int32 × dp) :=
  some (0, δ)
set_option maxHeartbeats 4000000 in
set_option maxRecDepth 100000 in
theorem t_J_X12_seeds_57 {l : Launch} {D : va_G} {cy : Nat → ClassId} {N d : Nat} {g : gp} (wt : WT g) (hl : l.stackTraces = false) (hd : 89 ≤ d) {a0 : Nat} {x1 : Int32} {x2 : Int32} {x3 : Int32} {x4 : Int32} {x5 : Int32} (k0 : q_K g a0 = 12) : ∀ (δ : dp), AWD l D cy m_X12_seeds d 0 0 ei g 57 [] [] δ (J_X12_seeds_57 N g a0 x1 x2 x3 x4 x5 δ) := by
    intro  δ 
    unfold J_X12_seeds_57
    refine w_iconst (v := 0) (μ := m_X12_seeds) (pc := 57) dX12_seeds_57 (by decide) ?_
    exact w_iret (μ := m_X12_seeds) (pc := 58) dX12_seeds_58 rfl rfl
def J_X12_seeds_131 (N : Nat) (g : gp) (a0 : Nat) (x1 : Int32) (x2 : Int32) (x3 : Int32) (x4 : Int32) (x5 : Int32) (xs0 : Int32) (δ : dp) : Option (Int32 × dp) :=
  some (xs0, δ)
set_option maxHeartbeats 4000000 in
set_option maxRecDepth 100000 in
theorem t_J_X12_seeds_131 {l : Launch} {D : va_G} {cy : Nat → ClassId} {N d : Nat} {g : gp} (wt : WT g) (hl : l.stackTraces = false) (hd : 89 ≤ d) {a0 : Nat} {x1 : Int32} {x2 : Int32} {x3 : Int32} {x4 : Int32} {x5 : Int32} (k0 : q_K g a0 = 12) : ∀ (xs0 : Int32) (δ : dp), AWD l D cy m_X12_seeds d 0 0 ei g 131 [] [.int xs0] δ (J_X12_seeds_131 N g a0 x1 x2 x3 x4 x5 xs0 δ) := by
    intro xs0 δ 
    unfold J_X12_seeds_131
    exact w_iret (μ := m_X12_seeds) (pc := 131) dX12_seeds_131 rfl rfl
def J_X12_seeds_113 (N : Nat) (g : gp) (a0 : Nat) (x1 : Int32) (x2 : Int32) (x3 : Int32) (x4 : Int32) (x5 : Int32) (kt68 : Int32 → Int32 → Int32 → dp → Option (Int32 × dp)) (x6v : Int32) (x7v : Int32) (x8v : Int32) (δ : dp) : Option (Int32 × dp) :=
  bi (x8v + 1) fun x_17 => kt68 x6v x7v x_17 δ
set_option maxHeartbeats 4000000 in
set_option maxRecDepth 100000 in
theorem t_J_X12_seeds_113 {l : Launch} {D : va_G} {cy : Nat → ClassId} {N d : Nat} {g : gp} (wt : WT g) (hl : l.stackTraces = false) (hd : 89 ≤ d) {a0 : Nat} {x1 : Int32} {x2 : Int32} {x3 : Int32} {x4 : Int32} {x5 : Int32} (k0 : q_K g a0 = 12) {kt68 : Int32 → Int32 → Int32 → dp → Option (Int32 × dp)} (hk68 : ∀ (x6v : Int32) (x7v : Int32) (x8v : Int32) (δ : dp), AWD l D cy m_X12_seeds d 0 0 ei g 68 [(0, .ref a0), (1, .int x1), (2, .int x2), (3, .int x3), (4, .int x4), (5, .int x5), (6, .int x6v), (7, .int x7v), (8, .int x8v)] [] δ (kt68 x6v x7v x8v δ)) : ∀ (x6v : Int32) (x7v : Int32) (x8v : Int32) (δ : dp), AWD l D cy m_X12_seeds d 0 0 ei g 113 [(0, .ref a0), (1, .int x1), (2, .int x2), (3, .int x3), (4, .int x4), (5, .int x5), (6, .int x6v), (7, .int x7v), (8, .int x8v)] [] δ (J_X12_seeds_113 N g a0 x1 x2 x3 x4 x5 kt68 x6v x7v x8v δ) := by
    intro x6v x7v x8v δ 
    unfold J_X12_seeds_113
    refine w_inb (fun x_17 e_18 => ?_)
    refine w_iinc 8 [(8, .int x_17), (0, .ref a0), (1, .int x1), (2, .int x2), (3, .int x3), (4, .int x4), (5, .int x5), (6, .int x6v), (7, .int x7v)] (μ := m_X12_seeds) (pc := 113) dX12_seeds_113 rfl (by rw [e_18]; rfl) (by decide) rfl ?_
    refine w_goto 68 (μ := m_X12_seeds) (pc := 116) dX12_seeds_116 (by decide) ?_
    refine w_lv [1, 2, 3, 4, 5, 6, 7, 8, 0] rfl ?_
    exact hk68 _ _ _ _
def J_X12_seeds_103 (N : Nat) (g : gp) (a0 : Nat) (x1 : Int32) (x2 : Int32) (x3 : Int32) (x4 : Int32) (x5 : Int32) (kt68 : Int32 → Int32 → Int32 → dp → Option (Int32 × dp)) (x8v : Int32) (δ : dp) : Option (Int32 × dp) :=
  bi (q_I δ 12 53 a0) fun x_15 => J_X12_seeds_113 N g a0 x1 x2 x3 x4 x5 kt68 x8v x_15 x8v δ
set_option maxHeartbeats 4000000 in
set_option maxRecDepth 100000 in
theorem t_J_X12_seeds_103 {l : Launch} {D : va_G} {cy : Nat → ClassId} {N d : Nat} {g : gp} (wt : WT g) (hl : l.stackTraces = false) (hd : 89 ≤ d) {a0 : Nat} {x1 : Int32} {x2 : Int32} {x3 : Int32} {x4 : Int32} {x5 : Int32} (k0 : q_K g a0 = 12) {kt68 : Int32 → Int32 → Int32 → dp → Option (Int32 × dp)} (hk68 : ∀ (x6v : Int32) (x7v : Int32) (x8v : Int32) (δ : dp), AWD l D cy m_X12_seeds d 0 0 ei g 68 [(0, .ref a0), (1, .int x1), (2, .int x2), (3, .int x3), (4, .int x4), (5, .int x5), (6, .int x6v), (7, .int x7v), (8, .int x8v)] [] δ (kt68 x6v x7v x8v δ)) : ∀ (x8v : Int32) (δ : dp), AWD l D cy m_X12_seeds d 0 0 ei g 103 [(0, .ref a0), (1, .int x1), (2, .int x2), (3, .int x3), (4, .int x4), (5, .int x5), (8, .int x8v)] [] δ (J_X12_seeds_103 N g a0 x1 x2 x3 x4 x5 kt68 x8v δ) := by
    intro x8v δ 
    unfold J_X12_seeds_103
    refine w_iload 6 (μ := m_X12_seeds) (pc := 103) dX12_seeds_103 rfl ?_
    refine w_istore [(6, .int x8v), (0, .ref a0), (1, .int x1), (2, .int x2), (3, .int x3), (4, .int x4), (5, .int x5), (8, .int x8v)] (μ := m_X12_seeds) (pc := 105) dX12_seeds_105 (by decide) rfl ?_
    refine w_aload_n 1 0 (μ := m_X12_seeds) (pc := 107) dX12_seeds_107 rfl rfl ?_
    refine w_getI (μ := m_X12_seeds) (pc := 108) dX12_seeds_108 fl_X12_447 ir_12_53 k0 ?_
    refine w_bi (fun x_15 e_16 => ?_)
    refine w_istore [(7, .int x_15), (6, .int x8v), (0, .ref a0), (1, .int x1), (2, .int x2), (3, .int x3), (4, .int x4), (5, .int x5), (8, .int x8v)] (μ := m_X12_seeds) (pc := 111) dX12_seeds_111 (by decide) rfl ?_
    refine w_lv [2, 3, 4, 5, 6, 7, 1, 0, 8] rfl ?_
    exact t_J_X12_seeds_113 wt hl (by omega) k0 hk68 _ _ _ _
def L_X12_seeds_68 (N : Nat) (g : gp) (a0 : Nat) (x1 : Int32) (x2 : Int32) (x3 : Int32) (x4 : Int32) (x5 : Int32) : Nat → Int32 → Int32 → Int32 → dp → Option (Int32 × dp)
  | 0, _, _, _, _ => none
  | n + 1, x6v, x7v, x8v, δ => if x4 ≤ x8v then (if x5 = 0 then (J_X12_seeds_131 N g a0 x1 x2 x3 x4 x5 x6v δ) else (J_X12_seeds_131 N g a0 x1 x2 x3 x4 x5 x7v δ)) else ((D_X12_works N g a0 x1 x2 (x3 + x8v) δ).bind fun r_13 => if x6v = ((-1) : Int32) then (J_X12_seeds_103 N g a0 x1 x2 x3 x4 x5 (L_X12_seeds_68 N g a0 x1 x2 x3 x4 x5 n) x8v r_13) else (if x7v < (q_I r_13 12 53 a0) then (J_X12_seeds_103 N g a0 x1 x2 x3 x4 x5 (L_X12_seeds_68 N g a0 x1 x2 x3 x4 x5 n) x8v r_13) else (J_X12_seeds_113 N g a0 x1 x2 x3 x4 x5 (L_X12_seeds_68 N g a0 x1 x2 x3 x4 x5 n) x6v x7v x8v r_13)))
set_option maxHeartbeats 4000000 in
set_option maxRecDepth 100000 in
theorem t_L_X12_seeds_68 {l : Launch} {D : va_G} {cy : Nat → ClassId} {N d : Nat} {g : gp} (wt : WT g) (hl : l.stackTraces = false) (hd : 89 ≤ d) {a0 : Nat} {x1 : Int32} {x2 : Int32} {x3 : Int32} {x4 : Int32} {x5 : Int32} (k0 : q_K g a0 = 12) : ∀ (n : Nat) (x6v : Int32) (x7v : Int32) (x8v : Int32) (δ : dp), AWD l D cy m_X12_seeds d 0 0 ei g 68 [(0, .ref a0), (1, .int x1), (2, .int x2), (3, .int x3), (4, .int x4), (5, .int x5), (6, .int x6v), (7, .int x7v), (8, .int x8v)] [] δ (L_X12_seeds_68 N g a0 x1 x2 x3 x4 x5 n x6v x7v x8v δ) := by
  intro n
  induction n with
  | zero => intro x6v x7v x8v δ ; exact w_none
  | succ n ih =>
    intro x6v x7v x8v δ 
    unfold L_X12_seeds_68
    refine w_iload 8 (μ := m_X12_seeds) (pc := 68) dX12_seeds_68 rfl ?_
    refine w_iload 4 (μ := m_X12_seeds) (pc := 70) dX12_seeds_70 rfl ?_
    refine w_icmp_ge 119 (μ := m_X12_seeds) (pc := 72) dX12_seeds_72 (by decide) (fun c_11 => ?_) (fun c_11 => ?_)
    · refine w_iload 5 (μ := m_X12_seeds) (pc := 119) dX12_seeds_119 rfl ?_
      refine w_if_ne 129 (μ := m_X12_seeds) (pc := 121) dX12_seeds_121 (by decide) (fun c_12 => ?_) (fun c_12 => ?_)
      · refine w_iload 7 (μ := m_X12_seeds) (pc := 129) dX12_seeds_129 rfl ?_
        refine w_lv [] rfl ?_
        exact t_J_X12_seeds_131 wt hl (by omega) k0 _ _
      · refine w_iload 6 (μ := m_X12_seeds) (pc := 124) dX12_seeds_124 rfl ?_
        refine w_goto 131 (μ := m_X12_seeds) (pc := 126) dX12_seeds_126 (by decide) ?_
        refine w_lv [] rfl ?_
        exact t_J_X12_seeds_131 wt hl (by omega) k0 _ _
    · refine w_aload_n 0 0 (μ := m_X12_seeds) (pc := 75) dX12_seeds_75 rfl rfl ?_
      refine w_iload_n 1 1 (μ := m_X12_seeds) (pc := 76) dX12_seeds_76 rfl rfl ?_
      refine w_iload_n 2 2 (μ := m_X12_seeds) (pc := 77) dX12_seeds_77 rfl rfl ?_
      refine w_iload_n 3 3 (μ := m_X12_seeds) (pc := 78) dX12_seeds_78 rfl rfl ?_
      refine w_iload 8 (μ := m_X12_seeds) (pc := 79) dX12_seeds_79 rfl ?_
      refine w_iadd (μ := m_X12_seeds) (pc := 81) dX12_seeds_81 ?_
      refine w_callV (As := [.int x1, .int x2, .int (x3 + x8v)]) (rest := []) (μ := m_X12_seeds) (pc := 82) dX12_seeds_82 cv_X12_471 rfl rfl k0 (by decide) rfl (Nat.le_of_ble_eq_true rfl) (d' := d - 1) (by omega) he_v (c_X12_works wt hl (d := d - 1) (by omega) k0) (fun r_13 => ?_)
      refine w_iload 6 (μ := m_X12_seeds) (pc := 85) dX12_seeds_85 rfl ?_
      refine w_iconst (v := (-1)) (μ := m_X12_seeds) (pc := 87) dX12_seeds_87 (by decide) ?_
      refine w_icmp_eq 103 (μ := m_X12_seeds) (pc := 88) dX12_seeds_88 (by decide) (fun c_14 => ?_) (fun c_14 => ?_)
      · refine w_lv [0, 1, 2, 3, 4, 5, 8] rfl ?_
        exact t_J_X12_seeds_103 wt hl (by omega) k0 ih _ _
      · refine w_aload_n 0 0 (μ := m_X12_seeds) (pc := 91) dX12_seeds_91 rfl rfl ?_
        refine w_getI (μ := m_X12_seeds) (pc := 92) dX12_seeds_92 fl_X12_447 ir_12_53 k0 ?_
        refine w_iload 7 (μ := m_X12_seeds) (pc := 95) dX12_seeds_95 rfl ?_
        refine w_icmp_gt 103 (μ := m_X12_seeds) (pc := 97) dX12_seeds_97 (by decide) (fun c_19 => ?_) (fun c_19 => ?_)
        · refine w_lv [0, 1, 2, 3, 4, 5, 8] rfl ?_
          exact t_J_X12_seeds_103 wt hl (by omega) k0 ih _ _
        · refine w_goto 113 (μ := m_X12_seeds) (pc := 100) dX12_seeds_100 (by decide) ?_
          exact t_J_X12_seeds_113 wt hl (by omega) k0 ih _ _ _ _
def J_X12_seeds_49 (N : Nat) (g : gp) (a0 : Nat) (x1 : Int32) (x2 : Int32) (x3 : Int32) (x4 : Int32) (x5 : Int32) (xs0 : Int32) (as1 : Nat) (δ : dp) : Option (Int32 × dp) :=
  (D_X12_may N g as1 xs0 3 2 δ).bind fun r_9 => if r_9.1 = 0 then (J_X12_seeds_57 N g a0 x1 x2 x3 x4 x5 r_9.2) else (L_X12_seeds_68 N g a0 x1 x2 x3 x4 x5 N ((-1)) 0 0 r_9.2)
set_option maxHeartbeats 4000000 in
set_option maxRecDepth 100000 in
theorem t_J_X12_seeds_49 {l : Launch} {D : va_G} {cy : Nat → ClassId} {N d : Nat} {g : gp} (wt : WT g) (hl : l.stackTraces = false) (hd : 89 ≤ d) {a0 : Nat} {x1 : Int32} {x2 : Int32} {x3 : Int32} {x4 : Int32} {x5 : Int32} (k0 : q_K g a0 = 12) : ∀ (xs0 : Int32) (as1 : Nat) (δ : dp), q_K g as1 = 12 → AWD l D cy m_X12_seeds d 0 0 ei g 49 [(0, .ref a0), (1, .int x1), (2, .int x2), (3, .int x3), (4, .int x4), (5, .int x5)] [.int xs0, .ref as1] δ (J_X12_seeds_49 N g a0 x1 x2 x3 x4 x5 xs0 as1 δ) := by
    intro xs0 as1 δ has1
    unfold J_X12_seeds_49
    refine w_iconst (v := 3) (μ := m_X12_seeds) (pc := 49) dX12_seeds_49 (by decide) ?_
    refine w_iconst (v := 2) (μ := m_X12_seeds) (pc := 50) dX12_seeds_50 (by decide) ?_
    refine w_callV (As := [.int xs0, .int 3, .int 2]) (rest := []) (μ := m_X12_seeds) (pc := 51) dX12_seeds_51 cv_X12_157 rfl rfl has1 (by decide) rfl (Nat.le_of_ble_eq_true rfl) (d' := d - 1) (by omega) he_i (c_X12_may wt hl (d := d - 1) (by omega) has1) (fun r_9 => ?_)
    refine w_if_ne 59 (μ := m_X12_seeds) (pc := 54) dX12_seeds_54 (by decide) (fun c_10 => ?_) (fun c_10 => ?_)
    · refine w_iconst (v := (-1)) (μ := m_X12_seeds) (pc := 59) dX12_seeds_59 (by decide) ?_
      refine w_istore [(6, .int ((-1))), (0, .ref a0), (1, .int x1), (2, .int x2), (3, .int x3), (4, .int x4), (5, .int x5)] (μ := m_X12_seeds) (pc := 60) dX12_seeds_60 (by decide) rfl ?_
      refine w_iconst (v := 0) (μ := m_X12_seeds) (pc := 62) dX12_seeds_62 (by decide) ?_
      refine w_istore [(7, .int 0), (6, .int ((-1))), (0, .ref a0), (1, .int x1), (2, .int x2), (3, .int x3), (4, .int x4), (5, .int x5)] (μ := m_X12_seeds) (pc := 63) dX12_seeds_63 (by decide) rfl ?_
      refine w_iconst (v := 0) (μ := m_X12_seeds) (pc := 65) dX12_seeds_65 (by decide) ?_
      refine w_istore [(8, .int 0), (7, .int 0), (6, .int ((-1))), (0, .ref a0), (1, .int x1), (2, .int x2), (3, .int x3), (4, .int x4), (5, .int x5)] (μ := m_X12_seeds) (pc := 66) dX12_seeds_66 (by decide) rfl ?_
      refine w_lv [3, 4, 5, 6, 7, 8, 2, 1, 0] rfl ?_
      exact t_L_X12_seeds_68 wt hl (by omega) k0 N _ _ _ _
    · refine w_lv [] rfl ?_
      exact t_J_X12_seeds_57 wt hl (by omega) k0 _
def J_X12_seeds_48 (N : Nat) (g : gp) (a0 : Nat) (x1 : Int32) (x2 : Int32) (x3 : Int32) (x4 : Int32) (x5 : Int32) (as0 : Nat) (δ : dp) : Option (Int32 × dp) :=
  J_X12_seeds_49 N g a0 x1 x2 x3 x4 x5 0 as0 δ
set_option maxHeartbeats 4000000 in
set_option maxRecDepth 100000 in
theorem t_J_X12_seeds_48 {l : Launch} {D : va_G} {cy : Nat → ClassId} {N d : Nat} {g : gp} (wt : WT g) (hl : l.stackTraces = false) (hd : 89 ≤ d) {a0 : Nat} {x1 : Int32} {x2 : Int32} {x3 : Int32} {x4 : Int32} {x5 : Int32} (k0 : q_K g a0 = 12) : ∀ (as0 : Nat) (δ : dp), q_K g as0 = 12 → AWD l D cy m_X12_seeds d 0 0 ei g 48 [(0, .ref a0), (1, .int x1), (2, .int x2), (3, .int x3), (4, .int x4), (5, .int x5)] [.ref as0] δ (J_X12_seeds_48 N g a0 x1 x2 x3 x4 x5 as0 δ) := by
    intro as0 δ has0
    unfold J_X12_seeds_48
    refine w_iconst (v := 0) (μ := m_X12_seeds) (pc := 48) dX12_seeds_48 (by decide) ?_
    exact t_J_X12_seeds_49 wt hl (by omega) k0 _ _ _ has0
def D_X12_seeds (N : Nat) (g : gp) (a0 : Nat) (x1 : Int32) (x2 : Int32) (x3 : Int32) (x4 : Int32) (x5 : Int32) (δ : dp) : Option (Int32 × dp) :=
  bd (s_I δ 12 0 a0 0) fun δ_1 => (D_X12_isHouse N g a0 x2 1 δ_1).bind fun r_3 => if r_3.1 = 0 then (J_X12_seeds_57 N g a0 x1 x2 x3 x4 x5 r_3.2) else ((D_X12_isThief N g a0 x1 r_3.2).bind fun r_5 => if r_5.1 = 0 then (J_X12_seeds_57 N g a0 x1 x2 x3 x4 x5 r_5.2) else ((D_X12_within N g x4 1 20 r_5.2).bind fun r_7 => if r_7.1 = 0 then (J_X12_seeds_48 N g a0 x1 x2 x3 x4 x5 a0 r_7.2) else ((D_X12_within N g x5 0 1 r_7.2).bind fun r_20 => if r_20.1 = 0 then (J_X12_seeds_48 N g a0 x1 x2 x3 x4 x5 a0 r_20.2) else (J_X12_seeds_49 N g a0 x1 x2 x3 x4 x5 1 a0 r_20.2))))
set_option maxHeartbeats 4000000 in
set_option maxRecDepth 100000 in
theorem c_X12_seeds {l : Launch} {D : va_G} {cy : Nat → ClassId} {N d : Nat} {g : gp} (wt : WT g) (hl : l.stackTraces = false) (hd : 89 ≤ d) {a0 : Nat} {x1 : Int32} {x2 : Int32} {x3 : Int32} {x4 : Int32} {x5 : Int32} {δ : dp} (k0 : q_K g a0 = 12) : CalD l D cy m_X12_seeds d 0 0 ei g [.ref a0, .int x1, .int x2, .int x3, .int x4, .int x5] δ (D_X12_seeds N g a0 x1 x2 x3 x4 x5 δ) := by
  refine CalD.of (by decide +kernel) (Nat.le_of_ble_eq_true rfl) hl ?_
  unfold D_X12_seeds
  refine w_aload_n 0 0 (μ := m_X12_seeds) (pc := 0) dX12_seeds_0 rfl rfl ?_
  refine w_iconst (v := 0) (μ := m_X12_seeds) (pc := 1) dX12_seeds_1 (by decide) ?_
  refine w_putI (μ := m_X12_seeds) (pc := 2) dX12_seeds_2 fl_X12_1 flw_12_0 ir_12_0 k0 ?_
  refine w_bd (fun δ_1 e_2 => ?_)
  refine w_aload_n 0 0 (μ := m_X12_seeds) (pc := 5) dX12_seeds_5 rfl rfl ?_
  refine w_iload_n 2 2 (μ := m_X12_seeds) (pc := 6) dX12_seeds_6 rfl rfl ?_
  refine w_iconst (v := 1) (μ := m_X12_seeds) (pc := 7) dX12_seeds_7 (by decide) ?_
  refine w_callV (As := [.int x2, .int 1]) (rest := []) (μ := m_X12_seeds) (pc := 8) dX12_seeds_8 cv_X12_260 rfl rfl k0 (by decide) rfl (Nat.le_of_ble_eq_true rfl) (d' := d - 1) (by omega) he_i (c_X12_isHouse wt hl (d := d - 1) (by omega) k0) (fun r_3 => ?_)
  refine w_if_eq 57 (μ := m_X12_seeds) (pc := 11) dX12_seeds_11 (by decide) (fun c_4 => ?_) (fun c_4 => ?_)
  · refine w_lv [] rfl ?_
    exact t_J_X12_seeds_57 wt hl (by omega) k0 _
  · refine w_aload_n 0 0 (μ := m_X12_seeds) (pc := 14) dX12_seeds_14 rfl rfl ?_
    refine w_iload_n 1 1 (μ := m_X12_seeds) (pc := 15) dX12_seeds_15 rfl rfl ?_
    refine w_callV (As := [.int x1]) (rest := []) (μ := m_X12_seeds) (pc := 16) dX12_seeds_16 cv_X12_468 rfl rfl k0 (by decide) rfl (Nat.le_of_ble_eq_true rfl) (d' := d - 1) (by omega) he_i (c_X12_isThief wt hl (d := d - 1) (by omega) k0) (fun r_5 => ?_)
    refine w_if_eq 57 (μ := m_X12_seeds) (pc := 19) dX12_seeds_19 (by decide) (fun c_6 => ?_) (fun c_6 => ?_)
    · refine w_lv [] rfl ?_
      exact t_J_X12_seeds_57 wt hl (by omega) k0 _
    · refine w_aload_n 0 0 (μ := m_X12_seeds) (pc := 22) dX12_seeds_22 rfl rfl ?_
      refine w_iload 4 (μ := m_X12_seeds) (pc := 23) dX12_seeds_23 rfl ?_
      refine w_iconst (v := 1) (μ := m_X12_seeds) (pc := 25) dX12_seeds_25 (by decide) ?_
      refine w_bipush (v := 20) (μ := m_X12_seeds) (pc := 26) dX12_seeds_26 (by decide) ?_
      refine w_callS (As := [.int x4, .int 1, .int 20]) (rest := [.ref a0]) (μ := m_X12_seeds) (pc := 28) dX12_seeds_28 cs_X12_250 rfl rfl (Nat.le_of_ble_eq_true rfl) (d' := d - 1) (by omega) he_i (c_X12_within wt hl (d := d - 1) (by omega) ) (fun r_7 => ?_)
      refine w_if_eq 48 (μ := m_X12_seeds) (pc := 31) dX12_seeds_31 (by decide) (fun c_8 => ?_) (fun c_8 => ?_)
      · exact t_J_X12_seeds_48 wt hl (by omega) k0 _ _ k0
      · refine w_iload 5 (μ := m_X12_seeds) (pc := 34) dX12_seeds_34 rfl ?_
        refine w_iconst (v := 0) (μ := m_X12_seeds) (pc := 36) dX12_seeds_36 (by decide) ?_
        refine w_iconst (v := 1) (μ := m_X12_seeds) (pc := 37) dX12_seeds_37 (by decide) ?_
        refine w_callS (As := [.int x5, .int 0, .int 1]) (rest := [.ref a0]) (μ := m_X12_seeds) (pc := 38) dX12_seeds_38 cs_X12_250 rfl rfl (Nat.le_of_ble_eq_true rfl) (d' := d - 1) (by omega) he_i (c_X12_within wt hl (d := d - 1) (by omega) ) (fun r_20 => ?_)
        refine w_if_eq 48 (μ := m_X12_seeds) (pc := 41) dX12_seeds_41 (by decide) (fun c_21 => ?_) (fun c_21 => ?_)
        · exact t_J_X12_seeds_48 wt hl (by omega) k0 _ _ k0
        · refine w_iconst (v := 1) (μ := m_X12_seeds) (pc := 44) dX12_seeds_44 (by decide) ?_
          refine w_goto 49 (μ := m_X12_seeds) (pc := 45) dX12_seeds_45 (by decide) ?_
          exact t_J_X12_seeds_49 wt hl (by omega) k0 _ _ _ k0
