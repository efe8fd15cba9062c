section
theorem bL_law_0 : ((ByteArray.data cL_law).toList.drop 0 |>.take 17).map UInt8.toNat = [187, 0, 8, 89, 183, 0, 108, 76, 187, 0, 109, 89, 183, 0, 111, 77, 4] := by decide +kernel
theorem dL_law_0 : decode cL_law 0 = .ok (.new 8, 3) := op_187 (bytt bL_law_0 0 rfl) (bytt bL_law_0 1 rfl) (bytt bL_law_0 2 rfl) rfl
theorem dL_law_3 : decode cL_law 3 = .ok (.dup, 1) := op_89 (bytt bL_law_0 3 rfl)
theorem dL_law_4 : decode cL_law 4 = .ok (.invokespecial 108, 3) := op_183 (bytt bL_law_0 4 rfl) (bytt bL_law_0 5 rfl) (bytt bL_law_0 6 rfl) rfl
theorem dL_law_7 : decode cL_law 7 = .ok (.astore_n 1, 1) := op_76 (bytt bL_law_0 7 rfl)
theorem dL_law_8 : decode cL_law 8 = .ok (.new 109, 3) := op_187 (bytt bL_law_0 8 rfl) (bytt bL_law_0 9 rfl) (bytt bL_law_0 10 rfl) rfl
theorem dL_law_11 : decode cL_law 11 = .ok (.dup, 1) := op_89 (bytt bL_law_0 11 rfl)
theorem dL_law_12 : decode cL_law 12 = .ok (.invokespecial 111, 3) := op_183 (bytt bL_law_0 12 rfl) (bytt bL_law_0 13 rfl) (bytt bL_law_0 14 rfl) rfl
theorem dL_law_15 : decode cL_law 15 = .ok (.astore_n 2, 1) := op_77 (bytt bL_law_0 15 rfl)
theorem dL_law_16 : decode cL_law 16 = .ok (.iconst 1, 1) := op_4 (bytt bL_law_0 16 rfl)
theorem dL_law_17 : decode cL_law 17 = .ok (.newarray .long, 2) := by decide +kernel
theorem bL_law_19 : ((ByteArray.data cL_law).toList.drop 19 |>.take 21).map UInt8.toNat = [78, 3, 54, 4, 21, 4, 42, 190, 16, 6, 100, 163, 6, 106, 42, 21, 4, 46, 16, 63, 126] := by decide +kernel
theorem dL_law_19 : decode cL_law 19 = .ok (.astore_n 3, 1) := op_78 (bytt bL_law_19 0 rfl)
theorem dL_law_20 : decode cL_law 20 = .ok (.iconst 0, 1) := op_3 (bytt bL_law_19 1 rfl)
theorem dL_law_21 : decode cL_law 21 = .ok (.istore 4, 2) := op_54 (bytt bL_law_19 2 rfl) (bytt bL_law_19 3 rfl)
theorem dL_law_23 : decode cL_law 23 = .ok (.iload 4, 2) := op_21 (bytt bL_law_19 4 rfl) (bytt bL_law_19 5 rfl)
theorem dL_law_25 : decode cL_law 25 = .ok (.aload_n 0, 1) := op_42 (bytt bL_law_19 6 rfl)
theorem dL_law_26 : decode cL_law 26 = .ok (.arraylength, 1) := op_190 (bytt bL_law_19 7 rfl)
theorem dL_law_27 : decode cL_law 27 = .ok (.bipush 6, 2) := op_16 (bytt bL_law_19 8 rfl) (bytt bL_law_19 9 rfl) rfl
theorem dL_law_29 : decode cL_law 29 = .ok (.isub, 1) := op_100 (bytt bL_law_19 10 rfl)
theorem dL_law_30 : decode cL_law 30 = .ok (.if_icmp .gt 1642, 3) := op_163 (bytt bL_law_19 11 rfl) (bytt bL_law_19 12 rfl) (bytt bL_law_19 13 rfl) rfl
theorem dL_law_33 : decode cL_law 33 = .ok (.aload_n 0, 1) := op_42 (bytt bL_law_19 14 rfl)
theorem dL_law_34 : decode cL_law 34 = .ok (.iload 4, 2) := op_21 (bytt bL_law_19 15 rfl) (bytt bL_law_19 16 rfl)
theorem dL_law_36 : decode cL_law 36 = .ok (.iaload, 1) := op_46 (bytt bL_law_19 17 rfl)
theorem dL_law_37 : decode cL_law 37 = .ok (.bipush 63, 2) := op_16 (bytt bL_law_19 18 rfl) (bytt bL_law_19 19 rfl) rfl
theorem dL_law_39 : decode cL_law 39 = .ok (.iand, 1) := op_126 (bytt bL_law_19 20 rfl)
theorem dL_law_40 : decode cL_law 40 = .ok (.tableswitch 1626 0 34 #[156, 229, 285, 313, 326, 354, 394, 434, 474, 514, 554, 594, 634, 686, 750, 790, 818, 870, 922, 974, 1038, 1090, 1130, 1182, 1222, 1286, 1314, 1342, 1382, 1434, 1474, 1550, 1563, 1576, 1601], 156) := by decide +kernel
theorem bL_law_196 : ((ByteArray.data cL_law).toList.drop 196 |>.take 19).map UInt8.toNat = [43, 42, 21, 4, 4, 96, 46, 42, 21, 4, 5, 96, 46, 42, 21, 4, 6, 96, 46] := by decide +kernel
theorem dL_law_196 : decode cL_law 196 = .ok (.aload_n 1, 1) := op_43 (bytt bL_law_196 0 rfl)
theorem dL_law_197 : decode cL_law 197 = .ok (.aload_n 0, 1) := op_42 (bytt bL_law_196 1 rfl)
theorem dL_law_198 : decode cL_law 198 = .ok (.iload 4, 2) := op_21 (bytt bL_law_196 2 rfl) (bytt bL_law_196 3 rfl)
theorem dL_law_200 : decode cL_law 200 = .ok (.iconst 1, 1) := op_4 (bytt bL_law_196 4 rfl)
theorem dL_law_201 : decode cL_law 201 = .ok (.iadd, 1) := op_96 (bytt bL_law_196 5 rfl)
theorem dL_law_202 : decode cL_law 202 = .ok (.iaload, 1) := op_46 (bytt bL_law_196 6 rfl)
theorem dL_law_203 : decode cL_law 203 = .ok (.aload_n 0, 1) := op_42 (bytt bL_law_196 7 rfl)
theorem dL_law_204 : decode cL_law 204 = .ok (.iload 4, 2) := op_21 (bytt bL_law_196 8 rfl) (bytt bL_law_196 9 rfl)
theorem dL_law_206 : decode cL_law 206 = .ok (.iconst 2, 1) := op_5 (bytt bL_law_196 10 rfl)
theorem dL_law_207 : decode cL_law 207 = .ok (.iadd, 1) := op_96 (bytt bL_law_196 11 rfl)
theorem dL_law_208 : decode cL_law 208 = .ok (.iaload, 1) := op_46 (bytt bL_law_196 12 rfl)
theorem dL_law_209 : decode cL_law 209 = .ok (.aload_n 0, 1) := op_42 (bytt bL_law_196 13 rfl)
theorem dL_law_210 : decode cL_law 210 = .ok (.iload 4, 2) := op_21 (bytt bL_law_196 14 rfl) (bytt bL_law_196 15 rfl)
theorem dL_law_212 : decode cL_law 212 = .ok (.iconst 3, 1) := op_6 (bytt bL_law_196 16 rfl)
theorem dL_law_213 : decode cL_law 213 = .ok (.iadd, 1) := op_96 (bytt bL_law_196 17 rfl)
theorem dL_law_214 : decode cL_law 214 = .ok (.iaload, 1) := op_46 (bytt bL_law_196 18 rfl)
theorem bL_law_215 : ((ByteArray.data cL_law).toList.drop 215 |>.take 21).map UInt8.toNat = [42, 21, 4, 7, 96, 46, 42, 21, 4, 8, 96, 46, 182, 0, 112, 87, 44, 42, 21, 4, 4] := by decide +kernel
theorem dL_law_215 : decode cL_law 215 = .ok (.aload_n 0, 1) := op_42 (bytt bL_law_215 0 rfl)
theorem dL_law_216 : decode cL_law 216 = .ok (.iload 4, 2) := op_21 (bytt bL_law_215 1 rfl) (bytt bL_law_215 2 rfl)
theorem dL_law_218 : decode cL_law 218 = .ok (.iconst 4, 1) := op_7 (bytt bL_law_215 3 rfl)
theorem dL_law_219 : decode cL_law 219 = .ok (.iadd, 1) := op_96 (bytt bL_law_215 4 rfl)
theorem dL_law_220 : decode cL_law 220 = .ok (.iaload, 1) := op_46 (bytt bL_law_215 5 rfl)
theorem dL_law_221 : decode cL_law 221 = .ok (.aload_n 0, 1) := op_42 (bytt bL_law_215 6 rfl)
theorem dL_law_222 : decode cL_law 222 = .ok (.iload 4, 2) := op_21 (bytt bL_law_215 7 rfl) (bytt bL_law_215 8 rfl)
theorem dL_law_224 : decode cL_law 224 = .ok (.iconst 5, 1) := op_8 (bytt bL_law_215 9 rfl)
theorem dL_law_225 : decode cL_law 225 = .ok (.iadd, 1) := op_96 (bytt bL_law_215 10 rfl)
theorem dL_law_226 : decode cL_law 226 = .ok (.iaload, 1) := op_46 (bytt bL_law_215 11 rfl)
theorem dL_law_227 : decode cL_law 227 = .ok (.invokevirtual 112, 3) := op_182 (bytt bL_law_215 12 rfl) (bytt bL_law_215 13 rfl) (bytt bL_law_215 14 rfl) rfl
theorem dL_law_230 : decode cL_law 230 = .ok (.pop, 1) := op_87 (bytt bL_law_215 15 rfl)
theorem dL_law_231 : decode cL_law 231 = .ok (.aload_n 2, 1) := op_44 (bytt bL_law_215 16 rfl)
theorem dL_law_232 : decode cL_law 232 = .ok (.aload_n 0, 1) := op_42 (bytt bL_law_215 17 rfl)
theorem dL_law_233 : decode cL_law 233 = .ok (.iload 4, 2) := op_21 (bytt bL_law_215 18 rfl) (bytt bL_law_215 19 rfl)
theorem dL_law_235 : decode cL_law 235 = .ok (.iconst 1, 1) := op_4 (bytt bL_law_215 20 rfl)
theorem bL_law_236 : ((ByteArray.data cL_law).toList.drop 236 |>.take 19).map UInt8.toNat = [96, 46, 42, 21, 4, 5, 96, 46, 42, 21, 4, 6, 96, 46, 42, 21, 4, 7, 96] := by decide +kernel
theorem dL_law_236 : decode cL_law 236 = .ok (.iadd, 1) := op_96 (bytt bL_law_236 0 rfl)
theorem dL_law_237 : decode cL_law 237 = .ok (.iaload, 1) := op_46 (bytt bL_law_236 1 rfl)
theorem dL_law_238 : decode cL_law 238 = .ok (.aload_n 0, 1) := op_42 (bytt bL_law_236 2 rfl)
theorem dL_law_239 : decode cL_law 239 = .ok (.iload 4, 2) := op_21 (bytt bL_law_236 3 rfl) (bytt bL_law_236 4 rfl)
theorem dL_law_241 : decode cL_law 241 = .ok (.iconst 2, 1) := op_5 (bytt bL_law_236 5 rfl)
theorem dL_law_242 : decode cL_law 242 = .ok (.iadd, 1) := op_96 (bytt bL_law_236 6 rfl)
theorem dL_law_243 : decode cL_law 243 = .ok (.iaload, 1) := op_46 (bytt bL_law_236 7 rfl)
theorem dL_law_244 : decode cL_law 244 = .ok (.aload_n 0, 1) := op_42 (bytt bL_law_236 8 rfl)
theorem dL_law_245 : decode cL_law 245 = .ok (.iload 4, 2) := op_21 (bytt bL_law_236 9 rfl) (bytt bL_law_236 10 rfl)
theorem dL_law_247 : decode cL_law 247 = .ok (.iconst 3, 1) := op_6 (bytt bL_law_236 11 rfl)
theorem dL_law_248 : decode cL_law 248 = .ok (.iadd, 1) := op_96 (bytt bL_law_236 12 rfl)
theorem dL_law_249 : decode cL_law 249 = .ok (.iaload, 1) := op_46 (bytt bL_law_236 13 rfl)
theorem dL_law_250 : decode cL_law 250 = .ok (.aload_n 0, 1) := op_42 (bytt bL_law_236 14 rfl)
theorem dL_law_251 : decode cL_law 251 = .ok (.iload 4, 2) := op_21 (bytt bL_law_236 15 rfl) (bytt bL_law_236 16 rfl)
theorem dL_law_253 : decode cL_law 253 = .ok (.iconst 4, 1) := op_7 (bytt bL_law_236 17 rfl)
theorem dL_law_254 : decode cL_law 254 = .ok (.iadd, 1) := op_96 (bytt bL_law_236 18 rfl)
theorem bL_law_255 : ((ByteArray.data cL_law).toList.drop 255 |>.take 22).map UInt8.toNat = [46, 42, 21, 4, 8, 96, 46, 182, 0, 115, 87, 167, 5, 120, 43, 42, 21, 4, 4, 96, 46, 45] := by decide +kernel
theorem dL_law_255 : decode cL_law 255 = .ok (.iaload, 1) := op_46 (bytt bL_law_255 0 rfl)
theorem dL_law_256 : decode cL_law 256 = .ok (.aload_n 0, 1) := op_42 (bytt bL_law_255 1 rfl)
theorem dL_law_257 : decode cL_law 257 = .ok (.iload 4, 2) := op_21 (bytt bL_law_255 2 rfl) (bytt bL_law_255 3 rfl)
theorem dL_law_259 : decode cL_law 259 = .ok (.iconst 5, 1) := op_8 (bytt bL_law_255 4 rfl)
theorem dL_law_260 : decode cL_law 260 = .ok (.iadd, 1) := op_96 (bytt bL_law_255 5 rfl)
theorem dL_law_261 : decode cL_law 261 = .ok (.iaload, 1) := op_46 (bytt bL_law_255 6 rfl)
theorem dL_law_262 : decode cL_law 262 = .ok (.invokevirtual 115, 3) := op_182 (bytt bL_law_255 7 rfl) (bytt bL_law_255 8 rfl) (bytt bL_law_255 9 rfl) rfl
theorem dL_law_265 : decode cL_law 265 = .ok (.pop, 1) := op_87 (bytt bL_law_255 10 rfl)
theorem dL_law_266 : decode cL_law 266 = .ok (.goto 1400, 3) := op_167 (bytt bL_law_255 11 rfl) (bytt bL_law_255 12 rfl) (bytt bL_law_255 13 rfl) rfl
theorem dL_law_269 : decode cL_law 269 = .ok (.aload_n 1, 1) := op_43 (bytt bL_law_255 14 rfl)
theorem dL_law_270 : decode cL_law 270 = .ok (.aload_n 0, 1) := op_42 (bytt bL_law_255 15 rfl)
theorem dL_law_271 : decode cL_law 271 = .ok (.iload 4, 2) := op_21 (bytt bL_law_255 16 rfl) (bytt bL_law_255 17 rfl)
theorem dL_law_273 : decode cL_law 273 = .ok (.iconst 1, 1) := op_4 (bytt bL_law_255 18 rfl)
theorem dL_law_274 : decode cL_law 274 = .ok (.iadd, 1) := op_96 (bytt bL_law_255 19 rfl)
theorem dL_law_275 : decode cL_law 275 = .ok (.iaload, 1) := op_46 (bytt bL_law_255 20 rfl)
theorem dL_law_276 : decode cL_law 276 = .ok (.aload_n 3, 1) := op_45 (bytt bL_law_255 21 rfl)
theorem bL_law_277 : ((ByteArray.data cL_law).toList.drop 277 |>.take 28).map UInt8.toNat = [184, 0, 116, 54, 5, 44, 42, 21, 4, 4, 96, 46, 182, 0, 121, 54, 6, 44, 182, 0, 122, 21, 5, 159, 0, 5, 3, 172] := by decide +kernel
theorem dL_law_277 : decode cL_law 277 = .ok (.invokestatic 116, 3) := op_184 (bytt bL_law_277 0 rfl) (bytt bL_law_277 1 rfl) (bytt bL_law_277 2 rfl) rfl
theorem dL_law_280 : decode cL_law 280 = .ok (.istore 5, 2) := op_54 (bytt bL_law_277 3 rfl) (bytt bL_law_277 4 rfl)
theorem dL_law_282 : decode cL_law 282 = .ok (.aload_n 2, 1) := op_44 (bytt bL_law_277 5 rfl)
theorem dL_law_283 : decode cL_law 283 = .ok (.aload_n 0, 1) := op_42 (bytt bL_law_277 6 rfl)
theorem dL_law_284 : decode cL_law 284 = .ok (.iload 4, 2) := op_21 (bytt bL_law_277 7 rfl) (bytt bL_law_277 8 rfl)
theorem dL_law_286 : decode cL_law 286 = .ok (.iconst 1, 1) := op_4 (bytt bL_law_277 9 rfl)
theorem dL_law_287 : decode cL_law 287 = .ok (.iadd, 1) := op_96 (bytt bL_law_277 10 rfl)
theorem dL_law_288 : decode cL_law 288 = .ok (.iaload, 1) := op_46 (bytt bL_law_277 11 rfl)
theorem dL_law_289 : decode cL_law 289 = .ok (.invokevirtual 121, 3) := op_182 (bytt bL_law_277 12 rfl) (bytt bL_law_277 13 rfl) (bytt bL_law_277 14 rfl) rfl
theorem dL_law_292 : decode cL_law 292 = .ok (.istore 6, 2) := op_54 (bytt bL_law_277 15 rfl) (bytt bL_law_277 16 rfl)
theorem dL_law_294 : decode cL_law 294 = .ok (.aload_n 2, 1) := op_44 (bytt bL_law_277 17 rfl)
theorem dL_law_295 : decode cL_law 295 = .ok (.invokevirtual 122, 3) := op_182 (bytt bL_law_277 18 rfl) (bytt bL_law_277 19 rfl) (bytt bL_law_277 20 rfl) rfl
theorem dL_law_298 : decode cL_law 298 = .ok (.iload 5, 2) := op_21 (bytt bL_law_277 21 rfl) (bytt bL_law_277 22 rfl)
theorem dL_law_300 : decode cL_law 300 = .ok (.if_icmp .eq 5, 3) := op_159 (bytt bL_law_277 23 rfl) (bytt bL_law_277 24 rfl) (bytt bL_law_277 25 rfl) rfl
theorem dL_law_303 : decode cL_law 303 = .ok (.iconst 0, 1) := op_3 (bytt bL_law_277 26 rfl)
theorem dL_law_304 : decode cL_law 304 = .ok (.ireturn, 1) := op_172 (bytt bL_law_277 27 rfl)
theorem bL_law_305 : ((ByteArray.data cL_law).toList.drop 305 |>.take 25).map UInt8.toNat = [21, 5, 154, 0, 15, 45, 3, 47, 21, 6, 133, 148, 153, 0, 5, 3, 172, 167, 5, 64, 43, 42, 21, 4, 4] := by decide +kernel
theorem dL_law_305 : decode cL_law 305 = .ok (.iload 5, 2) := op_21 (bytt bL_law_305 0 rfl) (bytt bL_law_305 1 rfl)
theorem dL_law_307 : decode cL_law 307 = .ok (.ifCond .ne 15, 3) := op_154 (bytt bL_law_305 2 rfl) (bytt bL_law_305 3 rfl) (bytt bL_law_305 4 rfl) rfl
theorem dL_law_310 : decode cL_law 310 = .ok (.aload_n 3, 1) := op_45 (bytt bL_law_305 5 rfl)
theorem dL_law_311 : decode cL_law 311 = .ok (.iconst 0, 1) := op_3 (bytt bL_law_305 6 rfl)
theorem dL_law_312 : decode cL_law 312 = .ok (.laload, 1) := op_47 (bytt bL_law_305 7 rfl)
theorem dL_law_313 : decode cL_law 313 = .ok (.iload 6, 2) := op_21 (bytt bL_law_305 8 rfl) (bytt bL_law_305 9 rfl)
theorem dL_law_315 : decode cL_law 315 = .ok (.i2l, 1) := op_133 (bytt bL_law_305 10 rfl)
theorem dL_law_316 : decode cL_law 316 = .ok (.lcmp, 1) := op_148 (bytt bL_law_305 11 rfl)
theorem dL_law_317 : decode cL_law 317 = .ok (.ifCond .eq 5, 3) := op_153 (bytt bL_law_305 12 rfl) (bytt bL_law_305 13 rfl) (bytt bL_law_305 14 rfl) rfl
theorem dL_law_320 : decode cL_law 320 = .ok (.iconst 0, 1) := op_3 (bytt bL_law_305 15 rfl)
theorem dL_law_321 : decode cL_law 321 = .ok (.ireturn, 1) := op_172 (bytt bL_law_305 16 rfl)
theorem dL_law_322 : decode cL_law 322 = .ok (.goto 1344, 3) := op_167 (bytt bL_law_305 17 rfl) (bytt bL_law_305 18 rfl) (bytt bL_law_305 19 rfl) rfl
theorem dL_law_325 : decode cL_law 325 = .ok (.aload_n 1, 1) := op_43 (bytt bL_law_305 20 rfl)
theorem dL_law_326 : decode cL_law 326 = .ok (.aload_n 0, 1) := op_42 (bytt bL_law_305 21 rfl)
theorem dL_law_327 : decode cL_law 327 = .ok (.iload 4, 2) := op_21 (bytt bL_law_305 22 rfl) (bytt bL_law_305 23 rfl)
theorem dL_law_329 : decode cL_law 329 = .ok (.iconst 1, 1) := op_4 (bytt bL_law_305 24 rfl)
theorem bL_law_330 : ((ByteArray.data cL_law).toList.drop 330 |>.take 27).map UInt8.toNat = [96, 46, 45, 184, 0, 126, 54, 5, 44, 42, 21, 4, 4, 96, 46, 182, 0, 128, 54, 6, 167, 5, 36, 43, 182, 0, 129] := by decide +kernel
theorem dL_law_330 : decode cL_law 330 = .ok (.iadd, 1) := op_96 (bytt bL_law_330 0 rfl)
theorem dL_law_331 : decode cL_law 331 = .ok (.iaload, 1) := op_46 (bytt bL_law_330 1 rfl)
theorem dL_law_332 : decode cL_law 332 = .ok (.aload_n 3, 1) := op_45 (bytt bL_law_330 2 rfl)
theorem dL_law_333 : decode cL_law 333 = .ok (.invokestatic 126, 3) := op_184 (bytt bL_law_330 3 rfl) (bytt bL_law_330 4 rfl) (bytt bL_law_330 5 rfl) rfl
theorem dL_law_336 : decode cL_law 336 = .ok (.istore 5, 2) := op_54 (bytt bL_law_330 6 rfl) (bytt bL_law_330 7 rfl)
theorem dL_law_338 : decode cL_law 338 = .ok (.aload_n 2, 1) := op_44 (bytt bL_law_330 8 rfl)
theorem dL_law_339 : decode cL_law 339 = .ok (.aload_n 0, 1) := op_42 (bytt bL_law_330 9 rfl)
theorem dL_law_340 : decode cL_law 340 = .ok (.iload 4, 2) := op_21 (bytt bL_law_330 10 rfl) (bytt bL_law_330 11 rfl)
theorem dL_law_342 : decode cL_law 342 = .ok (.iconst 1, 1) := op_4 (bytt bL_law_330 12 rfl)
theorem dL_law_343 : decode cL_law 343 = .ok (.iadd, 1) := op_96 (bytt bL_law_330 13 rfl)
theorem dL_law_344 : decode cL_law 344 = .ok (.iaload, 1) := op_46 (bytt bL_law_330 14 rfl)
theorem dL_law_345 : decode cL_law 345 = .ok (.invokevirtual 128, 3) := op_182 (bytt bL_law_330 15 rfl) (bytt bL_law_330 16 rfl) (bytt bL_law_330 17 rfl) rfl
theorem dL_law_348 : decode cL_law 348 = .ok (.istore 6, 2) := op_54 (bytt bL_law_330 18 rfl) (bytt bL_law_330 19 rfl)
theorem dL_law_350 : decode cL_law 350 = .ok (.goto 1316, 3) := op_167 (bytt bL_law_330 20 rfl) (bytt bL_law_330 21 rfl) (bytt bL_law_330 22 rfl) rfl
theorem dL_law_353 : decode cL_law 353 = .ok (.aload_n 1, 1) := op_43 (bytt bL_law_330 23 rfl)
theorem dL_law_354 : decode cL_law 354 = .ok (.invokevirtual 129, 3) := op_182 (bytt bL_law_330 24 rfl) (bytt bL_law_330 25 rfl) (bytt bL_law_330 26 rfl) rfl
theorem bL_law_357 : ((ByteArray.data cL_law).toList.drop 357 |>.take 20).map UInt8.toNat = [87, 44, 182, 0, 132, 87, 167, 5, 23, 43, 42, 21, 4, 4, 96, 46, 45, 184, 0, 133] := by decide +kernel
theorem dL_law_357 : decode cL_law 357 = .ok (.pop, 1) := op_87 (bytt bL_law_357 0 rfl)
theorem dL_law_358 : decode cL_law 358 = .ok (.aload_n 2, 1) := op_44 (bytt bL_law_357 1 rfl)
theorem dL_law_359 : decode cL_law 359 = .ok (.invokevirtual 132, 3) := op_182 (bytt bL_law_357 2 rfl) (bytt bL_law_357 3 rfl) (bytt bL_law_357 4 rfl) rfl
theorem dL_law_362 : decode cL_law 362 = .ok (.pop, 1) := op_87 (bytt bL_law_357 5 rfl)
theorem dL_law_363 : decode cL_law 363 = .ok (.goto 1303, 3) := op_167 (bytt bL_law_357 6 rfl) (bytt bL_law_357 7 rfl) (bytt bL_law_357 8 rfl) rfl
theorem dL_law_366 : decode cL_law 366 = .ok (.aload_n 1, 1) := op_43 (bytt bL_law_357 9 rfl)
theorem dL_law_367 : decode cL_law 367 = .ok (.aload_n 0, 1) := op_42 (bytt bL_law_357 10 rfl)
theorem dL_law_368 : decode cL_law 368 = .ok (.iload 4, 2) := op_21 (bytt bL_law_357 11 rfl) (bytt bL_law_357 12 rfl)
theorem dL_law_370 : decode cL_law 370 = .ok (.iconst 1, 1) := op_4 (bytt bL_law_357 13 rfl)
theorem dL_law_371 : decode cL_law 371 = .ok (.iadd, 1) := op_96 (bytt bL_law_357 14 rfl)
theorem dL_law_372 : decode cL_law 372 = .ok (.iaload, 1) := op_46 (bytt bL_law_357 15 rfl)
theorem dL_law_373 : decode cL_law 373 = .ok (.aload_n 3, 1) := op_45 (bytt bL_law_357 16 rfl)
theorem dL_law_374 : decode cL_law 374 = .ok (.invokestatic 133, 3) := op_184 (bytt bL_law_357 17 rfl) (bytt bL_law_357 18 rfl) (bytt bL_law_357 19 rfl) rfl
end
section
theorem bL_law_377 : ((ByteArray.data cL_law).toList.drop 377 |>.take 24).map UInt8.toNat = [54, 5, 44, 42, 21, 4, 4, 96, 46, 182, 0, 135, 54, 6, 167, 4, 251, 43, 42, 21, 4, 4, 96, 46] := by decide +kernel
theorem dL_law_377 : decode cL_law 377 = .ok (.istore 5, 2) := op_54 (bytt bL_law_377 0 rfl) (bytt bL_law_377 1 rfl)
theorem dL_law_379 : decode cL_law 379 = .ok (.aload_n 2, 1) := op_44 (bytt bL_law_377 2 rfl)
theorem dL_law_380 : decode cL_law 380 = .ok (.aload_n 0, 1) := op_42 (bytt bL_law_377 3 rfl)
theorem dL_law_381 : decode cL_law 381 = .ok (.iload 4, 2) := op_21 (bytt bL_law_377 4 rfl) (bytt bL_law_377 5 rfl)
theorem dL_law_383 : decode cL_law 383 = .ok (.iconst 1, 1) := op_4 (bytt bL_law_377 6 rfl)
theorem dL_law_384 : decode cL_law 384 = .ok (.iadd, 1) := op_96 (bytt bL_law_377 7 rfl)
theorem dL_law_385 : decode cL_law 385 = .ok (.iaload, 1) := op_46 (bytt bL_law_377 8 rfl)
theorem dL_law_386 : decode cL_law 386 = .ok (.invokevirtual 135, 3) := op_182 (bytt bL_law_377 9 rfl) (bytt bL_law_377 10 rfl) (bytt bL_law_377 11 rfl) rfl
theorem dL_law_389 : decode cL_law 389 = .ok (.istore 6, 2) := op_54 (bytt bL_law_377 12 rfl) (bytt bL_law_377 13 rfl)
theorem dL_law_391 : decode cL_law 391 = .ok (.goto 1275, 3) := op_167 (bytt bL_law_377 14 rfl) (bytt bL_law_377 15 rfl) (bytt bL_law_377 16 rfl) rfl
theorem dL_law_394 : decode cL_law 394 = .ok (.aload_n 1, 1) := op_43 (bytt bL_law_377 17 rfl)
theorem dL_law_395 : decode cL_law 395 = .ok (.aload_n 0, 1) := op_42 (bytt bL_law_377 18 rfl)
theorem dL_law_396 : decode cL_law 396 = .ok (.iload 4, 2) := op_21 (bytt bL_law_377 19 rfl) (bytt bL_law_377 20 rfl)
theorem dL_law_398 : decode cL_law 398 = .ok (.iconst 1, 1) := op_4 (bytt bL_law_377 21 rfl)
theorem dL_law_399 : decode cL_law 399 = .ok (.iadd, 1) := op_96 (bytt bL_law_377 22 rfl)
theorem dL_law_400 : decode cL_law 400 = .ok (.iaload, 1) := op_46 (bytt bL_law_377 23 rfl)
theorem bL_law_401 : ((ByteArray.data cL_law).toList.drop 401 |>.take 22).map UInt8.toNat = [42, 21, 4, 5, 96, 46, 45, 184, 0, 136, 54, 5, 44, 42, 21, 4, 4, 96, 46, 42, 21, 4] := by decide +kernel
theorem dL_law_401 : decode cL_law 401 = .ok (.aload_n 0, 1) := op_42 (bytt bL_law_401 0 rfl)
theorem dL_law_402 : decode cL_law 402 = .ok (.iload 4, 2) := op_21 (bytt bL_law_401 1 rfl) (bytt bL_law_401 2 rfl)
theorem dL_law_404 : decode cL_law 404 = .ok (.iconst 2, 1) := op_5 (bytt bL_law_401 3 rfl)
theorem dL_law_405 : decode cL_law 405 = .ok (.iadd, 1) := op_96 (bytt bL_law_401 4 rfl)
theorem dL_law_406 : decode cL_law 406 = .ok (.iaload, 1) := op_46 (bytt bL_law_401 5 rfl)
theorem dL_law_407 : decode cL_law 407 = .ok (.aload_n 3, 1) := op_45 (bytt bL_law_401 6 rfl)
theorem dL_law_408 : decode cL_law 408 = .ok (.invokestatic 136, 3) := op_184 (bytt bL_law_401 7 rfl) (bytt bL_law_401 8 rfl) (bytt bL_law_401 9 rfl) rfl
theorem dL_law_411 : decode cL_law 411 = .ok (.istore 5, 2) := op_54 (bytt bL_law_401 10 rfl) (bytt bL_law_401 11 rfl)
theorem dL_law_413 : decode cL_law 413 = .ok (.aload_n 2, 1) := op_44 (bytt bL_law_401 12 rfl)
theorem dL_law_414 : decode cL_law 414 = .ok (.aload_n 0, 1) := op_42 (bytt bL_law_401 13 rfl)
theorem dL_law_415 : decode cL_law 415 = .ok (.iload 4, 2) := op_21 (bytt bL_law_401 14 rfl) (bytt bL_law_401 15 rfl)
theorem dL_law_417 : decode cL_law 417 = .ok (.iconst 1, 1) := op_4 (bytt bL_law_401 16 rfl)
theorem dL_law_418 : decode cL_law 418 = .ok (.iadd, 1) := op_96 (bytt bL_law_401 17 rfl)
theorem dL_law_419 : decode cL_law 419 = .ok (.iaload, 1) := op_46 (bytt bL_law_401 18 rfl)
theorem dL_law_420 : decode cL_law 420 = .ok (.aload_n 0, 1) := op_42 (bytt bL_law_401 19 rfl)
theorem dL_law_421 : decode cL_law 421 = .ok (.iload 4, 2) := op_21 (bytt bL_law_401 20 rfl) (bytt bL_law_401 21 rfl)
theorem bL_law_423 : ((ByteArray.data cL_law).toList.drop 423 |>.take 23).map UInt8.toNat = [5, 96, 46, 182, 0, 139, 54, 6, 167, 4, 211, 43, 42, 21, 4, 4, 96, 46, 42, 21, 4, 5, 96] := by decide +kernel
theorem dL_law_423 : decode cL_law 423 = .ok (.iconst 2, 1) := op_5 (bytt bL_law_423 0 rfl)
theorem dL_law_424 : decode cL_law 424 = .ok (.iadd, 1) := op_96 (bytt bL_law_423 1 rfl)
theorem dL_law_425 : decode cL_law 425 = .ok (.iaload, 1) := op_46 (bytt bL_law_423 2 rfl)
theorem dL_law_426 : decode cL_law 426 = .ok (.invokevirtual 139, 3) := op_182 (bytt bL_law_423 3 rfl) (bytt bL_law_423 4 rfl) (bytt bL_law_423 5 rfl) rfl
theorem dL_law_429 : decode cL_law 429 = .ok (.istore 6, 2) := op_54 (bytt bL_law_423 6 rfl) (bytt bL_law_423 7 rfl)
theorem dL_law_431 : decode cL_law 431 = .ok (.goto 1235, 3) := op_167 (bytt bL_law_423 8 rfl) (bytt bL_law_423 9 rfl) (bytt bL_law_423 10 rfl) rfl
theorem dL_law_434 : decode cL_law 434 = .ok (.aload_n 1, 1) := op_43 (bytt bL_law_423 11 rfl)
theorem dL_law_435 : decode cL_law 435 = .ok (.aload_n 0, 1) := op_42 (bytt bL_law_423 12 rfl)
theorem dL_law_436 : decode cL_law 436 = .ok (.iload 4, 2) := op_21 (bytt bL_law_423 13 rfl) (bytt bL_law_423 14 rfl)
theorem dL_law_438 : decode cL_law 438 = .ok (.iconst 1, 1) := op_4 (bytt bL_law_423 15 rfl)
theorem dL_law_439 : decode cL_law 439 = .ok (.iadd, 1) := op_96 (bytt bL_law_423 16 rfl)
theorem dL_law_440 : decode cL_law 440 = .ok (.iaload, 1) := op_46 (bytt bL_law_423 17 rfl)
theorem dL_law_441 : decode cL_law 441 = .ok (.aload_n 0, 1) := op_42 (bytt bL_law_423 18 rfl)
theorem dL_law_442 : decode cL_law 442 = .ok (.iload 4, 2) := op_21 (bytt bL_law_423 19 rfl) (bytt bL_law_423 20 rfl)
theorem dL_law_444 : decode cL_law 444 = .ok (.iconst 2, 1) := op_5 (bytt bL_law_423 21 rfl)
theorem dL_law_445 : decode cL_law 445 = .ok (.iadd, 1) := op_96 (bytt bL_law_423 22 rfl)
theorem bL_law_446 : ((ByteArray.data cL_law).toList.drop 446 |>.take 23).map UInt8.toNat = [46, 45, 184, 0, 140, 54, 5, 44, 42, 21, 4, 4, 96, 46, 42, 21, 4, 5, 96, 46, 182, 0, 142] := by decide +kernel
theorem dL_law_446 : decode cL_law 446 = .ok (.iaload, 1) := op_46 (bytt bL_law_446 0 rfl)
theorem dL_law_447 : decode cL_law 447 = .ok (.aload_n 3, 1) := op_45 (bytt bL_law_446 1 rfl)
theorem dL_law_448 : decode cL_law 448 = .ok (.invokestatic 140, 3) := op_184 (bytt bL_law_446 2 rfl) (bytt bL_law_446 3 rfl) (bytt bL_law_446 4 rfl) rfl
theorem dL_law_451 : decode cL_law 451 = .ok (.istore 5, 2) := op_54 (bytt bL_law_446 5 rfl) (bytt bL_law_446 6 rfl)
theorem dL_law_453 : decode cL_law 453 = .ok (.aload_n 2, 1) := op_44 (bytt bL_law_446 7 rfl)
theorem dL_law_454 : decode cL_law 454 = .ok (.aload_n 0, 1) := op_42 (bytt bL_law_446 8 rfl)
theorem dL_law_455 : decode cL_law 455 = .ok (.iload 4, 2) := op_21 (bytt bL_law_446 9 rfl) (bytt bL_law_446 10 rfl)
theorem dL_law_457 : decode cL_law 457 = .ok (.iconst 1, 1) := op_4 (bytt bL_law_446 11 rfl)
theorem dL_law_458 : decode cL_law 458 = .ok (.iadd, 1) := op_96 (bytt bL_law_446 12 rfl)
theorem dL_law_459 : decode cL_law 459 = .ok (.iaload, 1) := op_46 (bytt bL_law_446 13 rfl)
theorem dL_law_460 : decode cL_law 460 = .ok (.aload_n 0, 1) := op_42 (bytt bL_law_446 14 rfl)
theorem dL_law_461 : decode cL_law 461 = .ok (.iload 4, 2) := op_21 (bytt bL_law_446 15 rfl) (bytt bL_law_446 16 rfl)
theorem dL_law_463 : decode cL_law 463 = .ok (.iconst 2, 1) := op_5 (bytt bL_law_446 17 rfl)
theorem dL_law_464 : decode cL_law 464 = .ok (.iadd, 1) := op_96 (bytt bL_law_446 18 rfl)
theorem dL_law_465 : decode cL_law 465 = .ok (.iaload, 1) := op_46 (bytt bL_law_446 19 rfl)
theorem dL_law_466 : decode cL_law 466 = .ok (.invokevirtual 142, 3) := op_182 (bytt bL_law_446 20 rfl) (bytt bL_law_446 21 rfl) (bytt bL_law_446 22 rfl) rfl
theorem bL_law_469 : ((ByteArray.data cL_law).toList.drop 469 |>.take 24).map UInt8.toNat = [54, 6, 167, 4, 171, 43, 42, 21, 4, 4, 96, 46, 42, 21, 4, 5, 96, 46, 45, 184, 0, 143, 54, 5] := by decide +kernel
theorem dL_law_469 : decode cL_law 469 = .ok (.istore 6, 2) := op_54 (bytt bL_law_469 0 rfl) (bytt bL_law_469 1 rfl)
theorem dL_law_471 : decode cL_law 471 = .ok (.goto 1195, 3) := op_167 (bytt bL_law_469 2 rfl) (bytt bL_law_469 3 rfl) (bytt bL_law_469 4 rfl) rfl
theorem dL_law_474 : decode cL_law 474 = .ok (.aload_n 1, 1) := op_43 (bytt bL_law_469 5 rfl)
theorem dL_law_475 : decode cL_law 475 = .ok (.aload_n 0, 1) := op_42 (bytt bL_law_469 6 rfl)
theorem dL_law_476 : decode cL_law 476 = .ok (.iload 4, 2) := op_21 (bytt bL_law_469 7 rfl) (bytt bL_law_469 8 rfl)
theorem dL_law_478 : decode cL_law 478 = .ok (.iconst 1, 1) := op_4 (bytt bL_law_469 9 rfl)
theorem dL_law_479 : decode cL_law 479 = .ok (.iadd, 1) := op_96 (bytt bL_law_469 10 rfl)
theorem dL_law_480 : decode cL_law 480 = .ok (.iaload, 1) := op_46 (bytt bL_law_469 11 rfl)
theorem dL_law_481 : decode cL_law 481 = .ok (.aload_n 0, 1) := op_42 (bytt bL_law_469 12 rfl)
theorem dL_law_482 : decode cL_law 482 = .ok (.iload 4, 2) := op_21 (bytt bL_law_469 13 rfl) (bytt bL_law_469 14 rfl)
theorem dL_law_484 : decode cL_law 484 = .ok (.iconst 2, 1) := op_5 (bytt bL_law_469 15 rfl)
theorem dL_law_485 : decode cL_law 485 = .ok (.iadd, 1) := op_96 (bytt bL_law_469 16 rfl)
theorem dL_law_486 : decode cL_law 486 = .ok (.iaload, 1) := op_46 (bytt bL_law_469 17 rfl)
theorem dL_law_487 : decode cL_law 487 = .ok (.aload_n 3, 1) := op_45 (bytt bL_law_469 18 rfl)
theorem dL_law_488 : decode cL_law 488 = .ok (.invokestatic 143, 3) := op_184 (bytt bL_law_469 19 rfl) (bytt bL_law_469 20 rfl) (bytt bL_law_469 21 rfl) rfl
theorem dL_law_491 : decode cL_law 491 = .ok (.istore 5, 2) := op_54 (bytt bL_law_469 22 rfl) (bytt bL_law_469 23 rfl)
theorem bL_law_493 : ((ByteArray.data cL_law).toList.drop 493 |>.take 23).map UInt8.toNat = [44, 42, 21, 4, 4, 96, 46, 42, 21, 4, 5, 96, 46, 182, 0, 145, 54, 6, 167, 4, 131, 43, 42] := by decide +kernel
theorem dL_law_493 : decode cL_law 493 = .ok (.aload_n 2, 1) := op_44 (bytt bL_law_493 0 rfl)
theorem dL_law_494 : decode cL_law 494 = .ok (.aload_n 0, 1) := op_42 (bytt bL_law_493 1 rfl)
theorem dL_law_495 : decode cL_law 495 = .ok (.iload 4, 2) := op_21 (bytt bL_law_493 2 rfl) (bytt bL_law_493 3 rfl)
theorem dL_law_497 : decode cL_law 497 = .ok (.iconst 1, 1) := op_4 (bytt bL_law_493 4 rfl)
theorem dL_law_498 : decode cL_law 498 = .ok (.iadd, 1) := op_96 (bytt bL_law_493 5 rfl)
theorem dL_law_499 : decode cL_law 499 = .ok (.iaload, 1) := op_46 (bytt bL_law_493 6 rfl)
theorem dL_law_500 : decode cL_law 500 = .ok (.aload_n 0, 1) := op_42 (bytt bL_law_493 7 rfl)
theorem dL_law_501 : decode cL_law 501 = .ok (.iload 4, 2) := op_21 (bytt bL_law_493 8 rfl) (bytt bL_law_493 9 rfl)
theorem dL_law_503 : decode cL_law 503 = .ok (.iconst 2, 1) := op_5 (bytt bL_law_493 10 rfl)
theorem dL_law_504 : decode cL_law 504 = .ok (.iadd, 1) := op_96 (bytt bL_law_493 11 rfl)
theorem dL_law_505 : decode cL_law 505 = .ok (.iaload, 1) := op_46 (bytt bL_law_493 12 rfl)
theorem dL_law_506 : decode cL_law 506 = .ok (.invokevirtual 145, 3) := op_182 (bytt bL_law_493 13 rfl) (bytt bL_law_493 14 rfl) (bytt bL_law_493 15 rfl) rfl
theorem dL_law_509 : decode cL_law 509 = .ok (.istore 6, 2) := op_54 (bytt bL_law_493 16 rfl) (bytt bL_law_493 17 rfl)
theorem dL_law_511 : decode cL_law 511 = .ok (.goto 1155, 3) := op_167 (bytt bL_law_493 18 rfl) (bytt bL_law_493 19 rfl) (bytt bL_law_493 20 rfl) rfl
theorem dL_law_514 : decode cL_law 514 = .ok (.aload_n 1, 1) := op_43 (bytt bL_law_493 21 rfl)
theorem dL_law_515 : decode cL_law 515 = .ok (.aload_n 0, 1) := op_42 (bytt bL_law_493 22 rfl)
theorem bL_law_516 : ((ByteArray.data cL_law).toList.drop 516 |>.take 22).map UInt8.toNat = [21, 4, 4, 96, 46, 42, 21, 4, 5, 96, 46, 45, 184, 0, 146, 54, 5, 44, 42, 21, 4, 4] := by decide +kernel
theorem dL_law_516 : decode cL_law 516 = .ok (.iload 4, 2) := op_21 (bytt bL_law_516 0 rfl) (bytt bL_law_516 1 rfl)
theorem dL_law_518 : decode cL_law 518 = .ok (.iconst 1, 1) := op_4 (bytt bL_law_516 2 rfl)
theorem dL_law_519 : decode cL_law 519 = .ok (.iadd, 1) := op_96 (bytt bL_law_516 3 rfl)
theorem dL_law_520 : decode cL_law 520 = .ok (.iaload, 1) := op_46 (bytt bL_law_516 4 rfl)
theorem dL_law_521 : decode cL_law 521 = .ok (.aload_n 0, 1) := op_42 (bytt bL_law_516 5 rfl)
theorem dL_law_522 : decode cL_law 522 = .ok (.iload 4, 2) := op_21 (bytt bL_law_516 6 rfl) (bytt bL_law_516 7 rfl)
theorem dL_law_524 : decode cL_law 524 = .ok (.iconst 2, 1) := op_5 (bytt bL_law_516 8 rfl)
theorem dL_law_525 : decode cL_law 525 = .ok (.iadd, 1) := op_96 (bytt bL_law_516 9 rfl)
theorem dL_law_526 : decode cL_law 526 = .ok (.iaload, 1) := op_46 (bytt bL_law_516 10 rfl)
theorem dL_law_527 : decode cL_law 527 = .ok (.aload_n 3, 1) := op_45 (bytt bL_law_516 11 rfl)
theorem dL_law_528 : decode cL_law 528 = .ok (.invokestatic 146, 3) := op_184 (bytt bL_law_516 12 rfl) (bytt bL_law_516 13 rfl) (bytt bL_law_516 14 rfl) rfl
theorem dL_law_531 : decode cL_law 531 = .ok (.istore 5, 2) := op_54 (bytt bL_law_516 15 rfl) (bytt bL_law_516 16 rfl)
theorem dL_law_533 : decode cL_law 533 = .ok (.aload_n 2, 1) := op_44 (bytt bL_law_516 17 rfl)
theorem dL_law_534 : decode cL_law 534 = .ok (.aload_n 0, 1) := op_42 (bytt bL_law_516 18 rfl)
theorem dL_law_535 : decode cL_law 535 = .ok (.iload 4, 2) := op_21 (bytt bL_law_516 19 rfl) (bytt bL_law_516 20 rfl)
theorem dL_law_537 : decode cL_law 537 = .ok (.iconst 1, 1) := op_4 (bytt bL_law_516 21 rfl)
theorem bL_law_538 : ((ByteArray.data cL_law).toList.drop 538 |>.take 23).map UInt8.toNat = [96, 46, 42, 21, 4, 5, 96, 46, 182, 0, 148, 54, 6, 167, 4, 91, 43, 42, 21, 4, 4, 96, 46] := by decide +kernel
theorem dL_law_538 : decode cL_law 538 = .ok (.iadd, 1) := op_96 (bytt bL_law_538 0 rfl)
theorem dL_law_539 : decode cL_law 539 = .ok (.iaload, 1) := op_46 (bytt bL_law_538 1 rfl)
theorem dL_law_540 : decode cL_law 540 = .ok (.aload_n 0, 1) := op_42 (bytt bL_law_538 2 rfl)
theorem dL_law_541 : decode cL_law 541 = .ok (.iload 4, 2) := op_21 (bytt bL_law_538 3 rfl) (bytt bL_law_538 4 rfl)
theorem dL_law_543 : decode cL_law 543 = .ok (.iconst 2, 1) := op_5 (bytt bL_law_538 5 rfl)
theorem dL_law_544 : decode cL_law 544 = .ok (.iadd, 1) := op_96 (bytt bL_law_538 6 rfl)
theorem dL_law_545 : decode cL_law 545 = .ok (.iaload, 1) := op_46 (bytt bL_law_538 7 rfl)
theorem dL_law_546 : decode cL_law 546 = .ok (.invokevirtual 148, 3) := op_182 (bytt bL_law_538 8 rfl) (bytt bL_law_538 9 rfl) (bytt bL_law_538 10 rfl) rfl
theorem dL_law_549 : decode cL_law 549 = .ok (.istore 6, 2) := op_54 (bytt bL_law_538 11 rfl) (bytt bL_law_538 12 rfl)
theorem dL_law_551 : decode cL_law 551 = .ok (.goto 1115, 3) := op_167 (bytt bL_law_538 13 rfl) (bytt bL_law_538 14 rfl) (bytt bL_law_538 15 rfl) rfl
theorem dL_law_554 : decode cL_law 554 = .ok (.aload_n 1, 1) := op_43 (bytt bL_law_538 16 rfl)
theorem dL_law_555 : decode cL_law 555 = .ok (.aload_n 0, 1) := op_42 (bytt bL_law_538 17 rfl)
theorem dL_law_556 : decode cL_law 556 = .ok (.iload 4, 2) := op_21 (bytt bL_law_538 18 rfl) (bytt bL_law_538 19 rfl)
theorem dL_law_558 : decode cL_law 558 = .ok (.iconst 1, 1) := op_4 (bytt bL_law_538 20 rfl)
theorem dL_law_559 : decode cL_law 559 = .ok (.iadd, 1) := op_96 (bytt bL_law_538 21 rfl)
theorem dL_law_560 : decode cL_law 560 = .ok (.iaload, 1) := op_46 (bytt bL_law_538 22 rfl)
theorem bL_law_561 : ((ByteArray.data cL_law).toList.drop 561 |>.take 22).map UInt8.toNat = [42, 21, 4, 5, 96, 46, 45, 184, 0, 149, 54, 5, 44, 42, 21, 4, 4, 96, 46, 42, 21, 4] := by decide +kernel
theorem dL_law_561 : decode cL_law 561 = .ok (.aload_n 0, 1) := op_42 (bytt bL_law_561 0 rfl)
theorem dL_law_562 : decode cL_law 562 = .ok (.iload 4, 2) := op_21 (bytt bL_law_561 1 rfl) (bytt bL_law_561 2 rfl)
theorem dL_law_564 : decode cL_law 564 = .ok (.iconst 2, 1) := op_5 (bytt bL_law_561 3 rfl)
theorem dL_law_565 : decode cL_law 565 = .ok (.iadd, 1) := op_96 (bytt bL_law_561 4 rfl)
theorem dL_law_566 : decode cL_law 566 = .ok (.iaload, 1) := op_46 (bytt bL_law_561 5 rfl)
theorem dL_law_567 : decode cL_law 567 = .ok (.aload_n 3, 1) := op_45 (bytt bL_law_561 6 rfl)
theorem dL_law_568 : decode cL_law 568 = .ok (.invokestatic 149, 3) := op_184 (bytt bL_law_561 7 rfl) (bytt bL_law_561 8 rfl) (bytt bL_law_561 9 rfl) rfl
theorem dL_law_571 : decode cL_law 571 = .ok (.istore 5, 2) := op_54 (bytt bL_law_561 10 rfl) (bytt bL_law_561 11 rfl)
theorem dL_law_573 : decode cL_law 573 = .ok (.aload_n 2, 1) := op_44 (bytt bL_law_561 12 rfl)
theorem dL_law_574 : decode cL_law 574 = .ok (.aload_n 0, 1) := op_42 (bytt bL_law_561 13 rfl)
theorem dL_law_575 : decode cL_law 575 = .ok (.iload 4, 2) := op_21 (bytt bL_law_561 14 rfl) (bytt bL_law_561 15 rfl)
theorem dL_law_577 : decode cL_law 577 = .ok (.iconst 1, 1) := op_4 (bytt bL_law_561 16 rfl)
theorem dL_law_578 : decode cL_law 578 = .ok (.iadd, 1) := op_96 (bytt bL_law_561 17 rfl)
theorem dL_law_579 : decode cL_law 579 = .ok (.iaload, 1) := op_46 (bytt bL_law_561 18 rfl)
theorem dL_law_580 : decode cL_law 580 = .ok (.aload_n 0, 1) := op_42 (bytt bL_law_561 19 rfl)
theorem dL_law_581 : decode cL_law 581 = .ok (.iload 4, 2) := op_21 (bytt bL_law_561 20 rfl) (bytt bL_law_561 21 rfl)
theorem bL_law_583 : ((ByteArray.data cL_law).toList.drop 583 |>.take 11).map UInt8.toNat = [5, 96, 46, 182, 0, 151, 54, 6, 167, 4, 51] := by decide +kernel
theorem dL_law_583 : decode cL_law 583 = .ok (.iconst 2, 1) := op_5 (bytt bL_law_583 0 rfl)
theorem dL_law_584 : decode cL_law 584 = .ok (.iadd, 1) := op_96 (bytt bL_law_583 1 rfl)
theorem dL_law_585 : decode cL_law 585 = .ok (.iaload, 1) := op_46 (bytt bL_law_583 2 rfl)
theorem dL_law_586 : decode cL_law 586 = .ok (.invokevirtual 151, 3) := op_182 (bytt bL_law_583 3 rfl) (bytt bL_law_583 4 rfl) (bytt bL_law_583 5 rfl) rfl
theorem dL_law_589 : decode cL_law 589 = .ok (.istore 6, 2) := op_54 (bytt bL_law_583 6 rfl) (bytt bL_law_583 7 rfl)
theorem dL_law_591 : decode cL_law 591 = .ok (.goto 1075, 3) := op_167 (bytt bL_law_583 8 rfl) (bytt bL_law_583 9 rfl) (bytt bL_law_583 10 rfl) rfl
end
