section
theorem bL_law_0 : ((ByteArray.data cL_law).toList.drop 0 |>.take 17).map UInt8.toNat = [187, 0, 8, 89, 183, 0, 108, 76, 187, 0, 109, 89, 183, 0, 111, 77, 4] := by decide +kernel
theorem dL_law_0 : decode cL_law 0 = .ok (.new 8, 3) := op_187 (bytt bL_law_0 0 rfl) (bytt bL_law_0 1 rfl) (bytt bL_law_0 2 rfl) rfl
theorem dL_law_3 : decode cL_law 3 = .ok (.dup, 1) := op_89 (bytt bL_law_0 3 rfl)
theorem dL_law_4 : decode cL_law 4 = .ok (.invokespecial 108, 3) := op_183 (bytt bL_law_0 4 rfl) (bytt bL_law_0 5 rfl) (bytt bL_law_0 6 rfl) rfl
theorem dL_law_7 : decode cL_law 7 = .ok (.astore_n 1, 1) := op_76 (bytt bL_law_0 7 rfl)
theorem dL_law_8 : decode cL_law 8 = .ok (.new 109, 3) := op_187 (bytt bL_law_0 8 rfl) (bytt bL_law_0 9 rfl) (bytt bL_law_0 10 rfl) rfl
theorem dL_law_11 : decode cL_law 11 = .ok (.dup, 1) := op_89 (bytt bL_law_0 11 rfl)
theorem dL_law_12 : decode cL_law 12 = .ok (.invokespecial 111, 3) := op_183 (bytt bL_law_0 12 rfl) (bytt bL_law_0 13 rfl) (bytt bL_law_0 14 rfl) rfl
theorem dL_law_15 : decode cL_law 15 = .ok (.astore_n 2, 1) := op_77 (bytt bL_law_0 15 rfl)
theorem dL_law_16 : decode cL_law 16 = .ok (.iconst 1, 1) := op_4 (bytt bL_law_0 16 rfl)
theorem dL_law_17 : decode cL_law 17 = .ok (.newarray .long, 2) := by decide +kernel
theorem bL_law_19 : ((ByteArray.data cL_law).toList.drop 19 |>.take 21).map UInt8.toNat = [78, 3, 54, 4, 21, 4, 42, 190, 16, 6, 100, 163, 6, 106, 42, 21, 4, 46, 16, 63, 126] := by decide +kernel
theorem dL_law_19 : decode cL_law 19 = .ok (.astore_n 3, 1) := op_78 (bytt bL_law_19 0 rfl)
theorem dL_law_20 : decode cL_law 20 = .ok (.iconst 0, 1) := op_3 (bytt bL_law_19 1 rfl)
theorem dL_law_21 : decode cL_law 21 = .ok (.istore 4, 2) := op_54 (bytt bL_law_19 2 rfl) (bytt bL_law_19 3 rfl)
theorem dL_law_23 : decode cL_law 23 = .ok (.iload 4, 2) := op_21 (bytt bL_law_19 4 rfl) (bytt bL_law_19 5 rfl)
theorem dL_law_25 : decode cL_law 25 = .ok (.aload_n 0, 1) := op_42 (bytt bL_law_19 6 rfl)
theorem dL_law_26 : decode cL_law 26 = .ok (.arraylength, 1) := op_190 (bytt bL_law_19 7 rfl)
theorem dL_law_27 : decode cL_law 27 = .ok (.bipush 6, 2) := op_16 (bytt bL_law_19 8 rfl) (bytt bL_law_19 9 rfl) rfl
theorem dL_law_29 : decode cL_law 29 = .ok (.isub, 1) := op_100 (bytt bL_law_19 10 rfl)
theorem dL_law_30 : decode cL_law 30 = .ok (.if_icmp .gt 1642, 3) := op_163 (bytt bL_law_19 11 rfl) (bytt bL_law_19 12 rfl) (bytt bL_law_19 13 rfl) rfl
theorem dL_law_33 : decode cL_law 33 = .ok (.aload_n 0, 1) := op_42 (bytt bL_law_19 14 rfl)
theorem dL_law_34 : decode cL_law 34 = .ok (.iload 4, 2) := op_21 (bytt bL_law_19 15 rfl) (bytt bL_law_19 16 rfl)
theorem dL_law_36 : decode cL_law 36 = .ok (.iaload, 1) := op_46 (bytt bL_law_19 17 rfl)
theorem dL_law_37 : decode cL_law 37 = .ok (.bipush 63, 2) := op_16 (bytt bL_law_19 18 rfl) (bytt bL_law_19 19 rfl) rfl
theorem dL_law_39 : decode cL_law 39 = .ok (.iand, 1) := op_126 (bytt bL_law_19 20 rfl)
theorem dL_law_40 : decode cL_law 40 = .ok (.tableswitch 1626 0 34 #[156, 229, 257, 285, 298, 326, 366, 406, 446, 486, 526, 566, 606, 658, 722, 762, 790, 842, 894, 974, 1038, 1090, 1130, 1182, 1222, 1286, 1314, 1342, 1382, 1434, 1474, 1550, 1563, 1576, 1601], 156) := by decide +kernel
theorem bL_law_196 : ((ByteArray.data cL_law).toList.drop 196 |>.take 19).map UInt8.toNat = [43, 42, 21, 4, 4, 96, 46, 42, 21, 4, 5, 96, 46, 42, 21, 4, 6, 96, 46] := by decide +kernel
theorem dL_law_196 : decode cL_law 196 = .ok (.aload_n 1, 1) := op_43 (bytt bL_law_196 0 rfl)
theorem dL_law_197 : decode cL_law 197 = .ok (.aload_n 0, 1) := op_42 (bytt bL_law_196 1 rfl)
theorem dL_law_198 : decode cL_law 198 = .ok (.iload 4, 2) := op_21 (bytt bL_law_196 2 rfl) (bytt bL_law_196 3 rfl)
theorem dL_law_200 : decode cL_law 200 = .ok (.iconst 1, 1) := op_4 (bytt bL_law_196 4 rfl)
theorem dL_law_201 : decode cL_law 201 = .ok (.iadd, 1) := op_96 (bytt bL_law_196 5 rfl)
theorem dL_law_202 : decode cL_law 202 = .ok (.iaload, 1) := op_46 (bytt bL_law_196 6 rfl)
theorem dL_law_203 : decode cL_law 203 = .ok (.aload_n 0, 1) := op_42 (bytt bL_law_196 7 rfl)
theorem dL_law_204 : decode cL_law 204 = .ok (.iload 4, 2) := op_21 (bytt bL_law_196 8 rfl) (bytt bL_law_196 9 rfl)
theorem dL_law_206 : decode cL_law 206 = .ok (.iconst 2, 1) := op_5 (bytt bL_law_196 10 rfl)
theorem dL_law_207 : decode cL_law 207 = .ok (.iadd, 1) := op_96 (bytt bL_law_196 11 rfl)
theorem dL_law_208 : decode cL_law 208 = .ok (.iaload, 1) := op_46 (bytt bL_law_196 12 rfl)
theorem dL_law_209 : decode cL_law 209 = .ok (.aload_n 0, 1) := op_42 (bytt bL_law_196 13 rfl)
theorem dL_law_210 : decode cL_law 210 = .ok (.iload 4, 2) := op_21 (bytt bL_law_196 14 rfl) (bytt bL_law_196 15 rfl)
theorem dL_law_212 : decode cL_law 212 = .ok (.iconst 3, 1) := op_6 (bytt bL_law_196 16 rfl)
theorem dL_law_213 : decode cL_law 213 = .ok (.iadd, 1) := op_96 (bytt bL_law_196 17 rfl)
theorem dL_law_214 : decode cL_law 214 = .ok (.iaload, 1) := op_46 (bytt bL_law_196 18 rfl)
theorem bL_law_215 : ((ByteArray.data cL_law).toList.drop 215 |>.take 21).map UInt8.toNat = [42, 21, 4, 7, 96, 46, 42, 21, 4, 8, 96, 46, 182, 0, 112, 87, 44, 42, 21, 4, 4] := by decide +kernel
theorem dL_law_215 : decode cL_law 215 = .ok (.aload_n 0, 1) := op_42 (bytt bL_law_215 0 rfl)
theorem dL_law_216 : decode cL_law 216 = .ok (.iload 4, 2) := op_21 (bytt bL_law_215 1 rfl) (bytt bL_law_215 2 rfl)
theorem dL_law_218 : decode cL_law 218 = .ok (.iconst 4, 1) := op_7 (bytt bL_law_215 3 rfl)
theorem dL_law_219 : decode cL_law 219 = .ok (.iadd, 1) := op_96 (bytt bL_law_215 4 rfl)
theorem dL_law_220 : decode cL_law 220 = .ok (.iaload, 1) := op_46 (bytt bL_law_215 5 rfl)
theorem dL_law_221 : decode cL_law 221 = .ok (.aload_n 0, 1) := op_42 (bytt bL_law_215 6 rfl)
theorem dL_law_222 : decode cL_law 222 = .ok (.iload 4, 2) := op_21 (bytt bL_law_215 7 rfl) (bytt bL_law_215 8 rfl)
theorem dL_law_224 : decode cL_law 224 = .ok (.iconst 5, 1) := op_8 (bytt bL_law_215 9 rfl)
theorem dL_law_225 : decode cL_law 225 = .ok (.iadd, 1) := op_96 (bytt bL_law_215 10 rfl)
theorem dL_law_226 : decode cL_law 226 = .ok (.iaload, 1) := op_46 (bytt bL_law_215 11 rfl)
theorem dL_law_227 : decode cL_law 227 = .ok (.invokevirtual 112, 3) := op_182 (bytt bL_law_215 12 rfl) (bytt bL_law_215 13 rfl) (bytt bL_law_215 14 rfl) rfl
theorem dL_law_230 : decode cL_law 230 = .ok (.pop, 1) := op_87 (bytt bL_law_215 15 rfl)
theorem dL_law_231 : decode cL_law 231 = .ok (.aload_n 2, 1) := op_44 (bytt bL_law_215 16 rfl)
theorem dL_law_232 : decode cL_law 232 = .ok (.aload_n 0, 1) := op_42 (bytt bL_law_215 17 rfl)
theorem dL_law_233 : decode cL_law 233 = .ok (.iload 4, 2) := op_21 (bytt bL_law_215 18 rfl) (bytt bL_law_215 19 rfl)
theorem dL_law_235 : decode cL_law 235 = .ok (.iconst 1, 1) := op_4 (bytt bL_law_215 20 rfl)
theorem bL_law_236 : ((ByteArray.data cL_law).toList.drop 236 |>.take 19).map UInt8.toNat = [96, 46, 42, 21, 4, 5, 96, 46, 42, 21, 4, 6, 96, 46, 42, 21, 4, 7, 96] := by decide +kernel
theorem dL_law_236 : decode cL_law 236 = .ok (.iadd, 1) := op_96 (bytt bL_law_236 0 rfl)
theorem dL_law_237 : decode cL_law 237 = .ok (.iaload, 1) := op_46 (bytt bL_law_236 1 rfl)
theorem dL_law_238 : decode cL_law 238 = .ok (.aload_n 0, 1) := op_42 (bytt bL_law_236 2 rfl)
theorem dL_law_239 : decode cL_law 239 = .ok (.iload 4, 2) := op_21 (bytt bL_law_236 3 rfl) (bytt bL_law_236 4 rfl)
theorem dL_law_241 : decode cL_law 241 = .ok (.iconst 2, 1) := op_5 (bytt bL_law_236 5 rfl)
theorem dL_law_242 : decode cL_law 242 = .ok (.iadd, 1) := op_96 (bytt bL_law_236 6 rfl)
theorem dL_law_243 : decode cL_law 243 = .ok (.iaload, 1) := op_46 (bytt bL_law_236 7 rfl)
theorem dL_law_244 : decode cL_law 244 = .ok (.aload_n 0, 1) := op_42 (bytt bL_law_236 8 rfl)
theorem dL_law_245 : decode cL_law 245 = .ok (.iload 4, 2) := op_21 (bytt bL_law_236 9 rfl) (bytt bL_law_236 10 rfl)
theorem dL_law_247 : decode cL_law 247 = .ok (.iconst 3, 1) := op_6 (bytt bL_law_236 11 rfl)
theorem dL_law_248 : decode cL_law 248 = .ok (.iadd, 1) := op_96 (bytt bL_law_236 12 rfl)
theorem dL_law_249 : decode cL_law 249 = .ok (.iaload, 1) := op_46 (bytt bL_law_236 13 rfl)
theorem dL_law_250 : decode cL_law 250 = .ok (.aload_n 0, 1) := op_42 (bytt bL_law_236 14 rfl)
theorem dL_law_251 : decode cL_law 251 = .ok (.iload 4, 2) := op_21 (bytt bL_law_236 15 rfl) (bytt bL_law_236 16 rfl)
theorem dL_law_253 : decode cL_law 253 = .ok (.iconst 4, 1) := op_7 (bytt bL_law_236 17 rfl)
theorem dL_law_254 : decode cL_law 254 = .ok (.iadd, 1) := op_96 (bytt bL_law_236 18 rfl)
theorem bL_law_255 : ((ByteArray.data cL_law).toList.drop 255 |>.take 22).map UInt8.toNat = [46, 42, 21, 4, 8, 96, 46, 182, 0, 115, 87, 167, 5, 120, 43, 42, 21, 4, 4, 96, 46, 45] := by decide +kernel
theorem dL_law_255 : decode cL_law 255 = .ok (.iaload, 1) := op_46 (bytt bL_law_255 0 rfl)
theorem dL_law_256 : decode cL_law 256 = .ok (.aload_n 0, 1) := op_42 (bytt bL_law_255 1 rfl)
theorem dL_law_257 : decode cL_law 257 = .ok (.iload 4, 2) := op_21 (bytt bL_law_255 2 rfl) (bytt bL_law_255 3 rfl)
theorem dL_law_259 : decode cL_law 259 = .ok (.iconst 5, 1) := op_8 (bytt bL_law_255 4 rfl)
theorem dL_law_260 : decode cL_law 260 = .ok (.iadd, 1) := op_96 (bytt bL_law_255 5 rfl)
theorem dL_law_261 : decode cL_law 261 = .ok (.iaload, 1) := op_46 (bytt bL_law_255 6 rfl)
theorem dL_law_262 : decode cL_law 262 = .ok (.invokevirtual 115, 3) := op_182 (bytt bL_law_255 7 rfl) (bytt bL_law_255 8 rfl) (bytt bL_law_255 9 rfl) rfl
theorem dL_law_265 : decode cL_law 265 = .ok (.pop, 1) := op_87 (bytt bL_law_255 10 rfl)
theorem dL_law_266 : decode cL_law 266 = .ok (.goto 1400, 3) := op_167 (bytt bL_law_255 11 rfl) (bytt bL_law_255 12 rfl) (bytt bL_law_255 13 rfl) rfl
theorem dL_law_269 : decode cL_law 269 = .ok (.aload_n 1, 1) := op_43 (bytt bL_law_255 14 rfl)
theorem dL_law_270 : decode cL_law 270 = .ok (.aload_n 0, 1) := op_42 (bytt bL_law_255 15 rfl)
theorem dL_law_271 : decode cL_law 271 = .ok (.iload 4, 2) := op_21 (bytt bL_law_255 16 rfl) (bytt bL_law_255 17 rfl)
theorem dL_law_273 : decode cL_law 273 = .ok (.iconst 1, 1) := op_4 (bytt bL_law_255 18 rfl)
theorem dL_law_274 : decode cL_law 274 = .ok (.iadd, 1) := op_96 (bytt bL_law_255 19 rfl)
theorem dL_law_275 : decode cL_law 275 = .ok (.iaload, 1) := op_46 (bytt bL_law_255 20 rfl)
theorem dL_law_276 : decode cL_law 276 = .ok (.aload_n 3, 1) := op_45 (bytt bL_law_255 21 rfl)
theorem bL_law_277 : ((ByteArray.data cL_law).toList.drop 277 |>.take 26).map UInt8.toNat = [184, 0, 116, 54, 5, 44, 42, 21, 4, 4, 96, 46, 182, 0, 121, 54, 6, 167, 5, 92, 43, 42, 21, 4, 4, 96] := by decide +kernel
theorem dL_law_277 : decode cL_law 277 = .ok (.invokestatic 116, 3) := op_184 (bytt bL_law_277 0 rfl) (bytt bL_law_277 1 rfl) (bytt bL_law_277 2 rfl) rfl
theorem dL_law_280 : decode cL_law 280 = .ok (.istore 5, 2) := op_54 (bytt bL_law_277 3 rfl) (bytt bL_law_277 4 rfl)
theorem dL_law_282 : decode cL_law 282 = .ok (.aload_n 2, 1) := op_44 (bytt bL_law_277 5 rfl)
theorem dL_law_283 : decode cL_law 283 = .ok (.aload_n 0, 1) := op_42 (bytt bL_law_277 6 rfl)
theorem dL_law_284 : decode cL_law 284 = .ok (.iload 4, 2) := op_21 (bytt bL_law_277 7 rfl) (bytt bL_law_277 8 rfl)
theorem dL_law_286 : decode cL_law 286 = .ok (.iconst 1, 1) := op_4 (bytt bL_law_277 9 rfl)
theorem dL_law_287 : decode cL_law 287 = .ok (.iadd, 1) := op_96 (bytt bL_law_277 10 rfl)
theorem dL_law_288 : decode cL_law 288 = .ok (.iaload, 1) := op_46 (bytt bL_law_277 11 rfl)
theorem dL_law_289 : decode cL_law 289 = .ok (.invokevirtual 121, 3) := op_182 (bytt bL_law_277 12 rfl) (bytt bL_law_277 13 rfl) (bytt bL_law_277 14 rfl) rfl
theorem dL_law_292 : decode cL_law 292 = .ok (.istore 6, 2) := op_54 (bytt bL_law_277 15 rfl) (bytt bL_law_277 16 rfl)
theorem dL_law_294 : decode cL_law 294 = .ok (.goto 1372, 3) := op_167 (bytt bL_law_277 17 rfl) (bytt bL_law_277 18 rfl) (bytt bL_law_277 19 rfl) rfl
theorem dL_law_297 : decode cL_law 297 = .ok (.aload_n 1, 1) := op_43 (bytt bL_law_277 20 rfl)
theorem dL_law_298 : decode cL_law 298 = .ok (.aload_n 0, 1) := op_42 (bytt bL_law_277 21 rfl)
theorem dL_law_299 : decode cL_law 299 = .ok (.iload 4, 2) := op_21 (bytt bL_law_277 22 rfl) (bytt bL_law_277 23 rfl)
theorem dL_law_301 : decode cL_law 301 = .ok (.iconst 1, 1) := op_4 (bytt bL_law_277 24 rfl)
theorem dL_law_302 : decode cL_law 302 = .ok (.iadd, 1) := op_96 (bytt bL_law_277 25 rfl)
theorem bL_law_303 : ((ByteArray.data cL_law).toList.drop 303 |>.take 27).map UInt8.toNat = [46, 45, 184, 0, 122, 54, 5, 44, 42, 21, 4, 4, 96, 46, 182, 0, 124, 54, 6, 167, 5, 64, 43, 182, 0, 125, 87] := by decide +kernel
theorem dL_law_303 : decode cL_law 303 = .ok (.iaload, 1) := op_46 (bytt bL_law_303 0 rfl)
theorem dL_law_304 : decode cL_law 304 = .ok (.aload_n 3, 1) := op_45 (bytt bL_law_303 1 rfl)
theorem dL_law_305 : decode cL_law 305 = .ok (.invokestatic 122, 3) := op_184 (bytt bL_law_303 2 rfl) (bytt bL_law_303 3 rfl) (bytt bL_law_303 4 rfl) rfl
theorem dL_law_308 : decode cL_law 308 = .ok (.istore 5, 2) := op_54 (bytt bL_law_303 5 rfl) (bytt bL_law_303 6 rfl)
theorem dL_law_310 : decode cL_law 310 = .ok (.aload_n 2, 1) := op_44 (bytt bL_law_303 7 rfl)
theorem dL_law_311 : decode cL_law 311 = .ok (.aload_n 0, 1) := op_42 (bytt bL_law_303 8 rfl)
theorem dL_law_312 : decode cL_law 312 = .ok (.iload 4, 2) := op_21 (bytt bL_law_303 9 rfl) (bytt bL_law_303 10 rfl)
theorem dL_law_314 : decode cL_law 314 = .ok (.iconst 1, 1) := op_4 (bytt bL_law_303 11 rfl)
theorem dL_law_315 : decode cL_law 315 = .ok (.iadd, 1) := op_96 (bytt bL_law_303 12 rfl)
theorem dL_law_316 : decode cL_law 316 = .ok (.iaload, 1) := op_46 (bytt bL_law_303 13 rfl)
theorem dL_law_317 : decode cL_law 317 = .ok (.invokevirtual 124, 3) := op_182 (bytt bL_law_303 14 rfl) (bytt bL_law_303 15 rfl) (bytt bL_law_303 16 rfl) rfl
theorem dL_law_320 : decode cL_law 320 = .ok (.istore 6, 2) := op_54 (bytt bL_law_303 17 rfl) (bytt bL_law_303 18 rfl)
theorem dL_law_322 : decode cL_law 322 = .ok (.goto 1344, 3) := op_167 (bytt bL_law_303 19 rfl) (bytt bL_law_303 20 rfl) (bytt bL_law_303 21 rfl) rfl
theorem dL_law_325 : decode cL_law 325 = .ok (.aload_n 1, 1) := op_43 (bytt bL_law_303 22 rfl)
theorem dL_law_326 : decode cL_law 326 = .ok (.invokevirtual 125, 3) := op_182 (bytt bL_law_303 23 rfl) (bytt bL_law_303 24 rfl) (bytt bL_law_303 25 rfl) rfl
theorem dL_law_329 : decode cL_law 329 = .ok (.pop, 1) := op_87 (bytt bL_law_303 26 rfl)
theorem bL_law_330 : ((ByteArray.data cL_law).toList.drop 330 |>.take 25).map UInt8.toNat = [44, 182, 0, 129, 87, 167, 5, 51, 43, 42, 21, 4, 4, 96, 46, 45, 184, 0, 130, 54, 5, 44, 42, 21, 4] := by decide +kernel
theorem dL_law_330 : decode cL_law 330 = .ok (.aload_n 2, 1) := op_44 (bytt bL_law_330 0 rfl)
theorem dL_law_331 : decode cL_law 331 = .ok (.invokevirtual 129, 3) := op_182 (bytt bL_law_330 1 rfl) (bytt bL_law_330 2 rfl) (bytt bL_law_330 3 rfl) rfl
theorem dL_law_334 : decode cL_law 334 = .ok (.pop, 1) := op_87 (bytt bL_law_330 4 rfl)
theorem dL_law_335 : decode cL_law 335 = .ok (.goto 1331, 3) := op_167 (bytt bL_law_330 5 rfl) (bytt bL_law_330 6 rfl) (bytt bL_law_330 7 rfl) rfl
theorem dL_law_338 : decode cL_law 338 = .ok (.aload_n 1, 1) := op_43 (bytt bL_law_330 8 rfl)
theorem dL_law_339 : decode cL_law 339 = .ok (.aload_n 0, 1) := op_42 (bytt bL_law_330 9 rfl)
theorem dL_law_340 : decode cL_law 340 = .ok (.iload 4, 2) := op_21 (bytt bL_law_330 10 rfl) (bytt bL_law_330 11 rfl)
theorem dL_law_342 : decode cL_law 342 = .ok (.iconst 1, 1) := op_4 (bytt bL_law_330 12 rfl)
theorem dL_law_343 : decode cL_law 343 = .ok (.iadd, 1) := op_96 (bytt bL_law_330 13 rfl)
theorem dL_law_344 : decode cL_law 344 = .ok (.iaload, 1) := op_46 (bytt bL_law_330 14 rfl)
theorem dL_law_345 : decode cL_law 345 = .ok (.aload_n 3, 1) := op_45 (bytt bL_law_330 15 rfl)
theorem dL_law_346 : decode cL_law 346 = .ok (.invokestatic 130, 3) := op_184 (bytt bL_law_330 16 rfl) (bytt bL_law_330 17 rfl) (bytt bL_law_330 18 rfl) rfl
theorem dL_law_349 : decode cL_law 349 = .ok (.istore 5, 2) := op_54 (bytt bL_law_330 19 rfl) (bytt bL_law_330 20 rfl)
theorem dL_law_351 : decode cL_law 351 = .ok (.aload_n 2, 1) := op_44 (bytt bL_law_330 21 rfl)
theorem dL_law_352 : decode cL_law 352 = .ok (.aload_n 0, 1) := op_42 (bytt bL_law_330 22 rfl)
theorem dL_law_353 : decode cL_law 353 = .ok (.iload 4, 2) := op_21 (bytt bL_law_330 23 rfl) (bytt bL_law_330 24 rfl)
theorem bL_law_355 : ((ByteArray.data cL_law).toList.drop 355 |>.take 19).map UInt8.toNat = [4, 96, 46, 182, 0, 132, 54, 6, 167, 5, 23, 43, 42, 21, 4, 4, 96, 46, 42] := by decide +kernel
theorem dL_law_355 : decode cL_law 355 = .ok (.iconst 1, 1) := op_4 (bytt bL_law_355 0 rfl)
theorem dL_law_356 : decode cL_law 356 = .ok (.iadd, 1) := op_96 (bytt bL_law_355 1 rfl)
theorem dL_law_357 : decode cL_law 357 = .ok (.iaload, 1) := op_46 (bytt bL_law_355 2 rfl)
theorem dL_law_358 : decode cL_law 358 = .ok (.invokevirtual 132, 3) := op_182 (bytt bL_law_355 3 rfl) (bytt bL_law_355 4 rfl) (bytt bL_law_355 5 rfl) rfl
theorem dL_law_361 : decode cL_law 361 = .ok (.istore 6, 2) := op_54 (bytt bL_law_355 6 rfl) (bytt bL_law_355 7 rfl)
theorem dL_law_363 : decode cL_law 363 = .ok (.goto 1303, 3) := op_167 (bytt bL_law_355 8 rfl) (bytt bL_law_355 9 rfl) (bytt bL_law_355 10 rfl) rfl
theorem dL_law_366 : decode cL_law 366 = .ok (.aload_n 1, 1) := op_43 (bytt bL_law_355 11 rfl)
theorem dL_law_367 : decode cL_law 367 = .ok (.aload_n 0, 1) := op_42 (bytt bL_law_355 12 rfl)
theorem dL_law_368 : decode cL_law 368 = .ok (.iload 4, 2) := op_21 (bytt bL_law_355 13 rfl) (bytt bL_law_355 14 rfl)
theorem dL_law_370 : decode cL_law 370 = .ok (.iconst 1, 1) := op_4 (bytt bL_law_355 15 rfl)
theorem dL_law_371 : decode cL_law 371 = .ok (.iadd, 1) := op_96 (bytt bL_law_355 16 rfl)
theorem dL_law_372 : decode cL_law 372 = .ok (.iaload, 1) := op_46 (bytt bL_law_355 17 rfl)
theorem dL_law_373 : decode cL_law 373 = .ok (.aload_n 0, 1) := op_42 (bytt bL_law_355 18 rfl)
end
section
theorem bL_law_374 : ((ByteArray.data cL_law).toList.drop 374 |>.take 22).map UInt8.toNat = [21, 4, 5, 96, 46, 45, 184, 0, 133, 54, 5, 44, 42, 21, 4, 4, 96, 46, 42, 21, 4, 5] := by decide +kernel
theorem dL_law_374 : decode cL_law 374 = .ok (.iload 4, 2) := op_21 (bytt bL_law_374 0 rfl) (bytt bL_law_374 1 rfl)
theorem dL_law_376 : decode cL_law 376 = .ok (.iconst 2, 1) := op_5 (bytt bL_law_374 2 rfl)
theorem dL_law_377 : decode cL_law 377 = .ok (.iadd, 1) := op_96 (bytt bL_law_374 3 rfl)
theorem dL_law_378 : decode cL_law 378 = .ok (.iaload, 1) := op_46 (bytt bL_law_374 4 rfl)
theorem dL_law_379 : decode cL_law 379 = .ok (.aload_n 3, 1) := op_45 (bytt bL_law_374 5 rfl)
theorem dL_law_380 : decode cL_law 380 = .ok (.invokestatic 133, 3) := op_184 (bytt bL_law_374 6 rfl) (bytt bL_law_374 7 rfl) (bytt bL_law_374 8 rfl) rfl
theorem dL_law_383 : decode cL_law 383 = .ok (.istore 5, 2) := op_54 (bytt bL_law_374 9 rfl) (bytt bL_law_374 10 rfl)
theorem dL_law_385 : decode cL_law 385 = .ok (.aload_n 2, 1) := op_44 (bytt bL_law_374 11 rfl)
theorem dL_law_386 : decode cL_law 386 = .ok (.aload_n 0, 1) := op_42 (bytt bL_law_374 12 rfl)
theorem dL_law_387 : decode cL_law 387 = .ok (.iload 4, 2) := op_21 (bytt bL_law_374 13 rfl) (bytt bL_law_374 14 rfl)
theorem dL_law_389 : decode cL_law 389 = .ok (.iconst 1, 1) := op_4 (bytt bL_law_374 15 rfl)
theorem dL_law_390 : decode cL_law 390 = .ok (.iadd, 1) := op_96 (bytt bL_law_374 16 rfl)
theorem dL_law_391 : decode cL_law 391 = .ok (.iaload, 1) := op_46 (bytt bL_law_374 17 rfl)
theorem dL_law_392 : decode cL_law 392 = .ok (.aload_n 0, 1) := op_42 (bytt bL_law_374 18 rfl)
theorem dL_law_393 : decode cL_law 393 = .ok (.iload 4, 2) := op_21 (bytt bL_law_374 19 rfl) (bytt bL_law_374 20 rfl)
theorem dL_law_395 : decode cL_law 395 = .ok (.iconst 2, 1) := op_5 (bytt bL_law_374 21 rfl)
theorem bL_law_396 : ((ByteArray.data cL_law).toList.drop 396 |>.take 23).map UInt8.toNat = [96, 46, 182, 0, 136, 54, 6, 167, 4, 239, 43, 42, 21, 4, 4, 96, 46, 42, 21, 4, 5, 96, 46] := by decide +kernel
theorem dL_law_396 : decode cL_law 396 = .ok (.iadd, 1) := op_96 (bytt bL_law_396 0 rfl)
theorem dL_law_397 : decode cL_law 397 = .ok (.iaload, 1) := op_46 (bytt bL_law_396 1 rfl)
theorem dL_law_398 : decode cL_law 398 = .ok (.invokevirtual 136, 3) := op_182 (bytt bL_law_396 2 rfl) (bytt bL_law_396 3 rfl) (bytt bL_law_396 4 rfl) rfl
theorem dL_law_401 : decode cL_law 401 = .ok (.istore 6, 2) := op_54 (bytt bL_law_396 5 rfl) (bytt bL_law_396 6 rfl)
theorem dL_law_403 : decode cL_law 403 = .ok (.goto 1263, 3) := op_167 (bytt bL_law_396 7 rfl) (bytt bL_law_396 8 rfl) (bytt bL_law_396 9 rfl) rfl
theorem dL_law_406 : decode cL_law 406 = .ok (.aload_n 1, 1) := op_43 (bytt bL_law_396 10 rfl)
theorem dL_law_407 : decode cL_law 407 = .ok (.aload_n 0, 1) := op_42 (bytt bL_law_396 11 rfl)
theorem dL_law_408 : decode cL_law 408 = .ok (.iload 4, 2) := op_21 (bytt bL_law_396 12 rfl) (bytt bL_law_396 13 rfl)
theorem dL_law_410 : decode cL_law 410 = .ok (.iconst 1, 1) := op_4 (bytt bL_law_396 14 rfl)
theorem dL_law_411 : decode cL_law 411 = .ok (.iadd, 1) := op_96 (bytt bL_law_396 15 rfl)
theorem dL_law_412 : decode cL_law 412 = .ok (.iaload, 1) := op_46 (bytt bL_law_396 16 rfl)
theorem dL_law_413 : decode cL_law 413 = .ok (.aload_n 0, 1) := op_42 (bytt bL_law_396 17 rfl)
theorem dL_law_414 : decode cL_law 414 = .ok (.iload 4, 2) := op_21 (bytt bL_law_396 18 rfl) (bytt bL_law_396 19 rfl)
theorem dL_law_416 : decode cL_law 416 = .ok (.iconst 2, 1) := op_5 (bytt bL_law_396 20 rfl)
theorem dL_law_417 : decode cL_law 417 = .ok (.iadd, 1) := op_96 (bytt bL_law_396 21 rfl)
theorem dL_law_418 : decode cL_law 418 = .ok (.iaload, 1) := op_46 (bytt bL_law_396 22 rfl)
theorem bL_law_419 : ((ByteArray.data cL_law).toList.drop 419 |>.take 24).map UInt8.toNat = [45, 184, 0, 137, 54, 5, 44, 42, 21, 4, 4, 96, 46, 42, 21, 4, 5, 96, 46, 182, 0, 139, 54, 6] := by decide +kernel
theorem dL_law_419 : decode cL_law 419 = .ok (.aload_n 3, 1) := op_45 (bytt bL_law_419 0 rfl)
theorem dL_law_420 : decode cL_law 420 = .ok (.invokestatic 137, 3) := op_184 (bytt bL_law_419 1 rfl) (bytt bL_law_419 2 rfl) (bytt bL_law_419 3 rfl) rfl
theorem dL_law_423 : decode cL_law 423 = .ok (.istore 5, 2) := op_54 (bytt bL_law_419 4 rfl) (bytt bL_law_419 5 rfl)
theorem dL_law_425 : decode cL_law 425 = .ok (.aload_n 2, 1) := op_44 (bytt bL_law_419 6 rfl)
theorem dL_law_426 : decode cL_law 426 = .ok (.aload_n 0, 1) := op_42 (bytt bL_law_419 7 rfl)
theorem dL_law_427 : decode cL_law 427 = .ok (.iload 4, 2) := op_21 (bytt bL_law_419 8 rfl) (bytt bL_law_419 9 rfl)
theorem dL_law_429 : decode cL_law 429 = .ok (.iconst 1, 1) := op_4 (bytt bL_law_419 10 rfl)
theorem dL_law_430 : decode cL_law 430 = .ok (.iadd, 1) := op_96 (bytt bL_law_419 11 rfl)
theorem dL_law_431 : decode cL_law 431 = .ok (.iaload, 1) := op_46 (bytt bL_law_419 12 rfl)
theorem dL_law_432 : decode cL_law 432 = .ok (.aload_n 0, 1) := op_42 (bytt bL_law_419 13 rfl)
theorem dL_law_433 : decode cL_law 433 = .ok (.iload 4, 2) := op_21 (bytt bL_law_419 14 rfl) (bytt bL_law_419 15 rfl)
theorem dL_law_435 : decode cL_law 435 = .ok (.iconst 2, 1) := op_5 (bytt bL_law_419 16 rfl)
theorem dL_law_436 : decode cL_law 436 = .ok (.iadd, 1) := op_96 (bytt bL_law_419 17 rfl)
theorem dL_law_437 : decode cL_law 437 = .ok (.iaload, 1) := op_46 (bytt bL_law_419 18 rfl)
theorem dL_law_438 : decode cL_law 438 = .ok (.invokevirtual 139, 3) := op_182 (bytt bL_law_419 19 rfl) (bytt bL_law_419 20 rfl) (bytt bL_law_419 21 rfl) rfl
theorem dL_law_441 : decode cL_law 441 = .ok (.istore 6, 2) := op_54 (bytt bL_law_419 22 rfl) (bytt bL_law_419 23 rfl)
theorem bL_law_443 : ((ByteArray.data cL_law).toList.drop 443 |>.take 23).map UInt8.toNat = [167, 4, 199, 43, 42, 21, 4, 4, 96, 46, 42, 21, 4, 5, 96, 46, 45, 184, 0, 140, 54, 5, 44] := by decide +kernel
theorem dL_law_443 : decode cL_law 443 = .ok (.goto 1223, 3) := op_167 (bytt bL_law_443 0 rfl) (bytt bL_law_443 1 rfl) (bytt bL_law_443 2 rfl) rfl
theorem dL_law_446 : decode cL_law 446 = .ok (.aload_n 1, 1) := op_43 (bytt bL_law_443 3 rfl)
theorem dL_law_447 : decode cL_law 447 = .ok (.aload_n 0, 1) := op_42 (bytt bL_law_443 4 rfl)
theorem dL_law_448 : decode cL_law 448 = .ok (.iload 4, 2) := op_21 (bytt bL_law_443 5 rfl) (bytt bL_law_443 6 rfl)
theorem dL_law_450 : decode cL_law 450 = .ok (.iconst 1, 1) := op_4 (bytt bL_law_443 7 rfl)
theorem dL_law_451 : decode cL_law 451 = .ok (.iadd, 1) := op_96 (bytt bL_law_443 8 rfl)
theorem dL_law_452 : decode cL_law 452 = .ok (.iaload, 1) := op_46 (bytt bL_law_443 9 rfl)
theorem dL_law_453 : decode cL_law 453 = .ok (.aload_n 0, 1) := op_42 (bytt bL_law_443 10 rfl)
theorem dL_law_454 : decode cL_law 454 = .ok (.iload 4, 2) := op_21 (bytt bL_law_443 11 rfl) (bytt bL_law_443 12 rfl)
theorem dL_law_456 : decode cL_law 456 = .ok (.iconst 2, 1) := op_5 (bytt bL_law_443 13 rfl)
theorem dL_law_457 : decode cL_law 457 = .ok (.iadd, 1) := op_96 (bytt bL_law_443 14 rfl)
theorem dL_law_458 : decode cL_law 458 = .ok (.iaload, 1) := op_46 (bytt bL_law_443 15 rfl)
theorem dL_law_459 : decode cL_law 459 = .ok (.aload_n 3, 1) := op_45 (bytt bL_law_443 16 rfl)
theorem dL_law_460 : decode cL_law 460 = .ok (.invokestatic 140, 3) := op_184 (bytt bL_law_443 17 rfl) (bytt bL_law_443 18 rfl) (bytt bL_law_443 19 rfl) rfl
theorem dL_law_463 : decode cL_law 463 = .ok (.istore 5, 2) := op_54 (bytt bL_law_443 20 rfl) (bytt bL_law_443 21 rfl)
theorem dL_law_465 : decode cL_law 465 = .ok (.aload_n 2, 1) := op_44 (bytt bL_law_443 22 rfl)
theorem bL_law_466 : ((ByteArray.data cL_law).toList.drop 466 |>.take 24).map UInt8.toNat = [42, 21, 4, 4, 96, 46, 42, 21, 4, 5, 96, 46, 182, 0, 142, 54, 6, 167, 4, 159, 43, 42, 21, 4] := by decide +kernel
theorem dL_law_466 : decode cL_law 466 = .ok (.aload_n 0, 1) := op_42 (bytt bL_law_466 0 rfl)
theorem dL_law_467 : decode cL_law 467 = .ok (.iload 4, 2) := op_21 (bytt bL_law_466 1 rfl) (bytt bL_law_466 2 rfl)
theorem dL_law_469 : decode cL_law 469 = .ok (.iconst 1, 1) := op_4 (bytt bL_law_466 3 rfl)
theorem dL_law_470 : decode cL_law 470 = .ok (.iadd, 1) := op_96 (bytt bL_law_466 4 rfl)
theorem dL_law_471 : decode cL_law 471 = .ok (.iaload, 1) := op_46 (bytt bL_law_466 5 rfl)
theorem dL_law_472 : decode cL_law 472 = .ok (.aload_n 0, 1) := op_42 (bytt bL_law_466 6 rfl)
theorem dL_law_473 : decode cL_law 473 = .ok (.iload 4, 2) := op_21 (bytt bL_law_466 7 rfl) (bytt bL_law_466 8 rfl)
theorem dL_law_475 : decode cL_law 475 = .ok (.iconst 2, 1) := op_5 (bytt bL_law_466 9 rfl)
theorem dL_law_476 : decode cL_law 476 = .ok (.iadd, 1) := op_96 (bytt bL_law_466 10 rfl)
theorem dL_law_477 : decode cL_law 477 = .ok (.iaload, 1) := op_46 (bytt bL_law_466 11 rfl)
theorem dL_law_478 : decode cL_law 478 = .ok (.invokevirtual 142, 3) := op_182 (bytt bL_law_466 12 rfl) (bytt bL_law_466 13 rfl) (bytt bL_law_466 14 rfl) rfl
theorem dL_law_481 : decode cL_law 481 = .ok (.istore 6, 2) := op_54 (bytt bL_law_466 15 rfl) (bytt bL_law_466 16 rfl)
theorem dL_law_483 : decode cL_law 483 = .ok (.goto 1183, 3) := op_167 (bytt bL_law_466 17 rfl) (bytt bL_law_466 18 rfl) (bytt bL_law_466 19 rfl) rfl
theorem dL_law_486 : decode cL_law 486 = .ok (.aload_n 1, 1) := op_43 (bytt bL_law_466 20 rfl)
theorem dL_law_487 : decode cL_law 487 = .ok (.aload_n 0, 1) := op_42 (bytt bL_law_466 21 rfl)
theorem dL_law_488 : decode cL_law 488 = .ok (.iload 4, 2) := op_21 (bytt bL_law_466 22 rfl) (bytt bL_law_466 23 rfl)
theorem bL_law_490 : ((ByteArray.data cL_law).toList.drop 490 |>.take 21).map UInt8.toNat = [4, 96, 46, 42, 21, 4, 5, 96, 46, 45, 184, 0, 143, 54, 5, 44, 42, 21, 4, 4, 96] := by decide +kernel
theorem dL_law_490 : decode cL_law 490 = .ok (.iconst 1, 1) := op_4 (bytt bL_law_490 0 rfl)
theorem dL_law_491 : decode cL_law 491 = .ok (.iadd, 1) := op_96 (bytt bL_law_490 1 rfl)
theorem dL_law_492 : decode cL_law 492 = .ok (.iaload, 1) := op_46 (bytt bL_law_490 2 rfl)
theorem dL_law_493 : decode cL_law 493 = .ok (.aload_n 0, 1) := op_42 (bytt bL_law_490 3 rfl)
theorem dL_law_494 : decode cL_law 494 = .ok (.iload 4, 2) := op_21 (bytt bL_law_490 4 rfl) (bytt bL_law_490 5 rfl)
theorem dL_law_496 : decode cL_law 496 = .ok (.iconst 2, 1) := op_5 (bytt bL_law_490 6 rfl)
theorem dL_law_497 : decode cL_law 497 = .ok (.iadd, 1) := op_96 (bytt bL_law_490 7 rfl)
theorem dL_law_498 : decode cL_law 498 = .ok (.iaload, 1) := op_46 (bytt bL_law_490 8 rfl)
theorem dL_law_499 : decode cL_law 499 = .ok (.aload_n 3, 1) := op_45 (bytt bL_law_490 9 rfl)
theorem dL_law_500 : decode cL_law 500 = .ok (.invokestatic 143, 3) := op_184 (bytt bL_law_490 10 rfl) (bytt bL_law_490 11 rfl) (bytt bL_law_490 12 rfl) rfl
theorem dL_law_503 : decode cL_law 503 = .ok (.istore 5, 2) := op_54 (bytt bL_law_490 13 rfl) (bytt bL_law_490 14 rfl)
theorem dL_law_505 : decode cL_law 505 = .ok (.aload_n 2, 1) := op_44 (bytt bL_law_490 15 rfl)
theorem dL_law_506 : decode cL_law 506 = .ok (.aload_n 0, 1) := op_42 (bytt bL_law_490 16 rfl)
theorem dL_law_507 : decode cL_law 507 = .ok (.iload 4, 2) := op_21 (bytt bL_law_490 17 rfl) (bytt bL_law_490 18 rfl)
theorem dL_law_509 : decode cL_law 509 = .ok (.iconst 1, 1) := op_4 (bytt bL_law_490 19 rfl)
theorem dL_law_510 : decode cL_law 510 = .ok (.iadd, 1) := op_96 (bytt bL_law_490 20 rfl)
theorem bL_law_511 : ((ByteArray.data cL_law).toList.drop 511 |>.take 23).map UInt8.toNat = [46, 42, 21, 4, 5, 96, 46, 182, 0, 145, 54, 6, 167, 4, 119, 43, 42, 21, 4, 4, 96, 46, 42] := by decide +kernel
theorem dL_law_511 : decode cL_law 511 = .ok (.iaload, 1) := op_46 (bytt bL_law_511 0 rfl)
theorem dL_law_512 : decode cL_law 512 = .ok (.aload_n 0, 1) := op_42 (bytt bL_law_511 1 rfl)
theorem dL_law_513 : decode cL_law 513 = .ok (.iload 4, 2) := op_21 (bytt bL_law_511 2 rfl) (bytt bL_law_511 3 rfl)
theorem dL_law_515 : decode cL_law 515 = .ok (.iconst 2, 1) := op_5 (bytt bL_law_511 4 rfl)
theorem dL_law_516 : decode cL_law 516 = .ok (.iadd, 1) := op_96 (bytt bL_law_511 5 rfl)
theorem dL_law_517 : decode cL_law 517 = .ok (.iaload, 1) := op_46 (bytt bL_law_511 6 rfl)
theorem dL_law_518 : decode cL_law 518 = .ok (.invokevirtual 145, 3) := op_182 (bytt bL_law_511 7 rfl) (bytt bL_law_511 8 rfl) (bytt bL_law_511 9 rfl) rfl
theorem dL_law_521 : decode cL_law 521 = .ok (.istore 6, 2) := op_54 (bytt bL_law_511 10 rfl) (bytt bL_law_511 11 rfl)
theorem dL_law_523 : decode cL_law 523 = .ok (.goto 1143, 3) := op_167 (bytt bL_law_511 12 rfl) (bytt bL_law_511 13 rfl) (bytt bL_law_511 14 rfl) rfl
theorem dL_law_526 : decode cL_law 526 = .ok (.aload_n 1, 1) := op_43 (bytt bL_law_511 15 rfl)
theorem dL_law_527 : decode cL_law 527 = .ok (.aload_n 0, 1) := op_42 (bytt bL_law_511 16 rfl)
theorem dL_law_528 : decode cL_law 528 = .ok (.iload 4, 2) := op_21 (bytt bL_law_511 17 rfl) (bytt bL_law_511 18 rfl)
theorem dL_law_530 : decode cL_law 530 = .ok (.iconst 1, 1) := op_4 (bytt bL_law_511 19 rfl)
theorem dL_law_531 : decode cL_law 531 = .ok (.iadd, 1) := op_96 (bytt bL_law_511 20 rfl)
theorem dL_law_532 : decode cL_law 532 = .ok (.iaload, 1) := op_46 (bytt bL_law_511 21 rfl)
theorem dL_law_533 : decode cL_law 533 = .ok (.aload_n 0, 1) := op_42 (bytt bL_law_511 22 rfl)
theorem bL_law_534 : ((ByteArray.data cL_law).toList.drop 534 |>.take 22).map UInt8.toNat = [21, 4, 5, 96, 46, 45, 184, 0, 146, 54, 5, 44, 42, 21, 4, 4, 96, 46, 42, 21, 4, 5] := by decide +kernel
theorem dL_law_534 : decode cL_law 534 = .ok (.iload 4, 2) := op_21 (bytt bL_law_534 0 rfl) (bytt bL_law_534 1 rfl)
theorem dL_law_536 : decode cL_law 536 = .ok (.iconst 2, 1) := op_5 (bytt bL_law_534 2 rfl)
theorem dL_law_537 : decode cL_law 537 = .ok (.iadd, 1) := op_96 (bytt bL_law_534 3 rfl)
theorem dL_law_538 : decode cL_law 538 = .ok (.iaload, 1) := op_46 (bytt bL_law_534 4 rfl)
theorem dL_law_539 : decode cL_law 539 = .ok (.aload_n 3, 1) := op_45 (bytt bL_law_534 5 rfl)
theorem dL_law_540 : decode cL_law 540 = .ok (.invokestatic 146, 3) := op_184 (bytt bL_law_534 6 rfl) (bytt bL_law_534 7 rfl) (bytt bL_law_534 8 rfl) rfl
theorem dL_law_543 : decode cL_law 543 = .ok (.istore 5, 2) := op_54 (bytt bL_law_534 9 rfl) (bytt bL_law_534 10 rfl)
theorem dL_law_545 : decode cL_law 545 = .ok (.aload_n 2, 1) := op_44 (bytt bL_law_534 11 rfl)
theorem dL_law_546 : decode cL_law 546 = .ok (.aload_n 0, 1) := op_42 (bytt bL_law_534 12 rfl)
theorem dL_law_547 : decode cL_law 547 = .ok (.iload 4, 2) := op_21 (bytt bL_law_534 13 rfl) (bytt bL_law_534 14 rfl)
theorem dL_law_549 : decode cL_law 549 = .ok (.iconst 1, 1) := op_4 (bytt bL_law_534 15 rfl)
theorem dL_law_550 : decode cL_law 550 = .ok (.iadd, 1) := op_96 (bytt bL_law_534 16 rfl)
theorem dL_law_551 : decode cL_law 551 = .ok (.iaload, 1) := op_46 (bytt bL_law_534 17 rfl)
theorem dL_law_552 : decode cL_law 552 = .ok (.aload_n 0, 1) := op_42 (bytt bL_law_534 18 rfl)
theorem dL_law_553 : decode cL_law 553 = .ok (.iload 4, 2) := op_21 (bytt bL_law_534 19 rfl) (bytt bL_law_534 20 rfl)
theorem dL_law_555 : decode cL_law 555 = .ok (.iconst 2, 1) := op_5 (bytt bL_law_534 21 rfl)
theorem bL_law_556 : ((ByteArray.data cL_law).toList.drop 556 |>.take 23).map UInt8.toNat = [96, 46, 182, 0, 148, 54, 6, 167, 4, 79, 43, 42, 21, 4, 4, 96, 46, 42, 21, 4, 5, 96, 46] := by decide +kernel
theorem dL_law_556 : decode cL_law 556 = .ok (.iadd, 1) := op_96 (bytt bL_law_556 0 rfl)
theorem dL_law_557 : decode cL_law 557 = .ok (.iaload, 1) := op_46 (bytt bL_law_556 1 rfl)
theorem dL_law_558 : decode cL_law 558 = .ok (.invokevirtual 148, 3) := op_182 (bytt bL_law_556 2 rfl) (bytt bL_law_556 3 rfl) (bytt bL_law_556 4 rfl) rfl
theorem dL_law_561 : decode cL_law 561 = .ok (.istore 6, 2) := op_54 (bytt bL_law_556 5 rfl) (bytt bL_law_556 6 rfl)
theorem dL_law_563 : decode cL_law 563 = .ok (.goto 1103, 3) := op_167 (bytt bL_law_556 7 rfl) (bytt bL_law_556 8 rfl) (bytt bL_law_556 9 rfl) rfl
theorem dL_law_566 : decode cL_law 566 = .ok (.aload_n 1, 1) := op_43 (bytt bL_law_556 10 rfl)
theorem dL_law_567 : decode cL_law 567 = .ok (.aload_n 0, 1) := op_42 (bytt bL_law_556 11 rfl)
theorem dL_law_568 : decode cL_law 568 = .ok (.iload 4, 2) := op_21 (bytt bL_law_556 12 rfl) (bytt bL_law_556 13 rfl)
theorem dL_law_570 : decode cL_law 570 = .ok (.iconst 1, 1) := op_4 (bytt bL_law_556 14 rfl)
theorem dL_law_571 : decode cL_law 571 = .ok (.iadd, 1) := op_96 (bytt bL_law_556 15 rfl)
theorem dL_law_572 : decode cL_law 572 = .ok (.iaload, 1) := op_46 (bytt bL_law_556 16 rfl)
theorem dL_law_573 : decode cL_law 573 = .ok (.aload_n 0, 1) := op_42 (bytt bL_law_556 17 rfl)
theorem dL_law_574 : decode cL_law 574 = .ok (.iload 4, 2) := op_21 (bytt bL_law_556 18 rfl) (bytt bL_law_556 19 rfl)
theorem dL_law_576 : decode cL_law 576 = .ok (.iconst 2, 1) := op_5 (bytt bL_law_556 20 rfl)
theorem dL_law_577 : decode cL_law 577 = .ok (.iadd, 1) := op_96 (bytt bL_law_556 21 rfl)
theorem dL_law_578 : decode cL_law 578 = .ok (.iaload, 1) := op_46 (bytt bL_law_556 22 rfl)
theorem bL_law_579 : ((ByteArray.data cL_law).toList.drop 579 |>.take 10).map UInt8.toNat = [45, 184, 0, 149, 54, 5, 44, 42, 21, 4] := by decide +kernel
theorem dL_law_579 : decode cL_law 579 = .ok (.aload_n 3, 1) := op_45 (bytt bL_law_579 0 rfl)
theorem dL_law_580 : decode cL_law 580 = .ok (.invokestatic 149, 3) := op_184 (bytt bL_law_579 1 rfl) (bytt bL_law_579 2 rfl) (bytt bL_law_579 3 rfl) rfl
theorem dL_law_583 : decode cL_law 583 = .ok (.istore 5, 2) := op_54 (bytt bL_law_579 4 rfl) (bytt bL_law_579 5 rfl)
theorem dL_law_585 : decode cL_law 585 = .ok (.aload_n 2, 1) := op_44 (bytt bL_law_579 6 rfl)
theorem dL_law_586 : decode cL_law 586 = .ok (.aload_n 0, 1) := op_42 (bytt bL_law_579 7 rfl)
theorem dL_law_587 : decode cL_law 587 = .ok (.iload 4, 2) := op_21 (bytt bL_law_579 8 rfl) (bytt bL_law_579 9 rfl)
end
