theorem dL_law_0_c : decode cL_law 0 = .ok (.new 8, 3) ∧ decode cL_law 3 = .ok (.dup, 1) ∧ decode cL_law 4 = .ok (.invokespecial 108, 3) ∧ decode cL_law 7 = .ok (.astore_n 1, 1) ∧ decode cL_law 8 = .ok (.new 109, 3) ∧ decode cL_law 11 = .ok (.dup, 1) ∧ decode cL_law 12 = .ok (.invokespecial 111, 3) ∧ decode cL_law 15 = .ok (.astore_n 2, 1) ∧ decode cL_law 16 = .ok (.iconst 1, 1) ∧ decode cL_law 17 = .ok (.newarray .long, 2) ∧ decode cL_law 19 = .ok (.astore_n 3, 1) ∧ decode cL_law 20 = .ok (.iconst 0, 1) ∧ decode cL_law 21 = .ok (.istore 4, 2) ∧ decode cL_law 23 = .ok (.iload 4, 2) ∧ decode cL_law 25 = .ok (.aload_n 0, 1) ∧ decode cL_law 26 = .ok (.arraylength, 1) := by decide +kernel
theorem dL_law_0 : decode cL_law 0 = .ok (.new 8, 3) := dL_law_0_c.1
theorem dL_law_3 : decode cL_law 3 = .ok (.dup, 1) := dL_law_0_c.2.1
theorem dL_law_4 : decode cL_law 4 = .ok (.invokespecial 108, 3) := dL_law_0_c.2.2.1
theorem dL_law_7 : decode cL_law 7 = .ok (.astore_n 1, 1) := dL_law_0_c.2.2.2.1
theorem dL_law_8 : decode cL_law 8 = .ok (.new 109, 3) := dL_law_0_c.2.2.2.2.1
theorem dL_law_11 : decode cL_law 11 = .ok (.dup, 1) := dL_law_0_c.2.2.2.2.2.1
theorem dL_law_12 : decode cL_law 12 = .ok (.invokespecial 111, 3) := dL_law_0_c.2.2.2.2.2.2.1
theorem dL_law_15 : decode cL_law 15 = .ok (.astore_n 2, 1) := dL_law_0_c.2.2.2.2.2.2.2.1
theorem dL_law_16 : decode cL_law 16 = .ok (.iconst 1, 1) := dL_law_0_c.2.2.2.2.2.2.2.2.1
theorem dL_law_17 : decode cL_law 17 = .ok (.newarray .long, 2) := dL_law_0_c.2.2.2.2.2.2.2.2.2.1
theorem dL_law_19 : decode cL_law 19 = .ok (.astore_n 3, 1) := dL_law_0_c.2.2.2.2.2.2.2.2.2.2.1
theorem dL_law_20 : decode cL_law 20 = .ok (.iconst 0, 1) := dL_law_0_c.2.2.2.2.2.2.2.2.2.2.2.1
theorem dL_law_21 : decode cL_law 21 = .ok (.istore 4, 2) := dL_law_0_c.2.2.2.2.2.2.2.2.2.2.2.2.1
theorem dL_law_23 : decode cL_law 23 = .ok (.iload 4, 2) := dL_law_0_c.2.2.2.2.2.2.2.2.2.2.2.2.2.1
theorem dL_law_25 : decode cL_law 25 = .ok (.aload_n 0, 1) := dL_law_0_c.2.2.2.2.2.2.2.2.2.2.2.2.2.2.1
theorem dL_law_26 : decode cL_law 26 = .ok (.arraylength, 1) := dL_law_0_c.2.2.2.2.2.2.2.2.2.2.2.2.2.2.2
theorem dL_law_27_c : decode cL_law 27 = .ok (.bipush 6, 2) ∧ decode cL_law 29 = .ok (.isub, 1) ∧ decode cL_law 30 = .ok (.if_icmp .gt 1649, 3) ∧ decode cL_law 33 = .ok (.aload_n 0, 1) ∧ decode cL_law 34 = .ok (.iload 4, 2) ∧ decode cL_law 36 = .ok (.iaload, 1) ∧ decode cL_law 37 = .ok (.bipush 63, 2) ∧ decode cL_law 39 = .ok (.iand, 1) ∧ decode cL_law 40 = .ok (.tableswitch 1633 0 34 #[156, 229, 257, 285, 298, 326, 366, 406, 481, 521, 561, 601, 641, 693, 757, 797, 825, 877, 929, 981, 1045, 1097, 1137, 1189, 1229, 1293, 1321, 1349, 1389, 1441, 1481, 1557, 1570, 1583, 1608], 156) ∧ decode cL_law 196 = .ok (.aload_n 1, 1) ∧ decode cL_law 197 = .ok (.aload_n 0, 1) ∧ decode cL_law 198 = .ok (.iload 4, 2) ∧ decode cL_law 200 = .ok (.iconst 1, 1) ∧ decode cL_law 201 = .ok (.iadd, 1) ∧ decode cL_law 202 = .ok (.iaload, 1) ∧ decode cL_law 203 = .ok (.aload_n 0, 1) := by decide +kernel
theorem dL_law_27 : decode cL_law 27 = .ok (.bipush 6, 2) := dL_law_27_c.1
theorem dL_law_29 : decode cL_law 29 = .ok (.isub, 1) := dL_law_27_c.2.1
theorem dL_law_30 : decode cL_law 30 = .ok (.if_icmp .gt 1649, 3) := dL_law_27_c.2.2.1
theorem dL_law_33 : decode cL_law 33 = .ok (.aload_n 0, 1) := dL_law_27_c.2.2.2.1
theorem dL_law_34 : decode cL_law 34 = .ok (.iload 4, 2) := dL_law_27_c.2.2.2.2.1
theorem dL_law_36 : decode cL_law 36 = .ok (.iaload, 1) := dL_law_27_c.2.2.2.2.2.1
theorem dL_law_37 : decode cL_law 37 = .ok (.bipush 63, 2) := dL_law_27_c.2.2.2.2.2.2.1
theorem dL_law_39 : decode cL_law 39 = .ok (.iand, 1) := dL_law_27_c.2.2.2.2.2.2.2.1
theorem dL_law_40 : decode cL_law 40 = .ok (.tableswitch 1633 0 34 #[156, 229, 257, 285, 298, 326, 366, 406, 481, 521, 561, 601, 641, 693, 757, 797, 825, 877, 929, 981, 1045, 1097, 1137, 1189, 1229, 1293, 1321, 1349, 1389, 1441, 1481, 1557, 1570, 1583, 1608], 156) := dL_law_27_c.2.2.2.2.2.2.2.2.1
theorem dL_law_196 : decode cL_law 196 = .ok (.aload_n 1, 1) := dL_law_27_c.2.2.2.2.2.2.2.2.2.1
theorem dL_law_197 : decode cL_law 197 = .ok (.aload_n 0, 1) := dL_law_27_c.2.2.2.2.2.2.2.2.2.2.1
theorem dL_law_198 : decode cL_law 198 = .ok (.iload 4, 2) := dL_law_27_c.2.2.2.2.2.2.2.2.2.2.2.1
theorem dL_law_200 : decode cL_law 200 = .ok (.iconst 1, 1) := dL_law_27_c.2.2.2.2.2.2.2.2.2.2.2.2.1
theorem dL_law_201 : decode cL_law 201 = .ok (.iadd, 1) := dL_law_27_c.2.2.2.2.2.2.2.2.2.2.2.2.2.1
theorem dL_law_202 : decode cL_law 202 = .ok (.iaload, 1) := dL_law_27_c.2.2.2.2.2.2.2.2.2.2.2.2.2.2.1
theorem dL_law_203 : decode cL_law 203 = .ok (.aload_n 0, 1) := dL_law_27_c.2.2.2.2.2.2.2.2.2.2.2.2.2.2.2
theorem dL_law_204_c : decode cL_law 204 = .ok (.iload 4, 2) ∧ decode cL_law 206 = .ok (.iconst 2, 1) ∧ decode cL_law 207 = .ok (.iadd, 1) ∧ decode cL_law 208 = .ok (.iaload, 1) ∧ decode cL_law 209 = .ok (.aload_n 0, 1) ∧ decode cL_law 210 = .ok (.iload 4, 2) ∧ decode cL_law 212 = .ok (.iconst 3, 1) ∧ decode cL_law 213 = .ok (.iadd, 1) ∧ decode cL_law 214 = .ok (.iaload, 1) ∧ decode cL_law 215 = .ok (.aload_n 0, 1) ∧ decode cL_law 216 = .ok (.iload 4, 2) ∧ decode cL_law 218 = .ok (.iconst 4, 1) ∧ decode cL_law 219 = .ok (.iadd, 1) ∧ decode cL_law 220 = .ok (.iaload, 1) ∧ decode cL_law 221 = .ok (.aload_n 0, 1) ∧ decode cL_law 222 = .ok (.iload 4, 2) := by decide +kernel
theorem dL_law_204 : decode cL_law 204 = .ok (.iload 4, 2) := dL_law_204_c.1
theorem dL_law_206 : decode cL_law 206 = .ok (.iconst 2, 1) := dL_law_204_c.2.1
theorem dL_law_207 : decode cL_law 207 = .ok (.iadd, 1) := dL_law_204_c.2.2.1
theorem dL_law_208 : decode cL_law 208 = .ok (.iaload, 1) := dL_law_204_c.2.2.2.1
theorem dL_law_209 : decode cL_law 209 = .ok (.aload_n 0, 1) := dL_law_204_c.2.2.2.2.1
theorem dL_law_210 : decode cL_law 210 = .ok (.iload 4, 2) := dL_law_204_c.2.2.2.2.2.1
theorem dL_law_212 : decode cL_law 212 = .ok (.iconst 3, 1) := dL_law_204_c.2.2.2.2.2.2.1
theorem dL_law_213 : decode cL_law 213 = .ok (.iadd, 1) := dL_law_204_c.2.2.2.2.2.2.2.1
theorem dL_law_214 : decode cL_law 214 = .ok (.iaload, 1) := dL_law_204_c.2.2.2.2.2.2.2.2.1
theorem dL_law_215 : decode cL_law 215 = .ok (.aload_n 0, 1) := dL_law_204_c.2.2.2.2.2.2.2.2.2.1
theorem dL_law_216 : decode cL_law 216 = .ok (.iload 4, 2) := dL_law_204_c.2.2.2.2.2.2.2.2.2.2.1
theorem dL_law_218 : decode cL_law 218 = .ok (.iconst 4, 1) := dL_law_204_c.2.2.2.2.2.2.2.2.2.2.2.1
theorem dL_law_219 : decode cL_law 219 = .ok (.iadd, 1) := dL_law_204_c.2.2.2.2.2.2.2.2.2.2.2.2.1
theorem dL_law_220 : decode cL_law 220 = .ok (.iaload, 1) := dL_law_204_c.2.2.2.2.2.2.2.2.2.2.2.2.2.1
theorem dL_law_221 : decode cL_law 221 = .ok (.aload_n 0, 1) := dL_law_204_c.2.2.2.2.2.2.2.2.2.2.2.2.2.2.1
theorem dL_law_222 : decode cL_law 222 = .ok (.iload 4, 2) := dL_law_204_c.2.2.2.2.2.2.2.2.2.2.2.2.2.2.2
theorem dL_law_224_c : decode cL_law 224 = .ok (.iconst 5, 1) ∧ decode cL_law 225 = .ok (.iadd, 1) ∧ decode cL_law 226 = .ok (.iaload, 1) ∧ decode cL_law 227 = .ok (.invokevirtual 112, 3) ∧ decode cL_law 230 = .ok (.pop, 1) ∧ decode cL_law 231 = .ok (.aload_n 2, 1) ∧ decode cL_law 232 = .ok (.aload_n 0, 1) ∧ decode cL_law 233 = .ok (.iload 4, 2) ∧ decode cL_law 235 = .ok (.iconst 1, 1) ∧ decode cL_law 236 = .ok (.iadd, 1) ∧ decode cL_law 237 = .ok (.iaload, 1) ∧ decode cL_law 238 = .ok (.aload_n 0, 1) ∧ decode cL_law 239 = .ok (.iload 4, 2) ∧ decode cL_law 241 = .ok (.iconst 2, 1) ∧ decode cL_law 242 = .ok (.iadd, 1) ∧ decode cL_law 243 = .ok (.iaload, 1) := by decide +kernel
theorem dL_law_224 : decode cL_law 224 = .ok (.iconst 5, 1) := dL_law_224_c.1
theorem dL_law_225 : decode cL_law 225 = .ok (.iadd, 1) := dL_law_224_c.2.1
theorem dL_law_226 : decode cL_law 226 = .ok (.iaload, 1) := dL_law_224_c.2.2.1
theorem dL_law_227 : decode cL_law 227 = .ok (.invokevirtual 112, 3) := dL_law_224_c.2.2.2.1
theorem dL_law_230 : decode cL_law 230 = .ok (.pop, 1) := dL_law_224_c.2.2.2.2.1
theorem dL_law_231 : decode cL_law 231 = .ok (.aload_n 2, 1) := dL_law_224_c.2.2.2.2.2.1
theorem dL_law_232 : decode cL_law 232 = .ok (.aload_n 0, 1) := dL_law_224_c.2.2.2.2.2.2.1
theorem dL_law_233 : decode cL_law 233 = .ok (.iload 4, 2) := dL_law_224_c.2.2.2.2.2.2.2.1
theorem dL_law_235 : decode cL_law 235 = .ok (.iconst 1, 1) := dL_law_224_c.2.2.2.2.2.2.2.2.1
theorem dL_law_236 : decode cL_law 236 = .ok (.iadd, 1) := dL_law_224_c.2.2.2.2.2.2.2.2.2.1
theorem dL_law_237 : decode cL_law 237 = .ok (.iaload, 1) := dL_law_224_c.2.2.2.2.2.2.2.2.2.2.1
theorem dL_law_238 : decode cL_law 238 = .ok (.aload_n 0, 1) := dL_law_224_c.2.2.2.2.2.2.2.2.2.2.2.1
theorem dL_law_239 : decode cL_law 239 = .ok (.iload 4, 2) := dL_law_224_c.2.2.2.2.2.2.2.2.2.2.2.2.1
theorem dL_law_241 : decode cL_law 241 = .ok (.iconst 2, 1) := dL_law_224_c.2.2.2.2.2.2.2.2.2.2.2.2.2.1
theorem dL_law_242 : decode cL_law 242 = .ok (.iadd, 1) := dL_law_224_c.2.2.2.2.2.2.2.2.2.2.2.2.2.2.1
theorem dL_law_243 : decode cL_law 243 = .ok (.iaload, 1) := dL_law_224_c.2.2.2.2.2.2.2.2.2.2.2.2.2.2.2
theorem dL_law_244_c : decode cL_law 244 = .ok (.aload_n 0, 1) ∧ decode cL_law 245 = .ok (.iload 4, 2) ∧ decode cL_law 247 = .ok (.iconst 3, 1) ∧ decode cL_law 248 = .ok (.iadd, 1) ∧ decode cL_law 249 = .ok (.iaload, 1) ∧ decode cL_law 250 = .ok (.aload_n 0, 1) ∧ decode cL_law 251 = .ok (.iload 4, 2) ∧ decode cL_law 253 = .ok (.iconst 4, 1) ∧ decode cL_law 254 = .ok (.iadd, 1) ∧ decode cL_law 255 = .ok (.iaload, 1) ∧ decode cL_law 256 = .ok (.aload_n 0, 1) ∧ decode cL_law 257 = .ok (.iload 4, 2) ∧ decode cL_law 259 = .ok (.iconst 5, 1) ∧ decode cL_law 260 = .ok (.iadd, 1) ∧ decode cL_law 261 = .ok (.iaload, 1) ∧ decode cL_law 262 = .ok (.invokevirtual 115, 3) := by decide +kernel
theorem dL_law_244 : decode cL_law 244 = .ok (.aload_n 0, 1) := dL_law_244_c.1
theorem dL_law_245 : decode cL_law 245 = .ok (.iload 4, 2) := dL_law_244_c.2.1
theorem dL_law_247 : decode cL_law 247 = .ok (.iconst 3, 1) := dL_law_244_c.2.2.1
theorem dL_law_248 : decode cL_law 248 = .ok (.iadd, 1) := dL_law_244_c.2.2.2.1
theorem dL_law_249 : decode cL_law 249 = .ok (.iaload, 1) := dL_law_244_c.2.2.2.2.1
theorem dL_law_250 : decode cL_law 250 = .ok (.aload_n 0, 1) := dL_law_244_c.2.2.2.2.2.1
theorem dL_law_251 : decode cL_law 251 = .ok (.iload 4, 2) := dL_law_244_c.2.2.2.2.2.2.1
theorem dL_law_253 : decode cL_law 253 = .ok (.iconst 4, 1) := dL_law_244_c.2.2.2.2.2.2.2.1
theorem dL_law_254 : decode cL_law 254 = .ok (.iadd, 1) := dL_law_244_c.2.2.2.2.2.2.2.2.1
theorem dL_law_255 : decode cL_law 255 = .ok (.iaload, 1) := dL_law_244_c.2.2.2.2.2.2.2.2.2.1
theorem dL_law_256 : decode cL_law 256 = .ok (.aload_n 0, 1) := dL_law_244_c.2.2.2.2.2.2.2.2.2.2.1
theorem dL_law_257 : decode cL_law 257 = .ok (.iload 4, 2) := dL_law_244_c.2.2.2.2.2.2.2.2.2.2.2.1
theorem dL_law_259 : decode cL_law 259 = .ok (.iconst 5, 1) := dL_law_244_c.2.2.2.2.2.2.2.2.2.2.2.2.1
theorem dL_law_260 : decode cL_law 260 = .ok (.iadd, 1) := dL_law_244_c.2.2.2.2.2.2.2.2.2.2.2.2.2.1
theorem dL_law_261 : decode cL_law 261 = .ok (.iaload, 1) := dL_law_244_c.2.2.2.2.2.2.2.2.2.2.2.2.2.2.1
theorem dL_law_262 : decode cL_law 262 = .ok (.invokevirtual 115, 3) := dL_law_244_c.2.2.2.2.2.2.2.2.2.2.2.2.2.2.2
theorem dL_law_265_c : decode cL_law 265 = .ok (.pop, 1) ∧ decode cL_law 266 = .ok (.goto 1407, 3) ∧ decode cL_law 269 = .ok (.aload_n 1, 1) ∧ decode cL_law 270 = .ok (.aload_n 0, 1) ∧ decode cL_law 271 = .ok (.iload 4, 2) ∧ decode cL_law 273 = .ok (.iconst 1, 1) ∧ decode cL_law 274 = .ok (.iadd, 1) ∧ decode cL_law 275 = .ok (.iaload, 1) ∧ decode cL_law 276 = .ok (.aload_n 3, 1) ∧ decode cL_law 277 = .ok (.invokestatic 116, 3) ∧ decode cL_law 280 = .ok (.istore 5, 2) ∧ decode cL_law 282 = .ok (.aload_n 2, 1) ∧ decode cL_law 283 = .ok (.aload_n 0, 1) ∧ decode cL_law 284 = .ok (.iload 4, 2) ∧ decode cL_law 286 = .ok (.iconst 1, 1) ∧ decode cL_law 287 = .ok (.iadd, 1) := by decide +kernel
theorem dL_law_265 : decode cL_law 265 = .ok (.pop, 1) := dL_law_265_c.1
theorem dL_law_266 : decode cL_law 266 = .ok (.goto 1407, 3) := dL_law_265_c.2.1
theorem dL_law_269 : decode cL_law 269 = .ok (.aload_n 1, 1) := dL_law_265_c.2.2.1
theorem dL_law_270 : decode cL_law 270 = .ok (.aload_n 0, 1) := dL_law_265_c.2.2.2.1
theorem dL_law_271 : decode cL_law 271 = .ok (.iload 4, 2) := dL_law_265_c.2.2.2.2.1
theorem dL_law_273 : decode cL_law 273 = .ok (.iconst 1, 1) := dL_law_265_c.2.2.2.2.2.1
theorem dL_law_274 : decode cL_law 274 = .ok (.iadd, 1) := dL_law_265_c.2.2.2.2.2.2.1
theorem dL_law_275 : decode cL_law 275 = .ok (.iaload, 1) := dL_law_265_c.2.2.2.2.2.2.2.1
theorem dL_law_276 : decode cL_law 276 = .ok (.aload_n 3, 1) := dL_law_265_c.2.2.2.2.2.2.2.2.1
theorem dL_law_277 : decode cL_law 277 = .ok (.invokestatic 116, 3) := dL_law_265_c.2.2.2.2.2.2.2.2.2.1
theorem dL_law_280 : decode cL_law 280 = .ok (.istore 5, 2) := dL_law_265_c.2.2.2.2.2.2.2.2.2.2.1
theorem dL_law_282 : decode cL_law 282 = .ok (.aload_n 2, 1) := dL_law_265_c.2.2.2.2.2.2.2.2.2.2.2.1
theorem dL_law_283 : decode cL_law 283 = .ok (.aload_n 0, 1) := dL_law_265_c.2.2.2.2.2.2.2.2.2.2.2.2.1
theorem dL_law_284 : decode cL_law 284 = .ok (.iload 4, 2) := dL_law_265_c.2.2.2.2.2.2.2.2.2.2.2.2.2.1
theorem dL_law_286 : decode cL_law 286 = .ok (.iconst 1, 1) := dL_law_265_c.2.2.2.2.2.2.2.2.2.2.2.2.2.2.1
theorem dL_law_287 : decode cL_law 287 = .ok (.iadd, 1) := dL_law_265_c.2.2.2.2.2.2.2.2.2.2.2.2.2.2.2
theorem dL_law_288_c : decode cL_law 288 = .ok (.iaload, 1) ∧ decode cL_law 289 = .ok (.invokevirtual 121, 3) ∧ decode cL_law 292 = .ok (.istore 6, 2) ∧ decode cL_law 294 = .ok (.goto 1379, 3) ∧ decode cL_law 297 = .ok (.aload_n 1, 1) ∧ decode cL_law 298 = .ok (.aload_n 0, 1) ∧ decode cL_law 299 = .ok (.iload 4, 2) ∧ decode cL_law 301 = .ok (.iconst 1, 1) ∧ decode cL_law 302 = .ok (.iadd, 1) ∧ decode cL_law 303 = .ok (.iaload, 1) ∧ decode cL_law 304 = .ok (.aload_n 3, 1) ∧ decode cL_law 305 = .ok (.invokestatic 122, 3) ∧ decode cL_law 308 = .ok (.istore 5, 2) ∧ decode cL_law 310 = .ok (.aload_n 2, 1) ∧ decode cL_law 311 = .ok (.aload_n 0, 1) ∧ decode cL_law 312 = .ok (.iload 4, 2) := by decide +kernel
theorem dL_law_288 : decode cL_law 288 = .ok (.iaload, 1) := dL_law_288_c.1
theorem dL_law_289 : decode cL_law 289 = .ok (.invokevirtual 121, 3) := dL_law_288_c.2.1
theorem dL_law_292 : decode cL_law 292 = .ok (.istore 6, 2) := dL_law_288_c.2.2.1
theorem dL_law_294 : decode cL_law 294 = .ok (.goto 1379, 3) := dL_law_288_c.2.2.2.1
theorem dL_law_297 : decode cL_law 297 = .ok (.aload_n 1, 1) := dL_law_288_c.2.2.2.2.1
theorem dL_law_298 : decode cL_law 298 = .ok (.aload_n 0, 1) := dL_law_288_c.2.2.2.2.2.1
theorem dL_law_299 : decode cL_law 299 = .ok (.iload 4, 2) := dL_law_288_c.2.2.2.2.2.2.1
theorem dL_law_301 : decode cL_law 301 = .ok (.iconst 1, 1) := dL_law_288_c.2.2.2.2.2.2.2.1
theorem dL_law_302 : decode cL_law 302 = .ok (.iadd, 1) := dL_law_288_c.2.2.2.2.2.2.2.2.1
theorem dL_law_303 : decode cL_law 303 = .ok (.iaload, 1) := dL_law_288_c.2.2.2.2.2.2.2.2.2.1
theorem dL_law_304 : decode cL_law 304 = .ok (.aload_n 3, 1) := dL_law_288_c.2.2.2.2.2.2.2.2.2.2.1
theorem dL_law_305 : decode cL_law 305 = .ok (.invokestatic 122, 3) := dL_law_288_c.2.2.2.2.2.2.2.2.2.2.2.1
theorem dL_law_308 : decode cL_law 308 = .ok (.istore 5, 2) := dL_law_288_c.2.2.2.2.2.2.2.2.2.2.2.2.1
theorem dL_law_310 : decode cL_law 310 = .ok (.aload_n 2, 1) := dL_law_288_c.2.2.2.2.2.2.2.2.2.2.2.2.2.1
theorem dL_law_311 : decode cL_law 311 = .ok (.aload_n 0, 1) := dL_law_288_c.2.2.2.2.2.2.2.2.2.2.2.2.2.2.1
theorem dL_law_312 : decode cL_law 312 = .ok (.iload 4, 2) := dL_law_288_c.2.2.2.2.2.2.2.2.2.2.2.2.2.2.2
theorem dL_law_314_c : decode cL_law 314 = .ok (.iconst 1, 1) ∧ decode cL_law 315 = .ok (.iadd, 1) ∧ decode cL_law 316 = .ok (.iaload, 1) ∧ decode cL_law 317 = .ok (.invokevirtual 124, 3) ∧ decode cL_law 320 = .ok (.istore 6, 2) ∧ decode cL_law 322 = .ok (.goto 1351, 3) ∧ decode cL_law 325 = .ok (.aload_n 1, 1) ∧ decode cL_law 326 = .ok (.invokevirtual 125, 3) ∧ decode cL_law 329 = .ok (.pop, 1) ∧ decode cL_law 330 = .ok (.aload_n 2, 1) ∧ decode cL_law 331 = .ok (.invokevirtual 129, 3) ∧ decode cL_law 334 = .ok (.pop, 1) ∧ decode cL_law 335 = .ok (.goto 1338, 3) ∧ decode cL_law 338 = .ok (.aload_n 1, 1) ∧ decode cL_law 339 = .ok (.aload_n 0, 1) ∧ decode cL_law 340 = .ok (.iload 4, 2) := by decide +kernel
theorem dL_law_314 : decode cL_law 314 = .ok (.iconst 1, 1) := dL_law_314_c.1
theorem dL_law_315 : decode cL_law 315 = .ok (.iadd, 1) := dL_law_314_c.2.1
theorem dL_law_316 : decode cL_law 316 = .ok (.iaload, 1) := dL_law_314_c.2.2.1
theorem dL_law_317 : decode cL_law 317 = .ok (.invokevirtual 124, 3) := dL_law_314_c.2.2.2.1
theorem dL_law_320 : decode cL_law 320 = .ok (.istore 6, 2) := dL_law_314_c.2.2.2.2.1
theorem dL_law_322 : decode cL_law 322 = .ok (.goto 1351, 3) := dL_law_314_c.2.2.2.2.2.1
theorem dL_law_325 : decode cL_law 325 = .ok (.aload_n 1, 1) := dL_law_314_c.2.2.2.2.2.2.1
theorem dL_law_326 : decode cL_law 326 = .ok (.invokevirtual 125, 3) := dL_law_314_c.2.2.2.2.2.2.2.1
theorem dL_law_329 : decode cL_law 329 = .ok (.pop, 1) := dL_law_314_c.2.2.2.2.2.2.2.2.1
theorem dL_law_330 : decode cL_law 330 = .ok (.aload_n 2, 1) := dL_law_314_c.2.2.2.2.2.2.2.2.2.1
theorem dL_law_331 : decode cL_law 331 = .ok (.invokevirtual 129, 3) := dL_law_314_c.2.2.2.2.2.2.2.2.2.2.1
theorem dL_law_334 : decode cL_law 334 = .ok (.pop, 1) := dL_law_314_c.2.2.2.2.2.2.2.2.2.2.2.1
theorem dL_law_335 : decode cL_law 335 = .ok (.goto 1338, 3) := dL_law_314_c.2.2.2.2.2.2.2.2.2.2.2.2.1
theorem dL_law_338 : decode cL_law 338 = .ok (.aload_n 1, 1) := dL_law_314_c.2.2.2.2.2.2.2.2.2.2.2.2.2.1
theorem dL_law_339 : decode cL_law 339 = .ok (.aload_n 0, 1) := dL_law_314_c.2.2.2.2.2.2.2.2.2.2.2.2.2.2.1
theorem dL_law_340 : decode cL_law 340 = .ok (.iload 4, 2) := dL_law_314_c.2.2.2.2.2.2.2.2.2.2.2.2.2.2.2
theorem dL_law_342_c : decode cL_law 342 = .ok (.iconst 1, 1) ∧ decode cL_law 343 = .ok (.iadd, 1) ∧ decode cL_law 344 = .ok (.iaload, 1) ∧ decode cL_law 345 = .ok (.aload_n 3, 1) ∧ decode cL_law 346 = .ok (.invokestatic 130, 3) ∧ decode cL_law 349 = .ok (.istore 5, 2) ∧ decode cL_law 351 = .ok (.aload_n 2, 1) ∧ decode cL_law 352 = .ok (.aload_n 0, 1) ∧ decode cL_law 353 = .ok (.iload 4, 2) ∧ decode cL_law 355 = .ok (.iconst 1, 1) ∧ decode cL_law 356 = .ok (.iadd, 1) ∧ decode cL_law 357 = .ok (.iaload, 1) ∧ decode cL_law 358 = .ok (.invokevirtual 132, 3) ∧ decode cL_law 361 = .ok (.istore 6, 2) ∧ decode cL_law 363 = .ok (.goto 1310, 3) ∧ decode cL_law 366 = .ok (.aload_n 1, 1) := by decide +kernel
theorem dL_law_342 : decode cL_law 342 = .ok (.iconst 1, 1) := dL_law_342_c.1
theorem dL_law_343 : decode cL_law 343 = .ok (.iadd, 1) := dL_law_342_c.2.1
theorem dL_law_344 : decode cL_law 344 = .ok (.iaload, 1) := dL_law_342_c.2.2.1
theorem dL_law_345 : decode cL_law 345 = .ok (.aload_n 3, 1) := dL_law_342_c.2.2.2.1
theorem dL_law_346 : decode cL_law 346 = .ok (.invokestatic 130, 3) := dL_law_342_c.2.2.2.2.1
theorem dL_law_349 : decode cL_law 349 = .ok (.istore 5, 2) := dL_law_342_c.2.2.2.2.2.1
theorem dL_law_351 : decode cL_law 351 = .ok (.aload_n 2, 1) := dL_law_342_c.2.2.2.2.2.2.1
theorem dL_law_352 : decode cL_law 352 = .ok (.aload_n 0, 1) := dL_law_342_c.2.2.2.2.2.2.2.1
theorem dL_law_353 : decode cL_law 353 = .ok (.iload 4, 2) := dL_law_342_c.2.2.2.2.2.2.2.2.1
theorem dL_law_355 : decode cL_law 355 = .ok (.iconst 1, 1) := dL_law_342_c.2.2.2.2.2.2.2.2.2.1
theorem dL_law_356 : decode cL_law 356 = .ok (.iadd, 1) := dL_law_342_c.2.2.2.2.2.2.2.2.2.2.1
theorem dL_law_357 : decode cL_law 357 = .ok (.iaload, 1) := dL_law_342_c.2.2.2.2.2.2.2.2.2.2.2.1
theorem dL_law_358 : decode cL_law 358 = .ok (.invokevirtual 132, 3) := dL_law_342_c.2.2.2.2.2.2.2.2.2.2.2.2.1
theorem dL_law_361 : decode cL_law 361 = .ok (.istore 6, 2) := dL_law_342_c.2.2.2.2.2.2.2.2.2.2.2.2.2.1
theorem dL_law_363 : decode cL_law 363 = .ok (.goto 1310, 3) := dL_law_342_c.2.2.2.2.2.2.2.2.2.2.2.2.2.2.1
theorem dL_law_366 : decode cL_law 366 = .ok (.aload_n 1, 1) := dL_law_342_c.2.2.2.2.2.2.2.2.2.2.2.2.2.2.2
theorem dL_law_367_c : decode cL_law 367 = .ok (.aload_n 0, 1) ∧ decode cL_law 368 = .ok (.iload 4, 2) ∧ decode cL_law 370 = .ok (.iconst 1, 1) ∧ decode cL_law 371 = .ok (.iadd, 1) ∧ decode cL_law 372 = .ok (.iaload, 1) ∧ decode cL_law 373 = .ok (.aload_n 0, 1) := by decide +kernel
theorem dL_law_367 : decode cL_law 367 = .ok (.aload_n 0, 1) := dL_law_367_c.1
theorem dL_law_368 : decode cL_law 368 = .ok (.iload 4, 2) := dL_law_367_c.2.1
theorem dL_law_370 : decode cL_law 370 = .ok (.iconst 1, 1) := dL_law_367_c.2.2.1
theorem dL_law_371 : decode cL_law 371 = .ok (.iadd, 1) := dL_law_367_c.2.2.2.1
theorem dL_law_372 : decode cL_law 372 = .ok (.iaload, 1) := dL_law_367_c.2.2.2.2.1
theorem dL_law_373 : decode cL_law 373 = .ok (.aload_n 0, 1) := dL_law_367_c.2.2.2.2.2
