theorem dX12_init_0 : decode cX12_init 0 = .ok (.aload_n 0, 1) := by decide +kernel
theorem dX12_init_1 : decode cX12_init 1 = .ok (.invokespecial 11, 3) := by decide +kernel
theorem dX12_init_4 : decode cX12_init 4 = .ok (.aload_n 0, 1) := by decide +kernel
theorem dX12_init_5 : decode cX12_init 5 = .ok (.iconst 3, 1) := by decide +kernel
theorem dX12_init_6 : decode cX12_init 6 = .ok (.newarray .int, 2) := by decide +kernel
theorem dX12_init_8 : decode cX12_init 8 = .ok (.putfield 7, 3) := by decide +kernel
theorem dX12_init_11 : decode cX12_init 11 = .ok (.aload_n 0, 1) := by decide +kernel
theorem dX12_init_12 : decode cX12_init 12 = .ok (.iconst (-1), 1) := by decide +kernel
theorem dX12_init_13 : decode cX12_init 13 = .ok (.putfield 17, 3) := by decide +kernel
theorem dX12_init_16 : decode cX12_init 16 = .ok (.aload_n 0, 1) := by decide +kernel
theorem dX12_init_17 : decode cX12_init 17 = .ok (.sipush 500, 3) := by decide +kernel
theorem dX12_init_20 : decode cX12_init 20 = .ok (.newarray .int, 2) := by decide +kernel
theorem dX12_init_22 : decode cX12_init 22 = .ok (.putfield 20, 3) := by decide +kernel
theorem dX12_init_25 : decode cX12_init 25 = .ok (.aload_n 0, 1) := by decide +kernel
theorem dX12_init_26 : decode cX12_init 26 = .ok (.bipush 8, 2) := by decide +kernel
theorem dX12_init_28 : decode cX12_init 28 = .ok (.putfield 23, 3) := by decide +kernel
theorem dX12_init_31 : decode cX12_init 31 = .ok (.aload_n 0, 1) := by decide +kernel
theorem dX12_init_32 : decode cX12_init 32 = .ok (.iconst 1, 1) := by decide +kernel
theorem dX12_init_33 : decode cX12_init 33 = .ok (.putfield 26, 3) := by decide +kernel
theorem dX12_init_36 : decode cX12_init 36 = .ok (.aload_n 0, 1) := by decide +kernel
theorem dX12_init_37 : decode cX12_init 37 = .ok (.iconst 1, 1) := by decide +kernel
theorem dX12_init_38 : decode cX12_init 38 = .ok (.putfield 29, 3) := by decide +kernel
theorem dX12_init_41 : decode cX12_init 41 = .ok (.aload_n 0, 1) := by decide +kernel
theorem dX12_init_42 : decode cX12_init 42 = .ok (.sipush 8000, 3) := by decide +kernel
theorem dX12_init_45 : decode cX12_init 45 = .ok (.newarray .int, 2) := by decide +kernel
theorem dX12_init_47 : decode cX12_init 47 = .ok (.putfield 33, 3) := by decide +kernel
theorem dX12_init_50 : decode cX12_init 50 = .ok (.aload_n 0, 1) := by decide +kernel
theorem dX12_init_51 : decode cX12_init 51 = .ok (.iconst 4, 1) := by decide +kernel
theorem dX12_init_52 : decode cX12_init 52 = .ok (.newarray .int, 2) := by decide +kernel
theorem dX12_init_54 : decode cX12_init 54 = .ok (.putfield 36, 3) := by decide +kernel
theorem dX12_init_57 : decode cX12_init 57 = .ok (.aload_n 0, 1) := by decide +kernel
theorem dX12_init_58 : decode cX12_init 58 = .ok (.sipush 4000, 3) := by decide +kernel
theorem dX12_init_61 : decode cX12_init 61 = .ok (.newarray .int, 2) := by decide +kernel
theorem dX12_init_63 : decode cX12_init 63 = .ok (.putfield 39, 3) := by decide +kernel
theorem dX12_init_66 : decode cX12_init 66 = .ok (.aload_n 0, 1) := by decide +kernel
theorem dX12_init_67 : decode cX12_init 67 = .ok (.sipush 4000, 3) := by decide +kernel
theorem dX12_init_70 : decode cX12_init 70 = .ok (.newarray .int, 2) := by decide +kernel
theorem dX12_init_72 : decode cX12_init 72 = .ok (.putfield 42, 3) := by decide +kernel
theorem dX12_init_75 : decode cX12_init 75 = .ok (.aload_n 0, 1) := by decide +kernel
theorem dX12_init_76 : decode cX12_init 76 = .ok (.iconst 4, 1) := by decide +kernel
theorem dX12_init_77 : decode cX12_init 77 = .ok (.newarray .int, 2) := by decide +kernel
theorem dX12_init_79 : decode cX12_init 79 = .ok (.putfield 45, 3) := by decide +kernel
theorem dX12_init_82 : decode cX12_init 82 = .ok (.aload_n 0, 1) := by decide +kernel
theorem dX12_init_83 : decode cX12_init 83 = .ok (.sipush 24000, 3) := by decide +kernel
theorem dX12_init_86 : decode cX12_init 86 = .ok (.newarray .int, 2) := by decide +kernel
theorem dX12_init_88 : decode cX12_init 88 = .ok (.putfield 48, 3) := by decide +kernel
theorem dX12_init_91 : decode cX12_init 91 = .ok (.aload_n 0, 1) := by decide +kernel
theorem dX12_init_92 : decode cX12_init 92 = .ok (.bipush 12, 2) := by decide +kernel
theorem dX12_init_94 : decode cX12_init 94 = .ok (.newarray .int, 2) := by decide +kernel
theorem dX12_init_96 : decode cX12_init 96 = .ok (.putfield 51, 3) := by decide +kernel
theorem dX12_init_99 : decode cX12_init 99 = .ok (.aload_n 0, 1) := by decide +kernel
theorem dX12_init_100 : decode cX12_init 100 = .ok (.sipush 12000, 3) := by decide +kernel
theorem dX12_init_103 : decode cX12_init 103 = .ok (.newarray .int, 2) := by decide +kernel
theorem dX12_init_105 : decode cX12_init 105 = .ok (.putfield 54, 3) := by decide +kernel
theorem dX12_init_108 : decode cX12_init 108 = .ok (.aload_n 0, 1) := by decide +kernel
theorem dX12_init_109 : decode cX12_init 109 = .ok (.sipush 12000, 3) := by decide +kernel
theorem dX12_init_112 : decode cX12_init 112 = .ok (.newarray .int, 2) := by decide +kernel
theorem dX12_init_114 : decode cX12_init 114 = .ok (.putfield 57, 3) := by decide +kernel
theorem dX12_init_117 : decode cX12_init 117 = .ok (.aload_n 0, 1) := by decide +kernel
theorem dX12_init_118 : decode cX12_init 118 = .ok (.bipush 12, 2) := by decide +kernel
theorem dX12_init_120 : decode cX12_init 120 = .ok (.newarray .int, 2) := by decide +kernel
theorem dX12_init_122 : decode cX12_init 122 = .ok (.putfield 60, 3) := by decide +kernel
theorem dX12_init_125 : decode cX12_init 125 = .ok (.aload_n 0, 1) := by decide +kernel
theorem dX12_init_126 : decode cX12_init 126 = .ok (.iconst 4, 1) := by decide +kernel
theorem dX12_init_127 : decode cX12_init 127 = .ok (.newarray .int, 2) := by decide +kernel
theorem dX12_init_129 : decode cX12_init 129 = .ok (.putfield 63, 3) := by decide +kernel
theorem dX12_init_132 : decode cX12_init 132 = .ok (.aload_n 0, 1) := by decide +kernel
theorem dX12_init_133 : decode cX12_init 133 = .ok (.sipush 240, 3) := by decide +kernel
theorem dX12_init_136 : decode cX12_init 136 = .ok (.newarray .int, 2) := by decide +kernel
theorem dX12_init_138 : decode cX12_init 138 = .ok (.putfield 66, 3) := by decide +kernel
theorem dX12_init_141 : decode cX12_init 141 = .ok (.aload_n 0, 1) := by decide +kernel
theorem dX12_init_142 : decode cX12_init 142 = .ok (.sipush 240, 3) := by decide +kernel
theorem dX12_init_145 : decode cX12_init 145 = .ok (.newarray .int, 2) := by decide +kernel
theorem dX12_init_147 : decode cX12_init 147 = .ok (.putfield 69, 3) := by decide +kernel
theorem dX12_init_150 : decode cX12_init 150 = .ok (.aload_n 0, 1) := by decide +kernel
theorem dX12_init_151 : decode cX12_init 151 = .ok (.sipush 240, 3) := by decide +kernel
theorem dX12_init_154 : decode cX12_init 154 = .ok (.newarray .int, 2) := by decide +kernel
theorem dX12_init_156 : decode cX12_init 156 = .ok (.putfield 72, 3) := by decide +kernel
theorem dX12_init_159 : decode cX12_init 159 = .ok (.aload_n 0, 1) := by decide +kernel
theorem dX12_init_160 : decode cX12_init 160 = .ok (.sipush 2000, 3) := by decide +kernel
theorem dX12_init_163 : decode cX12_init 163 = .ok (.newarray .int, 2) := by decide +kernel
theorem dX12_init_165 : decode cX12_init 165 = .ok (.putfield 75, 3) := by decide +kernel
theorem dX12_init_168 : decode cX12_init 168 = .ok (.aload_n 0, 1) := by decide +kernel
theorem dX12_init_169 : decode cX12_init 169 = .ok (.sipush 2000, 3) := by decide +kernel
theorem dX12_init_172 : decode cX12_init 172 = .ok (.newarray .int, 2) := by decide +kernel
theorem dX12_init_174 : decode cX12_init 174 = .ok (.putfield 78, 3) := by decide +kernel
theorem dX12_init_177 : decode cX12_init 177 = .ok (.aload_n 0, 1) := by decide +kernel
theorem dX12_init_178 : decode cX12_init 178 = .ok (.sipush 500, 3) := by decide +kernel
theorem dX12_init_181 : decode cX12_init 181 = .ok (.newarray .int, 2) := by decide +kernel
theorem dX12_init_183 : decode cX12_init 183 = .ok (.putfield 81, 3) := by decide +kernel
theorem dX12_init_186 : decode cX12_init 186 = .ok (.aload_n 0, 1) := by decide +kernel
theorem dX12_init_187 : decode cX12_init 187 = .ok (.sipush 14000, 3) := by decide +kernel
theorem dX12_init_190 : decode cX12_init 190 = .ok (.newarray .int, 2) := by decide +kernel
theorem dX12_init_192 : decode cX12_init 192 = .ok (.putfield 84, 3) := by decide +kernel
theorem dX12_init_195 : decode cX12_init 195 = .ok (.aload_n 0, 1) := by decide +kernel
theorem dX12_init_196 : decode cX12_init 196 = .ok (.bipush 16, 2) := by decide +kernel
theorem dX12_init_198 : decode cX12_init 198 = .ok (.newarray .int, 2) := by decide +kernel
theorem dX12_init_200 : decode cX12_init 200 = .ok (.putfield 87, 3) := by decide +kernel
theorem dX12_init_203 : decode cX12_init 203 = .ok (.aload_n 0, 1) := by decide +kernel
theorem dX12_init_204 : decode cX12_init 204 = .ok (.bipush 16, 2) := by decide +kernel
theorem dX12_init_206 : decode cX12_init 206 = .ok (.newarray .int, 2) := by decide +kernel
theorem dX12_init_208 : decode cX12_init 208 = .ok (.putfield 90, 3) := by decide +kernel
theorem dX12_init_211 : decode cX12_init 211 = .ok (.aload_n 0, 1) := by decide +kernel
theorem dX12_init_212 : decode cX12_init 212 = .ok (.ldc 93, 2) := by decide +kernel
theorem dX12_init_214 : decode cX12_init 214 = .ok (.newarray .int, 2) := by decide +kernel
theorem dX12_init_216 : decode cX12_init 216 = .ok (.putfield 94, 3) := by decide +kernel
theorem dX12_init_219 : decode cX12_init 219 = .ok (.aload_n 0, 1) := by decide +kernel
theorem dX12_init_220 : decode cX12_init 220 = .ok (.bipush 6, 2) := by decide +kernel
theorem dX12_init_222 : decode cX12_init 222 = .ok (.newarray .int, 2) := by decide +kernel
theorem dX12_init_224 : decode cX12_init 224 = .ok (.putfield 97, 3) := by decide +kernel
theorem dX12_init_227 : decode cX12_init 227 = .ok (.aload_n 0, 1) := by decide +kernel
theorem dX12_init_228 : decode cX12_init 228 = .ok (.sipush 2000, 3) := by decide +kernel
theorem dX12_init_231 : decode cX12_init 231 = .ok (.newarray .int, 2) := by decide +kernel
theorem dX12_init_233 : decode cX12_init 233 = .ok (.putfield 100, 3) := by decide +kernel
theorem dX12_init_236 : decode cX12_init 236 = .ok (.aload_n 0, 1) := by decide +kernel
theorem dX12_init_237 : decode cX12_init 237 = .ok (.sipush 2000, 3) := by decide +kernel
theorem dX12_init_240 : decode cX12_init 240 = .ok (.newarray .int, 2) := by decide +kernel
theorem dX12_init_242 : decode cX12_init 242 = .ok (.putfield 103, 3) := by decide +kernel
theorem dX12_init_245 : decode cX12_init 245 = .ok (.aload_n 0, 1) := by decide +kernel
theorem dX12_init_246 : decode cX12_init 246 = .ok (.iconst 4, 1) := by decide +kernel
theorem dX12_init_247 : decode cX12_init 247 = .ok (.newarray .int, 2) := by decide +kernel
theorem dX12_init_249 : decode cX12_init 249 = .ok (.putfield 106, 3) := by decide +kernel
theorem dX12_init_252 : decode cX12_init 252 = .ok (.return_, 1) := by decide +kernel
def T_X12_init_1 (t : List tc) (i0 : Nat) : List tc := t ++ [ar 13 3]
theorem ln_X12_init_1 {t : List tc} {i0 : Nat} : (T_X12_init_1 t i0).length = t.length + 1 := by unfold T_X12_init_1; rw [List.length_append]; rfl
theorem sgk_X12_init_1 {t : List tc} {i0 : Nat} {i9 : Nat} {x9 : Nat × Nat × Nat} (h9 : sg t i9 = some x9) : sg (T_X12_init_1 t i0) i9 = some x9 := sg_app h9
theorem rfk_X12_init_1 {t : List tc} {i0 : Nat} {i9 k9 j9 : Nat} (hlt : i9 < t.length) (hne : i9 ≠ i0) (h9 : rf t i9 k9 = some j9) : rf (T_X12_init_1 t i0) i9 k9 = some j9 := rf_app h9
def T_X12_init_2 (t : List tc) (i0 : Nat) : List tc := ((T_X12_init_1 t i0)).modify i0 (uR 1 t.length)
theorem ln_X12_init_2 {t : List tc} {i0 : Nat} : (T_X12_init_2 t i0).length = t.length + 1 := by unfold T_X12_init_2; rw [List.length_modify]; exact ln_X12_init_1
theorem sgk_X12_init_2 {t : List tc} {i0 : Nat} {i9 : Nat} {x9 : Nat × Nat × Nat} (h9 : sg t i9 = some x9) : sg (T_X12_init_2 t i0) i9 = some x9 := (sg_mR).trans (sgk_X12_init_1 h9)
theorem rfk_X12_init_2 {t : List tc} {i0 : Nat} {i9 k9 j9 : Nat} (hlt : i9 < t.length) (hne : i9 ≠ i0) (h9 : rf t i9 k9 = some j9) : rf (T_X12_init_2 t i0) i9 k9 = some j9 := (rf_mO (by omega)).trans (rfk_X12_init_1 hlt hne h9)
def T_X12_init_3 (t : List tc) (i0 : Nat) : List tc := ((T_X12_init_2 t i0)).modify i0 (uI 8 (-1))
theorem ln_X12_init_3 {t : List tc} {i0 : Nat} : (T_X12_init_3 t i0).length = t.length + 1 := by unfold T_X12_init_3; rw [List.length_modify]; exact ln_X12_init_2
theorem sgk_X12_init_3 {t : List tc} {i0 : Nat} {i9 : Nat} {x9 : Nat × Nat × Nat} (h9 : sg t i9 = some x9) : sg (T_X12_init_3 t i0) i9 = some x9 := (sg_mI).trans (sgk_X12_init_2 h9)
theorem rfk_X12_init_3 {t : List tc} {i0 : Nat} {i9 k9 j9 : Nat} (hlt : i9 < t.length) (hne : i9 ≠ i0) (h9 : rf t i9 k9 = some j9) : rf (T_X12_init_3 t i0) i9 k9 = some j9 := (rf_mI).trans (rfk_X12_init_2 hlt hne h9)
def T_X12_init_4 (t : List tc) (i0 : Nat) : List tc := (T_X12_init_3 t i0) ++ [ar 13 500]
theorem ln_X12_init_4 {t : List tc} {i0 : Nat} : (T_X12_init_4 t i0).length = t.length + 2 := by unfold T_X12_init_4; rw [List.length_append, ln_X12_init_3]; rfl
theorem sgk_X12_init_4 {t : List tc} {i0 : Nat} {i9 : Nat} {x9 : Nat × Nat × Nat} (h9 : sg t i9 = some x9) : sg (T_X12_init_4 t i0) i9 = some x9 := sg_app (sgk_X12_init_3 h9)
theorem rfk_X12_init_4 {t : List tc} {i0 : Nat} {i9 k9 j9 : Nat} (hlt : i9 < t.length) (hne : i9 ≠ i0) (h9 : rf t i9 k9 = some j9) : rf (T_X12_init_4 t i0) i9 k9 = some j9 := rf_app (rfk_X12_init_3 hlt hne h9)
def T_X12_init_5 (t : List tc) (i0 : Nat) : List tc := ((T_X12_init_4 t i0)).modify i0 (uR 9 (t.length + 1))
theorem ln_X12_init_5 {t : List tc} {i0 : Nat} : (T_X12_init_5 t i0).length = t.length + 2 := by unfold T_X12_init_5; rw [List.length_modify]; exact ln_X12_init_4
theorem sgk_X12_init_5 {t : List tc} {i0 : Nat} {i9 : Nat} {x9 : Nat × Nat × Nat} (h9 : sg t i9 = some x9) : sg (T_X12_init_5 t i0) i9 = some x9 := (sg_mR).trans (sgk_X12_init_4 h9)
theorem rfk_X12_init_5 {t : List tc} {i0 : Nat} {i9 k9 j9 : Nat} (hlt : i9 < t.length) (hne : i9 ≠ i0) (h9 : rf t i9 k9 = some j9) : rf (T_X12_init_5 t i0) i9 k9 = some j9 := (rf_mO (by omega)).trans (rfk_X12_init_4 hlt hne h9)
def T_X12_init_6 (t : List tc) (i0 : Nat) : List tc := ((T_X12_init_5 t i0)).modify i0 (uI 10 8)
theorem ln_X12_init_6 {t : List tc} {i0 : Nat} : (T_X12_init_6 t i0).length = t.length + 2 := by unfold T_X12_init_6; rw [List.length_modify]; exact ln_X12_init_5
theorem sgk_X12_init_6 {t : List tc} {i0 : Nat} {i9 : Nat} {x9 : Nat × Nat × Nat} (h9 : sg t i9 = some x9) : sg (T_X12_init_6 t i0) i9 = some x9 := (sg_mI).trans (sgk_X12_init_5 h9)
theorem rfk_X12_init_6 {t : List tc} {i0 : Nat} {i9 k9 j9 : Nat} (hlt : i9 < t.length) (hne : i9 ≠ i0) (h9 : rf t i9 k9 = some j9) : rf (T_X12_init_6 t i0) i9 k9 = some j9 := (rf_mI).trans (rfk_X12_init_5 hlt hne h9)
def T_X12_init_7 (t : List tc) (i0 : Nat) : List tc := ((T_X12_init_6 t i0)).modify i0 (uI 11 1)
theorem ln_X12_init_7 {t : List tc} {i0 : Nat} : (T_X12_init_7 t i0).length = t.length + 2 := by unfold T_X12_init_7; rw [List.length_modify]; exact ln_X12_init_6
theorem sgk_X12_init_7 {t : List tc} {i0 : Nat} {i9 : Nat} {x9 : Nat × Nat × Nat} (h9 : sg t i9 = some x9) : sg (T_X12_init_7 t i0) i9 = some x9 := (sg_mI).trans (sgk_X12_init_6 h9)
theorem rfk_X12_init_7 {t : List tc} {i0 : Nat} {i9 k9 j9 : Nat} (hlt : i9 < t.length) (hne : i9 ≠ i0) (h9 : rf t i9 k9 = some j9) : rf (T_X12_init_7 t i0) i9 k9 = some j9 := (rf_mI).trans (rfk_X12_init_6 hlt hne h9)
def T_X12_init_8 (t : List tc) (i0 : Nat) : List tc := ((T_X12_init_7 t i0)).modify i0 (uI 12 1)
theorem ln_X12_init_8 {t : List tc} {i0 : Nat} : (T_X12_init_8 t i0).length = t.length + 2 := by unfold T_X12_init_8; rw [List.length_modify]; exact ln_X12_init_7
theorem sgk_X12_init_8 {t : List tc} {i0 : Nat} {i9 : Nat} {x9 : Nat × Nat × Nat} (h9 : sg t i9 = some x9) : sg (T_X12_init_8 t i0) i9 = some x9 := (sg_mI).trans (sgk_X12_init_7 h9)
theorem rfk_X12_init_8 {t : List tc} {i0 : Nat} {i9 k9 j9 : Nat} (hlt : i9 < t.length) (hne : i9 ≠ i0) (h9 : rf t i9 k9 = some j9) : rf (T_X12_init_8 t i0) i9 k9 = some j9 := (rf_mI).trans (rfk_X12_init_7 hlt hne h9)
def T_X12_init_9 (t : List tc) (i0 : Nat) : List tc := (T_X12_init_8 t i0) ++ [ar 13 8000]
theorem ln_X12_init_9 {t : List tc} {i0 : Nat} : (T_X12_init_9 t i0).length = t.length + 3 := by unfold T_X12_init_9; rw [List.length_append, ln_X12_init_8]; rfl
theorem sgk_X12_init_9 {t : List tc} {i0 : Nat} {i9 : Nat} {x9 : Nat × Nat × Nat} (h9 : sg t i9 = some x9) : sg (T_X12_init_9 t i0) i9 = some x9 := sg_app (sgk_X12_init_8 h9)
theorem rfk_X12_init_9 {t : List tc} {i0 : Nat} {i9 k9 j9 : Nat} (hlt : i9 < t.length) (hne : i9 ≠ i0) (h9 : rf t i9 k9 = some j9) : rf (T_X12_init_9 t i0) i9 k9 = some j9 := rf_app (rfk_X12_init_8 hlt hne h9)
def T_X12_init_10 (t : List tc) (i0 : Nat) : List tc := ((T_X12_init_9 t i0)).modify i0 (uR 13 (t.length + 2))
theorem ln_X12_init_10 {t : List tc} {i0 : Nat} : (T_X12_init_10 t i0).length = t.length + 3 := by unfold T_X12_init_10; rw [List.length_modify]; exact ln_X12_init_9
theorem sgk_X12_init_10 {t : List tc} {i0 : Nat} {i9 : Nat} {x9 : Nat × Nat × Nat} (h9 : sg t i9 = some x9) : sg (T_X12_init_10 t i0) i9 = some x9 := (sg_mR).trans (sgk_X12_init_9 h9)
theorem rfk_X12_init_10 {t : List tc} {i0 : Nat} {i9 k9 j9 : Nat} (hlt : i9 < t.length) (hne : i9 ≠ i0) (h9 : rf t i9 k9 = some j9) : rf (T_X12_init_10 t i0) i9 k9 = some j9 := (rf_mO (by omega)).trans (rfk_X12_init_9 hlt hne h9)
def T_X12_init_11 (t : List tc) (i0 : Nat) : List tc := (T_X12_init_10 t i0) ++ [ar 13 4]
theorem ln_X12_init_11 {t : List tc} {i0 : Nat} : (T_X12_init_11 t i0).length = t.length + 4 := by unfold T_X12_init_11; rw [List.length_append, ln_X12_init_10]; rfl
theorem sgk_X12_init_11 {t : List tc} {i0 : Nat} {i9 : Nat} {x9 : Nat × Nat × Nat} (h9 : sg t i9 = some x9) : sg (T_X12_init_11 t i0) i9 = some x9 := sg_app (sgk_X12_init_10 h9)
theorem rfk_X12_init_11 {t : List tc} {i0 : Nat} {i9 k9 j9 : Nat} (hlt : i9 < t.length) (hne : i9 ≠ i0) (h9 : rf t i9 k9 = some j9) : rf (T_X12_init_11 t i0) i9 k9 = some j9 := rf_app (rfk_X12_init_10 hlt hne h9)
def T_X12_init_12 (t : List tc) (i0 : Nat) : List tc := ((T_X12_init_11 t i0)).modify i0 (uR 14 (t.length + 3))
theorem ln_X12_init_12 {t : List tc} {i0 : Nat} : (T_X12_init_12 t i0).length = t.length + 4 := by unfold T_X12_init_12; rw [List.length_modify]; exact ln_X12_init_11
theorem sgk_X12_init_12 {t : List tc} {i0 : Nat} {i9 : Nat} {x9 : Nat × Nat × Nat} (h9 : sg t i9 = some x9) : sg (T_X12_init_12 t i0) i9 = some x9 := (sg_mR).trans (sgk_X12_init_11 h9)
theorem rfk_X12_init_12 {t : List tc} {i0 : Nat} {i9 k9 j9 : Nat} (hlt : i9 < t.length) (hne : i9 ≠ i0) (h9 : rf t i9 k9 = some j9) : rf (T_X12_init_12 t i0) i9 k9 = some j9 := (rf_mO (by omega)).trans (rfk_X12_init_11 hlt hne h9)
def T_X12_init_13 (t : List tc) (i0 : Nat) : List tc := (T_X12_init_12 t i0) ++ [ar 13 4000]
theorem ln_X12_init_13 {t : List tc} {i0 : Nat} : (T_X12_init_13 t i0).length = t.length + 5 := by unfold T_X12_init_13; rw [List.length_append, ln_X12_init_12]; rfl
theorem sgk_X12_init_13 {t : List tc} {i0 : Nat} {i9 : Nat} {x9 : Nat × Nat × Nat} (h9 : sg t i9 = some x9) : sg (T_X12_init_13 t i0) i9 = some x9 := sg_app (sgk_X12_init_12 h9)
theorem rfk_X12_init_13 {t : List tc} {i0 : Nat} {i9 k9 j9 : Nat} (hlt : i9 < t.length) (hne : i9 ≠ i0) (h9 : rf t i9 k9 = some j9) : rf (T_X12_init_13 t i0) i9 k9 = some j9 := rf_app (rfk_X12_init_12 hlt hne h9)
def T_X12_init_14 (t : List tc) (i0 : Nat) : List tc := ((T_X12_init_13 t i0)).modify i0 (uR 15 (t.length + 4))
theorem ln_X12_init_14 {t : List tc} {i0 : Nat} : (T_X12_init_14 t i0).length = t.length + 5 := by unfold T_X12_init_14; rw [List.length_modify]; exact ln_X12_init_13
theorem sgk_X12_init_14 {t : List tc} {i0 : Nat} {i9 : Nat} {x9 : Nat × Nat × Nat} (h9 : sg t i9 = some x9) : sg (T_X12_init_14 t i0) i9 = some x9 := (sg_mR).trans (sgk_X12_init_13 h9)
theorem rfk_X12_init_14 {t : List tc} {i0 : Nat} {i9 k9 j9 : Nat} (hlt : i9 < t.length) (hne : i9 ≠ i0) (h9 : rf t i9 k9 = some j9) : rf (T_X12_init_14 t i0) i9 k9 = some j9 := (rf_mO (by omega)).trans (rfk_X12_init_13 hlt hne h9)
def T_X12_init_15 (t : List tc) (i0 : Nat) : List tc := (T_X12_init_14 t i0) ++ [ar 13 4000]
theorem ln_X12_init_15 {t : List tc} {i0 : Nat} : (T_X12_init_15 t i0).length = t.length + 6 := by unfold T_X12_init_15; rw [List.length_append, ln_X12_init_14]; rfl
theorem sgk_X12_init_15 {t : List tc} {i0 : Nat} {i9 : Nat} {x9 : Nat × Nat × Nat} (h9 : sg t i9 = some x9) : sg (T_X12_init_15 t i0) i9 = some x9 := sg_app (sgk_X12_init_14 h9)
theorem rfk_X12_init_15 {t : List tc} {i0 : Nat} {i9 k9 j9 : Nat} (hlt : i9 < t.length) (hne : i9 ≠ i0) (h9 : rf t i9 k9 = some j9) : rf (T_X12_init_15 t i0) i9 k9 = some j9 := rf_app (rfk_X12_init_14 hlt hne h9)
def T_X12_init_16 (t : List tc) (i0 : Nat) : List tc := ((T_X12_init_15 t i0)).modify i0 (uR 16 (t.length + 5))
theorem ln_X12_init_16 {t : List tc} {i0 : Nat} : (T_X12_init_16 t i0).length = t.length + 6 := by unfold T_X12_init_16; rw [List.length_modify]; exact ln_X12_init_15
theorem sgk_X12_init_16 {t : List tc} {i0 : Nat} {i9 : Nat} {x9 : Nat × Nat × Nat} (h9 : sg t i9 = some x9) : sg (T_X12_init_16 t i0) i9 = some x9 := (sg_mR).trans (sgk_X12_init_15 h9)
theorem rfk_X12_init_16 {t : List tc} {i0 : Nat} {i9 k9 j9 : Nat} (hlt : i9 < t.length) (hne : i9 ≠ i0) (h9 : rf t i9 k9 = some j9) : rf (T_X12_init_16 t i0) i9 k9 = some j9 := (rf_mO (by omega)).trans (rfk_X12_init_15 hlt hne h9)
def T_X12_init_17 (t : List tc) (i0 : Nat) : List tc := (T_X12_init_16 t i0) ++ [ar 13 4]
theorem ln_X12_init_17 {t : List tc} {i0 : Nat} : (T_X12_init_17 t i0).length = t.length + 7 := by unfold T_X12_init_17; rw [List.length_append, ln_X12_init_16]; rfl
theorem sgk_X12_init_17 {t : List tc} {i0 : Nat} {i9 : Nat} {x9 : Nat × Nat × Nat} (h9 : sg t i9 = some x9) : sg (T_X12_init_17 t i0) i9 = some x9 := sg_app (sgk_X12_init_16 h9)
theorem rfk_X12_init_17 {t : List tc} {i0 : Nat} {i9 k9 j9 : Nat} (hlt : i9 < t.length) (hne : i9 ≠ i0) (h9 : rf t i9 k9 = some j9) : rf (T_X12_init_17 t i0) i9 k9 = some j9 := rf_app (rfk_X12_init_16 hlt hne h9)
def T_X12_init_18 (t : List tc) (i0 : Nat) : List tc := ((T_X12_init_17 t i0)).modify i0 (uR 17 (t.length + 6))
theorem ln_X12_init_18 {t : List tc} {i0 : Nat} : (T_X12_init_18 t i0).length = t.length + 7 := by unfold T_X12_init_18; rw [List.length_modify]; exact ln_X12_init_17
theorem sgk_X12_init_18 {t : List tc} {i0 : Nat} {i9 : Nat} {x9 : Nat × Nat × Nat} (h9 : sg t i9 = some x9) : sg (T_X12_init_18 t i0) i9 = some x9 := (sg_mR).trans (sgk_X12_init_17 h9)
theorem rfk_X12_init_18 {t : List tc} {i0 : Nat} {i9 k9 j9 : Nat} (hlt : i9 < t.length) (hne : i9 ≠ i0) (h9 : rf t i9 k9 = some j9) : rf (T_X12_init_18 t i0) i9 k9 = some j9 := (rf_mO (by omega)).trans (rfk_X12_init_17 hlt hne h9)
def T_X12_init_19 (t : List tc) (i0 : Nat) : List tc := (T_X12_init_18 t i0) ++ [ar 13 24000]
theorem ln_X12_init_19 {t : List tc} {i0 : Nat} : (T_X12_init_19 t i0).length = t.length + 8 := by unfold T_X12_init_19; rw [List.length_append, ln_X12_init_18]; rfl
theorem sgk_X12_init_19 {t : List tc} {i0 : Nat} {i9 : Nat} {x9 : Nat × Nat × Nat} (h9 : sg t i9 = some x9) : sg (T_X12_init_19 t i0) i9 = some x9 := sg_app (sgk_X12_init_18 h9)
theorem rfk_X12_init_19 {t : List tc} {i0 : Nat} {i9 k9 j9 : Nat} (hlt : i9 < t.length) (hne : i9 ≠ i0) (h9 : rf t i9 k9 = some j9) : rf (T_X12_init_19 t i0) i9 k9 = some j9 := rf_app (rfk_X12_init_18 hlt hne h9)
def T_X12_init_20 (t : List tc) (i0 : Nat) : List tc := ((T_X12_init_19 t i0)).modify i0 (uR 19 (t.length + 7))
theorem ln_X12_init_20 {t : List tc} {i0 : Nat} : (T_X12_init_20 t i0).length = t.length + 8 := by unfold T_X12_init_20; rw [List.length_modify]; exact ln_X12_init_19
theorem sgk_X12_init_20 {t : List tc} {i0 : Nat} {i9 : Nat} {x9 : Nat × Nat × Nat} (h9 : sg t i9 = some x9) : sg (T_X12_init_20 t i0) i9 = some x9 := (sg_mR).trans (sgk_X12_init_19 h9)
theorem rfk_X12_init_20 {t : List tc} {i0 : Nat} {i9 k9 j9 : Nat} (hlt : i9 < t.length) (hne : i9 ≠ i0) (h9 : rf t i9 k9 = some j9) : rf (T_X12_init_20 t i0) i9 k9 = some j9 := (rf_mO (by omega)).trans (rfk_X12_init_19 hlt hne h9)
def T_X12_init_21 (t : List tc) (i0 : Nat) : List tc := (T_X12_init_20 t i0) ++ [ar 13 12]
theorem ln_X12_init_21 {t : List tc} {i0 : Nat} : (T_X12_init_21 t i0).length = t.length + 9 := by unfold T_X12_init_21; rw [List.length_append, ln_X12_init_20]; rfl
theorem sgk_X12_init_21 {t : List tc} {i0 : Nat} {i9 : Nat} {x9 : Nat × Nat × Nat} (h9 : sg t i9 = some x9) : sg (T_X12_init_21 t i0) i9 = some x9 := sg_app (sgk_X12_init_20 h9)
theorem rfk_X12_init_21 {t : List tc} {i0 : Nat} {i9 k9 j9 : Nat} (hlt : i9 < t.length) (hne : i9 ≠ i0) (h9 : rf t i9 k9 = some j9) : rf (T_X12_init_21 t i0) i9 k9 = some j9 := rf_app (rfk_X12_init_20 hlt hne h9)
def T_X12_init_22 (t : List tc) (i0 : Nat) : List tc := ((T_X12_init_21 t i0)).modify i0 (uR 20 (t.length + 8))
theorem ln_X12_init_22 {t : List tc} {i0 : Nat} : (T_X12_init_22 t i0).length = t.length + 9 := by unfold T_X12_init_22; rw [List.length_modify]; exact ln_X12_init_21
theorem sgk_X12_init_22 {t : List tc} {i0 : Nat} {i9 : Nat} {x9 : Nat × Nat × Nat} (h9 : sg t i9 = some x9) : sg (T_X12_init_22 t i0) i9 = some x9 := (sg_mR).trans (sgk_X12_init_21 h9)
theorem rfk_X12_init_22 {t : List tc} {i0 : Nat} {i9 k9 j9 : Nat} (hlt : i9 < t.length) (hne : i9 ≠ i0) (h9 : rf t i9 k9 = some j9) : rf (T_X12_init_22 t i0) i9 k9 = some j9 := (rf_mO (by omega)).trans (rfk_X12_init_21 hlt hne h9)
def T_X12_init_23 (t : List tc) (i0 : Nat) : List tc := (T_X12_init_22 t i0) ++ [ar 13 12000]
theorem ln_X12_init_23 {t : List tc} {i0 : Nat} : (T_X12_init_23 t i0).length = t.length + 10 := by unfold T_X12_init_23; rw [List.length_append, ln_X12_init_22]; rfl
theorem sgk_X12_init_23 {t : List tc} {i0 : Nat} {i9 : Nat} {x9 : Nat × Nat × Nat} (h9 : sg t i9 = some x9) : sg (T_X12_init_23 t i0) i9 = some x9 := sg_app (sgk_X12_init_22 h9)
theorem rfk_X12_init_23 {t : List tc} {i0 : Nat} {i9 k9 j9 : Nat} (hlt : i9 < t.length) (hne : i9 ≠ i0) (h9 : rf t i9 k9 = some j9) : rf (T_X12_init_23 t i0) i9 k9 = some j9 := rf_app (rfk_X12_init_22 hlt hne h9)
def T_X12_init_24 (t : List tc) (i0 : Nat) : List tc := ((T_X12_init_23 t i0)).modify i0 (uR 21 (t.length + 9))
theorem ln_X12_init_24 {t : List tc} {i0 : Nat} : (T_X12_init_24 t i0).length = t.length + 10 := by unfold T_X12_init_24; rw [List.length_modify]; exact ln_X12_init_23
theorem sgk_X12_init_24 {t : List tc} {i0 : Nat} {i9 : Nat} {x9 : Nat × Nat × Nat} (h9 : sg t i9 = some x9) : sg (T_X12_init_24 t i0) i9 = some x9 := (sg_mR).trans (sgk_X12_init_23 h9)
theorem rfk_X12_init_24 {t : List tc} {i0 : Nat} {i9 k9 j9 : Nat} (hlt : i9 < t.length) (hne : i9 ≠ i0) (h9 : rf t i9 k9 = some j9) : rf (T_X12_init_24 t i0) i9 k9 = some j9 := (rf_mO (by omega)).trans (rfk_X12_init_23 hlt hne h9)
def T_X12_init_25 (t : List tc) (i0 : Nat) : List tc := (T_X12_init_24 t i0) ++ [ar 13 12000]
theorem ln_X12_init_25 {t : List tc} {i0 : Nat} : (T_X12_init_25 t i0).length = t.length + 11 := by unfold T_X12_init_25; rw [List.length_append, ln_X12_init_24]; rfl
theorem sgk_X12_init_25 {t : List tc} {i0 : Nat} {i9 : Nat} {x9 : Nat × Nat × Nat} (h9 : sg t i9 = some x9) : sg (T_X12_init_25 t i0) i9 = some x9 := sg_app (sgk_X12_init_24 h9)
theorem rfk_X12_init_25 {t : List tc} {i0 : Nat} {i9 k9 j9 : Nat} (hlt : i9 < t.length) (hne : i9 ≠ i0) (h9 : rf t i9 k9 = some j9) : rf (T_X12_init_25 t i0) i9 k9 = some j9 := rf_app (rfk_X12_init_24 hlt hne h9)
def T_X12_init_26 (t : List tc) (i0 : Nat) : List tc := ((T_X12_init_25 t i0)).modify i0 (uR 22 (t.length + 10))
theorem ln_X12_init_26 {t : List tc} {i0 : Nat} : (T_X12_init_26 t i0).length = t.length + 11 := by unfold T_X12_init_26; rw [List.length_modify]; exact ln_X12_init_25
theorem sgk_X12_init_26 {t : List tc} {i0 : Nat} {i9 : Nat} {x9 : Nat × Nat × Nat} (h9 : sg t i9 = some x9) : sg (T_X12_init_26 t i0) i9 = some x9 := (sg_mR).trans (sgk_X12_init_25 h9)
theorem rfk_X12_init_26 {t : List tc} {i0 : Nat} {i9 k9 j9 : Nat} (hlt : i9 < t.length) (hne : i9 ≠ i0) (h9 : rf t i9 k9 = some j9) : rf (T_X12_init_26 t i0) i9 k9 = some j9 := (rf_mO (by omega)).trans (rfk_X12_init_25 hlt hne h9)
def T_X12_init_27 (t : List tc) (i0 : Nat) : List tc := (T_X12_init_26 t i0) ++ [ar 13 12]
theorem ln_X12_init_27 {t : List tc} {i0 : Nat} : (T_X12_init_27 t i0).length = t.length + 12 := by unfold T_X12_init_27; rw [List.length_append, ln_X12_init_26]; rfl
theorem sgk_X12_init_27 {t : List tc} {i0 : Nat} {i9 : Nat} {x9 : Nat × Nat × Nat} (h9 : sg t i9 = some x9) : sg (T_X12_init_27 t i0) i9 = some x9 := sg_app (sgk_X12_init_26 h9)
theorem rfk_X12_init_27 {t : List tc} {i0 : Nat} {i9 k9 j9 : Nat} (hlt : i9 < t.length) (hne : i9 ≠ i0) (h9 : rf t i9 k9 = some j9) : rf (T_X12_init_27 t i0) i9 k9 = some j9 := rf_app (rfk_X12_init_26 hlt hne h9)
def T_X12_init_28 (t : List tc) (i0 : Nat) : List tc := ((T_X12_init_27 t i0)).modify i0 (uR 23 (t.length + 11))
theorem ln_X12_init_28 {t : List tc} {i0 : Nat} : (T_X12_init_28 t i0).length = t.length + 12 := by unfold T_X12_init_28; rw [List.length_modify]; exact ln_X12_init_27
theorem sgk_X12_init_28 {t : List tc} {i0 : Nat} {i9 : Nat} {x9 : Nat × Nat × Nat} (h9 : sg t i9 = some x9) : sg (T_X12_init_28 t i0) i9 = some x9 := (sg_mR).trans (sgk_X12_init_27 h9)
theorem rfk_X12_init_28 {t : List tc} {i0 : Nat} {i9 k9 j9 : Nat} (hlt : i9 < t.length) (hne : i9 ≠ i0) (h9 : rf t i9 k9 = some j9) : rf (T_X12_init_28 t i0) i9 k9 = some j9 := (rf_mO (by omega)).trans (rfk_X12_init_27 hlt hne h9)
def T_X12_init_29 (t : List tc) (i0 : Nat) : List tc := (T_X12_init_28 t i0) ++ [ar 13 4]
theorem ln_X12_init_29 {t : List tc} {i0 : Nat} : (T_X12_init_29 t i0).length = t.length + 13 := by unfold T_X12_init_29; rw [List.length_append, ln_X12_init_28]; rfl
theorem sgk_X12_init_29 {t : List tc} {i0 : Nat} {i9 : Nat} {x9 : Nat × Nat × Nat} (h9 : sg t i9 = some x9) : sg (T_X12_init_29 t i0) i9 = some x9 := sg_app (sgk_X12_init_28 h9)
theorem rfk_X12_init_29 {t : List tc} {i0 : Nat} {i9 k9 j9 : Nat} (hlt : i9 < t.length) (hne : i9 ≠ i0) (h9 : rf t i9 k9 = some j9) : rf (T_X12_init_29 t i0) i9 k9 = some j9 := rf_app (rfk_X12_init_28 hlt hne h9)
def T_X12_init_30 (t : List tc) (i0 : Nat) : List tc := ((T_X12_init_29 t i0)).modify i0 (uR 28 (t.length + 12))
theorem ln_X12_init_30 {t : List tc} {i0 : Nat} : (T_X12_init_30 t i0).length = t.length + 13 := by unfold T_X12_init_30; rw [List.length_modify]; exact ln_X12_init_29
theorem sgk_X12_init_30 {t : List tc} {i0 : Nat} {i9 : Nat} {x9 : Nat × Nat × Nat} (h9 : sg t i9 = some x9) : sg (T_X12_init_30 t i0) i9 = some x9 := (sg_mR).trans (sgk_X12_init_29 h9)
theorem rfk_X12_init_30 {t : List tc} {i0 : Nat} {i9 k9 j9 : Nat} (hlt : i9 < t.length) (hne : i9 ≠ i0) (h9 : rf t i9 k9 = some j9) : rf (T_X12_init_30 t i0) i9 k9 = some j9 := (rf_mO (by omega)).trans (rfk_X12_init_29 hlt hne h9)
def T_X12_init_31 (t : List tc) (i0 : Nat) : List tc := (T_X12_init_30 t i0) ++ [ar 13 240]
theorem ln_X12_init_31 {t : List tc} {i0 : Nat} : (T_X12_init_31 t i0).length = t.length + 14 := by unfold T_X12_init_31; rw [List.length_append, ln_X12_init_30]; rfl
theorem sgk_X12_init_31 {t : List tc} {i0 : Nat} {i9 : Nat} {x9 : Nat × Nat × Nat} (h9 : sg t i9 = some x9) : sg (T_X12_init_31 t i0) i9 = some x9 := sg_app (sgk_X12_init_30 h9)
theorem rfk_X12_init_31 {t : List tc} {i0 : Nat} {i9 k9 j9 : Nat} (hlt : i9 < t.length) (hne : i9 ≠ i0) (h9 : rf t i9 k9 = some j9) : rf (T_X12_init_31 t i0) i9 k9 = some j9 := rf_app (rfk_X12_init_30 hlt hne h9)
def T_X12_init_32 (t : List tc) (i0 : Nat) : List tc := ((T_X12_init_31 t i0)).modify i0 (uR 29 (t.length + 13))
theorem ln_X12_init_32 {t : List tc} {i0 : Nat} : (T_X12_init_32 t i0).length = t.length + 14 := by unfold T_X12_init_32; rw [List.length_modify]; exact ln_X12_init_31
theorem sgk_X12_init_32 {t : List tc} {i0 : Nat} {i9 : Nat} {x9 : Nat × Nat × Nat} (h9 : sg t i9 = some x9) : sg (T_X12_init_32 t i0) i9 = some x9 := (sg_mR).trans (sgk_X12_init_31 h9)
theorem rfk_X12_init_32 {t : List tc} {i0 : Nat} {i9 k9 j9 : Nat} (hlt : i9 < t.length) (hne : i9 ≠ i0) (h9 : rf t i9 k9 = some j9) : rf (T_X12_init_32 t i0) i9 k9 = some j9 := (rf_mO (by omega)).trans (rfk_X12_init_31 hlt hne h9)
def T_X12_init_33 (t : List tc) (i0 : Nat) : List tc := (T_X12_init_32 t i0) ++ [ar 13 240]
theorem ln_X12_init_33 {t : List tc} {i0 : Nat} : (T_X12_init_33 t i0).length = t.length + 15 := by unfold T_X12_init_33; rw [List.length_append, ln_X12_init_32]; rfl
theorem sgk_X12_init_33 {t : List tc} {i0 : Nat} {i9 : Nat} {x9 : Nat × Nat × Nat} (h9 : sg t i9 = some x9) : sg (T_X12_init_33 t i0) i9 = some x9 := sg_app (sgk_X12_init_32 h9)
theorem rfk_X12_init_33 {t : List tc} {i0 : Nat} {i9 k9 j9 : Nat} (hlt : i9 < t.length) (hne : i9 ≠ i0) (h9 : rf t i9 k9 = some j9) : rf (T_X12_init_33 t i0) i9 k9 = some j9 := rf_app (rfk_X12_init_32 hlt hne h9)
def T_X12_init_34 (t : List tc) (i0 : Nat) : List tc := ((T_X12_init_33 t i0)).modify i0 (uR 30 (t.length + 14))
theorem ln_X12_init_34 {t : List tc} {i0 : Nat} : (T_X12_init_34 t i0).length = t.length + 15 := by unfold T_X12_init_34; rw [List.length_modify]; exact ln_X12_init_33
theorem sgk_X12_init_34 {t : List tc} {i0 : Nat} {i9 : Nat} {x9 : Nat × Nat × Nat} (h9 : sg t i9 = some x9) : sg (T_X12_init_34 t i0) i9 = some x9 := (sg_mR).trans (sgk_X12_init_33 h9)
theorem rfk_X12_init_34 {t : List tc} {i0 : Nat} {i9 k9 j9 : Nat} (hlt : i9 < t.length) (hne : i9 ≠ i0) (h9 : rf t i9 k9 = some j9) : rf (T_X12_init_34 t i0) i9 k9 = some j9 := (rf_mO (by omega)).trans (rfk_X12_init_33 hlt hne h9)
def T_X12_init_35 (t : List tc) (i0 : Nat) : List tc := (T_X12_init_34 t i0) ++ [ar 13 240]
theorem ln_X12_init_35 {t : List tc} {i0 : Nat} : (T_X12_init_35 t i0).length = t.length + 16 := by unfold T_X12_init_35; rw [List.length_append, ln_X12_init_34]; rfl
theorem sgk_X12_init_35 {t : List tc} {i0 : Nat} {i9 : Nat} {x9 : Nat × Nat × Nat} (h9 : sg t i9 = some x9) : sg (T_X12_init_35 t i0) i9 = some x9 := sg_app (sgk_X12_init_34 h9)
theorem rfk_X12_init_35 {t : List tc} {i0 : Nat} {i9 k9 j9 : Nat} (hlt : i9 < t.length) (hne : i9 ≠ i0) (h9 : rf t i9 k9 = some j9) : rf (T_X12_init_35 t i0) i9 k9 = some j9 := rf_app (rfk_X12_init_34 hlt hne h9)
def T_X12_init_36 (t : List tc) (i0 : Nat) : List tc := ((T_X12_init_35 t i0)).modify i0 (uR 31 (t.length + 15))
theorem ln_X12_init_36 {t : List tc} {i0 : Nat} : (T_X12_init_36 t i0).length = t.length + 16 := by unfold T_X12_init_36; rw [List.length_modify]; exact ln_X12_init_35
theorem sgk_X12_init_36 {t : List tc} {i0 : Nat} {i9 : Nat} {x9 : Nat × Nat × Nat} (h9 : sg t i9 = some x9) : sg (T_X12_init_36 t i0) i9 = some x9 := (sg_mR).trans (sgk_X12_init_35 h9)
theorem rfk_X12_init_36 {t : List tc} {i0 : Nat} {i9 k9 j9 : Nat} (hlt : i9 < t.length) (hne : i9 ≠ i0) (h9 : rf t i9 k9 = some j9) : rf (T_X12_init_36 t i0) i9 k9 = some j9 := (rf_mO (by omega)).trans (rfk_X12_init_35 hlt hne h9)
def T_X12_init_37 (t : List tc) (i0 : Nat) : List tc := (T_X12_init_36 t i0) ++ [ar 13 2000]
theorem ln_X12_init_37 {t : List tc} {i0 : Nat} : (T_X12_init_37 t i0).length = t.length + 17 := by unfold T_X12_init_37; rw [List.length_append, ln_X12_init_36]; rfl
theorem sgk_X12_init_37 {t : List tc} {i0 : Nat} {i9 : Nat} {x9 : Nat × Nat × Nat} (h9 : sg t i9 = some x9) : sg (T_X12_init_37 t i0) i9 = some x9 := sg_app (sgk_X12_init_36 h9)
theorem rfk_X12_init_37 {t : List tc} {i0 : Nat} {i9 k9 j9 : Nat} (hlt : i9 < t.length) (hne : i9 ≠ i0) (h9 : rf t i9 k9 = some j9) : rf (T_X12_init_37 t i0) i9 k9 = some j9 := rf_app (rfk_X12_init_36 hlt hne h9)
def T_X12_init_38 (t : List tc) (i0 : Nat) : List tc := ((T_X12_init_37 t i0)).modify i0 (uR 32 (t.length + 16))
theorem ln_X12_init_38 {t : List tc} {i0 : Nat} : (T_X12_init_38 t i0).length = t.length + 17 := by unfold T_X12_init_38; rw [List.length_modify]; exact ln_X12_init_37
theorem sgk_X12_init_38 {t : List tc} {i0 : Nat} {i9 : Nat} {x9 : Nat × Nat × Nat} (h9 : sg t i9 = some x9) : sg (T_X12_init_38 t i0) i9 = some x9 := (sg_mR).trans (sgk_X12_init_37 h9)
theorem rfk_X12_init_38 {t : List tc} {i0 : Nat} {i9 k9 j9 : Nat} (hlt : i9 < t.length) (hne : i9 ≠ i0) (h9 : rf t i9 k9 = some j9) : rf (T_X12_init_38 t i0) i9 k9 = some j9 := (rf_mO (by omega)).trans (rfk_X12_init_37 hlt hne h9)
def T_X12_init_39 (t : List tc) (i0 : Nat) : List tc := (T_X12_init_38 t i0) ++ [ar 13 2000]
theorem ln_X12_init_39 {t : List tc} {i0 : Nat} : (T_X12_init_39 t i0).length = t.length + 18 := by unfold T_X12_init_39; rw [List.length_append, ln_X12_init_38]; rfl
theorem sgk_X12_init_39 {t : List tc} {i0 : Nat} {i9 : Nat} {x9 : Nat × Nat × Nat} (h9 : sg t i9 = some x9) : sg (T_X12_init_39 t i0) i9 = some x9 := sg_app (sgk_X12_init_38 h9)
theorem rfk_X12_init_39 {t : List tc} {i0 : Nat} {i9 k9 j9 : Nat} (hlt : i9 < t.length) (hne : i9 ≠ i0) (h9 : rf t i9 k9 = some j9) : rf (T_X12_init_39 t i0) i9 k9 = some j9 := rf_app (rfk_X12_init_38 hlt hne h9)
def T_X12_init_40 (t : List tc) (i0 : Nat) : List tc := ((T_X12_init_39 t i0)).modify i0 (uR 33 (t.length + 17))
theorem ln_X12_init_40 {t : List tc} {i0 : Nat} : (T_X12_init_40 t i0).length = t.length + 18 := by unfold T_X12_init_40; rw [List.length_modify]; exact ln_X12_init_39
theorem sgk_X12_init_40 {t : List tc} {i0 : Nat} {i9 : Nat} {x9 : Nat × Nat × Nat} (h9 : sg t i9 = some x9) : sg (T_X12_init_40 t i0) i9 = some x9 := (sg_mR).trans (sgk_X12_init_39 h9)
theorem rfk_X12_init_40 {t : List tc} {i0 : Nat} {i9 k9 j9 : Nat} (hlt : i9 < t.length) (hne : i9 ≠ i0) (h9 : rf t i9 k9 = some j9) : rf (T_X12_init_40 t i0) i9 k9 = some j9 := (rf_mO (by omega)).trans (rfk_X12_init_39 hlt hne h9)
def T_X12_init_41 (t : List tc) (i0 : Nat) : List tc := (T_X12_init_40 t i0) ++ [ar 13 500]
theorem ln_X12_init_41 {t : List tc} {i0 : Nat} : (T_X12_init_41 t i0).length = t.length + 19 := by unfold T_X12_init_41; rw [List.length_append, ln_X12_init_40]; rfl
theorem sgk_X12_init_41 {t : List tc} {i0 : Nat} {i9 : Nat} {x9 : Nat × Nat × Nat} (h9 : sg t i9 = some x9) : sg (T_X12_init_41 t i0) i9 = some x9 := sg_app (sgk_X12_init_40 h9)
theorem rfk_X12_init_41 {t : List tc} {i0 : Nat} {i9 k9 j9 : Nat} (hlt : i9 < t.length) (hne : i9 ≠ i0) (h9 : rf t i9 k9 = some j9) : rf (T_X12_init_41 t i0) i9 k9 = some j9 := rf_app (rfk_X12_init_40 hlt hne h9)
def T_X12_init_42 (t : List tc) (i0 : Nat) : List tc := ((T_X12_init_41 t i0)).modify i0 (uR 34 (t.length + 18))
theorem ln_X12_init_42 {t : List tc} {i0 : Nat} : (T_X12_init_42 t i0).length = t.length + 19 := by unfold T_X12_init_42; rw [List.length_modify]; exact ln_X12_init_41
theorem sgk_X12_init_42 {t : List tc} {i0 : Nat} {i9 : Nat} {x9 : Nat × Nat × Nat} (h9 : sg t i9 = some x9) : sg (T_X12_init_42 t i0) i9 = some x9 := (sg_mR).trans (sgk_X12_init_41 h9)
theorem rfk_X12_init_42 {t : List tc} {i0 : Nat} {i9 k9 j9 : Nat} (hlt : i9 < t.length) (hne : i9 ≠ i0) (h9 : rf t i9 k9 = some j9) : rf (T_X12_init_42 t i0) i9 k9 = some j9 := (rf_mO (by omega)).trans (rfk_X12_init_41 hlt hne h9)
def T_X12_init_43 (t : List tc) (i0 : Nat) : List tc := (T_X12_init_42 t i0) ++ [ar 13 14000]
theorem ln_X12_init_43 {t : List tc} {i0 : Nat} : (T_X12_init_43 t i0).length = t.length + 20 := by unfold T_X12_init_43; rw [List.length_append, ln_X12_init_42]; rfl
theorem sgk_X12_init_43 {t : List tc} {i0 : Nat} {i9 : Nat} {x9 : Nat × Nat × Nat} (h9 : sg t i9 = some x9) : sg (T_X12_init_43 t i0) i9 = some x9 := sg_app (sgk_X12_init_42 h9)
theorem rfk_X12_init_43 {t : List tc} {i0 : Nat} {i9 k9 j9 : Nat} (hlt : i9 < t.length) (hne : i9 ≠ i0) (h9 : rf t i9 k9 = some j9) : rf (T_X12_init_43 t i0) i9 k9 = some j9 := rf_app (rfk_X12_init_42 hlt hne h9)
def T_X12_init_44 (t : List tc) (i0 : Nat) : List tc := ((T_X12_init_43 t i0)).modify i0 (uR 35 (t.length + 19))
theorem ln_X12_init_44 {t : List tc} {i0 : Nat} : (T_X12_init_44 t i0).length = t.length + 20 := by unfold T_X12_init_44; rw [List.length_modify]; exact ln_X12_init_43
theorem sgk_X12_init_44 {t : List tc} {i0 : Nat} {i9 : Nat} {x9 : Nat × Nat × Nat} (h9 : sg t i9 = some x9) : sg (T_X12_init_44 t i0) i9 = some x9 := (sg_mR).trans (sgk_X12_init_43 h9)
theorem rfk_X12_init_44 {t : List tc} {i0 : Nat} {i9 k9 j9 : Nat} (hlt : i9 < t.length) (hne : i9 ≠ i0) (h9 : rf t i9 k9 = some j9) : rf (T_X12_init_44 t i0) i9 k9 = some j9 := (rf_mO (by omega)).trans (rfk_X12_init_43 hlt hne h9)
def T_X12_init_45 (t : List tc) (i0 : Nat) : List tc := (T_X12_init_44 t i0) ++ [ar 13 16]
theorem ln_X12_init_45 {t : List tc} {i0 : Nat} : (T_X12_init_45 t i0).length = t.length + 21 := by unfold T_X12_init_45; rw [List.length_append, ln_X12_init_44]; rfl
theorem sgk_X12_init_45 {t : List tc} {i0 : Nat} {i9 : Nat} {x9 : Nat × Nat × Nat} (h9 : sg t i9 = some x9) : sg (T_X12_init_45 t i0) i9 = some x9 := sg_app (sgk_X12_init_44 h9)
theorem rfk_X12_init_45 {t : List tc} {i0 : Nat} {i9 k9 j9 : Nat} (hlt : i9 < t.length) (hne : i9 ≠ i0) (h9 : rf t i9 k9 = some j9) : rf (T_X12_init_45 t i0) i9 k9 = some j9 := rf_app (rfk_X12_init_44 hlt hne h9)
def T_X12_init_46 (t : List tc) (i0 : Nat) : List tc := ((T_X12_init_45 t i0)).modify i0 (uR 41 (t.length + 20))
theorem ln_X12_init_46 {t : List tc} {i0 : Nat} : (T_X12_init_46 t i0).length = t.length + 21 := by unfold T_X12_init_46; rw [List.length_modify]; exact ln_X12_init_45
theorem sgk_X12_init_46 {t : List tc} {i0 : Nat} {i9 : Nat} {x9 : Nat × Nat × Nat} (h9 : sg t i9 = some x9) : sg (T_X12_init_46 t i0) i9 = some x9 := (sg_mR).trans (sgk_X12_init_45 h9)
theorem rfk_X12_init_46 {t : List tc} {i0 : Nat} {i9 k9 j9 : Nat} (hlt : i9 < t.length) (hne : i9 ≠ i0) (h9 : rf t i9 k9 = some j9) : rf (T_X12_init_46 t i0) i9 k9 = some j9 := (rf_mO (by omega)).trans (rfk_X12_init_45 hlt hne h9)
def T_X12_init_47 (t : List tc) (i0 : Nat) : List tc := (T_X12_init_46 t i0) ++ [ar 13 16]
theorem ln_X12_init_47 {t : List tc} {i0 : Nat} : (T_X12_init_47 t i0).length = t.length + 22 := by unfold T_X12_init_47; rw [List.length_append, ln_X12_init_46]; rfl
theorem sgk_X12_init_47 {t : List tc} {i0 : Nat} {i9 : Nat} {x9 : Nat × Nat × Nat} (h9 : sg t i9 = some x9) : sg (T_X12_init_47 t i0) i9 = some x9 := sg_app (sgk_X12_init_46 h9)
theorem rfk_X12_init_47 {t : List tc} {i0 : Nat} {i9 k9 j9 : Nat} (hlt : i9 < t.length) (hne : i9 ≠ i0) (h9 : rf t i9 k9 = some j9) : rf (T_X12_init_47 t i0) i9 k9 = some j9 := rf_app (rfk_X12_init_46 hlt hne h9)
def T_X12_init_48 (t : List tc) (i0 : Nat) : List tc := ((T_X12_init_47 t i0)).modify i0 (uR 42 (t.length + 21))
theorem ln_X12_init_48 {t : List tc} {i0 : Nat} : (T_X12_init_48 t i0).length = t.length + 22 := by unfold T_X12_init_48; rw [List.length_modify]; exact ln_X12_init_47
theorem sgk_X12_init_48 {t : List tc} {i0 : Nat} {i9 : Nat} {x9 : Nat × Nat × Nat} (h9 : sg t i9 = some x9) : sg (T_X12_init_48 t i0) i9 = some x9 := (sg_mR).trans (sgk_X12_init_47 h9)
theorem rfk_X12_init_48 {t : List tc} {i0 : Nat} {i9 k9 j9 : Nat} (hlt : i9 < t.length) (hne : i9 ≠ i0) (h9 : rf t i9 k9 = some j9) : rf (T_X12_init_48 t i0) i9 k9 = some j9 := (rf_mO (by omega)).trans (rfk_X12_init_47 hlt hne h9)
def T_X12_init_49 (t : List tc) (i0 : Nat) : List tc := (T_X12_init_48 t i0) ++ [ar 13 458752]
theorem ln_X12_init_49 {t : List tc} {i0 : Nat} : (T_X12_init_49 t i0).length = t.length + 23 := by unfold T_X12_init_49; rw [List.length_append, ln_X12_init_48]; rfl
theorem sgk_X12_init_49 {t : List tc} {i0 : Nat} {i9 : Nat} {x9 : Nat × Nat × Nat} (h9 : sg t i9 = some x9) : sg (T_X12_init_49 t i0) i9 = some x9 := sg_app (sgk_X12_init_48 h9)
theorem rfk_X12_init_49 {t : List tc} {i0 : Nat} {i9 k9 j9 : Nat} (hlt : i9 < t.length) (hne : i9 ≠ i0) (h9 : rf t i9 k9 = some j9) : rf (T_X12_init_49 t i0) i9 k9 = some j9 := rf_app (rfk_X12_init_48 hlt hne h9)
def T_X12_init_50 (t : List tc) (i0 : Nat) : List tc := ((T_X12_init_49 t i0)).modify i0 (uR 43 (t.length + 22))
theorem ln_X12_init_50 {t : List tc} {i0 : Nat} : (T_X12_init_50 t i0).length = t.length + 23 := by unfold T_X12_init_50; rw [List.length_modify]; exact ln_X12_init_49
theorem sgk_X12_init_50 {t : List tc} {i0 : Nat} {i9 : Nat} {x9 : Nat × Nat × Nat} (h9 : sg t i9 = some x9) : sg (T_X12_init_50 t i0) i9 = some x9 := (sg_mR).trans (sgk_X12_init_49 h9)
theorem rfk_X12_init_50 {t : List tc} {i0 : Nat} {i9 k9 j9 : Nat} (hlt : i9 < t.length) (hne : i9 ≠ i0) (h9 : rf t i9 k9 = some j9) : rf (T_X12_init_50 t i0) i9 k9 = some j9 := (rf_mO (by omega)).trans (rfk_X12_init_49 hlt hne h9)
def T_X12_init_51 (t : List tc) (i0 : Nat) : List tc := (T_X12_init_50 t i0) ++ [ar 13 6]
theorem ln_X12_init_51 {t : List tc} {i0 : Nat} : (T_X12_init_51 t i0).length = t.length + 24 := by unfold T_X12_init_51; rw [List.length_append, ln_X12_init_50]; rfl
theorem sgk_X12_init_51 {t : List tc} {i0 : Nat} {i9 : Nat} {x9 : Nat × Nat × Nat} (h9 : sg t i9 = some x9) : sg (T_X12_init_51 t i0) i9 = some x9 := sg_app (sgk_X12_init_50 h9)
theorem rfk_X12_init_51 {t : List tc} {i0 : Nat} {i9 k9 j9 : Nat} (hlt : i9 < t.length) (hne : i9 ≠ i0) (h9 : rf t i9 k9 = some j9) : rf (T_X12_init_51 t i0) i9 k9 = some j9 := rf_app (rfk_X12_init_50 hlt hne h9)
def T_X12_init_52 (t : List tc) (i0 : Nat) : List tc := ((T_X12_init_51 t i0)).modify i0 (uR 44 (t.length + 23))
theorem ln_X12_init_52 {t : List tc} {i0 : Nat} : (T_X12_init_52 t i0).length = t.length + 24 := by unfold T_X12_init_52; rw [List.length_modify]; exact ln_X12_init_51
theorem sgk_X12_init_52 {t : List tc} {i0 : Nat} {i9 : Nat} {x9 : Nat × Nat × Nat} (h9 : sg t i9 = some x9) : sg (T_X12_init_52 t i0) i9 = some x9 := (sg_mR).trans (sgk_X12_init_51 h9)
theorem rfk_X12_init_52 {t : List tc} {i0 : Nat} {i9 k9 j9 : Nat} (hlt : i9 < t.length) (hne : i9 ≠ i0) (h9 : rf t i9 k9 = some j9) : rf (T_X12_init_52 t i0) i9 k9 = some j9 := (rf_mO (by omega)).trans (rfk_X12_init_51 hlt hne h9)
def T_X12_init_53 (t : List tc) (i0 : Nat) : List tc := (T_X12_init_52 t i0) ++ [ar 13 2000]
theorem ln_X12_init_53 {t : List tc} {i0 : Nat} : (T_X12_init_53 t i0).length = t.length + 25 := by unfold T_X12_init_53; rw [List.length_append, ln_X12_init_52]; rfl
theorem sgk_X12_init_53 {t : List tc} {i0 : Nat} {i9 : Nat} {x9 : Nat × Nat × Nat} (h9 : sg t i9 = some x9) : sg (T_X12_init_53 t i0) i9 = some x9 := sg_app (sgk_X12_init_52 h9)
theorem rfk_X12_init_53 {t : List tc} {i0 : Nat} {i9 k9 j9 : Nat} (hlt : i9 < t.length) (hne : i9 ≠ i0) (h9 : rf t i9 k9 = some j9) : rf (T_X12_init_53 t i0) i9 k9 = some j9 := rf_app (rfk_X12_init_52 hlt hne h9)
def T_X12_init_54 (t : List tc) (i0 : Nat) : List tc := ((T_X12_init_53 t i0)).modify i0 (uR 46 (t.length + 24))
theorem ln_X12_init_54 {t : List tc} {i0 : Nat} : (T_X12_init_54 t i0).length = t.length + 25 := by unfold T_X12_init_54; rw [List.length_modify]; exact ln_X12_init_53
theorem sgk_X12_init_54 {t : List tc} {i0 : Nat} {i9 : Nat} {x9 : Nat × Nat × Nat} (h9 : sg t i9 = some x9) : sg (T_X12_init_54 t i0) i9 = some x9 := (sg_mR).trans (sgk_X12_init_53 h9)
theorem rfk_X12_init_54 {t : List tc} {i0 : Nat} {i9 k9 j9 : Nat} (hlt : i9 < t.length) (hne : i9 ≠ i0) (h9 : rf t i9 k9 = some j9) : rf (T_X12_init_54 t i0) i9 k9 = some j9 := (rf_mO (by omega)).trans (rfk_X12_init_53 hlt hne h9)
def T_X12_init_55 (t : List tc) (i0 : Nat) : List tc := (T_X12_init_54 t i0) ++ [ar 13 2000]
theorem ln_X12_init_55 {t : List tc} {i0 : Nat} : (T_X12_init_55 t i0).length = t.length + 26 := by unfold T_X12_init_55; rw [List.length_append, ln_X12_init_54]; rfl
theorem sgk_X12_init_55 {t : List tc} {i0 : Nat} {i9 : Nat} {x9 : Nat × Nat × Nat} (h9 : sg t i9 = some x9) : sg (T_X12_init_55 t i0) i9 = some x9 := sg_app (sgk_X12_init_54 h9)
theorem rfk_X12_init_55 {t : List tc} {i0 : Nat} {i9 k9 j9 : Nat} (hlt : i9 < t.length) (hne : i9 ≠ i0) (h9 : rf t i9 k9 = some j9) : rf (T_X12_init_55 t i0) i9 k9 = some j9 := rf_app (rfk_X12_init_54 hlt hne h9)
def T_X12_init_56 (t : List tc) (i0 : Nat) : List tc := ((T_X12_init_55 t i0)).modify i0 (uR 48 (t.length + 25))
theorem ln_X12_init_56 {t : List tc} {i0 : Nat} : (T_X12_init_56 t i0).length = t.length + 26 := by unfold T_X12_init_56; rw [List.length_modify]; exact ln_X12_init_55
theorem sgk_X12_init_56 {t : List tc} {i0 : Nat} {i9 : Nat} {x9 : Nat × Nat × Nat} (h9 : sg t i9 = some x9) : sg (T_X12_init_56 t i0) i9 = some x9 := (sg_mR).trans (sgk_X12_init_55 h9)
theorem rfk_X12_init_56 {t : List tc} {i0 : Nat} {i9 k9 j9 : Nat} (hlt : i9 < t.length) (hne : i9 ≠ i0) (h9 : rf t i9 k9 = some j9) : rf (T_X12_init_56 t i0) i9 k9 = some j9 := (rf_mO (by omega)).trans (rfk_X12_init_55 hlt hne h9)
def T_X12_init_57 (t : List tc) (i0 : Nat) : List tc := (T_X12_init_56 t i0) ++ [ar 13 4]
theorem ln_X12_init_57 {t : List tc} {i0 : Nat} : (T_X12_init_57 t i0).length = t.length + 27 := by unfold T_X12_init_57; rw [List.length_append, ln_X12_init_56]; rfl
theorem sgk_X12_init_57 {t : List tc} {i0 : Nat} {i9 : Nat} {x9 : Nat × Nat × Nat} (h9 : sg t i9 = some x9) : sg (T_X12_init_57 t i0) i9 = some x9 := sg_app (sgk_X12_init_56 h9)
theorem rfk_X12_init_57 {t : List tc} {i0 : Nat} {i9 k9 j9 : Nat} (hlt : i9 < t.length) (hne : i9 ≠ i0) (h9 : rf t i9 k9 = some j9) : rf (T_X12_init_57 t i0) i9 k9 = some j9 := rf_app (rfk_X12_init_56 hlt hne h9)
def T_X12_init_58 (t : List tc) (i0 : Nat) : List tc := ((T_X12_init_57 t i0)).modify i0 (uR 57 (t.length + 26))
theorem ln_X12_init_58 {t : List tc} {i0 : Nat} : (T_X12_init_58 t i0).length = t.length + 27 := by unfold T_X12_init_58; rw [List.length_modify]; exact ln_X12_init_57
theorem sgk_X12_init_58 {t : List tc} {i0 : Nat} {i9 : Nat} {x9 : Nat × Nat × Nat} (h9 : sg t i9 = some x9) : sg (T_X12_init_58 t i0) i9 = some x9 := (sg_mR).trans (sgk_X12_init_57 h9)
theorem rfk_X12_init_58 {t : List tc} {i0 : Nat} {i9 k9 j9 : Nat} (hlt : i9 < t.length) (hne : i9 ≠ i0) (h9 : rf t i9 k9 = some j9) : rf (T_X12_init_58 t i0) i9 k9 = some j9 := (rf_mO (by omega)).trans (rfk_X12_init_57 hlt hne h9)
abbrev T_X12_init (t : List tc) (i0 : Nat) : List tc := T_X12_init_58 t i0
theorem ln_X12_init {t : List tc} {i0 : Nat} : (T_X12_init t i0).length = t.length + 27 := ln_X12_init_58
theorem sgk_X12_init {t : List tc} {i0 : Nat} {i9 : Nat} {x9 : Nat × Nat × Nat} (h9 : sg t i9 = some x9) : sg (T_X12_init t i0) i9 = some x9 := sgk_X12_init_58 h9
theorem rfk_X12_init {t : List tc} {i0 : Nat} {i9 k9 j9 : Nat} (hlt : i9 < t.length) (hne : i9 ≠ i0) (h9 : rf t i9 k9 = some j9) : rf (T_X12_init t i0) i9 k9 = some j9 := rfk_X12_init_58 hlt hne h9
set_option maxHeartbeats 4000000 in
set_option maxRecDepth 100000 in
theorem i_X12_init {l : Launch} {D : va_G} {cy : Nat → ClassId} {d : Nat} {t : List tc} {ad : List Nat} {h : hp} (hl : l.stackTraces = false) (hd : 1 ≤ d) (L : Lay t ad h) {i0 a0 : Nat} (A0 : ad[i0]? = some a0) (G0 : sg t i0 = some (12, 60, 60)) : Cal l D cy m_X12_init d 27 546553 [.ref a0] h (inP (T_X12_init t i0) ad) (fun _ _ => False) := by
  refine Cal.of (by decide +kernel) (Nat.le_of_ble_eq_true rfl) hl ?_
  have p : Pre ad ad := Pre.rf
  have hl0 := L.lt A0
  refine a_aload_n 0 0 (μ := m_X12_init) (pc := 0) dX12_init_0 rfl rfl ?_
  refine a_objI (μ := m_X12_init) (pc := 1) dX12_init_1 oi_X12_11 oi_i oi_c (Nat.le_of_ble_eq_true rfl) (by omega) ?_
  refine a_aload_n 0 0 (μ := m_X12_init) (pc := 4) dX12_init_4 rfl rfl ?_
  refine a_iconst (v := 3) (μ := m_X12_init) (pc := 5) dX12_init_5 (by decide) ?_
  refine t_newI t.length L rfl 0 3 (ty := .int) (rc' := 26) (rs' := 546550) (μ := m_X12_init) (pc := 6) dX12_init_6 rfl (by decide) ac_0 (by decide) (by decide) (by decide) (by decide) (by decide) (fun q1 ad1 h1 p1 A_2 L1 => ?_)
  replace L : Lay (T_X12_init_1 t i0) ad1 h1 := L1
  replace p := Pre.tr p p1
  have A_3 := p1 _ _ A0
  have G_4 : sg (T_X12_init_1 t i0) i0 = some (12, 60, 60) := sg_app G0
  clear L1 p1
  refine t_putF L (i := i0) (j := t.length) (μ := m_X12_init) (pc := 8) dX12_init_8 fl_X12_7 pf_X12_7 flF_12_1 rfl ir_12_1 id_12_1 rfl rfl G_4 A_3 (by decide) A_2 (fun h1 L1 => ?_)
  replace L : Lay (T_X12_init_2 t i0) _ h1 := L1
  have G_5 : sg (T_X12_init_2 t i0) i0 = some (12, 60, 60) := sg_mR.trans G_4
  have R_6 : rf (T_X12_init_2 t i0) i0 1 = some t.length := rf_mS G_4 (by decide)
  clear L1
  refine a_aload_n 0 0 (μ := m_X12_init) (pc := 11) dX12_init_11 rfl rfl ?_
  refine a_iconst (v := (-1)) (μ := m_X12_init) (pc := 12) dX12_init_12 (by decide) ?_
  refine t_putI L (i := i0) (μ := m_X12_init) (pc := 13) dX12_init_13 fl_X12_17 flw_12_8 (by decide) (by decide) ir_12_8 G_5 A_3 (by decide) (fun h1 L1 => ?_)
  replace L : Lay (T_X12_init_3 t i0) _ h1 := L1
  have G_7 : sg (T_X12_init_3 t i0) i0 = some (12, 60, 60) := sg_mI.trans G_5
  clear L1
  refine a_aload_n 0 0 (μ := m_X12_init) (pc := 16) dX12_init_16 rfl rfl ?_
  refine a_sipush (v := 500) (μ := m_X12_init) (pc := 17) dX12_init_17 (by decide) ?_
  refine t_newI (t.length + 1) L ln_X12_init_3 0 500 (ty := .int) (rc' := 25) (rs' := 546050) (μ := m_X12_init) (pc := 20) dX12_init_20 rfl (by decide) ac_0 (by decide) (by decide) (by decide) (by decide) (by decide) (fun q8 ad1 h1 p1 A_9 L1 => ?_)
  replace L : Lay (T_X12_init_4 t i0) ad1 h1 := L1
  replace p := Pre.tr p p1
  have A_10 := p1 _ _ A_3
  have G_11 : sg (T_X12_init_4 t i0) i0 = some (12, 60, 60) := sg_app G_7
  clear L1 p1
  refine t_putF L (i := i0) (j := (t.length + 1)) (μ := m_X12_init) (pc := 22) dX12_init_22 fl_X12_20 pf_X12_20 flF_12_9 rfl ir_12_9 id_12_9 rfl rfl G_11 A_10 (by decide) A_9 (fun h1 L1 => ?_)
  replace L : Lay (T_X12_init_5 t i0) _ h1 := L1
  have G_12 : sg (T_X12_init_5 t i0) i0 = some (12, 60, 60) := sg_mR.trans G_11
  have R_13 : rf (T_X12_init_5 t i0) i0 9 = some (t.length + 1) := rf_mS G_11 (by decide)
  clear L1
  refine a_aload_n 0 0 (μ := m_X12_init) (pc := 25) dX12_init_25 rfl rfl ?_
  refine a_bipush (v := 8) (μ := m_X12_init) (pc := 26) dX12_init_26 (by decide) ?_
  refine t_putI L (i := i0) (μ := m_X12_init) (pc := 28) dX12_init_28 fl_X12_23 flw_12_10 (by decide) (by decide) ir_12_10 G_12 A_10 (by decide) (fun h1 L1 => ?_)
  replace L : Lay (T_X12_init_6 t i0) _ h1 := L1
  have G_14 : sg (T_X12_init_6 t i0) i0 = some (12, 60, 60) := sg_mI.trans G_12
  clear L1
  refine a_aload_n 0 0 (μ := m_X12_init) (pc := 31) dX12_init_31 rfl rfl ?_
  refine a_iconst (v := 1) (μ := m_X12_init) (pc := 32) dX12_init_32 (by decide) ?_
  refine t_putI L (i := i0) (μ := m_X12_init) (pc := 33) dX12_init_33 fl_X12_26 flw_12_11 (by decide) (by decide) ir_12_11 G_14 A_10 (by decide) (fun h1 L1 => ?_)
  replace L : Lay (T_X12_init_7 t i0) _ h1 := L1
  have G_15 : sg (T_X12_init_7 t i0) i0 = some (12, 60, 60) := sg_mI.trans G_14
  clear L1
  refine a_aload_n 0 0 (μ := m_X12_init) (pc := 36) dX12_init_36 rfl rfl ?_
  refine a_iconst (v := 1) (μ := m_X12_init) (pc := 37) dX12_init_37 (by decide) ?_
  refine t_putI L (i := i0) (μ := m_X12_init) (pc := 38) dX12_init_38 fl_X12_29 flw_12_12 (by decide) (by decide) ir_12_12 G_15 A_10 (by decide) (fun h1 L1 => ?_)
  replace L : Lay (T_X12_init_8 t i0) _ h1 := L1
  have G_16 : sg (T_X12_init_8 t i0) i0 = some (12, 60, 60) := sg_mI.trans G_15
  clear L1
  refine a_aload_n 0 0 (μ := m_X12_init) (pc := 41) dX12_init_41 rfl rfl ?_
  refine a_sipush (v := 8000) (μ := m_X12_init) (pc := 42) dX12_init_42 (by decide) ?_
  refine t_newI (t.length + 2) L ln_X12_init_8 0 8000 (ty := .int) (rc' := 24) (rs' := 538050) (μ := m_X12_init) (pc := 45) dX12_init_45 rfl (by decide) ac_0 (by decide) (by decide) (by decide) (by decide) (by decide) (fun q17 ad1 h1 p1 A_18 L1 => ?_)
  replace L : Lay (T_X12_init_9 t i0) ad1 h1 := L1
  replace p := Pre.tr p p1
  have A_19 := p1 _ _ A_10
  have G_20 : sg (T_X12_init_9 t i0) i0 = some (12, 60, 60) := sg_app G_16
  clear L1 p1
  refine t_putF L (i := i0) (j := (t.length + 2)) (μ := m_X12_init) (pc := 47) dX12_init_47 fl_X12_33 pf_X12_33 flF_12_13 rfl ir_12_13 id_12_13 rfl rfl G_20 A_19 (by decide) A_18 (fun h1 L1 => ?_)
  replace L : Lay (T_X12_init_10 t i0) _ h1 := L1
  have G_21 : sg (T_X12_init_10 t i0) i0 = some (12, 60, 60) := sg_mR.trans G_20
  have R_22 : rf (T_X12_init_10 t i0) i0 13 = some (t.length + 2) := rf_mS G_20 (by decide)
  clear L1
  refine a_aload_n 0 0 (μ := m_X12_init) (pc := 50) dX12_init_50 rfl rfl ?_
  refine a_iconst (v := 4) (μ := m_X12_init) (pc := 51) dX12_init_51 (by decide) ?_
  refine t_newI (t.length + 3) L ln_X12_init_10 0 4 (ty := .int) (rc' := 23) (rs' := 538046) (μ := m_X12_init) (pc := 52) dX12_init_52 rfl (by decide) ac_0 (by decide) (by decide) (by decide) (by decide) (by decide) (fun q23 ad1 h1 p1 A_24 L1 => ?_)
  replace L : Lay (T_X12_init_11 t i0) ad1 h1 := L1
  replace p := Pre.tr p p1
  have A_25 := p1 _ _ A_19
  have G_26 : sg (T_X12_init_11 t i0) i0 = some (12, 60, 60) := sg_app G_21
  clear L1 p1
  refine t_putF L (i := i0) (j := (t.length + 3)) (μ := m_X12_init) (pc := 54) dX12_init_54 fl_X12_36 pf_X12_36 flF_12_14 rfl ir_12_14 id_12_14 rfl rfl G_26 A_25 (by decide) A_24 (fun h1 L1 => ?_)
  replace L : Lay (T_X12_init_12 t i0) _ h1 := L1
  have G_27 : sg (T_X12_init_12 t i0) i0 = some (12, 60, 60) := sg_mR.trans G_26
  have R_28 : rf (T_X12_init_12 t i0) i0 14 = some (t.length + 3) := rf_mS G_26 (by decide)
  clear L1
  refine a_aload_n 0 0 (μ := m_X12_init) (pc := 57) dX12_init_57 rfl rfl ?_
  refine a_sipush (v := 4000) (μ := m_X12_init) (pc := 58) dX12_init_58 (by decide) ?_
  refine t_newI (t.length + 4) L ln_X12_init_12 0 4000 (ty := .int) (rc' := 22) (rs' := 534046) (μ := m_X12_init) (pc := 61) dX12_init_61 rfl (by decide) ac_0 (by decide) (by decide) (by decide) (by decide) (by decide) (fun q29 ad1 h1 p1 A_30 L1 => ?_)
  replace L : Lay (T_X12_init_13 t i0) ad1 h1 := L1
  replace p := Pre.tr p p1
  have A_31 := p1 _ _ A_25
  have G_32 : sg (T_X12_init_13 t i0) i0 = some (12, 60, 60) := sg_app G_27
  clear L1 p1
  refine t_putF L (i := i0) (j := (t.length + 4)) (μ := m_X12_init) (pc := 63) dX12_init_63 fl_X12_39 pf_X12_39 flF_12_15 rfl ir_12_15 id_12_15 rfl rfl G_32 A_31 (by decide) A_30 (fun h1 L1 => ?_)
  replace L : Lay (T_X12_init_14 t i0) _ h1 := L1
  have G_33 : sg (T_X12_init_14 t i0) i0 = some (12, 60, 60) := sg_mR.trans G_32
  have R_34 : rf (T_X12_init_14 t i0) i0 15 = some (t.length + 4) := rf_mS G_32 (by decide)
  clear L1
  refine a_aload_n 0 0 (μ := m_X12_init) (pc := 66) dX12_init_66 rfl rfl ?_
  refine a_sipush (v := 4000) (μ := m_X12_init) (pc := 67) dX12_init_67 (by decide) ?_
  refine t_newI (t.length + 5) L ln_X12_init_14 0 4000 (ty := .int) (rc' := 21) (rs' := 530046) (μ := m_X12_init) (pc := 70) dX12_init_70 rfl (by decide) ac_0 (by decide) (by decide) (by decide) (by decide) (by decide) (fun q35 ad1 h1 p1 A_36 L1 => ?_)
  replace L : Lay (T_X12_init_15 t i0) ad1 h1 := L1
  replace p := Pre.tr p p1
  have A_37 := p1 _ _ A_31
  have G_38 : sg (T_X12_init_15 t i0) i0 = some (12, 60, 60) := sg_app G_33
  clear L1 p1
  refine t_putF L (i := i0) (j := (t.length + 5)) (μ := m_X12_init) (pc := 72) dX12_init_72 fl_X12_42 pf_X12_42 flF_12_16 rfl ir_12_16 id_12_16 rfl rfl G_38 A_37 (by decide) A_36 (fun h1 L1 => ?_)
  replace L : Lay (T_X12_init_16 t i0) _ h1 := L1
  have G_39 : sg (T_X12_init_16 t i0) i0 = some (12, 60, 60) := sg_mR.trans G_38
  have R_40 : rf (T_X12_init_16 t i0) i0 16 = some (t.length + 5) := rf_mS G_38 (by decide)
  clear L1
  refine a_aload_n 0 0 (μ := m_X12_init) (pc := 75) dX12_init_75 rfl rfl ?_
  refine a_iconst (v := 4) (μ := m_X12_init) (pc := 76) dX12_init_76 (by decide) ?_
  refine t_newI (t.length + 6) L ln_X12_init_16 0 4 (ty := .int) (rc' := 20) (rs' := 530042) (μ := m_X12_init) (pc := 77) dX12_init_77 rfl (by decide) ac_0 (by decide) (by decide) (by decide) (by decide) (by decide) (fun q41 ad1 h1 p1 A_42 L1 => ?_)
  replace L : Lay (T_X12_init_17 t i0) ad1 h1 := L1
  replace p := Pre.tr p p1
  have A_43 := p1 _ _ A_37
  have G_44 : sg (T_X12_init_17 t i0) i0 = some (12, 60, 60) := sg_app G_39
  clear L1 p1
  refine t_putF L (i := i0) (j := (t.length + 6)) (μ := m_X12_init) (pc := 79) dX12_init_79 fl_X12_45 pf_X12_45 flF_12_17 rfl ir_12_17 id_12_17 rfl rfl G_44 A_43 (by decide) A_42 (fun h1 L1 => ?_)
  replace L : Lay (T_X12_init_18 t i0) _ h1 := L1
  have G_45 : sg (T_X12_init_18 t i0) i0 = some (12, 60, 60) := sg_mR.trans G_44
  have R_46 : rf (T_X12_init_18 t i0) i0 17 = some (t.length + 6) := rf_mS G_44 (by decide)
  clear L1
  refine a_aload_n 0 0 (μ := m_X12_init) (pc := 82) dX12_init_82 rfl rfl ?_
  refine a_sipush (v := 24000) (μ := m_X12_init) (pc := 83) dX12_init_83 (by decide) ?_
  refine t_newI (t.length + 7) L ln_X12_init_18 0 24000 (ty := .int) (rc' := 19) (rs' := 506042) (μ := m_X12_init) (pc := 86) dX12_init_86 rfl (by decide) ac_0 (by decide) (by decide) (by decide) (by decide) (by decide) (fun q47 ad1 h1 p1 A_48 L1 => ?_)
  replace L : Lay (T_X12_init_19 t i0) ad1 h1 := L1
  replace p := Pre.tr p p1
  have A_49 := p1 _ _ A_43
  have G_50 : sg (T_X12_init_19 t i0) i0 = some (12, 60, 60) := sg_app G_45
  clear L1 p1
  refine t_putF L (i := i0) (j := (t.length + 7)) (μ := m_X12_init) (pc := 88) dX12_init_88 fl_X12_48 pf_X12_48 flF_12_19 rfl ir_12_19 id_12_19 rfl rfl G_50 A_49 (by decide) A_48 (fun h1 L1 => ?_)
  replace L : Lay (T_X12_init_20 t i0) _ h1 := L1
  have G_51 : sg (T_X12_init_20 t i0) i0 = some (12, 60, 60) := sg_mR.trans G_50
  have R_52 : rf (T_X12_init_20 t i0) i0 19 = some (t.length + 7) := rf_mS G_50 (by decide)
  clear L1
  refine a_aload_n 0 0 (μ := m_X12_init) (pc := 91) dX12_init_91 rfl rfl ?_
  refine a_bipush (v := 12) (μ := m_X12_init) (pc := 92) dX12_init_92 (by decide) ?_
  refine t_newI (t.length + 8) L ln_X12_init_20 0 12 (ty := .int) (rc' := 18) (rs' := 506030) (μ := m_X12_init) (pc := 94) dX12_init_94 rfl (by decide) ac_0 (by decide) (by decide) (by decide) (by decide) (by decide) (fun q53 ad1 h1 p1 A_54 L1 => ?_)
  replace L : Lay (T_X12_init_21 t i0) ad1 h1 := L1
  replace p := Pre.tr p p1
  have A_55 := p1 _ _ A_49
  have G_56 : sg (T_X12_init_21 t i0) i0 = some (12, 60, 60) := sg_app G_51
  clear L1 p1
  refine t_putF L (i := i0) (j := (t.length + 8)) (μ := m_X12_init) (pc := 96) dX12_init_96 fl_X12_51 pf_X12_51 flF_12_20 rfl ir_12_20 id_12_20 rfl rfl G_56 A_55 (by decide) A_54 (fun h1 L1 => ?_)
  replace L : Lay (T_X12_init_22 t i0) _ h1 := L1
  have G_57 : sg (T_X12_init_22 t i0) i0 = some (12, 60, 60) := sg_mR.trans G_56
  have R_58 : rf (T_X12_init_22 t i0) i0 20 = some (t.length + 8) := rf_mS G_56 (by decide)
  clear L1
  refine a_aload_n 0 0 (μ := m_X12_init) (pc := 99) dX12_init_99 rfl rfl ?_
  refine a_sipush (v := 12000) (μ := m_X12_init) (pc := 100) dX12_init_100 (by decide) ?_
  refine t_newI (t.length + 9) L ln_X12_init_22 0 12000 (ty := .int) (rc' := 17) (rs' := 494030) (μ := m_X12_init) (pc := 103) dX12_init_103 rfl (by decide) ac_0 (by decide) (by decide) (by decide) (by decide) (by decide) (fun q59 ad1 h1 p1 A_60 L1 => ?_)
  replace L : Lay (T_X12_init_23 t i0) ad1 h1 := L1
  replace p := Pre.tr p p1
  have A_61 := p1 _ _ A_55
  have G_62 : sg (T_X12_init_23 t i0) i0 = some (12, 60, 60) := sg_app G_57
  clear L1 p1
  refine t_putF L (i := i0) (j := (t.length + 9)) (μ := m_X12_init) (pc := 105) dX12_init_105 fl_X12_54 pf_X12_54 flF_12_21 rfl ir_12_21 id_12_21 rfl rfl G_62 A_61 (by decide) A_60 (fun h1 L1 => ?_)
  replace L : Lay (T_X12_init_24 t i0) _ h1 := L1
  have G_63 : sg (T_X12_init_24 t i0) i0 = some (12, 60, 60) := sg_mR.trans G_62
  have R_64 : rf (T_X12_init_24 t i0) i0 21 = some (t.length + 9) := rf_mS G_62 (by decide)
  clear L1
  refine a_aload_n 0 0 (μ := m_X12_init) (pc := 108) dX12_init_108 rfl rfl ?_
  refine a_sipush (v := 12000) (μ := m_X12_init) (pc := 109) dX12_init_109 (by decide) ?_
  refine t_newI (t.length + 10) L ln_X12_init_24 0 12000 (ty := .int) (rc' := 16) (rs' := 482030) (μ := m_X12_init) (pc := 112) dX12_init_112 rfl (by decide) ac_0 (by decide) (by decide) (by decide) (by decide) (by decide) (fun q65 ad1 h1 p1 A_66 L1 => ?_)
  replace L : Lay (T_X12_init_25 t i0) ad1 h1 := L1
  replace p := Pre.tr p p1
  have A_67 := p1 _ _ A_61
  have G_68 : sg (T_X12_init_25 t i0) i0 = some (12, 60, 60) := sg_app G_63
  clear L1 p1
  refine t_putF L (i := i0) (j := (t.length + 10)) (μ := m_X12_init) (pc := 114) dX12_init_114 fl_X12_57 pf_X12_57 flF_12_22 rfl ir_12_22 id_12_22 rfl rfl G_68 A_67 (by decide) A_66 (fun h1 L1 => ?_)
  replace L : Lay (T_X12_init_26 t i0) _ h1 := L1
  have G_69 : sg (T_X12_init_26 t i0) i0 = some (12, 60, 60) := sg_mR.trans G_68
  have R_70 : rf (T_X12_init_26 t i0) i0 22 = some (t.length + 10) := rf_mS G_68 (by decide)
  clear L1
  refine a_aload_n 0 0 (μ := m_X12_init) (pc := 117) dX12_init_117 rfl rfl ?_
  refine a_bipush (v := 12) (μ := m_X12_init) (pc := 118) dX12_init_118 (by decide) ?_
  refine t_newI (t.length + 11) L ln_X12_init_26 0 12 (ty := .int) (rc' := 15) (rs' := 482018) (μ := m_X12_init) (pc := 120) dX12_init_120 rfl (by decide) ac_0 (by decide) (by decide) (by decide) (by decide) (by decide) (fun q71 ad1 h1 p1 A_72 L1 => ?_)
  replace L : Lay (T_X12_init_27 t i0) ad1 h1 := L1
  replace p := Pre.tr p p1
  have A_73 := p1 _ _ A_67
  have G_74 : sg (T_X12_init_27 t i0) i0 = some (12, 60, 60) := sg_app G_69
  clear L1 p1
  refine t_putF L (i := i0) (j := (t.length + 11)) (μ := m_X12_init) (pc := 122) dX12_init_122 fl_X12_60 pf_X12_60 flF_12_23 rfl ir_12_23 id_12_23 rfl rfl G_74 A_73 (by decide) A_72 (fun h1 L1 => ?_)
  replace L : Lay (T_X12_init_28 t i0) _ h1 := L1
  have G_75 : sg (T_X12_init_28 t i0) i0 = some (12, 60, 60) := sg_mR.trans G_74
  have R_76 : rf (T_X12_init_28 t i0) i0 23 = some (t.length + 11) := rf_mS G_74 (by decide)
  clear L1
  refine a_aload_n 0 0 (μ := m_X12_init) (pc := 125) dX12_init_125 rfl rfl ?_
  refine a_iconst (v := 4) (μ := m_X12_init) (pc := 126) dX12_init_126 (by decide) ?_
  refine t_newI (t.length + 12) L ln_X12_init_28 0 4 (ty := .int) (rc' := 14) (rs' := 482014) (μ := m_X12_init) (pc := 127) dX12_init_127 rfl (by decide) ac_0 (by decide) (by decide) (by decide) (by decide) (by decide) (fun q77 ad1 h1 p1 A_78 L1 => ?_)
  replace L : Lay (T_X12_init_29 t i0) ad1 h1 := L1
  replace p := Pre.tr p p1
  have A_79 := p1 _ _ A_73
  have G_80 : sg (T_X12_init_29 t i0) i0 = some (12, 60, 60) := sg_app G_75
  clear L1 p1
  refine t_putF L (i := i0) (j := (t.length + 12)) (μ := m_X12_init) (pc := 129) dX12_init_129 fl_X12_63 pf_X12_63 flF_12_28 rfl ir_12_28 id_12_28 rfl rfl G_80 A_79 (by decide) A_78 (fun h1 L1 => ?_)
  replace L : Lay (T_X12_init_30 t i0) _ h1 := L1
  have G_81 : sg (T_X12_init_30 t i0) i0 = some (12, 60, 60) := sg_mR.trans G_80
  have R_82 : rf (T_X12_init_30 t i0) i0 28 = some (t.length + 12) := rf_mS G_80 (by decide)
  clear L1
  refine a_aload_n 0 0 (μ := m_X12_init) (pc := 132) dX12_init_132 rfl rfl ?_
  refine a_sipush (v := 240) (μ := m_X12_init) (pc := 133) dX12_init_133 (by decide) ?_
  refine t_newI (t.length + 13) L ln_X12_init_30 0 240 (ty := .int) (rc' := 13) (rs' := 481774) (μ := m_X12_init) (pc := 136) dX12_init_136 rfl (by decide) ac_0 (by decide) (by decide) (by decide) (by decide) (by decide) (fun q83 ad1 h1 p1 A_84 L1 => ?_)
  replace L : Lay (T_X12_init_31 t i0) ad1 h1 := L1
  replace p := Pre.tr p p1
  have A_85 := p1 _ _ A_79
  have G_86 : sg (T_X12_init_31 t i0) i0 = some (12, 60, 60) := sg_app G_81
  clear L1 p1
  refine t_putF L (i := i0) (j := (t.length + 13)) (μ := m_X12_init) (pc := 138) dX12_init_138 fl_X12_66 pf_X12_66 flF_12_29 rfl ir_12_29 id_12_29 rfl rfl G_86 A_85 (by decide) A_84 (fun h1 L1 => ?_)
  replace L : Lay (T_X12_init_32 t i0) _ h1 := L1
  have G_87 : sg (T_X12_init_32 t i0) i0 = some (12, 60, 60) := sg_mR.trans G_86
  have R_88 : rf (T_X12_init_32 t i0) i0 29 = some (t.length + 13) := rf_mS G_86 (by decide)
  clear L1
  refine a_aload_n 0 0 (μ := m_X12_init) (pc := 141) dX12_init_141 rfl rfl ?_
  refine a_sipush (v := 240) (μ := m_X12_init) (pc := 142) dX12_init_142 (by decide) ?_
  refine t_newI (t.length + 14) L ln_X12_init_32 0 240 (ty := .int) (rc' := 12) (rs' := 481534) (μ := m_X12_init) (pc := 145) dX12_init_145 rfl (by decide) ac_0 (by decide) (by decide) (by decide) (by decide) (by decide) (fun q89 ad1 h1 p1 A_90 L1 => ?_)
  replace L : Lay (T_X12_init_33 t i0) ad1 h1 := L1
  replace p := Pre.tr p p1
  have A_91 := p1 _ _ A_85
  have G_92 : sg (T_X12_init_33 t i0) i0 = some (12, 60, 60) := sg_app G_87
  clear L1 p1
  refine t_putF L (i := i0) (j := (t.length + 14)) (μ := m_X12_init) (pc := 147) dX12_init_147 fl_X12_69 pf_X12_69 flF_12_30 rfl ir_12_30 id_12_30 rfl rfl G_92 A_91 (by decide) A_90 (fun h1 L1 => ?_)
  replace L : Lay (T_X12_init_34 t i0) _ h1 := L1
  have G_93 : sg (T_X12_init_34 t i0) i0 = some (12, 60, 60) := sg_mR.trans G_92
  have R_94 : rf (T_X12_init_34 t i0) i0 30 = some (t.length + 14) := rf_mS G_92 (by decide)
  clear L1
  refine a_aload_n 0 0 (μ := m_X12_init) (pc := 150) dX12_init_150 rfl rfl ?_
  refine a_sipush (v := 240) (μ := m_X12_init) (pc := 151) dX12_init_151 (by decide) ?_
  refine t_newI (t.length + 15) L ln_X12_init_34 0 240 (ty := .int) (rc' := 11) (rs' := 481294) (μ := m_X12_init) (pc := 154) dX12_init_154 rfl (by decide) ac_0 (by decide) (by decide) (by decide) (by decide) (by decide) (fun q95 ad1 h1 p1 A_96 L1 => ?_)
  replace L : Lay (T_X12_init_35 t i0) ad1 h1 := L1
  replace p := Pre.tr p p1
  have A_97 := p1 _ _ A_91
  have G_98 : sg (T_X12_init_35 t i0) i0 = some (12, 60, 60) := sg_app G_93
  clear L1 p1
  refine t_putF L (i := i0) (j := (t.length + 15)) (μ := m_X12_init) (pc := 156) dX12_init_156 fl_X12_72 pf_X12_72 flF_12_31 rfl ir_12_31 id_12_31 rfl rfl G_98 A_97 (by decide) A_96 (fun h1 L1 => ?_)
  replace L : Lay (T_X12_init_36 t i0) _ h1 := L1
  have G_99 : sg (T_X12_init_36 t i0) i0 = some (12, 60, 60) := sg_mR.trans G_98
  have R_100 : rf (T_X12_init_36 t i0) i0 31 = some (t.length + 15) := rf_mS G_98 (by decide)
  clear L1
  refine a_aload_n 0 0 (μ := m_X12_init) (pc := 159) dX12_init_159 rfl rfl ?_
  refine a_sipush (v := 2000) (μ := m_X12_init) (pc := 160) dX12_init_160 (by decide) ?_
  refine t_newI (t.length + 16) L ln_X12_init_36 0 2000 (ty := .int) (rc' := 10) (rs' := 479294) (μ := m_X12_init) (pc := 163) dX12_init_163 rfl (by decide) ac_0 (by decide) (by decide) (by decide) (by decide) (by decide) (fun q101 ad1 h1 p1 A_102 L1 => ?_)
  replace L : Lay (T_X12_init_37 t i0) ad1 h1 := L1
  replace p := Pre.tr p p1
  have A_103 := p1 _ _ A_97
  have G_104 : sg (T_X12_init_37 t i0) i0 = some (12, 60, 60) := sg_app G_99
  clear L1 p1
  refine t_putF L (i := i0) (j := (t.length + 16)) (μ := m_X12_init) (pc := 165) dX12_init_165 fl_X12_75 pf_X12_75 flF_12_32 rfl ir_12_32 id_12_32 rfl rfl G_104 A_103 (by decide) A_102 (fun h1 L1 => ?_)
  replace L : Lay (T_X12_init_38 t i0) _ h1 := L1
  have G_105 : sg (T_X12_init_38 t i0) i0 = some (12, 60, 60) := sg_mR.trans G_104
  have R_106 : rf (T_X12_init_38 t i0) i0 32 = some (t.length + 16) := rf_mS G_104 (by decide)
  clear L1
  refine a_aload_n 0 0 (μ := m_X12_init) (pc := 168) dX12_init_168 rfl rfl ?_
  refine a_sipush (v := 2000) (μ := m_X12_init) (pc := 169) dX12_init_169 (by decide) ?_
  refine t_newI (t.length + 17) L ln_X12_init_38 0 2000 (ty := .int) (rc' := 9) (rs' := 477294) (μ := m_X12_init) (pc := 172) dX12_init_172 rfl (by decide) ac_0 (by decide) (by decide) (by decide) (by decide) (by decide) (fun q107 ad1 h1 p1 A_108 L1 => ?_)
  replace L : Lay (T_X12_init_39 t i0) ad1 h1 := L1
  replace p := Pre.tr p p1
  have A_109 := p1 _ _ A_103
  have G_110 : sg (T_X12_init_39 t i0) i0 = some (12, 60, 60) := sg_app G_105
  clear L1 p1
  refine t_putF L (i := i0) (j := (t.length + 17)) (μ := m_X12_init) (pc := 174) dX12_init_174 fl_X12_78 pf_X12_78 flF_12_33 rfl ir_12_33 id_12_33 rfl rfl G_110 A_109 (by decide) A_108 (fun h1 L1 => ?_)
  replace L : Lay (T_X12_init_40 t i0) _ h1 := L1
  have G_111 : sg (T_X12_init_40 t i0) i0 = some (12, 60, 60) := sg_mR.trans G_110
  have R_112 : rf (T_X12_init_40 t i0) i0 33 = some (t.length + 17) := rf_mS G_110 (by decide)
  clear L1
  refine a_aload_n 0 0 (μ := m_X12_init) (pc := 177) dX12_init_177 rfl rfl ?_
  refine a_sipush (v := 500) (μ := m_X12_init) (pc := 178) dX12_init_178 (by decide) ?_
  refine t_newI (t.length + 18) L ln_X12_init_40 0 500 (ty := .int) (rc' := 8) (rs' := 476794) (μ := m_X12_init) (pc := 181) dX12_init_181 rfl (by decide) ac_0 (by decide) (by decide) (by decide) (by decide) (by decide) (fun q113 ad1 h1 p1 A_114 L1 => ?_)
  replace L : Lay (T_X12_init_41 t i0) ad1 h1 := L1
  replace p := Pre.tr p p1
  have A_115 := p1 _ _ A_109
  have G_116 : sg (T_X12_init_41 t i0) i0 = some (12, 60, 60) := sg_app G_111
  clear L1 p1
  refine t_putF L (i := i0) (j := (t.length + 18)) (μ := m_X12_init) (pc := 183) dX12_init_183 fl_X12_81 pf_X12_81 flF_12_34 rfl ir_12_34 id_12_34 rfl rfl G_116 A_115 (by decide) A_114 (fun h1 L1 => ?_)
  replace L : Lay (T_X12_init_42 t i0) _ h1 := L1
  have G_117 : sg (T_X12_init_42 t i0) i0 = some (12, 60, 60) := sg_mR.trans G_116
  have R_118 : rf (T_X12_init_42 t i0) i0 34 = some (t.length + 18) := rf_mS G_116 (by decide)
  clear L1
  refine a_aload_n 0 0 (μ := m_X12_init) (pc := 186) dX12_init_186 rfl rfl ?_
  refine a_sipush (v := 14000) (μ := m_X12_init) (pc := 187) dX12_init_187 (by decide) ?_
  refine t_newI (t.length + 19) L ln_X12_init_42 0 14000 (ty := .int) (rc' := 7) (rs' := 462794) (μ := m_X12_init) (pc := 190) dX12_init_190 rfl (by decide) ac_0 (by decide) (by decide) (by decide) (by decide) (by decide) (fun q119 ad1 h1 p1 A_120 L1 => ?_)
  replace L : Lay (T_X12_init_43 t i0) ad1 h1 := L1
  replace p := Pre.tr p p1
  have A_121 := p1 _ _ A_115
  have G_122 : sg (T_X12_init_43 t i0) i0 = some (12, 60, 60) := sg_app G_117
  clear L1 p1
  refine t_putF L (i := i0) (j := (t.length + 19)) (μ := m_X12_init) (pc := 192) dX12_init_192 fl_X12_84 pf_X12_84 flF_12_35 rfl ir_12_35 id_12_35 rfl rfl G_122 A_121 (by decide) A_120 (fun h1 L1 => ?_)
  replace L : Lay (T_X12_init_44 t i0) _ h1 := L1
  have G_123 : sg (T_X12_init_44 t i0) i0 = some (12, 60, 60) := sg_mR.trans G_122
  have R_124 : rf (T_X12_init_44 t i0) i0 35 = some (t.length + 19) := rf_mS G_122 (by decide)
  clear L1
  refine a_aload_n 0 0 (μ := m_X12_init) (pc := 195) dX12_init_195 rfl rfl ?_
  refine a_bipush (v := 16) (μ := m_X12_init) (pc := 196) dX12_init_196 (by decide) ?_
  refine t_newI (t.length + 20) L ln_X12_init_44 0 16 (ty := .int) (rc' := 6) (rs' := 462778) (μ := m_X12_init) (pc := 198) dX12_init_198 rfl (by decide) ac_0 (by decide) (by decide) (by decide) (by decide) (by decide) (fun q125 ad1 h1 p1 A_126 L1 => ?_)
  replace L : Lay (T_X12_init_45 t i0) ad1 h1 := L1
  replace p := Pre.tr p p1
  have A_127 := p1 _ _ A_121
  have G_128 : sg (T_X12_init_45 t i0) i0 = some (12, 60, 60) := sg_app G_123
  clear L1 p1
  refine t_putF L (i := i0) (j := (t.length + 20)) (μ := m_X12_init) (pc := 200) dX12_init_200 fl_X12_87 pf_X12_87 flF_12_41 rfl ir_12_41 id_12_41 rfl rfl G_128 A_127 (by decide) A_126 (fun h1 L1 => ?_)
  replace L : Lay (T_X12_init_46 t i0) _ h1 := L1
  have G_129 : sg (T_X12_init_46 t i0) i0 = some (12, 60, 60) := sg_mR.trans G_128
  have R_130 : rf (T_X12_init_46 t i0) i0 41 = some (t.length + 20) := rf_mS G_128 (by decide)
  clear L1
  refine a_aload_n 0 0 (μ := m_X12_init) (pc := 203) dX12_init_203 rfl rfl ?_
  refine a_bipush (v := 16) (μ := m_X12_init) (pc := 204) dX12_init_204 (by decide) ?_
  refine t_newI (t.length + 21) L ln_X12_init_46 0 16 (ty := .int) (rc' := 5) (rs' := 462762) (μ := m_X12_init) (pc := 206) dX12_init_206 rfl (by decide) ac_0 (by decide) (by decide) (by decide) (by decide) (by decide) (fun q131 ad1 h1 p1 A_132 L1 => ?_)
  replace L : Lay (T_X12_init_47 t i0) ad1 h1 := L1
  replace p := Pre.tr p p1
  have A_133 := p1 _ _ A_127
  have G_134 : sg (T_X12_init_47 t i0) i0 = some (12, 60, 60) := sg_app G_129
  clear L1 p1
  refine t_putF L (i := i0) (j := (t.length + 21)) (μ := m_X12_init) (pc := 208) dX12_init_208 fl_X12_90 pf_X12_90 flF_12_42 rfl ir_12_42 id_12_42 rfl rfl G_134 A_133 (by decide) A_132 (fun h1 L1 => ?_)
  replace L : Lay (T_X12_init_48 t i0) _ h1 := L1
  have G_135 : sg (T_X12_init_48 t i0) i0 = some (12, 60, 60) := sg_mR.trans G_134
  have R_136 : rf (T_X12_init_48 t i0) i0 42 = some (t.length + 21) := rf_mS G_134 (by decide)
  clear L1
  refine a_aload_n 0 0 (μ := m_X12_init) (pc := 211) dX12_init_211 rfl rfl ?_
  refine a_ldc (v := 458752) (μ := m_X12_init) (pc := 212) dX12_init_212 cn_X12_93 ?_
  refine t_newI (t.length + 22) L ln_X12_init_48 0 458752 (ty := .int) (rc' := 4) (rs' := 4010) (μ := m_X12_init) (pc := 214) dX12_init_214 rfl (by decide) ac_0 (by decide) (by decide) (by decide) (by decide) (by decide) (fun q137 ad1 h1 p1 A_138 L1 => ?_)
  replace L : Lay (T_X12_init_49 t i0) ad1 h1 := L1
  replace p := Pre.tr p p1
  have A_139 := p1 _ _ A_133
  have G_140 : sg (T_X12_init_49 t i0) i0 = some (12, 60, 60) := sg_app G_135
  clear L1 p1
  refine t_putF L (i := i0) (j := (t.length + 22)) (μ := m_X12_init) (pc := 216) dX12_init_216 fl_X12_94 pf_X12_94 flF_12_43 rfl ir_12_43 id_12_43 rfl rfl G_140 A_139 (by decide) A_138 (fun h1 L1 => ?_)
  replace L : Lay (T_X12_init_50 t i0) _ h1 := L1
  have G_141 : sg (T_X12_init_50 t i0) i0 = some (12, 60, 60) := sg_mR.trans G_140
  have R_142 : rf (T_X12_init_50 t i0) i0 43 = some (t.length + 22) := rf_mS G_140 (by decide)
  clear L1
  refine a_aload_n 0 0 (μ := m_X12_init) (pc := 219) dX12_init_219 rfl rfl ?_
  refine a_bipush (v := 6) (μ := m_X12_init) (pc := 220) dX12_init_220 (by decide) ?_
  refine t_newI (t.length + 23) L ln_X12_init_50 0 6 (ty := .int) (rc' := 3) (rs' := 4004) (μ := m_X12_init) (pc := 222) dX12_init_222 rfl (by decide) ac_0 (by decide) (by decide) (by decide) (by decide) (by decide) (fun q143 ad1 h1 p1 A_144 L1 => ?_)
  replace L : Lay (T_X12_init_51 t i0) ad1 h1 := L1
  replace p := Pre.tr p p1
  have A_145 := p1 _ _ A_139
  have G_146 : sg (T_X12_init_51 t i0) i0 = some (12, 60, 60) := sg_app G_141
  clear L1 p1
  refine t_putF L (i := i0) (j := (t.length + 23)) (μ := m_X12_init) (pc := 224) dX12_init_224 fl_X12_97 pf_X12_97 flF_12_44 rfl ir_12_44 id_12_44 rfl rfl G_146 A_145 (by decide) A_144 (fun h1 L1 => ?_)
  replace L : Lay (T_X12_init_52 t i0) _ h1 := L1
  have G_147 : sg (T_X12_init_52 t i0) i0 = some (12, 60, 60) := sg_mR.trans G_146
  have R_148 : rf (T_X12_init_52 t i0) i0 44 = some (t.length + 23) := rf_mS G_146 (by decide)
  clear L1
  refine a_aload_n 0 0 (μ := m_X12_init) (pc := 227) dX12_init_227 rfl rfl ?_
  refine a_sipush (v := 2000) (μ := m_X12_init) (pc := 228) dX12_init_228 (by decide) ?_
  refine t_newI (t.length + 24) L ln_X12_init_52 0 2000 (ty := .int) (rc' := 2) (rs' := 2004) (μ := m_X12_init) (pc := 231) dX12_init_231 rfl (by decide) ac_0 (by decide) (by decide) (by decide) (by decide) (by decide) (fun q149 ad1 h1 p1 A_150 L1 => ?_)
  replace L : Lay (T_X12_init_53 t i0) ad1 h1 := L1
  replace p := Pre.tr p p1
  have A_151 := p1 _ _ A_145
  have G_152 : sg (T_X12_init_53 t i0) i0 = some (12, 60, 60) := sg_app G_147
  clear L1 p1
  refine t_putF L (i := i0) (j := (t.length + 24)) (μ := m_X12_init) (pc := 233) dX12_init_233 fl_X12_100 pf_X12_100 flF_12_46 rfl ir_12_46 id_12_46 rfl rfl G_152 A_151 (by decide) A_150 (fun h1 L1 => ?_)
  replace L : Lay (T_X12_init_54 t i0) _ h1 := L1
  have G_153 : sg (T_X12_init_54 t i0) i0 = some (12, 60, 60) := sg_mR.trans G_152
  have R_154 : rf (T_X12_init_54 t i0) i0 46 = some (t.length + 24) := rf_mS G_152 (by decide)
  clear L1
  refine a_aload_n 0 0 (μ := m_X12_init) (pc := 236) dX12_init_236 rfl rfl ?_
  refine a_sipush (v := 2000) (μ := m_X12_init) (pc := 237) dX12_init_237 (by decide) ?_
  refine t_newI (t.length + 25) L ln_X12_init_54 0 2000 (ty := .int) (rc' := 1) (rs' := 4) (μ := m_X12_init) (pc := 240) dX12_init_240 rfl (by decide) ac_0 (by decide) (by decide) (by decide) (by decide) (by decide) (fun q155 ad1 h1 p1 A_156 L1 => ?_)
  replace L : Lay (T_X12_init_55 t i0) ad1 h1 := L1
  replace p := Pre.tr p p1
  have A_157 := p1 _ _ A_151
  have G_158 : sg (T_X12_init_55 t i0) i0 = some (12, 60, 60) := sg_app G_153
  clear L1 p1
  refine t_putF L (i := i0) (j := (t.length + 25)) (μ := m_X12_init) (pc := 242) dX12_init_242 fl_X12_103 pf_X12_103 flF_12_48 rfl ir_12_48 id_12_48 rfl rfl G_158 A_157 (by decide) A_156 (fun h1 L1 => ?_)
  replace L : Lay (T_X12_init_56 t i0) _ h1 := L1
  have G_159 : sg (T_X12_init_56 t i0) i0 = some (12, 60, 60) := sg_mR.trans G_158
  have R_160 : rf (T_X12_init_56 t i0) i0 48 = some (t.length + 25) := rf_mS G_158 (by decide)
  clear L1
  refine a_aload_n 0 0 (μ := m_X12_init) (pc := 245) dX12_init_245 rfl rfl ?_
  refine a_iconst (v := 4) (μ := m_X12_init) (pc := 246) dX12_init_246 (by decide) ?_
  refine t_newI (t.length + 26) L ln_X12_init_56 0 4 (ty := .int) (rc' := 0) (rs' := 0) (μ := m_X12_init) (pc := 247) dX12_init_247 rfl (by decide) ac_0 (by decide) (by decide) (by decide) (by decide) (by decide) (fun q161 ad1 h1 p1 A_162 L1 => ?_)
  replace L : Lay (T_X12_init_57 t i0) ad1 h1 := L1
  replace p := Pre.tr p p1
  have A_163 := p1 _ _ A_157
  have G_164 : sg (T_X12_init_57 t i0) i0 = some (12, 60, 60) := sg_app G_159
  clear L1 p1
  refine t_putF L (i := i0) (j := (t.length + 26)) (μ := m_X12_init) (pc := 249) dX12_init_249 fl_X12_106 pf_X12_106 flF_12_57 rfl ir_12_57 id_12_57 rfl rfl G_164 A_163 (by decide) A_162 (fun h1 L1 => ?_)
  replace L : Lay (T_X12_init_58 t i0) _ h1 := L1
  have G_165 : sg (T_X12_init_58 t i0) i0 = some (12, 60, 60) := sg_mR.trans G_164
  have R_166 : rf (T_X12_init_58 t i0) i0 57 = some (t.length + 26) := rf_mS G_164 (by decide)
  clear L1
  exact a_vret (μ := m_X12_init) (pc := 252) dX12_init_252 rfl ⟨rfl, _, p, L⟩
