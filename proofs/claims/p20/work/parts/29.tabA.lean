section
theorem dX0_init_0 : decode cX0_init 0 = .ok (.aload_n 0, 1) := by decide +kernel
theorem dX0_init_1 : decode cX0_init 1 = .ok (.invokespecial 3, 3) := by decide +kernel
theorem dX0_init_4 : decode cX0_init 4 = .ok (.aload_n 0, 1) := by decide +kernel
theorem dX0_init_5 : decode cX0_init 5 = .ok (.new 9, 3) := by decide +kernel
theorem dX0_init_8 : decode cX0_init 8 = .ok (.dup, 1) := by decide +kernel
theorem dX0_init_9 : decode cX0_init 9 = .ok (.bipush 6, 2) := by decide +kernel
theorem dX0_init_11 : decode cX0_init 11 = .ok (.invokespecial 13, 3) := by decide +kernel
theorem dX0_init_14 : decode cX0_init 14 = .ok (.putfield 16, 3) := by decide +kernel
theorem dX0_init_17 : decode cX0_init 17 = .ok (.aload_n 0, 1) := by decide +kernel
theorem dX0_init_18 : decode cX0_init 18 = .ok (.bipush 7, 2) := by decide +kernel
theorem dX0_init_20 : decode cX0_init 20 = .ok (.bipush 7, 2) := by decide +kernel
theorem dX0_init_22 : decode cX0_init 22 = .ok (.multianewarray 20 2, 4) := by decide +kernel
theorem dX0_init_26 : decode cX0_init 26 = .ok (.putfield 22, 3) := by decide +kernel
theorem dX0_init_29 : decode cX0_init 29 = .ok (.aload_n 0, 1) := by decide +kernel
theorem dX0_init_30 : decode cX0_init 30 = .ok (.bipush 7, 2) := by decide +kernel
theorem dX0_init_32 : decode cX0_init 32 = .ok (.newarray .int, 2) := by decide +kernel
theorem dX0_init_34 : decode cX0_init 34 = .ok (.putfield 25, 3) := by decide +kernel
theorem dX0_init_37 : decode cX0_init 37 = .ok (.aload_n 0, 1) := by decide +kernel
theorem dX0_init_38 : decode cX0_init 38 = .ok (.aload_n 1, 1) := by decide +kernel
theorem dX0_init_39 : decode cX0_init 39 = .ok (.putfield 29, 3) := by decide +kernel
theorem dX0_init_42 : decode cX0_init 42 = .ok (.aload_n 0, 1) := by decide +kernel
theorem dX0_init_43 : decode cX0_init 43 = .ok (.new 33, 3) := by decide +kernel
theorem dX0_init_46 : decode cX0_init 46 = .ok (.dup, 1) := by decide +kernel
theorem dX0_init_47 : decode cX0_init 47 = .ok (.aload_n 1, 1) := by decide +kernel
theorem dX0_init_48 : decode cX0_init 48 = .ok (.aload_n 0, 1) := by decide +kernel
theorem dX0_init_49 : decode cX0_init 49 = .ok (.getfield 16, 3) := by decide +kernel
theorem dX0_init_52 : decode cX0_init 52 = .ok (.invokespecial 35, 3) := by decide +kernel
theorem dX0_init_55 : decode cX0_init 55 = .ok (.putfield 38, 3) := by decide +kernel
theorem dX0_init_58 : decode cX0_init 58 = .ok (.return_, 1) := by decide +kernel
theorem dX1_init_0 : decode cX1_init 0 = .ok (.aload_n 0, 1) := by decide +kernel
theorem dX1_init_1 : decode cX1_init 1 = .ok (.invokespecial 3, 3) := by decide +kernel
theorem dX1_init_4 : decode cX1_init 4 = .ok (.aload_n 0, 1) := by decide +kernel
theorem dX1_init_5 : decode cX1_init 5 = .ok (.aload_n 1, 1) := by decide +kernel
theorem dX1_init_6 : decode cX1_init 6 = .ok (.putfield 9, 3) := by decide +kernel
theorem dX1_init_9 : decode cX1_init 9 = .ok (.aload_n 0, 1) := by decide +kernel
theorem dX1_init_10 : decode cX1_init 10 = .ok (.aload_n 2, 1) := by decide +kernel
theorem dX1_init_11 : decode cX1_init 11 = .ok (.putfield 15, 3) := by decide +kernel
theorem dX1_init_14 : decode cX1_init 14 = .ok (.aload_n 0, 1) := by decide +kernel
theorem dX1_init_15 : decode cX1_init 15 = .ok (.aload_n 2, 1) := by decide +kernel
theorem dX1_init_16 : decode cX1_init 16 = .ok (.getfield 19, 3) := by decide +kernel
theorem dX1_init_19 : decode cX1_init 19 = .ok (.putfield 25, 3) := by decide +kernel
theorem dX1_init_22 : decode cX1_init 22 = .ok (.return_, 1) := by decide +kernel
theorem dX2_init_0 : decode cX2_init 0 = .ok (.aload_n 0, 1) := by decide +kernel
theorem dX2_init_1 : decode cX2_init 1 = .ok (.invokespecial 3, 3) := by decide +kernel
theorem dX2_init_4 : decode cX2_init 4 = .ok (.aload_n 0, 1) := by decide +kernel
theorem dX2_init_5 : decode cX2_init 5 = .ok (.new 9, 3) := by decide +kernel
theorem dX2_init_8 : decode cX2_init 8 = .ok (.dup, 1) := by decide +kernel
theorem dX2_init_9 : decode cX2_init 9 = .ok (.sipush 2000, 3) := by decide +kernel
theorem dX2_init_12 : decode cX2_init 12 = .ok (.invokespecial 11, 3) := by decide +kernel
theorem dX2_init_15 : decode cX2_init 15 = .ok (.putfield 14, 3) := by decide +kernel
theorem dX2_init_18 : decode cX2_init 18 = .ok (.aload_n 0, 1) := by decide +kernel
theorem dX2_init_19 : decode cX2_init 19 = .ok (.sipush 1000, 3) := by decide +kernel
theorem dX2_init_22 : decode cX2_init 22 = .ok (.newarray .int, 2) := by decide +kernel
theorem dX2_init_24 : decode cX2_init 24 = .ok (.putfield 20, 3) := by decide +kernel
theorem dX2_init_27 : decode cX2_init 27 = .ok (.aload_n 0, 1) := by decide +kernel
theorem dX2_init_28 : decode cX2_init 28 = .ok (.sipush 1000, 3) := by decide +kernel
theorem dX2_init_31 : decode cX2_init 31 = .ok (.newarray .int, 2) := by decide +kernel
theorem dX2_init_33 : decode cX2_init 33 = .ok (.putfield 24, 3) := by decide +kernel
theorem dX2_init_36 : decode cX2_init 36 = .ok (.aload_n 0, 1) := by decide +kernel
theorem dX2_init_37 : decode cX2_init 37 = .ok (.new 27, 3) := by decide +kernel
theorem dX2_init_40 : decode cX2_init 40 = .ok (.dup, 1) := by decide +kernel
theorem dX2_init_41 : decode cX2_init 41 = .ok (.aload_n 1, 1) := by decide +kernel
theorem dX2_init_42 : decode cX2_init 42 = .ok (.aload_n 0, 1) := by decide +kernel
theorem dX2_init_43 : decode cX2_init 43 = .ok (.getfield 14, 3) := by decide +kernel
theorem dX2_init_46 : decode cX2_init 46 = .ok (.invokespecial 29, 3) := by decide +kernel
theorem dX2_init_49 : decode cX2_init 49 = .ok (.putfield 32, 3) := by decide +kernel
theorem dX2_init_52 : decode cX2_init 52 = .ok (.return_, 1) := by decide +kernel
theorem dX3_init_0 : decode cX3_init 0 = .ok (.aload_n 0, 1) := by decide +kernel
theorem dX3_init_1 : decode cX3_init 1 = .ok (.invokespecial 3, 3) := by decide +kernel
theorem dX3_init_4 : decode cX3_init 4 = .ok (.aload_n 0, 1) := by decide +kernel
theorem dX3_init_5 : decode cX3_init 5 = .ok (.iload_n 1, 1) := by decide +kernel
theorem dX3_init_6 : decode cX3_init 6 = .ok (.newarray .int, 2) := by decide +kernel
theorem dX3_init_8 : decode cX3_init 8 = .ok (.putfield 9, 3) := by decide +kernel
theorem dX3_init_11 : decode cX3_init 11 = .ok (.return_, 1) := by decide +kernel
theorem dX4_init_0 : decode cX4_init 0 = .ok (.aload_n 0, 1) := by decide +kernel
theorem dX4_init_1 : decode cX4_init 1 = .ok (.invokespecial 3, 3) := by decide +kernel
theorem dX4_init_4 : decode cX4_init 4 = .ok (.aload_n 0, 1) := by decide +kernel
theorem dX4_init_5 : decode cX4_init 5 = .ok (.new 9, 3) := by decide +kernel
theorem dX4_init_8 : decode cX4_init 8 = .ok (.dup, 1) := by decide +kernel
theorem dX4_init_9 : decode cX4_init 9 = .ok (.sipush 2000, 3) := by decide +kernel
theorem dX4_init_12 : decode cX4_init 12 = .ok (.invokespecial 11, 3) := by decide +kernel
theorem dX4_init_15 : decode cX4_init 15 = .ok (.putfield 14, 3) := by decide +kernel
theorem dX4_init_18 : decode cX4_init 18 = .ok (.aload_n 0, 1) := by decide +kernel
theorem dX4_init_19 : decode cX4_init 19 = .ok (.iconst 4, 1) := by decide +kernel
theorem dX4_init_20 : decode cX4_init 20 = .ok (.newarray .int, 2) := by decide +kernel
theorem dX4_init_22 : decode cX4_init 22 = .ok (.putfield 22, 3) := by decide +kernel
theorem dX4_init_25 : decode cX4_init 25 = .ok (.aload_n 0, 1) := by decide +kernel
theorem dX4_init_26 : decode cX4_init 26 = .ok (.bipush 32, 2) := by decide +kernel
theorem dX4_init_28 : decode cX4_init 28 = .ok (.newarray .int, 2) := by decide +kernel
theorem dX4_init_30 : decode cX4_init 30 = .ok (.putfield 26, 3) := by decide +kernel
theorem dX4_init_33 : decode cX4_init 33 = .ok (.aload_n 0, 1) := by decide +kernel
theorem dX4_init_34 : decode cX4_init 34 = .ok (.aload_n 1, 1) := by decide +kernel
theorem dX4_init_35 : decode cX4_init 35 = .ok (.putfield 29, 3) := by decide +kernel
theorem dX4_init_38 : decode cX4_init 38 = .ok (.aload_n 0, 1) := by decide +kernel
theorem dX4_init_39 : decode cX4_init 39 = .ok (.new 33, 3) := by decide +kernel
theorem dX4_init_42 : decode cX4_init 42 = .ok (.dup, 1) := by decide +kernel
theorem dX4_init_43 : decode cX4_init 43 = .ok (.aload_n 1, 1) := by decide +kernel
theorem dX4_init_44 : decode cX4_init 44 = .ok (.aload_n 0, 1) := by decide +kernel
theorem dX4_init_45 : decode cX4_init 45 = .ok (.getfield 14, 3) := by decide +kernel
theorem dX4_init_48 : decode cX4_init 48 = .ok (.invokespecial 35, 3) := by decide +kernel
theorem dX4_init_51 : decode cX4_init 51 = .ok (.putfield 38, 3) := by decide +kernel
theorem dX4_init_54 : decode cX4_init 54 = .ok (.return_, 1) := by decide +kernel
theorem dX5_init_0 : decode cX5_init 0 = .ok (.aload_n 0, 1) := by decide +kernel
theorem dX5_init_1 : decode cX5_init 1 = .ok (.invokespecial 3, 3) := by decide +kernel
theorem dX5_init_4 : decode cX5_init 4 = .ok (.aload_n 0, 1) := by decide +kernel
theorem dX5_init_5 : decode cX5_init 5 = .ok (.bipush 8, 2) := by decide +kernel
theorem dX5_init_7 : decode cX5_init 7 = .ok (.putfield 11, 3) := by decide +kernel
theorem dX5_init_10 : decode cX5_init 10 = .ok (.aload_n 0, 1) := by decide +kernel
theorem dX5_init_11 : decode cX5_init 11 = .ok (.iconst 1, 1) := by decide +kernel
theorem dX5_init_12 : decode cX5_init 12 = .ok (.putfield 17, 3) := by decide +kernel
theorem dX5_init_15 : decode cX5_init 15 = .ok (.aload_n 0, 1) := by decide +kernel
theorem dX5_init_16 : decode cX5_init 16 = .ok (.iconst 1, 1) := by decide +kernel
theorem dX5_init_17 : decode cX5_init 17 = .ok (.putfield 21, 3) := by decide +kernel
theorem dX5_init_20 : decode cX5_init 20 = .ok (.return_, 1) := by decide +kernel
theorem dX6_init_0 : decode cX6_init 0 = .ok (.aload_n 0, 1) := by decide +kernel
theorem dX6_init_1 : decode cX6_init 1 = .ok (.invokespecial 3, 3) := by decide +kernel
theorem dX6_init_4 : decode cX6_init 4 = .ok (.aload_n 0, 1) := by decide +kernel
theorem dX6_init_5 : decode cX6_init 5 = .ok (.iconst 3, 1) := by decide +kernel
theorem dX6_init_6 : decode cX6_init 6 = .ok (.newarray .boolean, 2) := by decide +kernel
theorem dX6_init_8 : decode cX6_init 8 = .ok (.putfield 11, 3) := by decide +kernel
theorem dX6_init_11 : decode cX6_init 11 = .ok (.return_, 1) := by decide +kernel
theorem dX7_init_0 : decode cX7_init 0 = .ok (.aload_n 0, 1) := by decide +kernel
theorem dX7_init_1 : decode cX7_init 1 = .ok (.invokespecial 3, 3) := by decide +kernel
theorem dX7_init_4 : decode cX7_init 4 = .ok (.aload_n 0, 1) := by decide +kernel
theorem dX7_init_5 : decode cX7_init 5 = .ok (.sipush 500, 3) := by decide +kernel
theorem dX7_init_8 : decode cX7_init 8 = .ok (.newarray .int, 2) := by decide +kernel
theorem dX7_init_10 : decode cX7_init 10 = .ok (.putfield 9, 3) := by decide +kernel
theorem dX7_init_13 : decode cX7_init 13 = .ok (.return_, 1) := by decide +kernel
theorem dX8_init_0 : decode cX8_init 0 = .ok (.aload_n 0, 1) := by decide +kernel
theorem dX8_init_1 : decode cX8_init 1 = .ok (.invokespecial 3, 3) := by decide +kernel
theorem dX8_init_4 : decode cX8_init 4 = .ok (.aload_n 0, 1) := by decide +kernel
theorem dX8_init_5 : decode cX8_init 5 = .ok (.sipush 500, 3) := by decide +kernel
theorem dX8_init_8 : decode cX8_init 8 = .ok (.newarray .int, 2) := by decide +kernel
theorem dX8_init_10 : decode cX8_init 10 = .ok (.putfield 9, 3) := by decide +kernel
theorem dX8_init_13 : decode cX8_init 13 = .ok (.aload_n 0, 1) := by decide +kernel
theorem dX8_init_14 : decode cX8_init 14 = .ok (.sipush 500, 3) := by decide +kernel
theorem dX8_init_17 : decode cX8_init 17 = .ok (.newarray .int, 2) := by decide +kernel
theorem dX8_init_19 : decode cX8_init 19 = .ok (.putfield 15, 3) := by decide +kernel
theorem dX8_init_22 : decode cX8_init 22 = .ok (.return_, 1) := by decide +kernel
theorem dX9_init_0 : decode cX9_init 0 = .ok (.aload_n 0, 1) := by decide +kernel
theorem dX9_init_1 : decode cX9_init 1 = .ok (.invokespecial 3, 3) := by decide +kernel
theorem dX9_init_4 : decode cX9_init 4 = .ok (.aload_n 0, 1) := by decide +kernel
theorem dX9_init_5 : decode cX9_init 5 = .ok (.iconst 3, 1) := by decide +kernel
theorem dX9_init_6 : decode cX9_init 6 = .ok (.newarray .int, 2) := by decide +kernel
theorem dX9_init_8 : decode cX9_init 8 = .ok (.putfield 11, 3) := by decide +kernel
theorem dX9_init_11 : decode cX9_init 11 = .ok (.aload_n 0, 1) := by decide +kernel
theorem dX9_init_12 : decode cX9_init 12 = .ok (.iconst 3, 1) := by decide +kernel
theorem dX9_init_13 : decode cX9_init 13 = .ok (.newarray .int, 2) := by decide +kernel
theorem dX9_init_15 : decode cX9_init 15 = .ok (.putfield 17, 3) := by decide +kernel
theorem dX9_init_18 : decode cX9_init 18 = .ok (.return_, 1) := by decide +kernel
theorem dX10_init_0 : decode cX10_init 0 = .ok (.aload_n 0, 1) := by decide +kernel
theorem dX10_init_1 : decode cX10_init 1 = .ok (.invokespecial 3, 3) := by decide +kernel
theorem dX10_init_4 : decode cX10_init 4 = .ok (.aload_n 0, 1) := by decide +kernel
theorem dX10_init_5 : decode cX10_init 5 = .ok (.new 9, 3) := by decide +kernel
theorem dX10_init_8 : decode cX10_init 8 = .ok (.dup, 1) := by decide +kernel
theorem dX10_init_9 : decode cX10_init 9 = .ok (.bipush 16, 2) := by decide +kernel
theorem dX10_init_11 : decode cX10_init 11 = .ok (.invokespecial 13, 3) := by decide +kernel
theorem dX10_init_14 : decode cX10_init 14 = .ok (.putfield 16, 3) := by decide +kernel
theorem dX10_init_17 : decode cX10_init 17 = .ok (.aload_n 0, 1) := by decide +kernel
theorem dX10_init_18 : decode cX10_init 18 = .ok (.iconst 5, 1) := by decide +kernel
theorem dX10_init_19 : decode cX10_init 19 = .ok (.newarray .int, 2) := by decide +kernel
theorem dX10_init_21 : decode cX10_init 21 = .ok (.putfield 20, 3) := by decide +kernel
theorem dX10_init_24 : decode cX10_init 24 = .ok (.aload_n 0, 1) := by decide +kernel
theorem dX10_init_25 : decode cX10_init 25 = .ok (.iconst 5, 1) := by decide +kernel
theorem dX10_init_26 : decode cX10_init 26 = .ok (.bipush 17, 2) := by decide +kernel
theorem dX10_init_28 : decode cX10_init 28 = .ok (.multianewarray 24 2, 4) := by decide +kernel
theorem dX10_init_32 : decode cX10_init 32 = .ok (.putfield 26, 3) := by decide +kernel
theorem dX10_init_35 : decode cX10_init 35 = .ok (.aload_n 0, 1) := by decide +kernel
theorem dX10_init_36 : decode cX10_init 36 = .ok (.iconst 5, 1) := by decide +kernel
theorem dX10_init_37 : decode cX10_init 37 = .ok (.bipush 17, 2) := by decide +kernel
theorem dX10_init_39 : decode cX10_init 39 = .ok (.multianewarray 24 2, 4) := by decide +kernel
theorem dX10_init_43 : decode cX10_init 43 = .ok (.putfield 29, 3) := by decide +kernel
theorem dX10_init_46 : decode cX10_init 46 = .ok (.aload_n 0, 1) := by decide +kernel
theorem dX10_init_47 : decode cX10_init 47 = .ok (.iconst 5, 1) := by decide +kernel
theorem dX10_init_48 : decode cX10_init 48 = .ok (.bipush 17, 2) := by decide +kernel
theorem dX10_init_50 : decode cX10_init 50 = .ok (.multianewarray 32 2, 4) := by decide +kernel
theorem dX10_init_54 : decode cX10_init 54 = .ok (.putfield 34, 3) := by decide +kernel
theorem dX10_init_57 : decode cX10_init 57 = .ok (.aload_n 0, 1) := by decide +kernel
theorem dX10_init_58 : decode cX10_init 58 = .ok (.aload_n 1, 1) := by decide +kernel
theorem dX10_init_59 : decode cX10_init 59 = .ok (.putfield 37, 3) := by decide +kernel
theorem dX10_init_62 : decode cX10_init 62 = .ok (.aload_n 0, 1) := by decide +kernel
theorem dX10_init_63 : decode cX10_init 63 = .ok (.new 41, 3) := by decide +kernel
theorem dX10_init_66 : decode cX10_init 66 = .ok (.dup, 1) := by decide +kernel
theorem dX10_init_67 : decode cX10_init 67 = .ok (.aload_n 1, 1) := by decide +kernel
theorem dX10_init_68 : decode cX10_init 68 = .ok (.aload_n 0, 1) := by decide +kernel
theorem dX10_init_69 : decode cX10_init 69 = .ok (.getfield 16, 3) := by decide +kernel
theorem dX10_init_72 : decode cX10_init 72 = .ok (.invokespecial 43, 3) := by decide +kernel
theorem dX10_init_75 : decode cX10_init 75 = .ok (.putfield 46, 3) := by decide +kernel
theorem dX10_init_78 : decode cX10_init 78 = .ok (.return_, 1) := by decide +kernel
def T_X3_init_1 (t : List tc) (i0 : Nat) (m1 : Nat) : List tc := t ++ [ar 13 m1]
theorem ln_X3_init_1 {t : List tc} {i0 : Nat} {m1 : Nat} : (T_X3_init_1 t i0 m1).length = t.length + 1 := by unfold T_X3_init_1; rw [List.length_append]; rfl
theorem sgk_X3_init_1 {t : List tc} {i0 : Nat} {m1 : Nat} {i9 : Nat} {x9 : Nat × Nat × Nat} (h9 : sg t i9 = some x9) : sg (T_X3_init_1 t i0 m1) i9 = some x9 := sg_app h9
theorem rfk_X3_init_1 {t : List tc} {i0 : Nat} {m1 : Nat} {i9 k9 j9 : Nat} (hlt : i9 < t.length) (hne : i9 ≠ i0) (h9 : rf t i9 k9 = some j9) : rf (T_X3_init_1 t i0 m1) i9 k9 = some j9 := rf_app h9
def T_X3_init_2 (t : List tc) (i0 : Nat) (m1 : Nat) : List tc := ((T_X3_init_1 t i0 m1)).modify i0 (uR 0 t.length)
theorem ln_X3_init_2 {t : List tc} {i0 : Nat} {m1 : Nat} : (T_X3_init_2 t i0 m1).length = t.length + 1 := by unfold T_X3_init_2; rw [List.length_modify]; exact ln_X3_init_1
theorem sgk_X3_init_2 {t : List tc} {i0 : Nat} {m1 : Nat} {i9 : Nat} {x9 : Nat × Nat × Nat} (h9 : sg t i9 = some x9) : sg (T_X3_init_2 t i0 m1) i9 = some x9 := (sg_mR).trans (sgk_X3_init_1 h9)
theorem rfk_X3_init_2 {t : List tc} {i0 : Nat} {m1 : Nat} {i9 k9 j9 : Nat} (hlt : i9 < t.length) (hne : i9 ≠ i0) (h9 : rf t i9 k9 = some j9) : rf (T_X3_init_2 t i0 m1) i9 k9 = some j9 := (rf_mO (by omega)).trans (rfk_X3_init_1 hlt hne h9)
abbrev T_X3_init (t : List tc) (i0 : Nat) (m1 : Nat) : List tc := T_X3_init_2 t i0 m1
theorem ln_X3_init {t : List tc} {i0 : Nat} {m1 : Nat} : (T_X3_init t i0 m1).length = t.length + 1 := ln_X3_init_2
theorem sgk_X3_init {t : List tc} {i0 : Nat} {m1 : Nat} {i9 : Nat} {x9 : Nat × Nat × Nat} (h9 : sg t i9 = some x9) : sg (T_X3_init t i0 m1) i9 = some x9 := sgk_X3_init_2 h9
theorem rfk_X3_init {t : List tc} {i0 : Nat} {m1 : Nat} {i9 k9 j9 : Nat} (hlt : i9 < t.length) (hne : i9 ≠ i0) (h9 : rf t i9 k9 = some j9) : rf (T_X3_init t i0 m1) i9 k9 = some j9 := rfk_X3_init_2 hlt hne h9
theorem rof_X3_init_0 {t : List tc} {i0 : Nat} {m1 : Nat} (G0 : sg t i0 = some (3, 2, 2)) : rf (T_X3_init t i0 m1) i0 0 = some t.length := rf_mS (sgk_X3_init_1 (x9 := (3, 2, 2)) G0) (by decide)
set_option maxHeartbeats 4000000 in
set_option maxRecDepth 100000 in
theorem i_X3_init {l : Launch} {D : va_G} {cy : Nat → ClassId} {d : Nat} {t : List tc} {ad : List Nat} {h : hp} (hl : l.stackTraces = false) (hd : 1 ≤ d) (L : Lay t ad h) {i0 a0 : Nat} (A0 : ad[i0]? = some a0) (G0 : sg t i0 = some (3, 2, 2)) {x1 : Int32} {m1 : Nat} (hn1 : ¬ x1 < 0) (hm1 : x1.toNatClampNeg = m1) (hb1 : m1 ≤ 1000000) : Cal l D cy m_X3_init d 1 m1 [.ref a0, .int x1] h (inP (T_X3_init t i0 m1) ad) (fun _ _ => False) := by
  refine Cal.of (by decide +kernel) (Nat.le_of_ble_eq_true rfl) hl ?_
  have p : Pre ad ad := Pre.rf
  have hl0 := L.lt A0
  refine a_aload_n 0 0 (μ := m_X3_init) (pc := 0) dX3_init_0 rfl rfl ?_
  refine a_objI (μ := m_X3_init) (pc := 1) dX3_init_1 oi_X3_3 oi_i oi_c (Nat.le_of_ble_eq_true rfl) (by omega) ?_
  refine a_aload_n 0 0 (μ := m_X3_init) (pc := 4) dX3_init_4 rfl rfl ?_
  refine a_iload_n 1 1 (μ := m_X3_init) (pc := 5) dX3_init_5 rfl rfl ?_
  refine t_newI t.length L rfl 0 m1 (ty := .int) (rc' := 0) (rs' := 0) (μ := m_X3_init) (pc := 6) dX3_init_6 rfl (by decide) ac_0 hn1 hm1 hb1 (by decide) (by omega) (fun q1 ad1 h1 p1 A_2 L1 => ?_)
  replace L : Lay (T_X3_init_1 t i0 m1) ad1 h1 := L1
  replace p := Pre.tr p p1
  have A_3 := p1 _ _ A0
  have G_4 : sg (T_X3_init_1 t i0 m1) i0 = some (3, 2, 2) := sg_app G0
  clear L1 p1
  refine t_putF L (i := i0) (j := t.length) (μ := m_X3_init) (pc := 8) dX3_init_8 fl_X3_9 pf_X3_9 flF_3_0 rfl ir_3_0 id_3_0 rfl rfl G_4 A_3 (by decide) A_2 (fun h1 L1 => ?_)
  replace L : Lay (T_X3_init_2 t i0 m1) _ h1 := L1
  have G_5 : sg (T_X3_init_2 t i0 m1) i0 = some (3, 2, 2) := sg_mR.trans G_4
  have R_6 : rf (T_X3_init_2 t i0 m1) i0 0 = some t.length := rf_mS G_4 (by decide)
  clear L1
  exact a_vret (μ := m_X3_init) (pc := 11) dX3_init_11 rfl ⟨rfl, _, p, L⟩
def T_X5_init_1 (t : List tc) (i0 : Nat) : List tc := (t).modify i0 (uI 0 8)
theorem ln_X5_init_1 {t : List tc} {i0 : Nat} : (T_X5_init_1 t i0).length = t.length + 0 := by unfold T_X5_init_1; rw [List.length_modify]; rfl
theorem sgk_X5_init_1 {t : List tc} {i0 : Nat} {i9 : Nat} {x9 : Nat × Nat × Nat} (h9 : sg t i9 = some x9) : sg (T_X5_init_1 t i0) i9 = some x9 := (sg_mI).trans h9
theorem rfk_X5_init_1 {t : List tc} {i0 : Nat} {i9 k9 j9 : Nat} (hlt : i9 < t.length) (hne : i9 ≠ i0) (h9 : rf t i9 k9 = some j9) : rf (T_X5_init_1 t i0) i9 k9 = some j9 := (rf_mI).trans h9
def T_X5_init_2 (t : List tc) (i0 : Nat) : List tc := ((T_X5_init_1 t i0)).modify i0 (uI 1 1)
theorem ln_X5_init_2 {t : List tc} {i0 : Nat} : (T_X5_init_2 t i0).length = t.length + 0 := by unfold T_X5_init_2; rw [List.length_modify]; exact ln_X5_init_1
theorem sgk_X5_init_2 {t : List tc} {i0 : Nat} {i9 : Nat} {x9 : Nat × Nat × Nat} (h9 : sg t i9 = some x9) : sg (T_X5_init_2 t i0) i9 = some x9 := (sg_mI).trans (sgk_X5_init_1 h9)
theorem rfk_X5_init_2 {t : List tc} {i0 : Nat} {i9 k9 j9 : Nat} (hlt : i9 < t.length) (hne : i9 ≠ i0) (h9 : rf t i9 k9 = some j9) : rf (T_X5_init_2 t i0) i9 k9 = some j9 := (rf_mI).trans (rfk_X5_init_1 hlt hne h9)
def T_X5_init_3 (t : List tc) (i0 : Nat) : List tc := ((T_X5_init_2 t i0)).modify i0 (uI 2 1)
theorem ln_X5_init_3 {t : List tc} {i0 : Nat} : (T_X5_init_3 t i0).length = t.length + 0 := by unfold T_X5_init_3; rw [List.length_modify]; exact ln_X5_init_2
theorem sgk_X5_init_3 {t : List tc} {i0 : Nat} {i9 : Nat} {x9 : Nat × Nat × Nat} (h9 : sg t i9 = some x9) : sg (T_X5_init_3 t i0) i9 = some x9 := (sg_mI).trans (sgk_X5_init_2 h9)
theorem rfk_X5_init_3 {t : List tc} {i0 : Nat} {i9 k9 j9 : Nat} (hlt : i9 < t.length) (hne : i9 ≠ i0) (h9 : rf t i9 k9 = some j9) : rf (T_X5_init_3 t i0) i9 k9 = some j9 := (rf_mI).trans (rfk_X5_init_2 hlt hne h9)
abbrev T_X5_init (t : List tc) (i0 : Nat) : List tc := T_X5_init_3 t i0
theorem ln_X5_init {t : List tc} {i0 : Nat} : (T_X5_init t i0).length = t.length + 0 := ln_X5_init_3
theorem sgk_X5_init {t : List tc} {i0 : Nat} {i9 : Nat} {x9 : Nat × Nat × Nat} (h9 : sg t i9 = some x9) : sg (T_X5_init t i0) i9 = some x9 := sgk_X5_init_3 h9
theorem rfk_X5_init {t : List tc} {i0 : Nat} {i9 k9 j9 : Nat} (hlt : i9 < t.length) (hne : i9 ≠ i0) (h9 : rf t i9 k9 = some j9) : rf (T_X5_init t i0) i9 k9 = some j9 := rfk_X5_init_3 hlt hne h9
set_option maxHeartbeats 4000000 in
set_option maxRecDepth 100000 in
theorem i_X5_init {l : Launch} {D : va_G} {cy : Nat → ClassId} {d : Nat} {t : List tc} {ad : List Nat} {h : hp} (hl : l.stackTraces = false) (hd : 1 ≤ d) (L : Lay t ad h) {i0 a0 : Nat} (A0 : ad[i0]? = some a0) (G0 : sg t i0 = some (5, 3, 3)) : Cal l D cy m_X5_init d 0 0 [.ref a0] h (inP (T_X5_init t i0) ad) (fun _ _ => False) := by
  refine Cal.of (by decide +kernel) (Nat.le_of_ble_eq_true rfl) hl ?_
  have p : Pre ad ad := Pre.rf
  have hl0 := L.lt A0
  refine a_aload_n 0 0 (μ := m_X5_init) (pc := 0) dX5_init_0 rfl rfl ?_
  refine a_objI (μ := m_X5_init) (pc := 1) dX5_init_1 oi_X5_3 oi_i oi_c (Nat.le_of_ble_eq_true rfl) (by omega) ?_
  refine a_aload_n 0 0 (μ := m_X5_init) (pc := 4) dX5_init_4 rfl rfl ?_
  refine a_bipush (v := 8) (μ := m_X5_init) (pc := 5) dX5_init_5 (by decide) ?_
  refine t_putI L (i := i0) (μ := m_X5_init) (pc := 7) dX5_init_7 fl_X5_11 flw_5_0 (by decide) (by decide) ir_5_0 G0 A0 (by decide) (fun h1 L1 => ?_)
  replace L : Lay (T_X5_init_1 t i0) _ h1 := L1
  have G_1 : sg (T_X5_init_1 t i0) i0 = some (5, 3, 3) := sg_mI.trans G0
  clear L1
  refine a_aload_n 0 0 (μ := m_X5_init) (pc := 10) dX5_init_10 rfl rfl ?_
  refine a_iconst (v := 1) (μ := m_X5_init) (pc := 11) dX5_init_11 (by decide) ?_
  refine t_putI L (i := i0) (μ := m_X5_init) (pc := 12) dX5_init_12 fl_X5_17 flw_5_1 (by decide) (by decide) ir_5_1 G_1 A0 (by decide) (fun h1 L1 => ?_)
  replace L : Lay (T_X5_init_2 t i0) _ h1 := L1
  have G_2 : sg (T_X5_init_2 t i0) i0 = some (5, 3, 3) := sg_mI.trans G_1
  clear L1
  refine a_aload_n 0 0 (μ := m_X5_init) (pc := 15) dX5_init_15 rfl rfl ?_
  refine a_iconst (v := 1) (μ := m_X5_init) (pc := 16) dX5_init_16 (by decide) ?_
  refine t_putI L (i := i0) (μ := m_X5_init) (pc := 17) dX5_init_17 fl_X5_21 flw_5_2 (by decide) (by decide) ir_5_2 G_2 A0 (by decide) (fun h1 L1 => ?_)
  replace L : Lay (T_X5_init_3 t i0) _ h1 := L1
  have G_3 : sg (T_X5_init_3 t i0) i0 = some (5, 3, 3) := sg_mI.trans G_2
  clear L1
  exact a_vret (μ := m_X5_init) (pc := 20) dX5_init_20 rfl ⟨rfl, _, p, L⟩
def T_X6_init_1 (t : List tc) (i0 : Nat) : List tc := t ++ [ar 15 3]
theorem ln_X6_init_1 {t : List tc} {i0 : Nat} : (T_X6_init_1 t i0).length = t.length + 1 := by unfold T_X6_init_1; rw [List.length_append]; rfl
theorem sgk_X6_init_1 {t : List tc} {i0 : Nat} {i9 : Nat} {x9 : Nat × Nat × Nat} (h9 : sg t i9 = some x9) : sg (T_X6_init_1 t i0) i9 = some x9 := sg_app h9
theorem rfk_X6_init_1 {t : List tc} {i0 : Nat} {i9 k9 j9 : Nat} (hlt : i9 < t.length) (hne : i9 ≠ i0) (h9 : rf t i9 k9 = some j9) : rf (T_X6_init_1 t i0) i9 k9 = some j9 := rf_app h9
def T_X6_init_2 (t : List tc) (i0 : Nat) : List tc := ((T_X6_init_1 t i0)).modify i0 (uR 3 t.length)
theorem ln_X6_init_2 {t : List tc} {i0 : Nat} : (T_X6_init_2 t i0).length = t.length + 1 := by unfold T_X6_init_2; rw [List.length_modify]; exact ln_X6_init_1
theorem sgk_X6_init_2 {t : List tc} {i0 : Nat} {i9 : Nat} {x9 : Nat × Nat × Nat} (h9 : sg t i9 = some x9) : sg (T_X6_init_2 t i0) i9 = some x9 := (sg_mR).trans (sgk_X6_init_1 h9)
theorem rfk_X6_init_2 {t : List tc} {i0 : Nat} {i9 k9 j9 : Nat} (hlt : i9 < t.length) (hne : i9 ≠ i0) (h9 : rf t i9 k9 = some j9) : rf (T_X6_init_2 t i0) i9 k9 = some j9 := (rf_mO (by omega)).trans (rfk_X6_init_1 hlt hne h9)
abbrev T_X6_init (t : List tc) (i0 : Nat) : List tc := T_X6_init_2 t i0
theorem ln_X6_init {t : List tc} {i0 : Nat} : (T_X6_init t i0).length = t.length + 1 := ln_X6_init_2
theorem sgk_X6_init {t : List tc} {i0 : Nat} {i9 : Nat} {x9 : Nat × Nat × Nat} (h9 : sg t i9 = some x9) : sg (T_X6_init t i0) i9 = some x9 := sgk_X6_init_2 h9
theorem rfk_X6_init {t : List tc} {i0 : Nat} {i9 k9 j9 : Nat} (hlt : i9 < t.length) (hne : i9 ≠ i0) (h9 : rf t i9 k9 = some j9) : rf (T_X6_init t i0) i9 k9 = some j9 := rfk_X6_init_2 hlt hne h9
set_option maxHeartbeats 4000000 in
set_option maxRecDepth 100000 in
theorem i_X6_init {l : Launch} {D : va_G} {cy : Nat → ClassId} {d : Nat} {t : List tc} {ad : List Nat} {h : hp} (hl : l.stackTraces = false) (hd : 1 ≤ d) (L : Lay t ad h) {i0 a0 : Nat} (A0 : ad[i0]? = some a0) (G0 : sg t i0 = some (6, 4, 4)) : Cal l D cy m_X6_init d 1 3 [.ref a0] h (inP (T_X6_init t i0) ad) (fun _ _ => False) := by
  refine Cal.of (by decide +kernel) (Nat.le_of_ble_eq_true rfl) hl ?_
  have p : Pre ad ad := Pre.rf
  have hl0 := L.lt A0
  refine a_aload_n 0 0 (μ := m_X6_init) (pc := 0) dX6_init_0 rfl rfl ?_
  refine a_objI (μ := m_X6_init) (pc := 1) dX6_init_1 oi_X6_3 oi_i oi_c (Nat.le_of_ble_eq_true rfl) (by omega) ?_
  refine a_aload_n 0 0 (μ := m_X6_init) (pc := 4) dX6_init_4 rfl rfl ?_
  refine a_iconst (v := 3) (μ := m_X6_init) (pc := 5) dX6_init_5 (by decide) ?_
  refine t_newI t.length L rfl 2 3 (ty := .boolean) (rc' := 0) (rs' := 0) (μ := m_X6_init) (pc := 6) dX6_init_6 rfl (by decide) ac_2 (by decide) (by decide) (by decide) (by decide) (by decide) (fun q1 ad1 h1 p1 A_2 L1 => ?_)
  replace L : Lay (T_X6_init_1 t i0) ad1 h1 := L1
  replace p := Pre.tr p p1
  have A_3 := p1 _ _ A0
  have G_4 : sg (T_X6_init_1 t i0) i0 = some (6, 4, 4) := sg_app G0
  clear L1 p1
  refine t_putF L (i := i0) (j := t.length) (μ := m_X6_init) (pc := 8) dX6_init_8 fl_X6_11 pf_X6_11 flF_6_3 rfl ir_6_3 id_6_3 rfl rfl G_4 A_3 (by decide) A_2 (fun h1 L1 => ?_)
  replace L : Lay (T_X6_init_2 t i0) _ h1 := L1
  have G_5 : sg (T_X6_init_2 t i0) i0 = some (6, 4, 4) := sg_mR.trans G_4
  have R_6 : rf (T_X6_init_2 t i0) i0 3 = some t.length := rf_mS G_4 (by decide)
  clear L1
  exact a_vret (μ := m_X6_init) (pc := 11) dX6_init_11 rfl ⟨rfl, _, p, L⟩
def T_X7_init_1 (t : List tc) (i0 : Nat) : List tc := t ++ [ar 13 500]
theorem ln_X7_init_1 {t : List tc} {i0 : Nat} : (T_X7_init_1 t i0).length = t.length + 1 := by unfold T_X7_init_1; rw [List.length_append]; rfl
theorem sgk_X7_init_1 {t : List tc} {i0 : Nat} {i9 : Nat} {x9 : Nat × Nat × Nat} (h9 : sg t i9 = some x9) : sg (T_X7_init_1 t i0) i9 = some x9 := sg_app h9
theorem rfk_X7_init_1 {t : List tc} {i0 : Nat} {i9 k9 j9 : Nat} (hlt : i9 < t.length) (hne : i9 ≠ i0) (h9 : rf t i9 k9 = some j9) : rf (T_X7_init_1 t i0) i9 k9 = some j9 := rf_app h9
def T_X7_init_2 (t : List tc) (i0 : Nat) : List tc := ((T_X7_init_1 t i0)).modify i0 (uR 0 t.length)
theorem ln_X7_init_2 {t : List tc} {i0 : Nat} : (T_X7_init_2 t i0).length = t.length + 1 := by unfold T_X7_init_2; rw [List.length_modify]; exact ln_X7_init_1
theorem sgk_X7_init_2 {t : List tc} {i0 : Nat} {i9 : Nat} {x9 : Nat × Nat × Nat} (h9 : sg t i9 = some x9) : sg (T_X7_init_2 t i0) i9 = some x9 := (sg_mR).trans (sgk_X7_init_1 h9)
theorem rfk_X7_init_2 {t : List tc} {i0 : Nat} {i9 k9 j9 : Nat} (hlt : i9 < t.length) (hne : i9 ≠ i0) (h9 : rf t i9 k9 = some j9) : rf (T_X7_init_2 t i0) i9 k9 = some j9 := (rf_mO (by omega)).trans (rfk_X7_init_1 hlt hne h9)
abbrev T_X7_init (t : List tc) (i0 : Nat) : List tc := T_X7_init_2 t i0
theorem ln_X7_init {t : List tc} {i0 : Nat} : (T_X7_init t i0).length = t.length + 1 := ln_X7_init_2
theorem sgk_X7_init {t : List tc} {i0 : Nat} {i9 : Nat} {x9 : Nat × Nat × Nat} (h9 : sg t i9 = some x9) : sg (T_X7_init t i0) i9 = some x9 := sgk_X7_init_2 h9
theorem rfk_X7_init {t : List tc} {i0 : Nat} {i9 k9 j9 : Nat} (hlt : i9 < t.length) (hne : i9 ≠ i0) (h9 : rf t i9 k9 = some j9) : rf (T_X7_init t i0) i9 k9 = some j9 := rfk_X7_init_2 hlt hne h9
set_option maxHeartbeats 4000000 in
set_option maxRecDepth 100000 in
theorem i_X7_init {l : Launch} {D : va_G} {cy : Nat → ClassId} {d : Nat} {t : List tc} {ad : List Nat} {h : hp} (hl : l.stackTraces = false) (hd : 1 ≤ d) (L : Lay t ad h) {i0 a0 : Nat} (A0 : ad[i0]? = some a0) (G0 : sg t i0 = some (7, 7, 7)) : Cal l D cy m_X7_init d 1 500 [.ref a0] h (inP (T_X7_init t i0) ad) (fun _ _ => False) := by
  refine Cal.of (by decide +kernel) (Nat.le_of_ble_eq_true rfl) hl ?_
  have p : Pre ad ad := Pre.rf
  have hl0 := L.lt A0
  refine a_aload_n 0 0 (μ := m_X7_init) (pc := 0) dX7_init_0 rfl rfl ?_
  refine a_objI (μ := m_X7_init) (pc := 1) dX7_init_1 oi_X7_3 oi_i oi_c (Nat.le_of_ble_eq_true rfl) (by omega) ?_
  refine a_aload_n 0 0 (μ := m_X7_init) (pc := 4) dX7_init_4 rfl rfl ?_
  refine a_sipush (v := 500) (μ := m_X7_init) (pc := 5) dX7_init_5 (by decide) ?_
  refine t_newI t.length L rfl 0 500 (ty := .int) (rc' := 0) (rs' := 0) (μ := m_X7_init) (pc := 8) dX7_init_8 rfl (by decide) ac_0 (by decide) (by decide) (by decide) (by decide) (by decide) (fun q1 ad1 h1 p1 A_2 L1 => ?_)
  replace L : Lay (T_X7_init_1 t i0) ad1 h1 := L1
  replace p := Pre.tr p p1
  have A_3 := p1 _ _ A0
  have G_4 : sg (T_X7_init_1 t i0) i0 = some (7, 7, 7) := sg_app G0
  clear L1 p1
  refine t_putF L (i := i0) (j := t.length) (μ := m_X7_init) (pc := 10) dX7_init_10 fl_X7_9 pf_X7_9 flF_7_0 rfl ir_7_0 id_7_0 rfl rfl G_4 A_3 (by decide) A_2 (fun h1 L1 => ?_)
  replace L : Lay (T_X7_init_2 t i0) _ h1 := L1
  have G_5 : sg (T_X7_init_2 t i0) i0 = some (7, 7, 7) := sg_mR.trans G_4
  have R_6 : rf (T_X7_init_2 t i0) i0 0 = some t.length := rf_mS G_4 (by decide)
  clear L1
  exact a_vret (μ := m_X7_init) (pc := 13) dX7_init_13 rfl ⟨rfl, _, p, L⟩
def T_X8_init_1 (t : List tc) (i0 : Nat) : List tc := t ++ [ar 13 500]
theorem ln_X8_init_1 {t : List tc} {i0 : Nat} : (T_X8_init_1 t i0).length = t.length + 1 := by unfold T_X8_init_1; rw [List.length_append]; rfl
theorem sgk_X8_init_1 {t : List tc} {i0 : Nat} {i9 : Nat} {x9 : Nat × Nat × Nat} (h9 : sg t i9 = some x9) : sg (T_X8_init_1 t i0) i9 = some x9 := sg_app h9
theorem rfk_X8_init_1 {t : List tc} {i0 : Nat} {i9 k9 j9 : Nat} (hlt : i9 < t.length) (hne : i9 ≠ i0) (h9 : rf t i9 k9 = some j9) : rf (T_X8_init_1 t i0) i9 k9 = some j9 := rf_app h9
def T_X8_init_2 (t : List tc) (i0 : Nat) : List tc := ((T_X8_init_1 t i0)).modify i0 (uR 0 t.length)
theorem ln_X8_init_2 {t : List tc} {i0 : Nat} : (T_X8_init_2 t i0).length = t.length + 1 := by unfold T_X8_init_2; rw [List.length_modify]; exact ln_X8_init_1
theorem sgk_X8_init_2 {t : List tc} {i0 : Nat} {i9 : Nat} {x9 : Nat × Nat × Nat} (h9 : sg t i9 = some x9) : sg (T_X8_init_2 t i0) i9 = some x9 := (sg_mR).trans (sgk_X8_init_1 h9)
theorem rfk_X8_init_2 {t : List tc} {i0 : Nat} {i9 k9 j9 : Nat} (hlt : i9 < t.length) (hne : i9 ≠ i0) (h9 : rf t i9 k9 = some j9) : rf (T_X8_init_2 t i0) i9 k9 = some j9 := (rf_mO (by omega)).trans (rfk_X8_init_1 hlt hne h9)
def T_X8_init_3 (t : List tc) (i0 : Nat) : List tc := (T_X8_init_2 t i0) ++ [ar 13 500]
theorem ln_X8_init_3 {t : List tc} {i0 : Nat} : (T_X8_init_3 t i0).length = t.length + 2 := by unfold T_X8_init_3; rw [List.length_append, ln_X8_init_2]; rfl
theorem sgk_X8_init_3 {t : List tc} {i0 : Nat} {i9 : Nat} {x9 : Nat × Nat × Nat} (h9 : sg t i9 = some x9) : sg (T_X8_init_3 t i0) i9 = some x9 := sg_app (sgk_X8_init_2 h9)
theorem rfk_X8_init_3 {t : List tc} {i0 : Nat} {i9 k9 j9 : Nat} (hlt : i9 < t.length) (hne : i9 ≠ i0) (h9 : rf t i9 k9 = some j9) : rf (T_X8_init_3 t i0) i9 k9 = some j9 := rf_app (rfk_X8_init_2 hlt hne h9)
def T_X8_init_4 (t : List tc) (i0 : Nat) : List tc := ((T_X8_init_3 t i0)).modify i0 (uR 1 (t.length + 1))
theorem ln_X8_init_4 {t : List tc} {i0 : Nat} : (T_X8_init_4 t i0).length = t.length + 2 := by unfold T_X8_init_4; rw [List.length_modify]; exact ln_X8_init_3
theorem sgk_X8_init_4 {t : List tc} {i0 : Nat} {i9 : Nat} {x9 : Nat × Nat × Nat} (h9 : sg t i9 = some x9) : sg (T_X8_init_4 t i0) i9 = some x9 := (sg_mR).trans (sgk_X8_init_3 h9)
theorem rfk_X8_init_4 {t : List tc} {i0 : Nat} {i9 k9 j9 : Nat} (hlt : i9 < t.length) (hne : i9 ≠ i0) (h9 : rf t i9 k9 = some j9) : rf (T_X8_init_4 t i0) i9 k9 = some j9 := (rf_mO (by omega)).trans (rfk_X8_init_3 hlt hne h9)
abbrev T_X8_init (t : List tc) (i0 : Nat) : List tc := T_X8_init_4 t i0
theorem ln_X8_init {t : List tc} {i0 : Nat} : (T_X8_init t i0).length = t.length + 2 := ln_X8_init_4
theorem sgk_X8_init {t : List tc} {i0 : Nat} {i9 : Nat} {x9 : Nat × Nat × Nat} (h9 : sg t i9 = some x9) : sg (T_X8_init t i0) i9 = some x9 := sgk_X8_init_4 h9
theorem rfk_X8_init {t : List tc} {i0 : Nat} {i9 k9 j9 : Nat} (hlt : i9 < t.length) (hne : i9 ≠ i0) (h9 : rf t i9 k9 = some j9) : rf (T_X8_init t i0) i9 k9 = some j9 := rfk_X8_init_4 hlt hne h9
set_option maxHeartbeats 4000000 in
set_option maxRecDepth 100000 in
theorem i_X8_init {l : Launch} {D : va_G} {cy : Nat → ClassId} {d : Nat} {t : List tc} {ad : List Nat} {h : hp} (hl : l.stackTraces = false) (hd : 1 ≤ d) (L : Lay t ad h) {i0 a0 : Nat} (A0 : ad[i0]? = some a0) (G0 : sg t i0 = some (8, 4, 4)) : Cal l D cy m_X8_init d 2 1000 [.ref a0] h (inP (T_X8_init t i0) ad) (fun _ _ => False) := by
  refine Cal.of (by decide +kernel) (Nat.le_of_ble_eq_true rfl) hl ?_
  have p : Pre ad ad := Pre.rf
  have hl0 := L.lt A0
  refine a_aload_n 0 0 (μ := m_X8_init) (pc := 0) dX8_init_0 rfl rfl ?_
  refine a_objI (μ := m_X8_init) (pc := 1) dX8_init_1 oi_X8_3 oi_i oi_c (Nat.le_of_ble_eq_true rfl) (by omega) ?_
  refine a_aload_n 0 0 (μ := m_X8_init) (pc := 4) dX8_init_4 rfl rfl ?_
  refine a_sipush (v := 500) (μ := m_X8_init) (pc := 5) dX8_init_5 (by decide) ?_
  refine t_newI t.length L rfl 0 500 (ty := .int) (rc' := 1) (rs' := 500) (μ := m_X8_init) (pc := 8) dX8_init_8 rfl (by decide) ac_0 (by decide) (by decide) (by decide) (by decide) (by decide) (fun q1 ad1 h1 p1 A_2 L1 => ?_)
  replace L : Lay (T_X8_init_1 t i0) ad1 h1 := L1
  replace p := Pre.tr p p1
  have A_3 := p1 _ _ A0
  have G_4 : sg (T_X8_init_1 t i0) i0 = some (8, 4, 4) := sg_app G0
  clear L1 p1
  refine t_putF L (i := i0) (j := t.length) (μ := m_X8_init) (pc := 10) dX8_init_10 fl_X8_9 pf_X8_9 flF_8_0 rfl ir_8_0 id_8_0 rfl rfl G_4 A_3 (by decide) A_2 (fun h1 L1 => ?_)
  replace L : Lay (T_X8_init_2 t i0) _ h1 := L1
  have G_5 : sg (T_X8_init_2 t i0) i0 = some (8, 4, 4) := sg_mR.trans G_4
  have R_6 : rf (T_X8_init_2 t i0) i0 0 = some t.length := rf_mS G_4 (by decide)
  clear L1
  refine a_aload_n 0 0 (μ := m_X8_init) (pc := 13) dX8_init_13 rfl rfl ?_
  refine a_sipush (v := 500) (μ := m_X8_init) (pc := 14) dX8_init_14 (by decide) ?_
  refine t_newI (t.length + 1) L ln_X8_init_2 0 500 (ty := .int) (rc' := 0) (rs' := 0) (μ := m_X8_init) (pc := 17) dX8_init_17 rfl (by decide) ac_0 (by decide) (by decide) (by decide) (by decide) (by decide) (fun q7 ad1 h1 p1 A_8 L1 => ?_)
  replace L : Lay (T_X8_init_3 t i0) ad1 h1 := L1
  replace p := Pre.tr p p1
  have A_9 := p1 _ _ A_3
  have G_10 : sg (T_X8_init_3 t i0) i0 = some (8, 4, 4) := sg_app G_5
  clear L1 p1
  refine t_putF L (i := i0) (j := (t.length + 1)) (μ := m_X8_init) (pc := 19) dX8_init_19 fl_X8_15 pf_X8_15 flF_8_1 rfl ir_8_1 id_8_1 rfl rfl G_10 A_9 (by decide) A_8 (fun h1 L1 => ?_)
  replace L : Lay (T_X8_init_4 t i0) _ h1 := L1
  have G_11 : sg (T_X8_init_4 t i0) i0 = some (8, 4, 4) := sg_mR.trans G_10
  have R_12 : rf (T_X8_init_4 t i0) i0 1 = some (t.length + 1) := rf_mS G_10 (by decide)
  clear L1
  exact a_vret (μ := m_X8_init) (pc := 22) dX8_init_22 rfl ⟨rfl, _, p, L⟩
def T_X9_init_1 (t : List tc) (i0 : Nat) : List tc := t ++ [ar 13 3]
theorem ln_X9_init_1 {t : List tc} {i0 : Nat} : (T_X9_init_1 t i0).length = t.length + 1 := by unfold T_X9_init_1; rw [List.length_append]; rfl
theorem sgk_X9_init_1 {t : List tc} {i0 : Nat} {i9 : Nat} {x9 : Nat × Nat × Nat} (h9 : sg t i9 = some x9) : sg (T_X9_init_1 t i0) i9 = some x9 := sg_app h9
theorem rfk_X9_init_1 {t : List tc} {i0 : Nat} {i9 k9 j9 : Nat} (hlt : i9 < t.length) (hne : i9 ≠ i0) (h9 : rf t i9 k9 = some j9) : rf (T_X9_init_1 t i0) i9 k9 = some j9 := rf_app h9
def T_X9_init_2 (t : List tc) (i0 : Nat) : List tc := ((T_X9_init_1 t i0)).modify i0 (uR 5 t.length)
theorem ln_X9_init_2 {t : List tc} {i0 : Nat} : (T_X9_init_2 t i0).length = t.length + 1 := by unfold T_X9_init_2; rw [List.length_modify]; exact ln_X9_init_1
theorem sgk_X9_init_2 {t : List tc} {i0 : Nat} {i9 : Nat} {x9 : Nat × Nat × Nat} (h9 : sg t i9 = some x9) : sg (T_X9_init_2 t i0) i9 = some x9 := (sg_mR).trans (sgk_X9_init_1 h9)
theorem rfk_X9_init_2 {t : List tc} {i0 : Nat} {i9 k9 j9 : Nat} (hlt : i9 < t.length) (hne : i9 ≠ i0) (h9 : rf t i9 k9 = some j9) : rf (T_X9_init_2 t i0) i9 k9 = some j9 := (rf_mO (by omega)).trans (rfk_X9_init_1 hlt hne h9)
def T_X9_init_3 (t : List tc) (i0 : Nat) : List tc := (T_X9_init_2 t i0) ++ [ar 13 3]
theorem ln_X9_init_3 {t : List tc} {i0 : Nat} : (T_X9_init_3 t i0).length = t.length + 2 := by unfold T_X9_init_3; rw [List.length_append, ln_X9_init_2]; rfl
theorem sgk_X9_init_3 {t : List tc} {i0 : Nat} {i9 : Nat} {x9 : Nat × Nat × Nat} (h9 : sg t i9 = some x9) : sg (T_X9_init_3 t i0) i9 = some x9 := sg_app (sgk_X9_init_2 h9)
theorem rfk_X9_init_3 {t : List tc} {i0 : Nat} {i9 k9 j9 : Nat} (hlt : i9 < t.length) (hne : i9 ≠ i0) (h9 : rf t i9 k9 = some j9) : rf (T_X9_init_3 t i0) i9 k9 = some j9 := rf_app (rfk_X9_init_2 hlt hne h9)
def T_X9_init_4 (t : List tc) (i0 : Nat) : List tc := ((T_X9_init_3 t i0)).modify i0 (uR 6 (t.length + 1))
theorem ln_X9_init_4 {t : List tc} {i0 : Nat} : (T_X9_init_4 t i0).length = t.length + 2 := by unfold T_X9_init_4; rw [List.length_modify]; exact ln_X9_init_3
theorem sgk_X9_init_4 {t : List tc} {i0 : Nat} {i9 : Nat} {x9 : Nat × Nat × Nat} (h9 : sg t i9 = some x9) : sg (T_X9_init_4 t i0) i9 = some x9 := (sg_mR).trans (sgk_X9_init_3 h9)
theorem rfk_X9_init_4 {t : List tc} {i0 : Nat} {i9 k9 j9 : Nat} (hlt : i9 < t.length) (hne : i9 ≠ i0) (h9 : rf t i9 k9 = some j9) : rf (T_X9_init_4 t i0) i9 k9 = some j9 := (rf_mO (by omega)).trans (rfk_X9_init_3 hlt hne h9)
abbrev T_X9_init (t : List tc) (i0 : Nat) : List tc := T_X9_init_4 t i0
theorem ln_X9_init {t : List tc} {i0 : Nat} : (T_X9_init t i0).length = t.length + 2 := ln_X9_init_4
theorem sgk_X9_init {t : List tc} {i0 : Nat} {i9 : Nat} {x9 : Nat × Nat × Nat} (h9 : sg t i9 = some x9) : sg (T_X9_init t i0) i9 = some x9 := sgk_X9_init_4 h9
theorem rfk_X9_init {t : List tc} {i0 : Nat} {i9 k9 j9 : Nat} (hlt : i9 < t.length) (hne : i9 ≠ i0) (h9 : rf t i9 k9 = some j9) : rf (T_X9_init t i0) i9 k9 = some j9 := rfk_X9_init_4 hlt hne h9
set_option maxHeartbeats 4000000 in
set_option maxRecDepth 100000 in
theorem i_X9_init {l : Launch} {D : va_G} {cy : Nat → ClassId} {d : Nat} {t : List tc} {ad : List Nat} {h : hp} (hl : l.stackTraces = false) (hd : 1 ≤ d) (L : Lay t ad h) {i0 a0 : Nat} (A0 : ad[i0]? = some a0) (G0 : sg t i0 = some (9, 7, 7)) : Cal l D cy m_X9_init d 2 6 [.ref a0] h (inP (T_X9_init t i0) ad) (fun _ _ => False) := by
  refine Cal.of (by decide +kernel) (Nat.le_of_ble_eq_true rfl) hl ?_
  have p : Pre ad ad := Pre.rf
  have hl0 := L.lt A0
  refine a_aload_n 0 0 (μ := m_X9_init) (pc := 0) dX9_init_0 rfl rfl ?_
  refine a_objI (μ := m_X9_init) (pc := 1) dX9_init_1 oi_X9_3 oi_i oi_c (Nat.le_of_ble_eq_true rfl) (by omega) ?_
  refine a_aload_n 0 0 (μ := m_X9_init) (pc := 4) dX9_init_4 rfl rfl ?_
  refine a_iconst (v := 3) (μ := m_X9_init) (pc := 5) dX9_init_5 (by decide) ?_
  refine t_newI t.length L rfl 0 3 (ty := .int) (rc' := 1) (rs' := 3) (μ := m_X9_init) (pc := 6) dX9_init_6 rfl (by decide) ac_0 (by decide) (by decide) (by decide) (by decide) (by decide) (fun q1 ad1 h1 p1 A_2 L1 => ?_)
  replace L : Lay (T_X9_init_1 t i0) ad1 h1 := L1
  replace p := Pre.tr p p1
  have A_3 := p1 _ _ A0
  have G_4 : sg (T_X9_init_1 t i0) i0 = some (9, 7, 7) := sg_app G0
  clear L1 p1
  refine t_putF L (i := i0) (j := t.length) (μ := m_X9_init) (pc := 8) dX9_init_8 fl_X9_11 pf_X9_11 flF_9_5 rfl ir_9_5 id_9_5 rfl rfl G_4 A_3 (by decide) A_2 (fun h1 L1 => ?_)
  replace L : Lay (T_X9_init_2 t i0) _ h1 := L1
  have G_5 : sg (T_X9_init_2 t i0) i0 = some (9, 7, 7) := sg_mR.trans G_4
  have R_6 : rf (T_X9_init_2 t i0) i0 5 = some t.length := rf_mS G_4 (by decide)
  clear L1
  refine a_aload_n 0 0 (μ := m_X9_init) (pc := 11) dX9_init_11 rfl rfl ?_
  refine a_iconst (v := 3) (μ := m_X9_init) (pc := 12) dX9_init_12 (by decide) ?_
  refine t_newI (t.length + 1) L ln_X9_init_2 0 3 (ty := .int) (rc' := 0) (rs' := 0) (μ := m_X9_init) (pc := 13) dX9_init_13 rfl (by decide) ac_0 (by decide) (by decide) (by decide) (by decide) (by decide) (fun q7 ad1 h1 p1 A_8 L1 => ?_)
  replace L : Lay (T_X9_init_3 t i0) ad1 h1 := L1
  replace p := Pre.tr p p1
  have A_9 := p1 _ _ A_3
  have G_10 : sg (T_X9_init_3 t i0) i0 = some (9, 7, 7) := sg_app G_5
  clear L1 p1
  refine t_putF L (i := i0) (j := (t.length + 1)) (μ := m_X9_init) (pc := 15) dX9_init_15 fl_X9_17 pf_X9_17 flF_9_6 rfl ir_9_6 id_9_6 rfl rfl G_10 A_9 (by decide) A_8 (fun h1 L1 => ?_)
  replace L : Lay (T_X9_init_4 t i0) _ h1 := L1
  have G_11 : sg (T_X9_init_4 t i0) i0 = some (9, 7, 7) := sg_mR.trans G_10
  have R_12 : rf (T_X9_init_4 t i0) i0 6 = some (t.length + 1) := rf_mS G_10 (by decide)
  clear L1
  exact a_vret (μ := m_X9_init) (pc := 18) dX9_init_18 rfl ⟨rfl, _, p, L⟩
def T_X1_init_1 (t : List tc) (i0 : Nat) (i1 : Nat) (i2 : Nat) (j2_0 : Nat) : List tc := (t).modify i0 (uR 0 i1)
theorem ln_X1_init_1 {t : List tc} {i0 : Nat} {i1 : Nat} {i2 : Nat} {j2_0 : Nat} : (T_X1_init_1 t i0 i1 i2 j2_0).length = t.length + 0 := by unfold T_X1_init_1; rw [List.length_modify]; rfl
theorem sgk_X1_init_1 {t : List tc} {i0 : Nat} {i1 : Nat} {i2 : Nat} {j2_0 : Nat} {i9 : Nat} {x9 : Nat × Nat × Nat} (h9 : sg t i9 = some x9) : sg (T_X1_init_1 t i0 i1 i2 j2_0) i9 = some x9 := (sg_mR).trans h9
theorem rfk_X1_init_1 {t : List tc} {i0 : Nat} {i1 : Nat} {i2 : Nat} {j2_0 : Nat} {i9 k9 j9 : Nat} (hlt : i9 < t.length) (hne : i9 ≠ i0) (h9 : rf t i9 k9 = some j9) : rf (T_X1_init_1 t i0 i1 i2 j2_0) i9 k9 = some j9 := (rf_mO (by omega)).trans h9
def T_X1_init_2 (t : List tc) (i0 : Nat) (i1 : Nat) (i2 : Nat) (j2_0 : Nat) : List tc := ((T_X1_init_1 t i0 i1 i2 j2_0)).modify i0 (uR 1 i2)
theorem ln_X1_init_2 {t : List tc} {i0 : Nat} {i1 : Nat} {i2 : Nat} {j2_0 : Nat} : (T_X1_init_2 t i0 i1 i2 j2_0).length = t.length + 0 := by unfold T_X1_init_2; rw [List.length_modify]; exact ln_X1_init_1
theorem sgk_X1_init_2 {t : List tc} {i0 : Nat} {i1 : Nat} {i2 : Nat} {j2_0 : Nat} {i9 : Nat} {x9 : Nat × Nat × Nat} (h9 : sg t i9 = some x9) : sg (T_X1_init_2 t i0 i1 i2 j2_0) i9 = some x9 := (sg_mR).trans (sgk_X1_init_1 h9)
theorem rfk_X1_init_2 {t : List tc} {i0 : Nat} {i1 : Nat} {i2 : Nat} {j2_0 : Nat} {i9 k9 j9 : Nat} (hlt : i9 < t.length) (hne : i9 ≠ i0) (h9 : rf t i9 k9 = some j9) : rf (T_X1_init_2 t i0 i1 i2 j2_0) i9 k9 = some j9 := (rf_mO (by omega)).trans (rfk_X1_init_1 hlt hne h9)
def T_X1_init_3 (t : List tc) (i0 : Nat) (i1 : Nat) (i2 : Nat) (j2_0 : Nat) : List tc := ((T_X1_init_2 t i0 i1 i2 j2_0)).modify i0 (uR 2 j2_0)
theorem ln_X1_init_3 {t : List tc} {i0 : Nat} {i1 : Nat} {i2 : Nat} {j2_0 : Nat} : (T_X1_init_3 t i0 i1 i2 j2_0).length = t.length + 0 := by unfold T_X1_init_3; rw [List.length_modify]; exact ln_X1_init_2
theorem sgk_X1_init_3 {t : List tc} {i0 : Nat} {i1 : Nat} {i2 : Nat} {j2_0 : Nat} {i9 : Nat} {x9 : Nat × Nat × Nat} (h9 : sg t i9 = some x9) : sg (T_X1_init_3 t i0 i1 i2 j2_0) i9 = some x9 := (sg_mR).trans (sgk_X1_init_2 h9)
theorem rfk_X1_init_3 {t : List tc} {i0 : Nat} {i1 : Nat} {i2 : Nat} {j2_0 : Nat} {i9 k9 j9 : Nat} (hlt : i9 < t.length) (hne : i9 ≠ i0) (h9 : rf t i9 k9 = some j9) : rf (T_X1_init_3 t i0 i1 i2 j2_0) i9 k9 = some j9 := (rf_mO (by omega)).trans (rfk_X1_init_2 hlt hne h9)
abbrev T_X1_init (t : List tc) (i0 : Nat) (i1 : Nat) (i2 : Nat) (j2_0 : Nat) : List tc := T_X1_init_3 t i0 i1 i2 j2_0
theorem ln_X1_init {t : List tc} {i0 : Nat} {i1 : Nat} {i2 : Nat} {j2_0 : Nat} : (T_X1_init t i0 i1 i2 j2_0).length = t.length + 0 := ln_X1_init_3
theorem sgk_X1_init {t : List tc} {i0 : Nat} {i1 : Nat} {i2 : Nat} {j2_0 : Nat} {i9 : Nat} {x9 : Nat × Nat × Nat} (h9 : sg t i9 = some x9) : sg (T_X1_init t i0 i1 i2 j2_0) i9 = some x9 := sgk_X1_init_3 h9
theorem rfk_X1_init {t : List tc} {i0 : Nat} {i1 : Nat} {i2 : Nat} {j2_0 : Nat} {i9 k9 j9 : Nat} (hlt : i9 < t.length) (hne : i9 ≠ i0) (h9 : rf t i9 k9 = some j9) : rf (T_X1_init t i0 i1 i2 j2_0) i9 k9 = some j9 := rfk_X1_init_3 hlt hne h9
set_option maxHeartbeats 4000000 in
set_option maxRecDepth 100000 in
theorem i_X1_init {l : Launch} {D : va_G} {cy : Nat → ClassId} {d : Nat} {t : List tc} {ad : List Nat} {h : hp} (hl : l.stackTraces = false) (hd : 1 ≤ d) (L : Lay t ad h) {i0 a0 : Nat} (A0 : ad[i0]? = some a0) (G0 : sg t i0 = some (1, 16, 16)) {i1 a1 : Nat} (A1 : ad[i1]? = some a1) (G1 : sg t i1 = some (5, 3, 3)) {i2 a2 : Nat} (A2 : ad[i2]? = some a2) (G2 : sg t i2 = some (3, 2, 2)) {j2_0 : Nat} (R2_0 : rf t i2 0 = some j2_0) : Cal l D cy m_X1_init d 0 0 [.ref a0, .ref a1, .ref a2] h (inP (T_X1_init t i0 i1 i2 j2_0) ad) (fun _ _ => False) := by
  refine Cal.of (by decide +kernel) (Nat.le_of_ble_eq_true rfl) hl ?_
  have p : Pre ad ad := Pre.rf
  have hl0 := L.lt A0
  have hl1 := L.lt A1
  have hl2 := L.lt A2
  have ne01 : i0 ≠ i1 := fun e => by rw [e, G1] at G0; cases G0
  have ne02 : i0 ≠ i2 := fun e => by rw [e, G2] at G0; cases G0
  have ne12 : i1 ≠ i2 := fun e => by rw [e, G2] at G1; cases G1
  refine a_aload_n 0 0 (μ := m_X1_init) (pc := 0) dX1_init_0 rfl rfl ?_
  refine a_objI (μ := m_X1_init) (pc := 1) dX1_init_1 oi_X1_3 oi_i oi_c (Nat.le_of_ble_eq_true rfl) (by omega) ?_
  refine a_aload_n 0 0 (μ := m_X1_init) (pc := 4) dX1_init_4 rfl rfl ?_
  refine a_aload_n 1 1 (μ := m_X1_init) (pc := 5) dX1_init_5 rfl rfl ?_
  refine t_putF L (i := i0) (j := i1) (μ := m_X1_init) (pc := 6) dX1_init_6 fl_X1_9 pf_X1_9 flF_1_0 rfl ir_1_0 id_1_0 rfl rfl G0 A0 (by decide) A1 (fun h1 L1 => ?_)
  replace L : Lay (T_X1_init_1 t i0 i1 i2 j2_0) _ h1 := L1
  have G_1 : sg (T_X1_init_1 t i0 i1 i2 j2_0) i0 = some (1, 16, 16) := sg_mR.trans G0
  have G_2 : sg (T_X1_init_1 t i0 i1 i2 j2_0) i1 = some (5, 3, 3) := sg_mR.trans G1
  have G_3 : sg (T_X1_init_1 t i0 i1 i2 j2_0) i2 = some (3, 2, 2) := sg_mR.trans G2
  have R_4 : rf (T_X1_init_1 t i0 i1 i2 j2_0) i2 0 = some j2_0 := (rf_mO (by omega)).trans R2_0
  have R_5 : rf (T_X1_init_1 t i0 i1 i2 j2_0) i0 0 = some i1 := rf_mS G0 (by decide)
  clear L1
  refine a_aload_n 0 0 (μ := m_X1_init) (pc := 9) dX1_init_9 rfl rfl ?_
  refine a_aload_n 2 2 (μ := m_X1_init) (pc := 10) dX1_init_10 rfl rfl ?_
  refine t_putF L (i := i0) (j := i2) (μ := m_X1_init) (pc := 11) dX1_init_11 fl_X1_15 pf_X1_15 flF_1_1 rfl ir_1_1 id_1_1 rfl rfl G_1 A0 (by decide) A2 (fun h1 L1 => ?_)
  replace L : Lay (T_X1_init_2 t i0 i1 i2 j2_0) _ h1 := L1
  have G_6 : sg (T_X1_init_2 t i0 i1 i2 j2_0) i0 = some (1, 16, 16) := sg_mR.trans G_1
  have G_7 : sg (T_X1_init_2 t i0 i1 i2 j2_0) i1 = some (5, 3, 3) := sg_mR.trans G_2
  have G_8 : sg (T_X1_init_2 t i0 i1 i2 j2_0) i2 = some (3, 2, 2) := sg_mR.trans G_3
  have R_9 : rf (T_X1_init_2 t i0 i1 i2 j2_0) i2 0 = some j2_0 := (rf_mK (by decide)).trans R_4
  have R_10 : rf (T_X1_init_2 t i0 i1 i2 j2_0) i0 0 = some i1 := (rf_mK (by decide)).trans R_5
  have R_11 : rf (T_X1_init_2 t i0 i1 i2 j2_0) i0 1 = some i2 := rf_mS G_1 (by decide)
  clear L1
  refine a_aload_n 0 0 (μ := m_X1_init) (pc := 14) dX1_init_14 rfl rfl ?_
  refine a_aload_n 2 2 (μ := m_X1_init) (pc := 15) dX1_init_15 rfl rfl ?_
  refine t_get L (i := i2) (j := j2_0) (μ := m_X1_init) (pc := 16) dX1_init_16 fl_X1_19 ir_3_0 id_3_0 G_8 A2 R_9 (fun b12 A_13 => ?_)
  refine t_putF L (i := i0) (j := j2_0) (μ := m_X1_init) (pc := 19) dX1_init_19 fl_X1_25 pf_X1_25 flF_1_2 rfl ir_1_2 id_1_2 rfl rfl G_6 A0 (by decide) A_13 (fun h1 L1 => ?_)
  replace L : Lay (T_X1_init_3 t i0 i1 i2 j2_0) _ h1 := L1
  have G_14 : sg (T_X1_init_3 t i0 i1 i2 j2_0) i0 = some (1, 16, 16) := sg_mR.trans G_6
  have G_15 : sg (T_X1_init_3 t i0 i1 i2 j2_0) i1 = some (5, 3, 3) := sg_mR.trans G_7
  have G_16 : sg (T_X1_init_3 t i0 i1 i2 j2_0) i2 = some (3, 2, 2) := sg_mR.trans G_8
  have R_17 : rf (T_X1_init_3 t i0 i1 i2 j2_0) i2 0 = some j2_0 := (rf_mK (by decide)).trans R_9
  have R_18 : rf (T_X1_init_3 t i0 i1 i2 j2_0) i0 0 = some i1 := (rf_mK (by decide)).trans R_10
  have R_19 : rf (T_X1_init_3 t i0 i1 i2 j2_0) i0 1 = some i2 := (rf_mK (by decide)).trans R_11
  have R_20 : rf (T_X1_init_3 t i0 i1 i2 j2_0) i0 2 = some j2_0 := rf_mS G_6 (by decide)
  clear L1
  exact a_vret (μ := m_X1_init) (pc := 22) dX1_init_22 rfl ⟨rfl, _, p, L⟩
def T_X2_init_1 (t : List tc) (i0 : Nat) (i1 : Nat) : List tc := t ++ [ob 3 2]
theorem ln_X2_init_1 {t : List tc} {i0 : Nat} {i1 : Nat} : (T_X2_init_1 t i0 i1).length = t.length + 1 := by unfold T_X2_init_1; rw [List.length_append]; rfl
theorem sgk_X2_init_1 {t : List tc} {i0 : Nat} {i1 : Nat} {i9 : Nat} {x9 : Nat × Nat × Nat} (h9 : sg t i9 = some x9) : sg (T_X2_init_1 t i0 i1) i9 = some x9 := sg_app h9
theorem rfk_X2_init_1 {t : List tc} {i0 : Nat} {i1 : Nat} {i9 k9 j9 : Nat} (hlt : i9 < t.length) (hne : i9 ≠ i0) (h9 : rf t i9 k9 = some j9) : rf (T_X2_init_1 t i0 i1) i9 k9 = some j9 := rf_app h9
def T_X2_init_2 (t : List tc) (i0 : Nat) (i1 : Nat) : List tc := T_X3_init (T_X2_init_1 t i0 i1) t.length 2000
theorem ln_X2_init_2 {t : List tc} {i0 : Nat} {i1 : Nat} : (T_X2_init_2 t i0 i1).length = t.length + 2 := by unfold T_X2_init_2; rw [ln_X3_init, ln_X2_init_1]
theorem sgk_X2_init_2 {t : List tc} {i0 : Nat} {i1 : Nat} {i9 : Nat} {x9 : Nat × Nat × Nat} (h9 : sg t i9 = some x9) : sg (T_X2_init_2 t i0 i1) i9 = some x9 := sgk_X3_init (sgk_X2_init_1 h9)
theorem rfk_X2_init_2 {t : List tc} {i0 : Nat} {i1 : Nat} {i9 k9 j9 : Nat} (hlt : i9 < t.length) (hne : i9 ≠ i0) (h9 : rf t i9 k9 = some j9) : rf (T_X2_init_2 t i0 i1) i9 k9 = some j9 := rfk_X3_init (by rw [ln_X2_init_1]; omega) (by omega) (rfk_X2_init_1 hlt hne h9)
def T_X2_init_3 (t : List tc) (i0 : Nat) (i1 : Nat) : List tc := ((T_X2_init_2 t i0 i1)).modify i0 (uR 0 t.length)
theorem ln_X2_init_3 {t : List tc} {i0 : Nat} {i1 : Nat} : (T_X2_init_3 t i0 i1).length = t.length + 2 := by unfold T_X2_init_3; rw [List.length_modify]; exact ln_X2_init_2
theorem sgk_X2_init_3 {t : List tc} {i0 : Nat} {i1 : Nat} {i9 : Nat} {x9 : Nat × Nat × Nat} (h9 : sg t i9 = some x9) : sg (T_X2_init_3 t i0 i1) i9 = some x9 := (sg_mR).trans (sgk_X2_init_2 h9)
theorem rfk_X2_init_3 {t : List tc} {i0 : Nat} {i1 : Nat} {i9 k9 j9 : Nat} (hlt : i9 < t.length) (hne : i9 ≠ i0) (h9 : rf t i9 k9 = some j9) : rf (T_X2_init_3 t i0 i1) i9 k9 = some j9 := (rf_mO (by omega)).trans (rfk_X2_init_2 hlt hne h9)
def T_X2_init_4 (t : List tc) (i0 : Nat) (i1 : Nat) : List tc := (T_X2_init_3 t i0 i1) ++ [ar 13 1000]
theorem ln_X2_init_4 {t : List tc} {i0 : Nat} {i1 : Nat} : (T_X2_init_4 t i0 i1).length = t.length + 3 := by unfold T_X2_init_4; rw [List.length_append, ln_X2_init_3]; rfl
theorem sgk_X2_init_4 {t : List tc} {i0 : Nat} {i1 : Nat} {i9 : Nat} {x9 : Nat × Nat × Nat} (h9 : sg t i9 = some x9) : sg (T_X2_init_4 t i0 i1) i9 = some x9 := sg_app (sgk_X2_init_3 h9)
theorem rfk_X2_init_4 {t : List tc} {i0 : Nat} {i1 : Nat} {i9 k9 j9 : Nat} (hlt : i9 < t.length) (hne : i9 ≠ i0) (h9 : rf t i9 k9 = some j9) : rf (T_X2_init_4 t i0 i1) i9 k9 = some j9 := rf_app (rfk_X2_init_3 hlt hne h9)
def T_X2_init_5 (t : List tc) (i0 : Nat) (i1 : Nat) : List tc := ((T_X2_init_4 t i0 i1)).modify i0 (uR 2 (t.length + 2))
theorem ln_X2_init_5 {t : List tc} {i0 : Nat} {i1 : Nat} : (T_X2_init_5 t i0 i1).length = t.length + 3 := by unfold T_X2_init_5; rw [List.length_modify]; exact ln_X2_init_4
theorem sgk_X2_init_5 {t : List tc} {i0 : Nat} {i1 : Nat} {i9 : Nat} {x9 : Nat × Nat × Nat} (h9 : sg t i9 = some x9) : sg (T_X2_init_5 t i0 i1) i9 = some x9 := (sg_mR).trans (sgk_X2_init_4 h9)
theorem rfk_X2_init_5 {t : List tc} {i0 : Nat} {i1 : Nat} {i9 k9 j9 : Nat} (hlt : i9 < t.length) (hne : i9 ≠ i0) (h9 : rf t i9 k9 = some j9) : rf (T_X2_init_5 t i0 i1) i9 k9 = some j9 := (rf_mO (by omega)).trans (rfk_X2_init_4 hlt hne h9)
def T_X2_init_6 (t : List tc) (i0 : Nat) (i1 : Nat) : List tc := (T_X2_init_5 t i0 i1) ++ [ar 13 1000]
theorem ln_X2_init_6 {t : List tc} {i0 : Nat} {i1 : Nat} : (T_X2_init_6 t i0 i1).length = t.length + 4 := by unfold T_X2_init_6; rw [List.length_append, ln_X2_init_5]; rfl
theorem sgk_X2_init_6 {t : List tc} {i0 : Nat} {i1 : Nat} {i9 : Nat} {x9 : Nat × Nat × Nat} (h9 : sg t i9 = some x9) : sg (T_X2_init_6 t i0 i1) i9 = some x9 := sg_app (sgk_X2_init_5 h9)
theorem rfk_X2_init_6 {t : List tc} {i0 : Nat} {i1 : Nat} {i9 k9 j9 : Nat} (hlt : i9 < t.length) (hne : i9 ≠ i0) (h9 : rf t i9 k9 = some j9) : rf (T_X2_init_6 t i0 i1) i9 k9 = some j9 := rf_app (rfk_X2_init_5 hlt hne h9)
def T_X2_init_7 (t : List tc) (i0 : Nat) (i1 : Nat) : List tc := ((T_X2_init_6 t i0 i1)).modify i0 (uR 3 (t.length + 3))
theorem ln_X2_init_7 {t : List tc} {i0 : Nat} {i1 : Nat} : (T_X2_init_7 t i0 i1).length = t.length + 4 := by unfold T_X2_init_7; rw [List.length_modify]; exact ln_X2_init_6
theorem sgk_X2_init_7 {t : List tc} {i0 : Nat} {i1 : Nat} {i9 : Nat} {x9 : Nat × Nat × Nat} (h9 : sg t i9 = some x9) : sg (T_X2_init_7 t i0 i1) i9 = some x9 := (sg_mR).trans (sgk_X2_init_6 h9)
theorem rfk_X2_init_7 {t : List tc} {i0 : Nat} {i1 : Nat} {i9 k9 j9 : Nat} (hlt : i9 < t.length) (hne : i9 ≠ i0) (h9 : rf t i9 k9 = some j9) : rf (T_X2_init_7 t i0 i1) i9 k9 = some j9 := (rf_mO (by omega)).trans (rfk_X2_init_6 hlt hne h9)
def T_X2_init_8 (t : List tc) (i0 : Nat) (i1 : Nat) : List tc := (T_X2_init_7 t i0 i1) ++ [ob 1 16]
theorem ln_X2_init_8 {t : List tc} {i0 : Nat} {i1 : Nat} : (T_X2_init_8 t i0 i1).length = t.length + 5 := by unfold T_X2_init_8; rw [List.length_append, ln_X2_init_7]; rfl
theorem sgk_X2_init_8 {t : List tc} {i0 : Nat} {i1 : Nat} {i9 : Nat} {x9 : Nat × Nat × Nat} (h9 : sg t i9 = some x9) : sg (T_X2_init_8 t i0 i1) i9 = some x9 := sg_app (sgk_X2_init_7 h9)
theorem rfk_X2_init_8 {t : List tc} {i0 : Nat} {i1 : Nat} {i9 k9 j9 : Nat} (hlt : i9 < t.length) (hne : i9 ≠ i0) (h9 : rf t i9 k9 = some j9) : rf (T_X2_init_8 t i0 i1) i9 k9 = some j9 := rf_app (rfk_X2_init_7 hlt hne h9)
def T_X2_init_9 (t : List tc) (i0 : Nat) (i1 : Nat) : List tc := T_X1_init (T_X2_init_8 t i0 i1) (t.length + 4) i1 t.length (t.length + 1)
theorem ln_X2_init_9 {t : List tc} {i0 : Nat} {i1 : Nat} : (T_X2_init_9 t i0 i1).length = t.length + 5 := by unfold T_X2_init_9; rw [ln_X1_init, ln_X2_init_8]
theorem sgk_X2_init_9 {t : List tc} {i0 : Nat} {i1 : Nat} {i9 : Nat} {x9 : Nat × Nat × Nat} (h9 : sg t i9 = some x9) : sg (T_X2_init_9 t i0 i1) i9 = some x9 := sgk_X1_init (sgk_X2_init_8 h9)
theorem rfk_X2_init_9 {t : List tc} {i0 : Nat} {i1 : Nat} {i9 k9 j9 : Nat} (hlt : i9 < t.length) (hne : i9 ≠ i0) (h9 : rf t i9 k9 = some j9) : rf (T_X2_init_9 t i0 i1) i9 k9 = some j9 := rfk_X1_init (by rw [ln_X2_init_8]; omega) (by omega) (rfk_X2_init_8 hlt hne h9)
def T_X2_init_10 (t : List tc) (i0 : Nat) (i1 : Nat) : List tc := ((T_X2_init_9 t i0 i1)).modify i0 (uR 1 (t.length + 4))
theorem ln_X2_init_10 {t : List tc} {i0 : Nat} {i1 : Nat} : (T_X2_init_10 t i0 i1).length = t.length + 5 := by unfold T_X2_init_10; rw [List.length_modify]; exact ln_X2_init_9
theorem sgk_X2_init_10 {t : List tc} {i0 : Nat} {i1 : Nat} {i9 : Nat} {x9 : Nat × Nat × Nat} (h9 : sg t i9 = some x9) : sg (T_X2_init_10 t i0 i1) i9 = some x9 := (sg_mR).trans (sgk_X2_init_9 h9)
theorem rfk_X2_init_10 {t : List tc} {i0 : Nat} {i1 : Nat} {i9 k9 j9 : Nat} (hlt : i9 < t.length) (hne : i9 ≠ i0) (h9 : rf t i9 k9 = some j9) : rf (T_X2_init_10 t i0 i1) i9 k9 = some j9 := (rf_mO (by omega)).trans (rfk_X2_init_9 hlt hne h9)
abbrev T_X2_init (t : List tc) (i0 : Nat) (i1 : Nat) : List tc := T_X2_init_10 t i0 i1
theorem ln_X2_init {t : List tc} {i0 : Nat} {i1 : Nat} : (T_X2_init t i0 i1).length = t.length + 5 := ln_X2_init_10
theorem sgk_X2_init {t : List tc} {i0 : Nat} {i1 : Nat} {i9 : Nat} {x9 : Nat × Nat × Nat} (h9 : sg t i9 = some x9) : sg (T_X2_init t i0 i1) i9 = some x9 := sgk_X2_init_10 h9
theorem rfk_X2_init {t : List tc} {i0 : Nat} {i1 : Nat} {i9 k9 j9 : Nat} (hlt : i9 < t.length) (hne : i9 ≠ i0) (h9 : rf t i9 k9 = some j9) : rf (T_X2_init t i0 i1) i9 k9 = some j9 := rfk_X2_init_10 hlt hne h9
set_option maxHeartbeats 4000000 in
set_option maxRecDepth 100000 in
theorem i_X2_init {l : Launch} {D : va_G} {cy : Nat → ClassId} {d : Nat} {t : List tc} {ad : List Nat} {h : hp} (hl : l.stackTraces = false) (hd : 2 ≤ d) (L : Lay t ad h) {i0 a0 : Nat} (A0 : ad[i0]? = some a0) (G0 : sg t i0 = some (2, 5, 5)) {i1 a1 : Nat} (A1 : ad[i1]? = some a1) (G1 : sg t i1 = some (5, 3, 3)) : Cal l D cy m_X2_init d 5 4018 [.ref a0, .ref a1] h (inP (T_X2_init t i0 i1) ad) (fun _ _ => False) := by
  refine Cal.of (by decide +kernel) (Nat.le_of_ble_eq_true rfl) hl ?_
  have p : Pre ad ad := Pre.rf
  have hl0 := L.lt A0
  have hl1 := L.lt A1
  have ne01 : i0 ≠ i1 := fun e => by rw [e, G1] at G0; cases G0
  refine a_aload_n 0 0 (μ := m_X2_init) (pc := 0) dX2_init_0 rfl rfl ?_
  refine a_objI (μ := m_X2_init) (pc := 1) dX2_init_1 oi_X2_3 oi_i oi_c (Nat.le_of_ble_eq_true rfl) (by omega) ?_
  refine a_aload_n 0 0 (μ := m_X2_init) (pc := 4) dX2_init_4 rfl rfl ?_
  refine t_new t.length L rfl (ci := 3) (nf := 2) (rc' := 4) (rs' := 4016) (μ := m_X2_init) (pc := 5) dX2_init_5 nw_X2_9 (by decide) (by decide) (by decide) (fun q1 ad1 h1 p1 A_2 L1 => ?_)
  replace L : Lay (T_X2_init_1 t i0 i1) ad1 h1 := L1
  replace p := Pre.tr p p1
  have A_3 := p1 _ _ A0
  have G_4 : sg (T_X2_init_1 t i0 i1) i0 = some (2, 5, 5) := sg_app G0
  have A_5 := p1 _ _ A1
  have G_6 : sg (T_X2_init_1 t i0 i1) i1 = some (5, 3, 3) := sg_app G1
  clear L1 p1
  have G_7 : sg (T_X2_init_1 t i0 i1) t.length = some (3, 2, 2) := by
    have z := sg_ob (t := t) (ci := 3) (nf := 2)
    exact z
  refine a_dup (μ := m_X2_init) (pc := 8) dX2_init_8 rfl ?_
  refine a_sipush (v := 2000) (μ := m_X2_init) (pc := 9) dX2_init_9 (by decide) ?_
  refine t_call (rc' := 3) (rs' := 2016) (t' := T_X3_init (T_X2_init_1 t i0 i1) t.length 2000) (As := [.int 2000]) (rest := [.ref q1, .ref a0]) (μ := m_X2_init) (pc := 12) dX2_init_12 ic_X2_11 rfl (Nat.le_of_ble_eq_true rfl) (d' := d - 1) (by omega) (by decide) (by decide) (i_X3_init hl (d := d - 1) (by omega) L A_2 G_7 (m1 := 2000) (by decide) (by decide) (by decide)) (fun ad1 h1 p1 L1 => ?_) rfl
  replace L : Lay (T_X2_init_2 t i0 i1) ad1 h1 := L1
  replace p := Pre.tr p p1
  have A_8 := p1 _ _ A_3
  have G_9 : sg (T_X2_init_2 t i0 i1) i0 = some (2, 5, 5) := sgk_X3_init G_4
  have A_10 := p1 _ _ A_5
  have G_11 : sg (T_X2_init_2 t i0 i1) i1 = some (5, 3, 3) := sgk_X3_init G_6
  have A_12 := p1 _ _ A_2
  have G_13 : sg (T_X2_init_2 t i0 i1) t.length = some (3, 2, 2) := sgk_X3_init G_7
  clear L1 p1
  have R_14 : rf (T_X2_init_2 t i0 i1) t.length 0 = some (t.length + 1) := by
    have z := rof_X3_init_0 (t := (T_X2_init_1 t i0 i1)) (i0 := t.length) (m1 := 2000) G_7
    rw [ln_X2_init_1] at z
    exact z
  refine t_putF L (i := i0) (j := t.length) (μ := m_X2_init) (pc := 15) dX2_init_15 fl_X2_14 pf_X2_14 flF_2_0 rfl ir_2_0 id_2_0 rfl rfl G_9 A_8 (by decide) A_12 (fun h1 L1 => ?_)
  replace L : Lay (T_X2_init_3 t i0 i1) _ h1 := L1
  have G_15 : sg (T_X2_init_3 t i0 i1) i0 = some (2, 5, 5) := sg_mR.trans G_9
  have G_16 : sg (T_X2_init_3 t i0 i1) i1 = some (5, 3, 3) := sg_mR.trans G_11
  have G_17 : sg (T_X2_init_3 t i0 i1) t.length = some (3, 2, 2) := sg_mR.trans G_13
  have R_18 : rf (T_X2_init_3 t i0 i1) t.length 0 = some (t.length + 1) := (rf_mO (by omega)).trans R_14
  have R_19 : rf (T_X2_init_3 t i0 i1) i0 0 = some t.length := rf_mS G_9 (by decide)
  clear L1
  refine a_aload_n 0 0 (μ := m_X2_init) (pc := 18) dX2_init_18 rfl rfl ?_
  refine a_sipush (v := 1000) (μ := m_X2_init) (pc := 19) dX2_init_19 (by decide) ?_
  refine t_newI (t.length + 2) L ln_X2_init_3 0 1000 (ty := .int) (rc' := 2) (rs' := 1016) (μ := m_X2_init) (pc := 22) dX2_init_22 rfl (by decide) ac_0 (by decide) (by decide) (by decide) (by decide) (by decide) (fun q20 ad1 h1 p1 A_21 L1 => ?_)
  replace L : Lay (T_X2_init_4 t i0 i1) ad1 h1 := L1
  replace p := Pre.tr p p1
  have A_22 := p1 _ _ A_8
  have G_23 : sg (T_X2_init_4 t i0 i1) i0 = some (2, 5, 5) := sg_app G_15
  have A_24 := p1 _ _ A_10
  have G_25 : sg (T_X2_init_4 t i0 i1) i1 = some (5, 3, 3) := sg_app G_16
  have A_26 := p1 _ _ A_12
  have G_27 : sg (T_X2_init_4 t i0 i1) t.length = some (3, 2, 2) := sg_app G_17
  have R_28 : rf (T_X2_init_4 t i0 i1) t.length 0 = some (t.length + 1) := rf_app R_18
  have R_29 : rf (T_X2_init_4 t i0 i1) i0 0 = some t.length := rf_app R_19
  clear L1 p1
  refine t_putF L (i := i0) (j := (t.length + 2)) (μ := m_X2_init) (pc := 24) dX2_init_24 fl_X2_20 pf_X2_20 flF_2_2 rfl ir_2_2 id_2_2 rfl rfl G_23 A_22 (by decide) A_21 (fun h1 L1 => ?_)
  replace L : Lay (T_X2_init_5 t i0 i1) _ h1 := L1
  have G_30 : sg (T_X2_init_5 t i0 i1) i0 = some (2, 5, 5) := sg_mR.trans G_23
  have G_31 : sg (T_X2_init_5 t i0 i1) i1 = some (5, 3, 3) := sg_mR.trans G_25
  have G_32 : sg (T_X2_init_5 t i0 i1) t.length = some (3, 2, 2) := sg_mR.trans G_27
  have R_33 : rf (T_X2_init_5 t i0 i1) t.length 0 = some (t.length + 1) := (rf_mK (by decide)).trans R_28
  have R_34 : rf (T_X2_init_5 t i0 i1) i0 0 = some t.length := (rf_mK (by decide)).trans R_29
  have R_35 : rf (T_X2_init_5 t i0 i1) i0 2 = some (t.length + 2) := rf_mS G_23 (by decide)
  clear L1
  refine a_aload_n 0 0 (μ := m_X2_init) (pc := 27) dX2_init_27 rfl rfl ?_
  refine a_sipush (v := 1000) (μ := m_X2_init) (pc := 28) dX2_init_28 (by decide) ?_
  refine t_newI (t.length + 3) L ln_X2_init_5 0 1000 (ty := .int) (rc' := 1) (rs' := 16) (μ := m_X2_init) (pc := 31) dX2_init_31 rfl (by decide) ac_0 (by decide) (by decide) (by decide) (by decide) (by decide) (fun q36 ad1 h1 p1 A_37 L1 => ?_)
  replace L : Lay (T_X2_init_6 t i0 i1) ad1 h1 := L1
  replace p := Pre.tr p p1
  have A_38 := p1 _ _ A_22
  have G_39 : sg (T_X2_init_6 t i0 i1) i0 = some (2, 5, 5) := sg_app G_30
  have A_40 := p1 _ _ A_24
  have G_41 : sg (T_X2_init_6 t i0 i1) i1 = some (5, 3, 3) := sg_app G_31
  have A_42 := p1 _ _ A_26
  have G_43 : sg (T_X2_init_6 t i0 i1) t.length = some (3, 2, 2) := sg_app G_32
  have A_44 := p1 _ _ A_21
  have R_45 : rf (T_X2_init_6 t i0 i1) t.length 0 = some (t.length + 1) := rf_app R_33
  have R_46 : rf (T_X2_init_6 t i0 i1) i0 0 = some t.length := rf_app R_34
  have R_47 : rf (T_X2_init_6 t i0 i1) i0 2 = some (t.length + 2) := rf_app R_35
  clear L1 p1
  refine t_putF L (i := i0) (j := (t.length + 3)) (μ := m_X2_init) (pc := 33) dX2_init_33 fl_X2_24 pf_X2_24 flF_2_3 rfl ir_2_3 id_2_3 rfl rfl G_39 A_38 (by decide) A_37 (fun h1 L1 => ?_)
  replace L : Lay (T_X2_init_7 t i0 i1) _ h1 := L1
  have G_48 : sg (T_X2_init_7 t i0 i1) i0 = some (2, 5, 5) := sg_mR.trans G_39
  have G_49 : sg (T_X2_init_7 t i0 i1) i1 = some (5, 3, 3) := sg_mR.trans G_41
  have G_50 : sg (T_X2_init_7 t i0 i1) t.length = some (3, 2, 2) := sg_mR.trans G_43
  have R_51 : rf (T_X2_init_7 t i0 i1) t.length 0 = some (t.length + 1) := (rf_mK (by decide)).trans R_45
  have R_52 : rf (T_X2_init_7 t i0 i1) i0 0 = some t.length := (rf_mK (by decide)).trans R_46
  have R_53 : rf (T_X2_init_7 t i0 i1) i0 2 = some (t.length + 2) := (rf_mK (by decide)).trans R_47
  have R_54 : rf (T_X2_init_7 t i0 i1) i0 3 = some (t.length + 3) := rf_mS G_39 (by decide)
  clear L1
  refine a_aload_n 0 0 (μ := m_X2_init) (pc := 36) dX2_init_36 rfl rfl ?_
  refine t_new (t.length + 4) L ln_X2_init_7 (ci := 1) (nf := 16) (rc' := 0) (rs' := 0) (μ := m_X2_init) (pc := 37) dX2_init_37 nw_X2_27 (by decide) (by decide) (by decide) (fun q55 ad1 h1 p1 A_56 L1 => ?_)
  replace L : Lay (T_X2_init_8 t i0 i1) ad1 h1 := L1
  replace p := Pre.tr p p1
  have A_57 := p1 _ _ A_38
  have G_58 : sg (T_X2_init_8 t i0 i1) i0 = some (2, 5, 5) := sg_app G_48
  have A_59 := p1 _ _ A_40
  have G_60 : sg (T_X2_init_8 t i0 i1) i1 = some (5, 3, 3) := sg_app G_49
  have A_61 := p1 _ _ A_42
  have G_62 : sg (T_X2_init_8 t i0 i1) t.length = some (3, 2, 2) := sg_app G_50
  have A_63 := p1 _ _ A_44
  have A_64 := p1 _ _ A_37
  have R_65 : rf (T_X2_init_8 t i0 i1) t.length 0 = some (t.length + 1) := rf_app R_51
  have R_66 : rf (T_X2_init_8 t i0 i1) i0 0 = some t.length := rf_app R_52
  have R_67 : rf (T_X2_init_8 t i0 i1) i0 2 = some (t.length + 2) := rf_app R_53
  have R_68 : rf (T_X2_init_8 t i0 i1) i0 3 = some (t.length + 3) := rf_app R_54
  clear L1 p1
  have G_69 : sg (T_X2_init_8 t i0 i1) (t.length + 4) = some (1, 16, 16) := by
    have z := sg_ob (t := (T_X2_init_7 t i0 i1)) (ci := 1) (nf := 16)
    rw [ln_X2_init_7] at z
    exact z
  refine a_dup (μ := m_X2_init) (pc := 40) dX2_init_40 rfl ?_
  refine a_aload_n 1 1 (μ := m_X2_init) (pc := 41) dX2_init_41 rfl rfl ?_
  refine a_aload_n 0 0 (μ := m_X2_init) (pc := 42) dX2_init_42 rfl rfl ?_
  refine t_get L (i := i0) (j := t.length) (μ := m_X2_init) (pc := 43) dX2_init_43 fl_X2_14 ir_2_0 id_2_0 G_58 A_57 R_66 (fun b70 A_71 => ?_)
  refine t_call (rc' := 0) (rs' := 0) (t' := T_X1_init (T_X2_init_8 t i0 i1) (t.length + 4) i1 t.length (t.length + 1)) (As := [.ref a1, .ref b70]) (rest := [.ref q55, .ref a0]) (μ := m_X2_init) (pc := 46) dX2_init_46 ic_X2_29 rfl (Nat.le_of_ble_eq_true rfl) (d' := d - 1) (by omega) (by decide) (by decide) (i_X1_init hl (d := d - 1) (by omega) L A_56 G_69 A_59 G_60 A_71 G_62 R_65) (fun ad1 h1 p1 L1 => ?_) rfl
  replace L : Lay (T_X2_init_9 t i0 i1) ad1 h1 := L1
  replace p := Pre.tr p p1
  have A_72 := p1 _ _ A_57
  have G_73 : sg (T_X2_init_9 t i0 i1) i0 = some (2, 5, 5) := sgk_X1_init G_58
  have A_74 := p1 _ _ A_59
  have G_75 : sg (T_X2_init_9 t i0 i1) i1 = some (5, 3, 3) := sgk_X1_init G_60
  have A_76 := p1 _ _ A_61
  have G_77 : sg (T_X2_init_9 t i0 i1) t.length = some (3, 2, 2) := sgk_X1_init G_62
  have A_78 := p1 _ _ A_63
  have A_79 := p1 _ _ A_64
  have A_80 := p1 _ _ A_56
  have G_81 : sg (T_X2_init_9 t i0 i1) (t.length + 4) = some (1, 16, 16) := sgk_X1_init G_69
  have A_82 := p1 _ _ A_71
  have G_83 : sg (T_X2_init_9 t i0 i1) t.length = some (3, 2, 2) := sgk_X1_init G_62
  have R_84 : rf (T_X2_init_9 t i0 i1) t.length 0 = some (t.length + 1) := rfk_X1_init (by first | omega | (rw [ln_X2_init_8]; omega)) (by omega) R_65
  have R_85 : rf (T_X2_init_9 t i0 i1) i0 0 = some t.length := rfk_X1_init (by first | omega | (rw [ln_X2_init_8]; omega)) (by omega) R_66
  have R_86 : rf (T_X2_init_9 t i0 i1) i0 2 = some (t.length + 2) := rfk_X1_init (by first | omega | (rw [ln_X2_init_8]; omega)) (by omega) R_67
  have R_87 : rf (T_X2_init_9 t i0 i1) i0 3 = some (t.length + 3) := rfk_X1_init (by first | omega | (rw [ln_X2_init_8]; omega)) (by omega) R_68
  have R_88 : rf (T_X2_init_9 t i0 i1) t.length 0 = some (t.length + 1) := rfk_X1_init (by first | omega | (rw [ln_X2_init_8]; omega)) (by omega) R_65
  clear L1 p1
  refine t_putF L (i := i0) (j := (t.length + 4)) (μ := m_X2_init) (pc := 49) dX2_init_49 fl_X2_32 pf_X2_32 flF_2_1 rfl ir_2_1 id_2_1 rfl rfl G_73 A_72 (by decide) A_80 (fun h1 L1 => ?_)
  replace L : Lay (T_X2_init_10 t i0 i1) _ h1 := L1
  have G_89 : sg (T_X2_init_10 t i0 i1) i0 = some (2, 5, 5) := sg_mR.trans G_73
  have G_90 : sg (T_X2_init_10 t i0 i1) i1 = some (5, 3, 3) := sg_mR.trans G_75
  have G_91 : sg (T_X2_init_10 t i0 i1) t.length = some (3, 2, 2) := sg_mR.trans G_77
  have G_92 : sg (T_X2_init_10 t i0 i1) (t.length + 4) = some (1, 16, 16) := sg_mR.trans G_81
  have G_93 : sg (T_X2_init_10 t i0 i1) t.length = some (3, 2, 2) := sg_mR.trans G_83
  have R_94 : rf (T_X2_init_10 t i0 i1) t.length 0 = some (t.length + 1) := (rf_mK (by decide)).trans R_84
  have R_95 : rf (T_X2_init_10 t i0 i1) i0 0 = some t.length := (rf_mK (by decide)).trans R_85
  have R_96 : rf (T_X2_init_10 t i0 i1) i0 2 = some (t.length + 2) := (rf_mK (by decide)).trans R_86
  have R_97 : rf (T_X2_init_10 t i0 i1) i0 3 = some (t.length + 3) := (rf_mK (by decide)).trans R_87
  have R_98 : rf (T_X2_init_10 t i0 i1) t.length 0 = some (t.length + 1) := (rf_mK (by decide)).trans R_88
  have R_99 : rf (T_X2_init_10 t i0 i1) i0 1 = some (t.length + 4) := rf_mS G_73 (by decide)
  clear L1
  exact a_vret (μ := m_X2_init) (pc := 52) dX2_init_52 rfl ⟨rfl, _, p, L⟩
def T_X4_init_1 (t : List tc) (i0 : Nat) (i1 : Nat) : List tc := t ++ [ob 3 2]
theorem ln_X4_init_1 {t : List tc} {i0 : Nat} {i1 : Nat} : (T_X4_init_1 t i0 i1).length = t.length + 1 := by unfold T_X4_init_1; rw [List.length_append]; rfl
theorem sgk_X4_init_1 {t : List tc} {i0 : Nat} {i1 : Nat} {i9 : Nat} {x9 : Nat × Nat × Nat} (h9 : sg t i9 = some x9) : sg (T_X4_init_1 t i0 i1) i9 = some x9 := sg_app h9
theorem rfk_X4_init_1 {t : List tc} {i0 : Nat} {i1 : Nat} {i9 k9 j9 : Nat} (hlt : i9 < t.length) (hne : i9 ≠ i0) (h9 : rf t i9 k9 = some j9) : rf (T_X4_init_1 t i0 i1) i9 k9 = some j9 := rf_app h9
def T_X4_init_2 (t : List tc) (i0 : Nat) (i1 : Nat) : List tc := T_X3_init (T_X4_init_1 t i0 i1) t.length 2000
theorem ln_X4_init_2 {t : List tc} {i0 : Nat} {i1 : Nat} : (T_X4_init_2 t i0 i1).length = t.length + 2 := by unfold T_X4_init_2; rw [ln_X3_init, ln_X4_init_1]
theorem sgk_X4_init_2 {t : List tc} {i0 : Nat} {i1 : Nat} {i9 : Nat} {x9 : Nat × Nat × Nat} (h9 : sg t i9 = some x9) : sg (T_X4_init_2 t i0 i1) i9 = some x9 := sgk_X3_init (sgk_X4_init_1 h9)
theorem rfk_X4_init_2 {t : List tc} {i0 : Nat} {i1 : Nat} {i9 k9 j9 : Nat} (hlt : i9 < t.length) (hne : i9 ≠ i0) (h9 : rf t i9 k9 = some j9) : rf (T_X4_init_2 t i0 i1) i9 k9 = some j9 := rfk_X3_init (by rw [ln_X4_init_1]; omega) (by omega) (rfk_X4_init_1 hlt hne h9)
def T_X4_init_3 (t : List tc) (i0 : Nat) (i1 : Nat) : List tc := ((T_X4_init_2 t i0 i1)).modify i0 (uR 1 t.length)
theorem ln_X4_init_3 {t : List tc} {i0 : Nat} {i1 : Nat} : (T_X4_init_3 t i0 i1).length = t.length + 2 := by unfold T_X4_init_3; rw [List.length_modify]; exact ln_X4_init_2
theorem sgk_X4_init_3 {t : List tc} {i0 : Nat} {i1 : Nat} {i9 : Nat} {x9 : Nat × Nat × Nat} (h9 : sg t i9 = some x9) : sg (T_X4_init_3 t i0 i1) i9 = some x9 := (sg_mR).trans (sgk_X4_init_2 h9)
theorem rfk_X4_init_3 {t : List tc} {i0 : Nat} {i1 : Nat} {i9 k9 j9 : Nat} (hlt : i9 < t.length) (hne : i9 ≠ i0) (h9 : rf t i9 k9 = some j9) : rf (T_X4_init_3 t i0 i1) i9 k9 = some j9 := (rf_mO (by omega)).trans (rfk_X4_init_2 hlt hne h9)
def T_X4_init_4 (t : List tc) (i0 : Nat) (i1 : Nat) : List tc := (T_X4_init_3 t i0 i1) ++ [ar 13 4]
theorem ln_X4_init_4 {t : List tc} {i0 : Nat} {i1 : Nat} : (T_X4_init_4 t i0 i1).length = t.length + 3 := by unfold T_X4_init_4; rw [List.length_append, ln_X4_init_3]; rfl
theorem sgk_X4_init_4 {t : List tc} {i0 : Nat} {i1 : Nat} {i9 : Nat} {x9 : Nat × Nat × Nat} (h9 : sg t i9 = some x9) : sg (T_X4_init_4 t i0 i1) i9 = some x9 := sg_app (sgk_X4_init_3 h9)
theorem rfk_X4_init_4 {t : List tc} {i0 : Nat} {i1 : Nat} {i9 k9 j9 : Nat} (hlt : i9 < t.length) (hne : i9 ≠ i0) (h9 : rf t i9 k9 = some j9) : rf (T_X4_init_4 t i0 i1) i9 k9 = some j9 := rf_app (rfk_X4_init_3 hlt hne h9)
def T_X4_init_5 (t : List tc) (i0 : Nat) (i1 : Nat) : List tc := ((T_X4_init_4 t i0 i1)).modify i0 (uR 3 (t.length + 2))
theorem ln_X4_init_5 {t : List tc} {i0 : Nat} {i1 : Nat} : (T_X4_init_5 t i0 i1).length = t.length + 3 := by unfold T_X4_init_5; rw [List.length_modify]; exact ln_X4_init_4
theorem sgk_X4_init_5 {t : List tc} {i0 : Nat} {i1 : Nat} {i9 : Nat} {x9 : Nat × Nat × Nat} (h9 : sg t i9 = some x9) : sg (T_X4_init_5 t i0 i1) i9 = some x9 := (sg_mR).trans (sgk_X4_init_4 h9)
theorem rfk_X4_init_5 {t : List tc} {i0 : Nat} {i1 : Nat} {i9 k9 j9 : Nat} (hlt : i9 < t.length) (hne : i9 ≠ i0) (h9 : rf t i9 k9 = some j9) : rf (T_X4_init_5 t i0 i1) i9 k9 = some j9 := (rf_mO (by omega)).trans (rfk_X4_init_4 hlt hne h9)
def T_X4_init_6 (t : List tc) (i0 : Nat) (i1 : Nat) : List tc := (T_X4_init_5 t i0 i1) ++ [ar 13 32]
theorem ln_X4_init_6 {t : List tc} {i0 : Nat} {i1 : Nat} : (T_X4_init_6 t i0 i1).length = t.length + 4 := by unfold T_X4_init_6; rw [List.length_append, ln_X4_init_5]; rfl
theorem sgk_X4_init_6 {t : List tc} {i0 : Nat} {i1 : Nat} {i9 : Nat} {x9 : Nat × Nat × Nat} (h9 : sg t i9 = some x9) : sg (T_X4_init_6 t i0 i1) i9 = some x9 := sg_app (sgk_X4_init_5 h9)
theorem rfk_X4_init_6 {t : List tc} {i0 : Nat} {i1 : Nat} {i9 k9 j9 : Nat} (hlt : i9 < t.length) (hne : i9 ≠ i0) (h9 : rf t i9 k9 = some j9) : rf (T_X4_init_6 t i0 i1) i9 k9 = some j9 := rf_app (rfk_X4_init_5 hlt hne h9)
def T_X4_init_7 (t : List tc) (i0 : Nat) (i1 : Nat) : List tc := ((T_X4_init_6 t i0 i1)).modify i0 (uR 4 (t.length + 3))
theorem ln_X4_init_7 {t : List tc} {i0 : Nat} {i1 : Nat} : (T_X4_init_7 t i0 i1).length = t.length + 4 := by unfold T_X4_init_7; rw [List.length_modify]; exact ln_X4_init_6
theorem sgk_X4_init_7 {t : List tc} {i0 : Nat} {i1 : Nat} {i9 : Nat} {x9 : Nat × Nat × Nat} (h9 : sg t i9 = some x9) : sg (T_X4_init_7 t i0 i1) i9 = some x9 := (sg_mR).trans (sgk_X4_init_6 h9)
theorem rfk_X4_init_7 {t : List tc} {i0 : Nat} {i1 : Nat} {i9 k9 j9 : Nat} (hlt : i9 < t.length) (hne : i9 ≠ i0) (h9 : rf t i9 k9 = some j9) : rf (T_X4_init_7 t i0 i1) i9 k9 = some j9 := (rf_mO (by omega)).trans (rfk_X4_init_6 hlt hne h9)
def T_X4_init_8 (t : List tc) (i0 : Nat) (i1 : Nat) : List tc := ((T_X4_init_7 t i0 i1)).modify i0 (uR 0 i1)
theorem ln_X4_init_8 {t : List tc} {i0 : Nat} {i1 : Nat} : (T_X4_init_8 t i0 i1).length = t.length + 4 := by unfold T_X4_init_8; rw [List.length_modify]; exact ln_X4_init_7
theorem sgk_X4_init_8 {t : List tc} {i0 : Nat} {i1 : Nat} {i9 : Nat} {x9 : Nat × Nat × Nat} (h9 : sg t i9 = some x9) : sg (T_X4_init_8 t i0 i1) i9 = some x9 := (sg_mR).trans (sgk_X4_init_7 h9)
theorem rfk_X4_init_8 {t : List tc} {i0 : Nat} {i1 : Nat} {i9 k9 j9 : Nat} (hlt : i9 < t.length) (hne : i9 ≠ i0) (h9 : rf t i9 k9 = some j9) : rf (T_X4_init_8 t i0 i1) i9 k9 = some j9 := (rf_mO (by omega)).trans (rfk_X4_init_7 hlt hne h9)
def T_X4_init_9 (t : List tc) (i0 : Nat) (i1 : Nat) : List tc := (T_X4_init_8 t i0 i1) ++ [ob 1 16]
theorem ln_X4_init_9 {t : List tc} {i0 : Nat} {i1 : Nat} : (T_X4_init_9 t i0 i1).length = t.length + 5 := by unfold T_X4_init_9; rw [List.length_append, ln_X4_init_8]; rfl
theorem sgk_X4_init_9 {t : List tc} {i0 : Nat} {i1 : Nat} {i9 : Nat} {x9 : Nat × Nat × Nat} (h9 : sg t i9 = some x9) : sg (T_X4_init_9 t i0 i1) i9 = some x9 := sg_app (sgk_X4_init_8 h9)
theorem rfk_X4_init_9 {t : List tc} {i0 : Nat} {i1 : Nat} {i9 k9 j9 : Nat} (hlt : i9 < t.length) (hne : i9 ≠ i0) (h9 : rf t i9 k9 = some j9) : rf (T_X4_init_9 t i0 i1) i9 k9 = some j9 := rf_app (rfk_X4_init_8 hlt hne h9)
def T_X4_init_10 (t : List tc) (i0 : Nat) (i1 : Nat) : List tc := T_X1_init (T_X4_init_9 t i0 i1) (t.length + 4) i1 t.length (t.length + 1)
theorem ln_X4_init_10 {t : List tc} {i0 : Nat} {i1 : Nat} : (T_X4_init_10 t i0 i1).length = t.length + 5 := by unfold T_X4_init_10; rw [ln_X1_init, ln_X4_init_9]
theorem sgk_X4_init_10 {t : List tc} {i0 : Nat} {i1 : Nat} {i9 : Nat} {x9 : Nat × Nat × Nat} (h9 : sg t i9 = some x9) : sg (T_X4_init_10 t i0 i1) i9 = some x9 := sgk_X1_init (sgk_X4_init_9 h9)
theorem rfk_X4_init_10 {t : List tc} {i0 : Nat} {i1 : Nat} {i9 k9 j9 : Nat} (hlt : i9 < t.length) (hne : i9 ≠ i0) (h9 : rf t i9 k9 = some j9) : rf (T_X4_init_10 t i0 i1) i9 k9 = some j9 := rfk_X1_init (by rw [ln_X4_init_9]; omega) (by omega) (rfk_X4_init_9 hlt hne h9)
def T_X4_init_11 (t : List tc) (i0 : Nat) (i1 : Nat) : List tc := ((T_X4_init_10 t i0 i1)).modify i0 (uR 2 (t.length + 4))
theorem ln_X4_init_11 {t : List tc} {i0 : Nat} {i1 : Nat} : (T_X4_init_11 t i0 i1).length = t.length + 5 := by unfold T_X4_init_11; rw [List.length_modify]; exact ln_X4_init_10
theorem sgk_X4_init_11 {t : List tc} {i0 : Nat} {i1 : Nat} {i9 : Nat} {x9 : Nat × Nat × Nat} (h9 : sg t i9 = some x9) : sg (T_X4_init_11 t i0 i1) i9 = some x9 := (sg_mR).trans (sgk_X4_init_10 h9)
theorem rfk_X4_init_11 {t : List tc} {i0 : Nat} {i1 : Nat} {i9 k9 j9 : Nat} (hlt : i9 < t.length) (hne : i9 ≠ i0) (h9 : rf t i9 k9 = some j9) : rf (T_X4_init_11 t i0 i1) i9 k9 = some j9 := (rf_mO (by omega)).trans (rfk_X4_init_10 hlt hne h9)
abbrev T_X4_init (t : List tc) (i0 : Nat) (i1 : Nat) : List tc := T_X4_init_11 t i0 i1
theorem ln_X4_init {t : List tc} {i0 : Nat} {i1 : Nat} : (T_X4_init t i0 i1).length = t.length + 5 := ln_X4_init_11
theorem sgk_X4_init {t : List tc} {i0 : Nat} {i1 : Nat} {i9 : Nat} {x9 : Nat × Nat × Nat} (h9 : sg t i9 = some x9) : sg (T_X4_init t i0 i1) i9 = some x9 := sgk_X4_init_11 h9
theorem rfk_X4_init {t : List tc} {i0 : Nat} {i1 : Nat} {i9 k9 j9 : Nat} (hlt : i9 < t.length) (hne : i9 ≠ i0) (h9 : rf t i9 k9 = some j9) : rf (T_X4_init t i0 i1) i9 k9 = some j9 := rfk_X4_init_11 hlt hne h9
set_option maxHeartbeats 4000000 in
set_option maxRecDepth 100000 in
theorem i_X4_init {l : Launch} {D : va_G} {cy : Nat → ClassId} {d : Nat} {t : List tc} {ad : List Nat} {h : hp} (hl : l.stackTraces = false) (hd : 2 ≤ d) (L : Lay t ad h) {i0 a0 : Nat} (A0 : ad[i0]? = some a0) (G0 : sg t i0 = some (4, 20, 20)) {i1 a1 : Nat} (A1 : ad[i1]? = some a1) (G1 : sg t i1 = some (5, 3, 3)) : Cal l D cy m_X4_init d 5 2054 [.ref a0, .ref a1] h (inP (T_X4_init t i0 i1) ad) (fun _ _ => False) := by
  refine Cal.of (by decide +kernel) (Nat.le_of_ble_eq_true rfl) hl ?_
  have p : Pre ad ad := Pre.rf
  have hl0 := L.lt A0
  have hl1 := L.lt A1
  have ne01 : i0 ≠ i1 := fun e => by rw [e, G1] at G0; cases G0
  refine a_aload_n 0 0 (μ := m_X4_init) (pc := 0) dX4_init_0 rfl rfl ?_
  refine a_objI (μ := m_X4_init) (pc := 1) dX4_init_1 oi_X4_3 oi_i oi_c (Nat.le_of_ble_eq_true rfl) (by omega) ?_
  refine a_aload_n 0 0 (μ := m_X4_init) (pc := 4) dX4_init_4 rfl rfl ?_
  refine t_new t.length L rfl (ci := 3) (nf := 2) (rc' := 4) (rs' := 2052) (μ := m_X4_init) (pc := 5) dX4_init_5 nw_X4_9 (by decide) (by decide) (by decide) (fun q1 ad1 h1 p1 A_2 L1 => ?_)
  replace L : Lay (T_X4_init_1 t i0 i1) ad1 h1 := L1
  replace p := Pre.tr p p1
  have A_3 := p1 _ _ A0
  have G_4 : sg (T_X4_init_1 t i0 i1) i0 = some (4, 20, 20) := sg_app G0
  have A_5 := p1 _ _ A1
  have G_6 : sg (T_X4_init_1 t i0 i1) i1 = some (5, 3, 3) := sg_app G1
  clear L1 p1
  have G_7 : sg (T_X4_init_1 t i0 i1) t.length = some (3, 2, 2) := by
    have z := sg_ob (t := t) (ci := 3) (nf := 2)
    exact z
  refine a_dup (μ := m_X4_init) (pc := 8) dX4_init_8 rfl ?_
  refine a_sipush (v := 2000) (μ := m_X4_init) (pc := 9) dX4_init_9 (by decide) ?_
  refine t_call (rc' := 3) (rs' := 52) (t' := T_X3_init (T_X4_init_1 t i0 i1) t.length 2000) (As := [.int 2000]) (rest := [.ref q1, .ref a0]) (μ := m_X4_init) (pc := 12) dX4_init_12 ic_X4_11 rfl (Nat.le_of_ble_eq_true rfl) (d' := d - 1) (by omega) (by decide) (by decide) (i_X3_init hl (d := d - 1) (by omega) L A_2 G_7 (m1 := 2000) (by decide) (by decide) (by decide)) (fun ad1 h1 p1 L1 => ?_) rfl
  replace L : Lay (T_X4_init_2 t i0 i1) ad1 h1 := L1
  replace p := Pre.tr p p1
  have A_8 := p1 _ _ A_3
  have G_9 : sg (T_X4_init_2 t i0 i1) i0 = some (4, 20, 20) := sgk_X3_init G_4
  have A_10 := p1 _ _ A_5
  have G_11 : sg (T_X4_init_2 t i0 i1) i1 = some (5, 3, 3) := sgk_X3_init G_6
  have A_12 := p1 _ _ A_2
  have G_13 : sg (T_X4_init_2 t i0 i1) t.length = some (3, 2, 2) := sgk_X3_init G_7
  clear L1 p1
  have R_14 : rf (T_X4_init_2 t i0 i1) t.length 0 = some (t.length + 1) := by
    have z := rof_X3_init_0 (t := (T_X4_init_1 t i0 i1)) (i0 := t.length) (m1 := 2000) G_7
    rw [ln_X4_init_1] at z
    exact z
  refine t_putF L (i := i0) (j := t.length) (μ := m_X4_init) (pc := 15) dX4_init_15 fl_X4_14 pf_X4_14 flF_4_1 rfl ir_4_1 id_4_1 rfl rfl G_9 A_8 (by decide) A_12 (fun h1 L1 => ?_)
  replace L : Lay (T_X4_init_3 t i0 i1) _ h1 := L1
  have G_15 : sg (T_X4_init_3 t i0 i1) i0 = some (4, 20, 20) := sg_mR.trans G_9
  have G_16 : sg (T_X4_init_3 t i0 i1) i1 = some (5, 3, 3) := sg_mR.trans G_11
  have G_17 : sg (T_X4_init_3 t i0 i1) t.length = some (3, 2, 2) := sg_mR.trans G_13
  have R_18 : rf (T_X4_init_3 t i0 i1) t.length 0 = some (t.length + 1) := (rf_mK (by decide)).trans R_14
  have R_19 : rf (T_X4_init_3 t i0 i1) i0 1 = some t.length := rf_mS G_9 (by decide)
  clear L1
  refine a_aload_n 0 0 (μ := m_X4_init) (pc := 18) dX4_init_18 rfl rfl ?_
  refine a_iconst (v := 4) (μ := m_X4_init) (pc := 19) dX4_init_19 (by decide) ?_
  refine t_newI (t.length + 2) L ln_X4_init_3 0 4 (ty := .int) (rc' := 2) (rs' := 48) (μ := m_X4_init) (pc := 20) dX4_init_20 rfl (by decide) ac_0 (by decide) (by decide) (by decide) (by decide) (by decide) (fun q20 ad1 h1 p1 A_21 L1 => ?_)
  replace L : Lay (T_X4_init_4 t i0 i1) ad1 h1 := L1
  replace p := Pre.tr p p1
  have A_22 := p1 _ _ A_8
  have G_23 : sg (T_X4_init_4 t i0 i1) i0 = some (4, 20, 20) := sg_app G_15
  have A_24 := p1 _ _ A_10
  have G_25 : sg (T_X4_init_4 t i0 i1) i1 = some (5, 3, 3) := sg_app G_16
  have A_26 := p1 _ _ A_12
  have G_27 : sg (T_X4_init_4 t i0 i1) t.length = some (3, 2, 2) := sg_app G_17
  have R_28 : rf (T_X4_init_4 t i0 i1) t.length 0 = some (t.length + 1) := rf_app R_18
  have R_29 : rf (T_X4_init_4 t i0 i1) i0 1 = some t.length := rf_app R_19
  clear L1 p1
  refine t_putF L (i := i0) (j := (t.length + 2)) (μ := m_X4_init) (pc := 22) dX4_init_22 fl_X4_22 pf_X4_22 flF_4_3 rfl ir_4_3 id_4_3 rfl rfl G_23 A_22 (by decide) A_21 (fun h1 L1 => ?_)
  replace L : Lay (T_X4_init_5 t i0 i1) _ h1 := L1
  have G_30 : sg (T_X4_init_5 t i0 i1) i0 = some (4, 20, 20) := sg_mR.trans G_23
  have G_31 : sg (T_X4_init_5 t i0 i1) i1 = some (5, 3, 3) := sg_mR.trans G_25
  have G_32 : sg (T_X4_init_5 t i0 i1) t.length = some (3, 2, 2) := sg_mR.trans G_27
  have R_33 : rf (T_X4_init_5 t i0 i1) t.length 0 = some (t.length + 1) := (rf_mK (by decide)).trans R_28
  have R_34 : rf (T_X4_init_5 t i0 i1) i0 1 = some t.length := (rf_mK (by decide)).trans R_29
  have R_35 : rf (T_X4_init_5 t i0 i1) i0 3 = some (t.length + 2) := rf_mS G_23 (by decide)
  clear L1
  refine a_aload_n 0 0 (μ := m_X4_init) (pc := 25) dX4_init_25 rfl rfl ?_
  refine a_bipush (v := 32) (μ := m_X4_init) (pc := 26) dX4_init_26 (by decide) ?_
  refine t_newI (t.length + 3) L ln_X4_init_5 0 32 (ty := .int) (rc' := 1) (rs' := 16) (μ := m_X4_init) (pc := 28) dX4_init_28 rfl (by decide) ac_0 (by decide) (by decide) (by decide) (by decide) (by decide) (fun q36 ad1 h1 p1 A_37 L1 => ?_)
  replace L : Lay (T_X4_init_6 t i0 i1) ad1 h1 := L1
  replace p := Pre.tr p p1
  have A_38 := p1 _ _ A_22
  have G_39 : sg (T_X4_init_6 t i0 i1) i0 = some (4, 20, 20) := sg_app G_30
  have A_40 := p1 _ _ A_24
  have G_41 : sg (T_X4_init_6 t i0 i1) i1 = some (5, 3, 3) := sg_app G_31
  have A_42 := p1 _ _ A_26
  have G_43 : sg (T_X4_init_6 t i0 i1) t.length = some (3, 2, 2) := sg_app G_32
  have A_44 := p1 _ _ A_21
  have R_45 : rf (T_X4_init_6 t i0 i1) t.length 0 = some (t.length + 1) := rf_app R_33
  have R_46 : rf (T_X4_init_6 t i0 i1) i0 1 = some t.length := rf_app R_34
  have R_47 : rf (T_X4_init_6 t i0 i1) i0 3 = some (t.length + 2) := rf_app R_35
  clear L1 p1
  refine t_putF L (i := i0) (j := (t.length + 3)) (μ := m_X4_init) (pc := 30) dX4_init_30 fl_X4_26 pf_X4_26 flF_4_4 rfl ir_4_4 id_4_4 rfl rfl G_39 A_38 (by decide) A_37 (fun h1 L1 => ?_)
  replace L : Lay (T_X4_init_7 t i0 i1) _ h1 := L1
  have G_48 : sg (T_X4_init_7 t i0 i1) i0 = some (4, 20, 20) := sg_mR.trans G_39
  have G_49 : sg (T_X4_init_7 t i0 i1) i1 = some (5, 3, 3) := sg_mR.trans G_41
  have G_50 : sg (T_X4_init_7 t i0 i1) t.length = some (3, 2, 2) := sg_mR.trans G_43
  have R_51 : rf (T_X4_init_7 t i0 i1) t.length 0 = some (t.length + 1) := (rf_mK (by decide)).trans R_45
  have R_52 : rf (T_X4_init_7 t i0 i1) i0 1 = some t.length := (rf_mK (by decide)).trans R_46
  have R_53 : rf (T_X4_init_7 t i0 i1) i0 3 = some (t.length + 2) := (rf_mK (by decide)).trans R_47
  have R_54 : rf (T_X4_init_7 t i0 i1) i0 4 = some (t.length + 3) := rf_mS G_39 (by decide)
  clear L1
  refine a_aload_n 0 0 (μ := m_X4_init) (pc := 33) dX4_init_33 rfl rfl ?_
  refine a_aload_n 1 1 (μ := m_X4_init) (pc := 34) dX4_init_34 rfl rfl ?_
  refine t_putF L (i := i0) (j := i1) (μ := m_X4_init) (pc := 35) dX4_init_35 fl_X4_29 pf_X4_29 flF_4_0 rfl ir_4_0 id_4_0 rfl rfl G_48 A_38 (by decide) A_40 (fun h1 L1 => ?_)
  replace L : Lay (T_X4_init_8 t i0 i1) _ h1 := L1
  have G_55 : sg (T_X4_init_8 t i0 i1) i0 = some (4, 20, 20) := sg_mR.trans G_48
  have G_56 : sg (T_X4_init_8 t i0 i1) i1 = some (5, 3, 3) := sg_mR.trans G_49
  have G_57 : sg (T_X4_init_8 t i0 i1) t.length = some (3, 2, 2) := sg_mR.trans G_50
  have R_58 : rf (T_X4_init_8 t i0 i1) t.length 0 = some (t.length + 1) := (rf_mO (by omega)).trans R_51
  have R_59 : rf (T_X4_init_8 t i0 i1) i0 1 = some t.length := (rf_mK (by decide)).trans R_52
  have R_60 : rf (T_X4_init_8 t i0 i1) i0 3 = some (t.length + 2) := (rf_mK (by decide)).trans R_53
  have R_61 : rf (T_X4_init_8 t i0 i1) i0 4 = some (t.length + 3) := (rf_mK (by decide)).trans R_54
  have R_62 : rf (T_X4_init_8 t i0 i1) i0 0 = some i1 := rf_mS G_48 (by decide)
  clear L1
  refine a_aload_n 0 0 (μ := m_X4_init) (pc := 38) dX4_init_38 rfl rfl ?_
  refine t_new (t.length + 4) L ln_X4_init_8 (ci := 1) (nf := 16) (rc' := 0) (rs' := 0) (μ := m_X4_init) (pc := 39) dX4_init_39 nw_X4_33 (by decide) (by decide) (by decide) (fun q63 ad1 h1 p1 A_64 L1 => ?_)
  replace L : Lay (T_X4_init_9 t i0 i1) ad1 h1 := L1
  replace p := Pre.tr p p1
  have A_65 := p1 _ _ A_38
  have G_66 : sg (T_X4_init_9 t i0 i1) i0 = some (4, 20, 20) := sg_app G_55
  have A_67 := p1 _ _ A_40
  have G_68 : sg (T_X4_init_9 t i0 i1) i1 = some (5, 3, 3) := sg_app G_56
  have A_69 := p1 _ _ A_42
  have G_70 : sg (T_X4_init_9 t i0 i1) t.length = some (3, 2, 2) := sg_app G_57
  have A_71 := p1 _ _ A_44
  have A_72 := p1 _ _ A_37
  have R_73 : rf (T_X4_init_9 t i0 i1) t.length 0 = some (t.length + 1) := rf_app R_58
  have R_74 : rf (T_X4_init_9 t i0 i1) i0 1 = some t.length := rf_app R_59
  have R_75 : rf (T_X4_init_9 t i0 i1) i0 3 = some (t.length + 2) := rf_app R_60
  have R_76 : rf (T_X4_init_9 t i0 i1) i0 4 = some (t.length + 3) := rf_app R_61
  have R_77 : rf (T_X4_init_9 t i0 i1) i0 0 = some i1 := rf_app R_62
  clear L1 p1
  have G_78 : sg (T_X4_init_9 t i0 i1) (t.length + 4) = some (1, 16, 16) := by
    have z := sg_ob (t := (T_X4_init_8 t i0 i1)) (ci := 1) (nf := 16)
    rw [ln_X4_init_8] at z
    exact z
  refine a_dup (μ := m_X4_init) (pc := 42) dX4_init_42 rfl ?_
  refine a_aload_n 1 1 (μ := m_X4_init) (pc := 43) dX4_init_43 rfl rfl ?_
  refine a_aload_n 0 0 (μ := m_X4_init) (pc := 44) dX4_init_44 rfl rfl ?_
  refine t_get L (i := i0) (j := t.length) (μ := m_X4_init) (pc := 45) dX4_init_45 fl_X4_14 ir_4_1 id_4_1 G_66 A_65 R_74 (fun b79 A_80 => ?_)
  refine t_call (rc' := 0) (rs' := 0) (t' := T_X1_init (T_X4_init_9 t i0 i1) (t.length + 4) i1 t.length (t.length + 1)) (As := [.ref a1, .ref b79]) (rest := [.ref q63, .ref a0]) (μ := m_X4_init) (pc := 48) dX4_init_48 ic_X4_35 rfl (Nat.le_of_ble_eq_true rfl) (d' := d - 1) (by omega) (by decide) (by decide) (i_X1_init hl (d := d - 1) (by omega) L A_64 G_78 A_67 G_68 A_80 G_70 R_73) (fun ad1 h1 p1 L1 => ?_) rfl
  replace L : Lay (T_X4_init_10 t i0 i1) ad1 h1 := L1
  replace p := Pre.tr p p1
  have A_81 := p1 _ _ A_65
  have G_82 : sg (T_X4_init_10 t i0 i1) i0 = some (4, 20, 20) := sgk_X1_init G_66
  have A_83 := p1 _ _ A_67
  have G_84 : sg (T_X4_init_10 t i0 i1) i1 = some (5, 3, 3) := sgk_X1_init G_68
  have A_85 := p1 _ _ A_69
  have G_86 : sg (T_X4_init_10 t i0 i1) t.length = some (3, 2, 2) := sgk_X1_init G_70
  have A_87 := p1 _ _ A_71
  have A_88 := p1 _ _ A_72
  have A_89 := p1 _ _ A_64
  have G_90 : sg (T_X4_init_10 t i0 i1) (t.length + 4) = some (1, 16, 16) := sgk_X1_init G_78
  have A_91 := p1 _ _ A_80
  have G_92 : sg (T_X4_init_10 t i0 i1) t.length = some (3, 2, 2) := sgk_X1_init G_70
  have R_93 : rf (T_X4_init_10 t i0 i1) t.length 0 = some (t.length + 1) := rfk_X1_init (by first | omega | (rw [ln_X4_init_9]; omega)) (by omega) R_73
  have R_94 : rf (T_X4_init_10 t i0 i1) i0 1 = some t.length := rfk_X1_init (by first | omega | (rw [ln_X4_init_9]; omega)) (by omega) R_74
  have R_95 : rf (T_X4_init_10 t i0 i1) i0 3 = some (t.length + 2) := rfk_X1_init (by first | omega | (rw [ln_X4_init_9]; omega)) (by omega) R_75
  have R_96 : rf (T_X4_init_10 t i0 i1) i0 4 = some (t.length + 3) := rfk_X1_init (by first | omega | (rw [ln_X4_init_9]; omega)) (by omega) R_76
  have R_97 : rf (T_X4_init_10 t i0 i1) i0 0 = some i1 := rfk_X1_init (by first | omega | (rw [ln_X4_init_9]; omega)) (by omega) R_77
  have R_98 : rf (T_X4_init_10 t i0 i1) t.length 0 = some (t.length + 1) := rfk_X1_init (by first | omega | (rw [ln_X4_init_9]; omega)) (by omega) R_73
  clear L1 p1
  refine t_putF L (i := i0) (j := (t.length + 4)) (μ := m_X4_init) (pc := 51) dX4_init_51 fl_X4_38 pf_X4_38 flF_4_2 rfl ir_4_2 id_4_2 rfl rfl G_82 A_81 (by decide) A_89 (fun h1 L1 => ?_)
  replace L : Lay (T_X4_init_11 t i0 i1) _ h1 := L1
  have G_99 : sg (T_X4_init_11 t i0 i1) i0 = some (4, 20, 20) := sg_mR.trans G_82
  have G_100 : sg (T_X4_init_11 t i0 i1) i1 = some (5, 3, 3) := sg_mR.trans G_84
  have G_101 : sg (T_X4_init_11 t i0 i1) t.length = some (3, 2, 2) := sg_mR.trans G_86
  have G_102 : sg (T_X4_init_11 t i0 i1) (t.length + 4) = some (1, 16, 16) := sg_mR.trans G_90
  have G_103 : sg (T_X4_init_11 t i0 i1) t.length = some (3, 2, 2) := sg_mR.trans G_92
  have R_104 : rf (T_X4_init_11 t i0 i1) t.length 0 = some (t.length + 1) := (rf_mK (by decide)).trans R_93
  have R_105 : rf (T_X4_init_11 t i0 i1) i0 1 = some t.length := (rf_mK (by decide)).trans R_94
  have R_106 : rf (T_X4_init_11 t i0 i1) i0 3 = some (t.length + 2) := (rf_mK (by decide)).trans R_95
  have R_107 : rf (T_X4_init_11 t i0 i1) i0 4 = some (t.length + 3) := (rf_mK (by decide)).trans R_96
  have R_108 : rf (T_X4_init_11 t i0 i1) i0 0 = some i1 := (rf_mK (by decide)).trans R_97
  have R_109 : rf (T_X4_init_11 t i0 i1) t.length 0 = some (t.length + 1) := (rf_mK (by decide)).trans R_98
  have R_110 : rf (T_X4_init_11 t i0 i1) i0 2 = some (t.length + 4) := rf_mS G_82 (by decide)
  clear L1
  exact a_vret (μ := m_X4_init) (pc := 54) dX4_init_54 rfl ⟨rfl, _, p, L⟩
def T_X10_init_1 (t : List tc) (i0 : Nat) (i1 : Nat) : List tc := t ++ [ob 3 2]
theorem ln_X10_init_1 {t : List tc} {i0 : Nat} {i1 : Nat} : (T_X10_init_1 t i0 i1).length = t.length + 1 := by unfold T_X10_init_1; rw [List.length_append]; rfl
theorem sgk_X10_init_1 {t : List tc} {i0 : Nat} {i1 : Nat} {i9 : Nat} {x9 : Nat × Nat × Nat} (h9 : sg t i9 = some x9) : sg (T_X10_init_1 t i0 i1) i9 = some x9 := sg_app h9
theorem rfk_X10_init_1 {t : List tc} {i0 : Nat} {i1 : Nat} {i9 k9 j9 : Nat} (hlt : i9 < t.length) (hne : i9 ≠ i0) (h9 : rf t i9 k9 = some j9) : rf (T_X10_init_1 t i0 i1) i9 k9 = some j9 := rf_app h9
def T_X10_init_2 (t : List tc) (i0 : Nat) (i1 : Nat) : List tc := T_X3_init (T_X10_init_1 t i0 i1) t.length 16
theorem ln_X10_init_2 {t : List tc} {i0 : Nat} {i1 : Nat} : (T_X10_init_2 t i0 i1).length = t.length + 2 := by unfold T_X10_init_2; rw [ln_X3_init, ln_X10_init_1]
theorem sgk_X10_init_2 {t : List tc} {i0 : Nat} {i1 : Nat} {i9 : Nat} {x9 : Nat × Nat × Nat} (h9 : sg t i9 = some x9) : sg (T_X10_init_2 t i0 i1) i9 = some x9 := sgk_X3_init (sgk_X10_init_1 h9)
theorem rfk_X10_init_2 {t : List tc} {i0 : Nat} {i1 : Nat} {i9 k9 j9 : Nat} (hlt : i9 < t.length) (hne : i9 ≠ i0) (h9 : rf t i9 k9 = some j9) : rf (T_X10_init_2 t i0 i1) i9 k9 = some j9 := rfk_X3_init (by rw [ln_X10_init_1]; omega) (by omega) (rfk_X10_init_1 hlt hne h9)
def T_X10_init_3 (t : List tc) (i0 : Nat) (i1 : Nat) : List tc := ((T_X10_init_2 t i0 i1)).modify i0 (uR 1 t.length)
theorem ln_X10_init_3 {t : List tc} {i0 : Nat} {i1 : Nat} : (T_X10_init_3 t i0 i1).length = t.length + 2 := by unfold T_X10_init_3; rw [List.length_modify]; exact ln_X10_init_2
theorem sgk_X10_init_3 {t : List tc} {i0 : Nat} {i1 : Nat} {i9 : Nat} {x9 : Nat × Nat × Nat} (h9 : sg t i9 = some x9) : sg (T_X10_init_3 t i0 i1) i9 = some x9 := (sg_mR).trans (sgk_X10_init_2 h9)
theorem rfk_X10_init_3 {t : List tc} {i0 : Nat} {i1 : Nat} {i9 k9 j9 : Nat} (hlt : i9 < t.length) (hne : i9 ≠ i0) (h9 : rf t i9 k9 = some j9) : rf (T_X10_init_3 t i0 i1) i9 k9 = some j9 := (rf_mO (by omega)).trans (rfk_X10_init_2 hlt hne h9)
def T_X10_init_4 (t : List tc) (i0 : Nat) (i1 : Nat) : List tc := (T_X10_init_3 t i0 i1) ++ [ar 13 5]
theorem ln_X10_init_4 {t : List tc} {i0 : Nat} {i1 : Nat} : (T_X10_init_4 t i0 i1).length = t.length + 3 := by unfold T_X10_init_4; rw [List.length_append, ln_X10_init_3]; rfl
theorem sgk_X10_init_4 {t : List tc} {i0 : Nat} {i1 : Nat} {i9 : Nat} {x9 : Nat × Nat × Nat} (h9 : sg t i9 = some x9) : sg (T_X10_init_4 t i0 i1) i9 = some x9 := sg_app (sgk_X10_init_3 h9)
theorem rfk_X10_init_4 {t : List tc} {i0 : Nat} {i1 : Nat} {i9 k9 j9 : Nat} (hlt : i9 < t.length) (hne : i9 ≠ i0) (h9 : rf t i9 k9 = some j9) : rf (T_X10_init_4 t i0 i1) i9 k9 = some j9 := rf_app (rfk_X10_init_3 hlt hne h9)
def T_X10_init_5 (t : List tc) (i0 : Nat) (i1 : Nat) : List tc := ((T_X10_init_4 t i0 i1)).modify i0 (uR 3 (t.length + 2))
theorem ln_X10_init_5 {t : List tc} {i0 : Nat} {i1 : Nat} : (T_X10_init_5 t i0 i1).length = t.length + 3 := by unfold T_X10_init_5; rw [List.length_modify]; exact ln_X10_init_4
theorem sgk_X10_init_5 {t : List tc} {i0 : Nat} {i1 : Nat} {i9 : Nat} {x9 : Nat × Nat × Nat} (h9 : sg t i9 = some x9) : sg (T_X10_init_5 t i0 i1) i9 = some x9 := (sg_mR).trans (sgk_X10_init_4 h9)
theorem rfk_X10_init_5 {t : List tc} {i0 : Nat} {i1 : Nat} {i9 k9 j9 : Nat} (hlt : i9 < t.length) (hne : i9 ≠ i0) (h9 : rf t i9 k9 = some j9) : rf (T_X10_init_5 t i0 i1) i9 k9 = some j9 := (rf_mO (by omega)).trans (rfk_X10_init_4 hlt hne h9)
def T_X10_init_6 (t : List tc) (i0 : Nat) (i1 : Nat) : List tc := (T_X10_init_5 t i0 i1) ++ a2 18 13 5 17 (t.length + 3)
theorem ln_X10_init_6 {t : List tc} {i0 : Nat} {i1 : Nat} : (T_X10_init_6 t i0 i1).length = t.length + 9 := by unfold T_X10_init_6; rw [List.length_append, ln_X10_init_5, len_a2]
theorem sgk_X10_init_6 {t : List tc} {i0 : Nat} {i1 : Nat} {i9 : Nat} {x9 : Nat × Nat × Nat} (h9 : sg t i9 = some x9) : sg (T_X10_init_6 t i0 i1) i9 = some x9 := sg_app (sgk_X10_init_5 h9)
theorem rfk_X10_init_6 {t : List tc} {i0 : Nat} {i1 : Nat} {i9 k9 j9 : Nat} (hlt : i9 < t.length) (hne : i9 ≠ i0) (h9 : rf t i9 k9 = some j9) : rf (T_X10_init_6 t i0 i1) i9 k9 = some j9 := rf_app (rfk_X10_init_5 hlt hne h9)
def T_X10_init_7 (t : List tc) (i0 : Nat) (i1 : Nat) : List tc := ((T_X10_init_6 t i0 i1)).modify i0 (uR 4 (t.length + 3))
theorem ln_X10_init_7 {t : List tc} {i0 : Nat} {i1 : Nat} : (T_X10_init_7 t i0 i1).length = t.length + 9 := by unfold T_X10_init_7; rw [List.length_modify]; exact ln_X10_init_6
theorem sgk_X10_init_7 {t : List tc} {i0 : Nat} {i1 : Nat} {i9 : Nat} {x9 : Nat × Nat × Nat} (h9 : sg t i9 = some x9) : sg (T_X10_init_7 t i0 i1) i9 = some x9 := (sg_mR).trans (sgk_X10_init_6 h9)
theorem rfk_X10_init_7 {t : List tc} {i0 : Nat} {i1 : Nat} {i9 k9 j9 : Nat} (hlt : i9 < t.length) (hne : i9 ≠ i0) (h9 : rf t i9 k9 = some j9) : rf (T_X10_init_7 t i0 i1) i9 k9 = some j9 := (rf_mO (by omega)).trans (rfk_X10_init_6 hlt hne h9)
def T_X10_init_8 (t : List tc) (i0 : Nat) (i1 : Nat) : List tc := (T_X10_init_7 t i0 i1) ++ a2 18 13 5 17 (t.length + 9)
theorem ln_X10_init_8 {t : List tc} {i0 : Nat} {i1 : Nat} : (T_X10_init_8 t i0 i1).length = t.length + 15 := by unfold T_X10_init_8; rw [List.length_append, ln_X10_init_7, len_a2]
theorem sgk_X10_init_8 {t : List tc} {i0 : Nat} {i1 : Nat} {i9 : Nat} {x9 : Nat × Nat × Nat} (h9 : sg t i9 = some x9) : sg (T_X10_init_8 t i0 i1) i9 = some x9 := sg_app (sgk_X10_init_7 h9)
theorem rfk_X10_init_8 {t : List tc} {i0 : Nat} {i1 : Nat} {i9 k9 j9 : Nat} (hlt : i9 < t.length) (hne : i9 ≠ i0) (h9 : rf t i9 k9 = some j9) : rf (T_X10_init_8 t i0 i1) i9 k9 = some j9 := rf_app (rfk_X10_init_7 hlt hne h9)
def T_X10_init_9 (t : List tc) (i0 : Nat) (i1 : Nat) : List tc := ((T_X10_init_8 t i0 i1)).modify i0 (uR 5 (t.length + 9))
theorem ln_X10_init_9 {t : List tc} {i0 : Nat} {i1 : Nat} : (T_X10_init_9 t i0 i1).length = t.length + 15 := by unfold T_X10_init_9; rw [List.length_modify]; exact ln_X10_init_8
theorem sgk_X10_init_9 {t : List tc} {i0 : Nat} {i1 : Nat} {i9 : Nat} {x9 : Nat × Nat × Nat} (h9 : sg t i9 = some x9) : sg (T_X10_init_9 t i0 i1) i9 = some x9 := (sg_mR).trans (sgk_X10_init_8 h9)
theorem rfk_X10_init_9 {t : List tc} {i0 : Nat} {i1 : Nat} {i9 k9 j9 : Nat} (hlt : i9 < t.length) (hne : i9 ≠ i0) (h9 : rf t i9 k9 = some j9) : rf (T_X10_init_9 t i0 i1) i9 k9 = some j9 := (rf_mO (by omega)).trans (rfk_X10_init_8 hlt hne h9)
def T_X10_init_10 (t : List tc) (i0 : Nat) (i1 : Nat) : List tc := (T_X10_init_9 t i0 i1) ++ a2 19 14 5 17 (t.length + 15)
theorem ln_X10_init_10 {t : List tc} {i0 : Nat} {i1 : Nat} : (T_X10_init_10 t i0 i1).length = t.length + 21 := by unfold T_X10_init_10; rw [List.length_append, ln_X10_init_9, len_a2]
theorem sgk_X10_init_10 {t : List tc} {i0 : Nat} {i1 : Nat} {i9 : Nat} {x9 : Nat × Nat × Nat} (h9 : sg t i9 = some x9) : sg (T_X10_init_10 t i0 i1) i9 = some x9 := sg_app (sgk_X10_init_9 h9)
theorem rfk_X10_init_10 {t : List tc} {i0 : Nat} {i1 : Nat} {i9 k9 j9 : Nat} (hlt : i9 < t.length) (hne : i9 ≠ i0) (h9 : rf t i9 k9 = some j9) : rf (T_X10_init_10 t i0 i1) i9 k9 = some j9 := rf_app (rfk_X10_init_9 hlt hne h9)
def T_X10_init_11 (t : List tc) (i0 : Nat) (i1 : Nat) : List tc := ((T_X10_init_10 t i0 i1)).modify i0 (uR 6 (t.length + 15))
theorem ln_X10_init_11 {t : List tc} {i0 : Nat} {i1 : Nat} : (T_X10_init_11 t i0 i1).length = t.length + 21 := by unfold T_X10_init_11; rw [List.length_modify]; exact ln_X10_init_10
theorem sgk_X10_init_11 {t : List tc} {i0 : Nat} {i1 : Nat} {i9 : Nat} {x9 : Nat × Nat × Nat} (h9 : sg t i9 = some x9) : sg (T_X10_init_11 t i0 i1) i9 = some x9 := (sg_mR).trans (sgk_X10_init_10 h9)
theorem rfk_X10_init_11 {t : List tc} {i0 : Nat} {i1 : Nat} {i9 k9 j9 : Nat} (hlt : i9 < t.length) (hne : i9 ≠ i0) (h9 : rf t i9 k9 = some j9) : rf (T_X10_init_11 t i0 i1) i9 k9 = some j9 := (rf_mO (by omega)).trans (rfk_X10_init_10 hlt hne h9)
def T_X10_init_12 (t : List tc) (i0 : Nat) (i1 : Nat) : List tc := ((T_X10_init_11 t i0 i1)).modify i0 (uR 0 i1)
theorem ln_X10_init_12 {t : List tc} {i0 : Nat} {i1 : Nat} : (T_X10_init_12 t i0 i1).length = t.length + 21 := by unfold T_X10_init_12; rw [List.length_modify]; exact ln_X10_init_11
theorem sgk_X10_init_12 {t : List tc} {i0 : Nat} {i1 : Nat} {i9 : Nat} {x9 : Nat × Nat × Nat} (h9 : sg t i9 = some x9) : sg (T_X10_init_12 t i0 i1) i9 = some x9 := (sg_mR).trans (sgk_X10_init_11 h9)
theorem rfk_X10_init_12 {t : List tc} {i0 : Nat} {i1 : Nat} {i9 k9 j9 : Nat} (hlt : i9 < t.length) (hne : i9 ≠ i0) (h9 : rf t i9 k9 = some j9) : rf (T_X10_init_12 t i0 i1) i9 k9 = some j9 := (rf_mO (by omega)).trans (rfk_X10_init_11 hlt hne h9)
def T_X10_init_13 (t : List tc) (i0 : Nat) (i1 : Nat) : List tc := (T_X10_init_12 t i0 i1) ++ [ob 1 16]
theorem ln_X10_init_13 {t : List tc} {i0 : Nat} {i1 : Nat} : (T_X10_init_13 t i0 i1).length = t.length + 22 := by unfold T_X10_init_13; rw [List.length_append, ln_X10_init_12]; rfl
theorem sgk_X10_init_13 {t : List tc} {i0 : Nat} {i1 : Nat} {i9 : Nat} {x9 : Nat × Nat × Nat} (h9 : sg t i9 = some x9) : sg (T_X10_init_13 t i0 i1) i9 = some x9 := sg_app (sgk_X10_init_12 h9)
theorem rfk_X10_init_13 {t : List tc} {i0 : Nat} {i1 : Nat} {i9 k9 j9 : Nat} (hlt : i9 < t.length) (hne : i9 ≠ i0) (h9 : rf t i9 k9 = some j9) : rf (T_X10_init_13 t i0 i1) i9 k9 = some j9 := rf_app (rfk_X10_init_12 hlt hne h9)
def T_X10_init_14 (t : List tc) (i0 : Nat) (i1 : Nat) : List tc := T_X1_init (T_X10_init_13 t i0 i1) (t.length + 21) i1 t.length (t.length + 1)
theorem ln_X10_init_14 {t : List tc} {i0 : Nat} {i1 : Nat} : (T_X10_init_14 t i0 i1).length = t.length + 22 := by unfold T_X10_init_14; rw [ln_X1_init, ln_X10_init_13]
theorem sgk_X10_init_14 {t : List tc} {i0 : Nat} {i1 : Nat} {i9 : Nat} {x9 : Nat × Nat × Nat} (h9 : sg t i9 = some x9) : sg (T_X10_init_14 t i0 i1) i9 = some x9 := sgk_X1_init (sgk_X10_init_13 h9)
theorem rfk_X10_init_14 {t : List tc} {i0 : Nat} {i1 : Nat} {i9 k9 j9 : Nat} (hlt : i9 < t.length) (hne : i9 ≠ i0) (h9 : rf t i9 k9 = some j9) : rf (T_X10_init_14 t i0 i1) i9 k9 = some j9 := rfk_X1_init (by rw [ln_X10_init_13]; omega) (by omega) (rfk_X10_init_13 hlt hne h9)
def T_X10_init_15 (t : List tc) (i0 : Nat) (i1 : Nat) : List tc := ((T_X10_init_14 t i0 i1)).modify i0 (uR 2 (t.length + 21))
theorem ln_X10_init_15 {t : List tc} {i0 : Nat} {i1 : Nat} : (T_X10_init_15 t i0 i1).length = t.length + 22 := by unfold T_X10_init_15; rw [List.length_modify]; exact ln_X10_init_14
theorem sgk_X10_init_15 {t : List tc} {i0 : Nat} {i1 : Nat} {i9 : Nat} {x9 : Nat × Nat × Nat} (h9 : sg t i9 = some x9) : sg (T_X10_init_15 t i0 i1) i9 = some x9 := (sg_mR).trans (sgk_X10_init_14 h9)
theorem rfk_X10_init_15 {t : List tc} {i0 : Nat} {i1 : Nat} {i9 k9 j9 : Nat} (hlt : i9 < t.length) (hne : i9 ≠ i0) (h9 : rf t i9 k9 = some j9) : rf (T_X10_init_15 t i0 i1) i9 k9 = some j9 := (rf_mO (by omega)).trans (rfk_X10_init_14 hlt hne h9)
abbrev T_X10_init (t : List tc) (i0 : Nat) (i1 : Nat) : List tc := T_X10_init_15 t i0 i1
theorem ln_X10_init {t : List tc} {i0 : Nat} {i1 : Nat} : (T_X10_init t i0 i1).length = t.length + 22 := ln_X10_init_15
theorem sgk_X10_init {t : List tc} {i0 : Nat} {i1 : Nat} {i9 : Nat} {x9 : Nat × Nat × Nat} (h9 : sg t i9 = some x9) : sg (T_X10_init t i0 i1) i9 = some x9 := sgk_X10_init_15 h9
theorem rfk_X10_init {t : List tc} {i0 : Nat} {i1 : Nat} {i9 k9 j9 : Nat} (hlt : i9 < t.length) (hne : i9 ≠ i0) (h9 : rf t i9 k9 = some j9) : rf (T_X10_init t i0 i1) i9 k9 = some j9 := rfk_X10_init_15 hlt hne h9
set_option maxHeartbeats 4000000 in
set_option maxRecDepth 100000 in
theorem i_X10_init {l : Launch} {D : va_G} {cy : Nat → ClassId} {d : Nat} {t : List tc} {ad : List Nat} {h : hp} (hl : l.stackTraces = false) (hd : 2 ≤ d) (L : Lay t ad h) {i0 a0 : Nat} (A0 : ad[i0]? = some a0) (G0 : sg t i0 = some (10, 7, 7)) {i1 a1 : Nat} (A1 : ad[i1]? = some a1) (G1 : sg t i1 = some (5, 3, 3)) : Cal l D cy m_X10_init d 22 309 [.ref a0, .ref a1] h (inP (T_X10_init t i0 i1) ad) (fun _ _ => False) := by
  refine Cal.of (by decide +kernel) (Nat.le_of_ble_eq_true rfl) hl ?_
  have p : Pre ad ad := Pre.rf
  have hl0 := L.lt A0
  have hl1 := L.lt A1
  have ne01 : i0 ≠ i1 := fun e => by rw [e, G1] at G0; cases G0
  refine a_aload_n 0 0 (μ := m_X10_init) (pc := 0) dX10_init_0 rfl rfl ?_
  refine a_objI (μ := m_X10_init) (pc := 1) dX10_init_1 oi_X10_3 oi_i oi_c (Nat.le_of_ble_eq_true rfl) (by omega) ?_
  refine a_aload_n 0 0 (μ := m_X10_init) (pc := 4) dX10_init_4 rfl rfl ?_
  refine t_new t.length L rfl (ci := 3) (nf := 2) (rc' := 21) (rs' := 307) (μ := m_X10_init) (pc := 5) dX10_init_5 nw_X10_9 (by decide) (by decide) (by decide) (fun q1 ad1 h1 p1 A_2 L1 => ?_)
  replace L : Lay (T_X10_init_1 t i0 i1) ad1 h1 := L1
  replace p := Pre.tr p p1
  have A_3 := p1 _ _ A0
  have G_4 : sg (T_X10_init_1 t i0 i1) i0 = some (10, 7, 7) := sg_app G0
  have A_5 := p1 _ _ A1
  have G_6 : sg (T_X10_init_1 t i0 i1) i1 = some (5, 3, 3) := sg_app G1
  clear L1 p1
  have G_7 : sg (T_X10_init_1 t i0 i1) t.length = some (3, 2, 2) := by
    have z := sg_ob (t := t) (ci := 3) (nf := 2)
    exact z
  refine a_dup (μ := m_X10_init) (pc := 8) dX10_init_8 rfl ?_
  refine a_bipush (v := 16) (μ := m_X10_init) (pc := 9) dX10_init_9 (by decide) ?_
  refine t_call (rc' := 20) (rs' := 291) (t' := T_X3_init (T_X10_init_1 t i0 i1) t.length 16) (As := [.int 16]) (rest := [.ref q1, .ref a0]) (μ := m_X10_init) (pc := 11) dX10_init_11 ic_X10_13 rfl (Nat.le_of_ble_eq_true rfl) (d' := d - 1) (by omega) (by decide) (by decide) (i_X3_init hl (d := d - 1) (by omega) L A_2 G_7 (m1 := 16) (by decide) (by decide) (by decide)) (fun ad1 h1 p1 L1 => ?_) rfl
  replace L : Lay (T_X10_init_2 t i0 i1) ad1 h1 := L1
  replace p := Pre.tr p p1
  have A_8 := p1 _ _ A_3
  have G_9 : sg (T_X10_init_2 t i0 i1) i0 = some (10, 7, 7) := sgk_X3_init G_4
  have A_10 := p1 _ _ A_5
  have G_11 : sg (T_X10_init_2 t i0 i1) i1 = some (5, 3, 3) := sgk_X3_init G_6
  have A_12 := p1 _ _ A_2
  have G_13 : sg (T_X10_init_2 t i0 i1) t.length = some (3, 2, 2) := sgk_X3_init G_7
  clear L1 p1
  have R_14 : rf (T_X10_init_2 t i0 i1) t.length 0 = some (t.length + 1) := by
    have z := rof_X3_init_0 (t := (T_X10_init_1 t i0 i1)) (i0 := t.length) (m1 := 16) G_7
    rw [ln_X10_init_1] at z
    exact z
  refine t_putF L (i := i0) (j := t.length) (μ := m_X10_init) (pc := 14) dX10_init_14 fl_X10_16 pf_X10_16 flF_10_1 rfl ir_10_1 id_10_1 rfl rfl G_9 A_8 (by decide) A_12 (fun h1 L1 => ?_)
  replace L : Lay (T_X10_init_3 t i0 i1) _ h1 := L1
  have G_15 : sg (T_X10_init_3 t i0 i1) i0 = some (10, 7, 7) := sg_mR.trans G_9
  have G_16 : sg (T_X10_init_3 t i0 i1) i1 = some (5, 3, 3) := sg_mR.trans G_11
  have G_17 : sg (T_X10_init_3 t i0 i1) t.length = some (3, 2, 2) := sg_mR.trans G_13
  have R_18 : rf (T_X10_init_3 t i0 i1) t.length 0 = some (t.length + 1) := (rf_mK (by decide)).trans R_14
  have R_19 : rf (T_X10_init_3 t i0 i1) i0 1 = some t.length := rf_mS G_9 (by decide)
  clear L1
  refine a_aload_n 0 0 (μ := m_X10_init) (pc := 17) dX10_init_17 rfl rfl ?_
  refine a_iconst (v := 5) (μ := m_X10_init) (pc := 18) dX10_init_18 (by decide) ?_
  refine t_newI (t.length + 2) L ln_X10_init_3 0 5 (ty := .int) (rc' := 19) (rs' := 286) (μ := m_X10_init) (pc := 19) dX10_init_19 rfl (by decide) ac_0 (by decide) (by decide) (by decide) (by decide) (by decide) (fun q20 ad1 h1 p1 A_21 L1 => ?_)
  replace L : Lay (T_X10_init_4 t i0 i1) ad1 h1 := L1
  replace p := Pre.tr p p1
  have A_22 := p1 _ _ A_8
  have G_23 : sg (T_X10_init_4 t i0 i1) i0 = some (10, 7, 7) := sg_app G_15
  have A_24 := p1 _ _ A_10
  have G_25 : sg (T_X10_init_4 t i0 i1) i1 = some (5, 3, 3) := sg_app G_16
  have A_26 := p1 _ _ A_12
  have G_27 : sg (T_X10_init_4 t i0 i1) t.length = some (3, 2, 2) := sg_app G_17
  have R_28 : rf (T_X10_init_4 t i0 i1) t.length 0 = some (t.length + 1) := rf_app R_18
  have R_29 : rf (T_X10_init_4 t i0 i1) i0 1 = some t.length := rf_app R_19
  clear L1 p1
  refine t_putF L (i := i0) (j := (t.length + 2)) (μ := m_X10_init) (pc := 21) dX10_init_21 fl_X10_20 pf_X10_20 flF_10_3 rfl ir_10_3 id_10_3 rfl rfl G_23 A_22 (by decide) A_21 (fun h1 L1 => ?_)
  replace L : Lay (T_X10_init_5 t i0 i1) _ h1 := L1
  have G_30 : sg (T_X10_init_5 t i0 i1) i0 = some (10, 7, 7) := sg_mR.trans G_23
  have G_31 : sg (T_X10_init_5 t i0 i1) i1 = some (5, 3, 3) := sg_mR.trans G_25
  have G_32 : sg (T_X10_init_5 t i0 i1) t.length = some (3, 2, 2) := sg_mR.trans G_27
  have R_33 : rf (T_X10_init_5 t i0 i1) t.length 0 = some (t.length + 1) := (rf_mK (by decide)).trans R_28
  have R_34 : rf (T_X10_init_5 t i0 i1) i0 1 = some t.length := (rf_mK (by decide)).trans R_29
  have R_35 : rf (T_X10_init_5 t i0 i1) i0 3 = some (t.length + 2) := rf_mS G_23 (by decide)
  clear L1
  refine a_aload_n 0 0 (μ := m_X10_init) (pc := 24) dX10_init_24 rfl rfl ?_
  refine a_iconst (v := 5) (μ := m_X10_init) (pc := 25) dX10_init_25 (by decide) ?_
  refine a_bipush (v := 17) (μ := m_X10_init) (pc := 26) dX10_init_26 (by decide) ?_
  refine t_mna (t.length + 3) L ln_X10_init_5 5 0 5 17 (ty := .int) (rc' := 13) (rs' := 196) (μ := m_X10_init) (pc := 28) dX10_init_28 (by decide) mc_X10_24 ac_0 (by decide) (by decide) (by decide) (by decide) (by decide) (by decide) (by decide) (by decide) (fun q36 ad1 h1 p1 A_37 L1 => ?_)
  replace L : Lay (T_X10_init_6 t i0 i1) ad1 h1 := L1
  replace p := Pre.tr p p1
  have A_38 := p1 _ _ A_22
  have G_39 : sg (T_X10_init_6 t i0 i1) i0 = some (10, 7, 7) := sg_app G_30
  have A_40 := p1 _ _ A_24
  have G_41 : sg (T_X10_init_6 t i0 i1) i1 = some (5, 3, 3) := sg_app G_31
  have A_42 := p1 _ _ A_26
  have G_43 : sg (T_X10_init_6 t i0 i1) t.length = some (3, 2, 2) := sg_app G_32
  have A_44 := p1 _ _ A_21
  have R_45 : rf (T_X10_init_6 t i0 i1) t.length 0 = some (t.length + 1) := rf_app R_33
  have R_46 : rf (T_X10_init_6 t i0 i1) i0 1 = some t.length := rf_app R_34
  have R_47 : rf (T_X10_init_6 t i0 i1) i0 3 = some (t.length + 2) := rf_app R_35
  clear L1 p1
  refine t_putF L (i := i0) (j := (t.length + 3)) (μ := m_X10_init) (pc := 32) dX10_init_32 fl_X10_26 pf_X10_26 flF_10_4 rfl ir_10_4 id_10_4 rfl rfl G_39 A_38 (by decide) A_37 (fun h1 L1 => ?_)
  replace L : Lay (T_X10_init_7 t i0 i1) _ h1 := L1
  have G_48 : sg (T_X10_init_7 t i0 i1) i0 = some (10, 7, 7) := sg_mR.trans G_39
  have G_49 : sg (T_X10_init_7 t i0 i1) i1 = some (5, 3, 3) := sg_mR.trans G_41
  have G_50 : sg (T_X10_init_7 t i0 i1) t.length = some (3, 2, 2) := sg_mR.trans G_43
  have R_51 : rf (T_X10_init_7 t i0 i1) t.length 0 = some (t.length + 1) := (rf_mK (by decide)).trans R_45
  have R_52 : rf (T_X10_init_7 t i0 i1) i0 1 = some t.length := (rf_mK (by decide)).trans R_46
  have R_53 : rf (T_X10_init_7 t i0 i1) i0 3 = some (t.length + 2) := (rf_mK (by decide)).trans R_47
  have R_54 : rf (T_X10_init_7 t i0 i1) i0 4 = some (t.length + 3) := rf_mS G_39 (by decide)
  clear L1
  refine a_aload_n 0 0 (μ := m_X10_init) (pc := 35) dX10_init_35 rfl rfl ?_
  refine a_iconst (v := 5) (μ := m_X10_init) (pc := 36) dX10_init_36 (by decide) ?_
  refine a_bipush (v := 17) (μ := m_X10_init) (pc := 37) dX10_init_37 (by decide) ?_
  refine t_mna (t.length + 9) L ln_X10_init_7 5 0 5 17 (ty := .int) (rc' := 7) (rs' := 106) (μ := m_X10_init) (pc := 39) dX10_init_39 (by decide) mc_X10_24 ac_0 (by decide) (by decide) (by decide) (by decide) (by decide) (by decide) (by decide) (by decide) (fun q55 ad1 h1 p1 A_56 L1 => ?_)
  replace L : Lay (T_X10_init_8 t i0 i1) ad1 h1 := L1
  replace p := Pre.tr p p1
  have A_57 := p1 _ _ A_38
  have G_58 : sg (T_X10_init_8 t i0 i1) i0 = some (10, 7, 7) := sg_app G_48
  have A_59 := p1 _ _ A_40
  have G_60 : sg (T_X10_init_8 t i0 i1) i1 = some (5, 3, 3) := sg_app G_49
  have A_61 := p1 _ _ A_42
  have G_62 : sg (T_X10_init_8 t i0 i1) t.length = some (3, 2, 2) := sg_app G_50
  have A_63 := p1 _ _ A_44
  have A_64 := p1 _ _ A_37
  have R_65 : rf (T_X10_init_8 t i0 i1) t.length 0 = some (t.length + 1) := rf_app R_51
  have R_66 : rf (T_X10_init_8 t i0 i1) i0 1 = some t.length := rf_app R_52
  have R_67 : rf (T_X10_init_8 t i0 i1) i0 3 = some (t.length + 2) := rf_app R_53
  have R_68 : rf (T_X10_init_8 t i0 i1) i0 4 = some (t.length + 3) := rf_app R_54
  clear L1 p1
  refine t_putF L (i := i0) (j := (t.length + 9)) (μ := m_X10_init) (pc := 43) dX10_init_43 fl_X10_29 pf_X10_29 flF_10_5 rfl ir_10_5 id_10_5 rfl rfl G_58 A_57 (by decide) A_56 (fun h1 L1 => ?_)
  replace L : Lay (T_X10_init_9 t i0 i1) _ h1 := L1
  have G_69 : sg (T_X10_init_9 t i0 i1) i0 = some (10, 7, 7) := sg_mR.trans G_58
  have G_70 : sg (T_X10_init_9 t i0 i1) i1 = some (5, 3, 3) := sg_mR.trans G_60
  have G_71 : sg (T_X10_init_9 t i0 i1) t.length = some (3, 2, 2) := sg_mR.trans G_62
  have R_72 : rf (T_X10_init_9 t i0 i1) t.length 0 = some (t.length + 1) := (rf_mK (by decide)).trans R_65
  have R_73 : rf (T_X10_init_9 t i0 i1) i0 1 = some t.length := (rf_mK (by decide)).trans R_66
  have R_74 : rf (T_X10_init_9 t i0 i1) i0 3 = some (t.length + 2) := (rf_mK (by decide)).trans R_67
  have R_75 : rf (T_X10_init_9 t i0 i1) i0 4 = some (t.length + 3) := (rf_mK (by decide)).trans R_68
  have R_76 : rf (T_X10_init_9 t i0 i1) i0 5 = some (t.length + 9) := rf_mS G_58 (by decide)
  clear L1
  refine a_aload_n 0 0 (μ := m_X10_init) (pc := 46) dX10_init_46 rfl rfl ?_
  refine a_iconst (v := 5) (μ := m_X10_init) (pc := 47) dX10_init_47 (by decide) ?_
  refine a_bipush (v := 17) (μ := m_X10_init) (pc := 48) dX10_init_48 (by decide) ?_
  refine t_mna (t.length + 15) L ln_X10_init_9 6 1 5 17 (ty := .long) (rc' := 1) (rs' := 16) (μ := m_X10_init) (pc := 50) dX10_init_50 (by decide) mc_X10_32 ac_1 (by decide) (by decide) (by decide) (by decide) (by decide) (by decide) (by decide) (by decide) (fun q77 ad1 h1 p1 A_78 L1 => ?_)
  replace L : Lay (T_X10_init_10 t i0 i1) ad1 h1 := L1
  replace p := Pre.tr p p1
  have A_79 := p1 _ _ A_57
  have G_80 : sg (T_X10_init_10 t i0 i1) i0 = some (10, 7, 7) := sg_app G_69
  have A_81 := p1 _ _ A_59
  have G_82 : sg (T_X10_init_10 t i0 i1) i1 = some (5, 3, 3) := sg_app G_70
  have A_83 := p1 _ _ A_61
  have G_84 : sg (T_X10_init_10 t i0 i1) t.length = some (3, 2, 2) := sg_app G_71
  have A_85 := p1 _ _ A_63
  have A_86 := p1 _ _ A_64
  have A_87 := p1 _ _ A_56
  have R_88 : rf (T_X10_init_10 t i0 i1) t.length 0 = some (t.length + 1) := rf_app R_72
  have R_89 : rf (T_X10_init_10 t i0 i1) i0 1 = some t.length := rf_app R_73
  have R_90 : rf (T_X10_init_10 t i0 i1) i0 3 = some (t.length + 2) := rf_app R_74
  have R_91 : rf (T_X10_init_10 t i0 i1) i0 4 = some (t.length + 3) := rf_app R_75
  have R_92 : rf (T_X10_init_10 t i0 i1) i0 5 = some (t.length + 9) := rf_app R_76
  clear L1 p1
  refine t_putF L (i := i0) (j := (t.length + 15)) (μ := m_X10_init) (pc := 54) dX10_init_54 fl_X10_34 pf_X10_34 flF_10_6 rfl ir_10_6 id_10_6 rfl rfl G_80 A_79 (by decide) A_78 (fun h1 L1 => ?_)
  replace L : Lay (T_X10_init_11 t i0 i1) _ h1 := L1
  have G_93 : sg (T_X10_init_11 t i0 i1) i0 = some (10, 7, 7) := sg_mR.trans G_80
  have G_94 : sg (T_X10_init_11 t i0 i1) i1 = some (5, 3, 3) := sg_mR.trans G_82
  have G_95 : sg (T_X10_init_11 t i0 i1) t.length = some (3, 2, 2) := sg_mR.trans G_84
  have R_96 : rf (T_X10_init_11 t i0 i1) t.length 0 = some (t.length + 1) := (rf_mK (by decide)).trans R_88
  have R_97 : rf (T_X10_init_11 t i0 i1) i0 1 = some t.length := (rf_mK (by decide)).trans R_89
  have R_98 : rf (T_X10_init_11 t i0 i1) i0 3 = some (t.length + 2) := (rf_mK (by decide)).trans R_90
  have R_99 : rf (T_X10_init_11 t i0 i1) i0 4 = some (t.length + 3) := (rf_mK (by decide)).trans R_91
  have R_100 : rf (T_X10_init_11 t i0 i1) i0 5 = some (t.length + 9) := (rf_mK (by decide)).trans R_92
  have R_101 : rf (T_X10_init_11 t i0 i1) i0 6 = some (t.length + 15) := rf_mS G_80 (by decide)
  clear L1
  refine a_aload_n 0 0 (μ := m_X10_init) (pc := 57) dX10_init_57 rfl rfl ?_
  refine a_aload_n 1 1 (μ := m_X10_init) (pc := 58) dX10_init_58 rfl rfl ?_
  refine t_putF L (i := i0) (j := i1) (μ := m_X10_init) (pc := 59) dX10_init_59 fl_X10_37 pf_X10_37 flF_10_0 rfl ir_10_0 id_10_0 rfl rfl G_93 A_79 (by decide) A_81 (fun h1 L1 => ?_)
  replace L : Lay (T_X10_init_12 t i0 i1) _ h1 := L1
  have G_102 : sg (T_X10_init_12 t i0 i1) i0 = some (10, 7, 7) := sg_mR.trans G_93
  have G_103 : sg (T_X10_init_12 t i0 i1) i1 = some (5, 3, 3) := sg_mR.trans G_94
  have G_104 : sg (T_X10_init_12 t i0 i1) t.length = some (3, 2, 2) := sg_mR.trans G_95
  have R_105 : rf (T_X10_init_12 t i0 i1) t.length 0 = some (t.length + 1) := (rf_mO (by omega)).trans R_96
  have R_106 : rf (T_X10_init_12 t i0 i1) i0 1 = some t.length := (rf_mK (by decide)).trans R_97
  have R_107 : rf (T_X10_init_12 t i0 i1) i0 3 = some (t.length + 2) := (rf_mK (by decide)).trans R_98
  have R_108 : rf (T_X10_init_12 t i0 i1) i0 4 = some (t.length + 3) := (rf_mK (by decide)).trans R_99
  have R_109 : rf (T_X10_init_12 t i0 i1) i0 5 = some (t.length + 9) := (rf_mK (by decide)).trans R_100
  have R_110 : rf (T_X10_init_12 t i0 i1) i0 6 = some (t.length + 15) := (rf_mK (by decide)).trans R_101
  have R_111 : rf (T_X10_init_12 t i0 i1) i0 0 = some i1 := rf_mS G_93 (by decide)
  clear L1
  refine a_aload_n 0 0 (μ := m_X10_init) (pc := 62) dX10_init_62 rfl rfl ?_
  refine t_new (t.length + 21) L ln_X10_init_12 (ci := 1) (nf := 16) (rc' := 0) (rs' := 0) (μ := m_X10_init) (pc := 63) dX10_init_63 nw_X10_41 (by decide) (by decide) (by decide) (fun q112 ad1 h1 p1 A_113 L1 => ?_)
  replace L : Lay (T_X10_init_13 t i0 i1) ad1 h1 := L1
  replace p := Pre.tr p p1
  have A_114 := p1 _ _ A_79
  have G_115 : sg (T_X10_init_13 t i0 i1) i0 = some (10, 7, 7) := sg_app G_102
  have A_116 := p1 _ _ A_81
  have G_117 : sg (T_X10_init_13 t i0 i1) i1 = some (5, 3, 3) := sg_app G_103
  have A_118 := p1 _ _ A_83
  have G_119 : sg (T_X10_init_13 t i0 i1) t.length = some (3, 2, 2) := sg_app G_104
  have A_120 := p1 _ _ A_85
  have A_121 := p1 _ _ A_86
  have A_122 := p1 _ _ A_87
  have A_123 := p1 _ _ A_78
  have R_124 : rf (T_X10_init_13 t i0 i1) t.length 0 = some (t.length + 1) := rf_app R_105
  have R_125 : rf (T_X10_init_13 t i0 i1) i0 1 = some t.length := rf_app R_106
  have R_126 : rf (T_X10_init_13 t i0 i1) i0 3 = some (t.length + 2) := rf_app R_107
  have R_127 : rf (T_X10_init_13 t i0 i1) i0 4 = some (t.length + 3) := rf_app R_108
  have R_128 : rf (T_X10_init_13 t i0 i1) i0 5 = some (t.length + 9) := rf_app R_109
  have R_129 : rf (T_X10_init_13 t i0 i1) i0 6 = some (t.length + 15) := rf_app R_110
  have R_130 : rf (T_X10_init_13 t i0 i1) i0 0 = some i1 := rf_app R_111
  clear L1 p1
  have G_131 : sg (T_X10_init_13 t i0 i1) (t.length + 21) = some (1, 16, 16) := by
    have z := sg_ob (t := (T_X10_init_12 t i0 i1)) (ci := 1) (nf := 16)
    rw [ln_X10_init_12] at z
    exact z
  refine a_dup (μ := m_X10_init) (pc := 66) dX10_init_66 rfl ?_
  refine a_aload_n 1 1 (μ := m_X10_init) (pc := 67) dX10_init_67 rfl rfl ?_
  refine a_aload_n 0 0 (μ := m_X10_init) (pc := 68) dX10_init_68 rfl rfl ?_
  refine t_get L (i := i0) (j := t.length) (μ := m_X10_init) (pc := 69) dX10_init_69 fl_X10_16 ir_10_1 id_10_1 G_115 A_114 R_125 (fun b132 A_133 => ?_)
  refine t_call (rc' := 0) (rs' := 0) (t' := T_X1_init (T_X10_init_13 t i0 i1) (t.length + 21) i1 t.length (t.length + 1)) (As := [.ref a1, .ref b132]) (rest := [.ref q112, .ref a0]) (μ := m_X10_init) (pc := 72) dX10_init_72 ic_X10_43 rfl (Nat.le_of_ble_eq_true rfl) (d' := d - 1) (by omega) (by decide) (by decide) (i_X1_init hl (d := d - 1) (by omega) L A_113 G_131 A_116 G_117 A_133 G_119 R_124) (fun ad1 h1 p1 L1 => ?_) rfl
  replace L : Lay (T_X10_init_14 t i0 i1) ad1 h1 := L1
  replace p := Pre.tr p p1
  have A_134 := p1 _ _ A_114
  have G_135 : sg (T_X10_init_14 t i0 i1) i0 = some (10, 7, 7) := sgk_X1_init G_115
  have A_136 := p1 _ _ A_116
  have G_137 : sg (T_X10_init_14 t i0 i1) i1 = some (5, 3, 3) := sgk_X1_init G_117
  have A_138 := p1 _ _ A_118
  have G_139 : sg (T_X10_init_14 t i0 i1) t.length = some (3, 2, 2) := sgk_X1_init G_119
  have A_140 := p1 _ _ A_120
  have A_141 := p1 _ _ A_121
  have A_142 := p1 _ _ A_122
  have A_143 := p1 _ _ A_123
  have A_144 := p1 _ _ A_113
  have G_145 : sg (T_X10_init_14 t i0 i1) (t.length + 21) = some (1, 16, 16) := sgk_X1_init G_131
  have A_146 := p1 _ _ A_133
  have G_147 : sg (T_X10_init_14 t i0 i1) t.length = some (3, 2, 2) := sgk_X1_init G_119
  have R_148 : rf (T_X10_init_14 t i0 i1) t.length 0 = some (t.length + 1) := rfk_X1_init (by first | omega | (rw [ln_X10_init_13]; omega)) (by omega) R_124
  have R_149 : rf (T_X10_init_14 t i0 i1) i0 1 = some t.length := rfk_X1_init (by first | omega | (rw [ln_X10_init_13]; omega)) (by omega) R_125
  have R_150 : rf (T_X10_init_14 t i0 i1) i0 3 = some (t.length + 2) := rfk_X1_init (by first | omega | (rw [ln_X10_init_13]; omega)) (by omega) R_126
  have R_151 : rf (T_X10_init_14 t i0 i1) i0 4 = some (t.length + 3) := rfk_X1_init (by first | omega | (rw [ln_X10_init_13]; omega)) (by omega) R_127
  have R_152 : rf (T_X10_init_14 t i0 i1) i0 5 = some (t.length + 9) := rfk_X1_init (by first | omega | (rw [ln_X10_init_13]; omega)) (by omega) R_128
  have R_153 : rf (T_X10_init_14 t i0 i1) i0 6 = some (t.length + 15) := rfk_X1_init (by first | omega | (rw [ln_X10_init_13]; omega)) (by omega) R_129
  have R_154 : rf (T_X10_init_14 t i0 i1) i0 0 = some i1 := rfk_X1_init (by first | omega | (rw [ln_X10_init_13]; omega)) (by omega) R_130
  have R_155 : rf (T_X10_init_14 t i0 i1) t.length 0 = some (t.length + 1) := rfk_X1_init (by first | omega | (rw [ln_X10_init_13]; omega)) (by omega) R_124
  clear L1 p1
  refine t_putF L (i := i0) (j := (t.length + 21)) (μ := m_X10_init) (pc := 75) dX10_init_75 fl_X10_46 pf_X10_46 flF_10_2 rfl ir_10_2 id_10_2 rfl rfl G_135 A_134 (by decide) A_144 (fun h1 L1 => ?_)
  replace L : Lay (T_X10_init_15 t i0 i1) _ h1 := L1
  have G_156 : sg (T_X10_init_15 t i0 i1) i0 = some (10, 7, 7) := sg_mR.trans G_135
  have G_157 : sg (T_X10_init_15 t i0 i1) i1 = some (5, 3, 3) := sg_mR.trans G_137
  have G_158 : sg (T_X10_init_15 t i0 i1) t.length = some (3, 2, 2) := sg_mR.trans G_139
  have G_159 : sg (T_X10_init_15 t i0 i1) (t.length + 21) = some (1, 16, 16) := sg_mR.trans G_145
  have G_160 : sg (T_X10_init_15 t i0 i1) t.length = some (3, 2, 2) := sg_mR.trans G_147
  have R_161 : rf (T_X10_init_15 t i0 i1) t.length 0 = some (t.length + 1) := (rf_mK (by decide)).trans R_148
  have R_162 : rf (T_X10_init_15 t i0 i1) i0 1 = some t.length := (rf_mK (by decide)).trans R_149
  have R_163 : rf (T_X10_init_15 t i0 i1) i0 3 = some (t.length + 2) := (rf_mK (by decide)).trans R_150
  have R_164 : rf (T_X10_init_15 t i0 i1) i0 4 = some (t.length + 3) := (rf_mK (by decide)).trans R_151
  have R_165 : rf (T_X10_init_15 t i0 i1) i0 5 = some (t.length + 9) := (rf_mK (by decide)).trans R_152
  have R_166 : rf (T_X10_init_15 t i0 i1) i0 6 = some (t.length + 15) := (rf_mK (by decide)).trans R_153
  have R_167 : rf (T_X10_init_15 t i0 i1) i0 0 = some i1 := (rf_mK (by decide)).trans R_154
  have R_168 : rf (T_X10_init_15 t i0 i1) t.length 0 = some (t.length + 1) := (rf_mK (by decide)).trans R_155
  have R_169 : rf (T_X10_init_15 t i0 i1) i0 2 = some (t.length + 21) := rf_mS G_135 (by decide)
  clear L1
  exact a_vret (μ := m_X10_init) (pc := 78) dX10_init_78 rfl ⟨rfl, _, p, L⟩
def T_X0_init_1 (t : List tc) (i0 : Nat) (i1 : Nat) : List tc := t ++ [ob 3 2]
theorem ln_X0_init_1 {t : List tc} {i0 : Nat} {i1 : Nat} : (T_X0_init_1 t i0 i1).length = t.length + 1 := by unfold T_X0_init_1; rw [List.length_append]; rfl
theorem sgk_X0_init_1 {t : List tc} {i0 : Nat} {i1 : Nat} {i9 : Nat} {x9 : Nat × Nat × Nat} (h9 : sg t i9 = some x9) : sg (T_X0_init_1 t i0 i1) i9 = some x9 := sg_app h9
theorem rfk_X0_init_1 {t : List tc} {i0 : Nat} {i1 : Nat} {i9 k9 j9 : Nat} (hlt : i9 < t.length) (hne : i9 ≠ i0) (h9 : rf t i9 k9 = some j9) : rf (T_X0_init_1 t i0 i1) i9 k9 = some j9 := rf_app h9
def T_X0_init_2 (t : List tc) (i0 : Nat) (i1 : Nat) : List tc := T_X3_init (T_X0_init_1 t i0 i1) t.length 6
theorem ln_X0_init_2 {t : List tc} {i0 : Nat} {i1 : Nat} : (T_X0_init_2 t i0 i1).length = t.length + 2 := by unfold T_X0_init_2; rw [ln_X3_init, ln_X0_init_1]
theorem sgk_X0_init_2 {t : List tc} {i0 : Nat} {i1 : Nat} {i9 : Nat} {x9 : Nat × Nat × Nat} (h9 : sg t i9 = some x9) : sg (T_X0_init_2 t i0 i1) i9 = some x9 := sgk_X3_init (sgk_X0_init_1 h9)
theorem rfk_X0_init_2 {t : List tc} {i0 : Nat} {i1 : Nat} {i9 k9 j9 : Nat} (hlt : i9 < t.length) (hne : i9 ≠ i0) (h9 : rf t i9 k9 = some j9) : rf (T_X0_init_2 t i0 i1) i9 k9 = some j9 := rfk_X3_init (by rw [ln_X0_init_1]; omega) (by omega) (rfk_X0_init_1 hlt hne h9)
def T_X0_init_3 (t : List tc) (i0 : Nat) (i1 : Nat) : List tc := ((T_X0_init_2 t i0 i1)).modify i0 (uR 1 t.length)
theorem ln_X0_init_3 {t : List tc} {i0 : Nat} {i1 : Nat} : (T_X0_init_3 t i0 i1).length = t.length + 2 := by unfold T_X0_init_3; rw [List.length_modify]; exact ln_X0_init_2
theorem sgk_X0_init_3 {t : List tc} {i0 : Nat} {i1 : Nat} {i9 : Nat} {x9 : Nat × Nat × Nat} (h9 : sg t i9 = some x9) : sg (T_X0_init_3 t i0 i1) i9 = some x9 := (sg_mR).trans (sgk_X0_init_2 h9)
theorem rfk_X0_init_3 {t : List tc} {i0 : Nat} {i1 : Nat} {i9 k9 j9 : Nat} (hlt : i9 < t.length) (hne : i9 ≠ i0) (h9 : rf t i9 k9 = some j9) : rf (T_X0_init_3 t i0 i1) i9 k9 = some j9 := (rf_mO (by omega)).trans (rfk_X0_init_2 hlt hne h9)
def T_X0_init_4 (t : List tc) (i0 : Nat) (i1 : Nat) : List tc := (T_X0_init_3 t i0 i1) ++ a2 18 13 7 7 (t.length + 2)
theorem ln_X0_init_4 {t : List tc} {i0 : Nat} {i1 : Nat} : (T_X0_init_4 t i0 i1).length = t.length + 10 := by unfold T_X0_init_4; rw [List.length_append, ln_X0_init_3, len_a2]
theorem sgk_X0_init_4 {t : List tc} {i0 : Nat} {i1 : Nat} {i9 : Nat} {x9 : Nat × Nat × Nat} (h9 : sg t i9 = some x9) : sg (T_X0_init_4 t i0 i1) i9 = some x9 := sg_app (sgk_X0_init_3 h9)
theorem rfk_X0_init_4 {t : List tc} {i0 : Nat} {i1 : Nat} {i9 k9 j9 : Nat} (hlt : i9 < t.length) (hne : i9 ≠ i0) (h9 : rf t i9 k9 = some j9) : rf (T_X0_init_4 t i0 i1) i9 k9 = some j9 := rf_app (rfk_X0_init_3 hlt hne h9)
def T_X0_init_5 (t : List tc) (i0 : Nat) (i1 : Nat) : List tc := ((T_X0_init_4 t i0 i1)).modify i0 (uR 3 (t.length + 2))
theorem ln_X0_init_5 {t : List tc} {i0 : Nat} {i1 : Nat} : (T_X0_init_5 t i0 i1).length = t.length + 10 := by unfold T_X0_init_5; rw [List.length_modify]; exact ln_X0_init_4
theorem sgk_X0_init_5 {t : List tc} {i0 : Nat} {i1 : Nat} {i9 : Nat} {x9 : Nat × Nat × Nat} (h9 : sg t i9 = some x9) : sg (T_X0_init_5 t i0 i1) i9 = some x9 := (sg_mR).trans (sgk_X0_init_4 h9)
theorem rfk_X0_init_5 {t : List tc} {i0 : Nat} {i1 : Nat} {i9 k9 j9 : Nat} (hlt : i9 < t.length) (hne : i9 ≠ i0) (h9 : rf t i9 k9 = some j9) : rf (T_X0_init_5 t i0 i1) i9 k9 = some j9 := (rf_mO (by omega)).trans (rfk_X0_init_4 hlt hne h9)
def T_X0_init_6 (t : List tc) (i0 : Nat) (i1 : Nat) : List tc := (T_X0_init_5 t i0 i1) ++ [ar 13 7]
theorem ln_X0_init_6 {t : List tc} {i0 : Nat} {i1 : Nat} : (T_X0_init_6 t i0 i1).length = t.length + 11 := by unfold T_X0_init_6; rw [List.length_append, ln_X0_init_5]; rfl
theorem sgk_X0_init_6 {t : List tc} {i0 : Nat} {i1 : Nat} {i9 : Nat} {x9 : Nat × Nat × Nat} (h9 : sg t i9 = some x9) : sg (T_X0_init_6 t i0 i1) i9 = some x9 := sg_app (sgk_X0_init_5 h9)
theorem rfk_X0_init_6 {t : List tc} {i0 : Nat} {i1 : Nat} {i9 k9 j9 : Nat} (hlt : i9 < t.length) (hne : i9 ≠ i0) (h9 : rf t i9 k9 = some j9) : rf (T_X0_init_6 t i0 i1) i9 k9 = some j9 := rf_app (rfk_X0_init_5 hlt hne h9)
def T_X0_init_7 (t : List tc) (i0 : Nat) (i1 : Nat) : List tc := ((T_X0_init_6 t i0 i1)).modify i0 (uR 5 (t.length + 10))
theorem ln_X0_init_7 {t : List tc} {i0 : Nat} {i1 : Nat} : (T_X0_init_7 t i0 i1).length = t.length + 11 := by unfold T_X0_init_7; rw [List.length_modify]; exact ln_X0_init_6
theorem sgk_X0_init_7 {t : List tc} {i0 : Nat} {i1 : Nat} {i9 : Nat} {x9 : Nat × Nat × Nat} (h9 : sg t i9 = some x9) : sg (T_X0_init_7 t i0 i1) i9 = some x9 := (sg_mR).trans (sgk_X0_init_6 h9)
theorem rfk_X0_init_7 {t : List tc} {i0 : Nat} {i1 : Nat} {i9 k9 j9 : Nat} (hlt : i9 < t.length) (hne : i9 ≠ i0) (h9 : rf t i9 k9 = some j9) : rf (T_X0_init_7 t i0 i1) i9 k9 = some j9 := (rf_mO (by omega)).trans (rfk_X0_init_6 hlt hne h9)
def T_X0_init_8 (t : List tc) (i0 : Nat) (i1 : Nat) : List tc := ((T_X0_init_7 t i0 i1)).modify i0 (uR 0 i1)
theorem ln_X0_init_8 {t : List tc} {i0 : Nat} {i1 : Nat} : (T_X0_init_8 t i0 i1).length = t.length + 11 := by unfold T_X0_init_8; rw [List.length_modify]; exact ln_X0_init_7
theorem sgk_X0_init_8 {t : List tc} {i0 : Nat} {i1 : Nat} {i9 : Nat} {x9 : Nat × Nat × Nat} (h9 : sg t i9 = some x9) : sg (T_X0_init_8 t i0 i1) i9 = some x9 := (sg_mR).trans (sgk_X0_init_7 h9)
theorem rfk_X0_init_8 {t : List tc} {i0 : Nat} {i1 : Nat} {i9 k9 j9 : Nat} (hlt : i9 < t.length) (hne : i9 ≠ i0) (h9 : rf t i9 k9 = some j9) : rf (T_X0_init_8 t i0 i1) i9 k9 = some j9 := (rf_mO (by omega)).trans (rfk_X0_init_7 hlt hne h9)
def T_X0_init_9 (t : List tc) (i0 : Nat) (i1 : Nat) : List tc := (T_X0_init_8 t i0 i1) ++ [ob 1 16]
theorem ln_X0_init_9 {t : List tc} {i0 : Nat} {i1 : Nat} : (T_X0_init_9 t i0 i1).length = t.length + 12 := by unfold T_X0_init_9; rw [List.length_append, ln_X0_init_8]; rfl
theorem sgk_X0_init_9 {t : List tc} {i0 : Nat} {i1 : Nat} {i9 : Nat} {x9 : Nat × Nat × Nat} (h9 : sg t i9 = some x9) : sg (T_X0_init_9 t i0 i1) i9 = some x9 := sg_app (sgk_X0_init_8 h9)
theorem rfk_X0_init_9 {t : List tc} {i0 : Nat} {i1 : Nat} {i9 k9 j9 : Nat} (hlt : i9 < t.length) (hne : i9 ≠ i0) (h9 : rf t i9 k9 = some j9) : rf (T_X0_init_9 t i0 i1) i9 k9 = some j9 := rf_app (rfk_X0_init_8 hlt hne h9)
def T_X0_init_10 (t : List tc) (i0 : Nat) (i1 : Nat) : List tc := T_X1_init (T_X0_init_9 t i0 i1) (t.length + 11) i1 t.length (t.length + 1)
theorem ln_X0_init_10 {t : List tc} {i0 : Nat} {i1 : Nat} : (T_X0_init_10 t i0 i1).length = t.length + 12 := by unfold T_X0_init_10; rw [ln_X1_init, ln_X0_init_9]
theorem sgk_X0_init_10 {t : List tc} {i0 : Nat} {i1 : Nat} {i9 : Nat} {x9 : Nat × Nat × Nat} (h9 : sg t i9 = some x9) : sg (T_X0_init_10 t i0 i1) i9 = some x9 := sgk_X1_init (sgk_X0_init_9 h9)
theorem rfk_X0_init_10 {t : List tc} {i0 : Nat} {i1 : Nat} {i9 k9 j9 : Nat} (hlt : i9 < t.length) (hne : i9 ≠ i0) (h9 : rf t i9 k9 = some j9) : rf (T_X0_init_10 t i0 i1) i9 k9 = some j9 := rfk_X1_init (by rw [ln_X0_init_9]; omega) (by omega) (rfk_X0_init_9 hlt hne h9)
def T_X0_init_11 (t : List tc) (i0 : Nat) (i1 : Nat) : List tc := ((T_X0_init_10 t i0 i1)).modify i0 (uR 2 (t.length + 11))
theorem ln_X0_init_11 {t : List tc} {i0 : Nat} {i1 : Nat} : (T_X0_init_11 t i0 i1).length = t.length + 12 := by unfold T_X0_init_11; rw [List.length_modify]; exact ln_X0_init_10
theorem sgk_X0_init_11 {t : List tc} {i0 : Nat} {i1 : Nat} {i9 : Nat} {x9 : Nat × Nat × Nat} (h9 : sg t i9 = some x9) : sg (T_X0_init_11 t i0 i1) i9 = some x9 := (sg_mR).trans (sgk_X0_init_10 h9)
theorem rfk_X0_init_11 {t : List tc} {i0 : Nat} {i1 : Nat} {i9 k9 j9 : Nat} (hlt : i9 < t.length) (hne : i9 ≠ i0) (h9 : rf t i9 k9 = some j9) : rf (T_X0_init_11 t i0 i1) i9 k9 = some j9 := (rf_mO (by omega)).trans (rfk_X0_init_10 hlt hne h9)
abbrev T_X0_init (t : List tc) (i0 : Nat) (i1 : Nat) : List tc := T_X0_init_11 t i0 i1
theorem ln_X0_init {t : List tc} {i0 : Nat} {i1 : Nat} : (T_X0_init t i0 i1).length = t.length + 12 := ln_X0_init_11
theorem sgk_X0_init {t : List tc} {i0 : Nat} {i1 : Nat} {i9 : Nat} {x9 : Nat × Nat × Nat} (h9 : sg t i9 = some x9) : sg (T_X0_init t i0 i1) i9 = some x9 := sgk_X0_init_11 h9
theorem rfk_X0_init {t : List tc} {i0 : Nat} {i1 : Nat} {i9 k9 j9 : Nat} (hlt : i9 < t.length) (hne : i9 ≠ i0) (h9 : rf t i9 k9 = some j9) : rf (T_X0_init t i0 i1) i9 k9 = some j9 := rfk_X0_init_11 hlt hne h9
set_option maxHeartbeats 4000000 in
set_option maxRecDepth 100000 in
theorem i_X0_init {l : Launch} {D : va_G} {cy : Nat → ClassId} {d : Nat} {t : List tc} {ad : List Nat} {h : hp} (hl : l.stackTraces = false) (hd : 2 ≤ d) (L : Lay t ad h) {i0 a0 : Nat} (A0 : ad[i0]? = some a0) (G0 : sg t i0 = some (0, 8, 8)) {i1 a1 : Nat} (A1 : ad[i1]? = some a1) (G1 : sg t i1 = some (5, 3, 3)) : Cal l D cy m_X0_init d 12 87 [.ref a0, .ref a1] h (inP (T_X0_init t i0 i1) ad) (fun _ _ => False) := by
  refine Cal.of (by decide +kernel) (Nat.le_of_ble_eq_true rfl) hl ?_
  have p : Pre ad ad := Pre.rf
  have hl0 := L.lt A0
  have hl1 := L.lt A1
  have ne01 : i0 ≠ i1 := fun e => by rw [e, G1] at G0; cases G0
  refine a_aload_n 0 0 (μ := m_X0_init) (pc := 0) dX0_init_0 rfl rfl ?_
  refine a_objI (μ := m_X0_init) (pc := 1) dX0_init_1 oi_X0_3 oi_i oi_c (Nat.le_of_ble_eq_true rfl) (by omega) ?_
  refine a_aload_n 0 0 (μ := m_X0_init) (pc := 4) dX0_init_4 rfl rfl ?_
  refine t_new t.length L rfl (ci := 3) (nf := 2) (rc' := 11) (rs' := 85) (μ := m_X0_init) (pc := 5) dX0_init_5 nw_X0_9 (by decide) (by decide) (by decide) (fun q1 ad1 h1 p1 A_2 L1 => ?_)
  replace L : Lay (T_X0_init_1 t i0 i1) ad1 h1 := L1
  replace p := Pre.tr p p1
  have A_3 := p1 _ _ A0
  have G_4 : sg (T_X0_init_1 t i0 i1) i0 = some (0, 8, 8) := sg_app G0
  have A_5 := p1 _ _ A1
  have G_6 : sg (T_X0_init_1 t i0 i1) i1 = some (5, 3, 3) := sg_app G1
  clear L1 p1
  have G_7 : sg (T_X0_init_1 t i0 i1) t.length = some (3, 2, 2) := by
    have z := sg_ob (t := t) (ci := 3) (nf := 2)
    exact z
  refine a_dup (μ := m_X0_init) (pc := 8) dX0_init_8 rfl ?_
  refine a_bipush (v := 6) (μ := m_X0_init) (pc := 9) dX0_init_9 (by decide) ?_
  refine t_call (rc' := 10) (rs' := 79) (t' := T_X3_init (T_X0_init_1 t i0 i1) t.length 6) (As := [.int 6]) (rest := [.ref q1, .ref a0]) (μ := m_X0_init) (pc := 11) dX0_init_11 ic_X0_13 rfl (Nat.le_of_ble_eq_true rfl) (d' := d - 1) (by omega) (by decide) (by decide) (i_X3_init hl (d := d - 1) (by omega) L A_2 G_7 (m1 := 6) (by decide) (by decide) (by decide)) (fun ad1 h1 p1 L1 => ?_) rfl
  replace L : Lay (T_X0_init_2 t i0 i1) ad1 h1 := L1
  replace p := Pre.tr p p1
  have A_8 := p1 _ _ A_3
  have G_9 : sg (T_X0_init_2 t i0 i1) i0 = some (0, 8, 8) := sgk_X3_init G_4
  have A_10 := p1 _ _ A_5
  have G_11 : sg (T_X0_init_2 t i0 i1) i1 = some (5, 3, 3) := sgk_X3_init G_6
  have A_12 := p1 _ _ A_2
  have G_13 : sg (T_X0_init_2 t i0 i1) t.length = some (3, 2, 2) := sgk_X3_init G_7
  clear L1 p1
  have R_14 : rf (T_X0_init_2 t i0 i1) t.length 0 = some (t.length + 1) := by
    have z := rof_X3_init_0 (t := (T_X0_init_1 t i0 i1)) (i0 := t.length) (m1 := 6) G_7
    rw [ln_X0_init_1] at z
    exact z
  refine t_putF L (i := i0) (j := t.length) (μ := m_X0_init) (pc := 14) dX0_init_14 fl_X0_16 pf_X0_16 flF_0_1 rfl ir_0_1 id_0_1 rfl rfl G_9 A_8 (by decide) A_12 (fun h1 L1 => ?_)
  replace L : Lay (T_X0_init_3 t i0 i1) _ h1 := L1
  have G_15 : sg (T_X0_init_3 t i0 i1) i0 = some (0, 8, 8) := sg_mR.trans G_9
  have G_16 : sg (T_X0_init_3 t i0 i1) i1 = some (5, 3, 3) := sg_mR.trans G_11
  have G_17 : sg (T_X0_init_3 t i0 i1) t.length = some (3, 2, 2) := sg_mR.trans G_13
  have R_18 : rf (T_X0_init_3 t i0 i1) t.length 0 = some (t.length + 1) := (rf_mK (by decide)).trans R_14
  have R_19 : rf (T_X0_init_3 t i0 i1) i0 1 = some t.length := rf_mS G_9 (by decide)
  clear L1
  refine a_aload_n 0 0 (μ := m_X0_init) (pc := 17) dX0_init_17 rfl rfl ?_
  refine a_bipush (v := 7) (μ := m_X0_init) (pc := 18) dX0_init_18 (by decide) ?_
  refine a_bipush (v := 7) (μ := m_X0_init) (pc := 20) dX0_init_20 (by decide) ?_
  refine t_mna (t.length + 2) L ln_X0_init_3 5 0 7 7 (ty := .int) (rc' := 2) (rs' := 23) (μ := m_X0_init) (pc := 22) dX0_init_22 (by decide) mc_X0_20 ac_0 (by decide) (by decide) (by decide) (by decide) (by decide) (by decide) (by decide) (by decide) (fun q20 ad1 h1 p1 A_21 L1 => ?_)
  replace L : Lay (T_X0_init_4 t i0 i1) ad1 h1 := L1
  replace p := Pre.tr p p1
  have A_22 := p1 _ _ A_8
  have G_23 : sg (T_X0_init_4 t i0 i1) i0 = some (0, 8, 8) := sg_app G_15
  have A_24 := p1 _ _ A_10
  have G_25 : sg (T_X0_init_4 t i0 i1) i1 = some (5, 3, 3) := sg_app G_16
  have A_26 := p1 _ _ A_12
  have G_27 : sg (T_X0_init_4 t i0 i1) t.length = some (3, 2, 2) := sg_app G_17
  have R_28 : rf (T_X0_init_4 t i0 i1) t.length 0 = some (t.length + 1) := rf_app R_18
  have R_29 : rf (T_X0_init_4 t i0 i1) i0 1 = some t.length := rf_app R_19
  clear L1 p1
  refine t_putF L (i := i0) (j := (t.length + 2)) (μ := m_X0_init) (pc := 26) dX0_init_26 fl_X0_22 pf_X0_22 flF_0_3 rfl ir_0_3 id_0_3 rfl rfl G_23 A_22 (by decide) A_21 (fun h1 L1 => ?_)
  replace L : Lay (T_X0_init_5 t i0 i1) _ h1 := L1
  have G_30 : sg (T_X0_init_5 t i0 i1) i0 = some (0, 8, 8) := sg_mR.trans G_23
  have G_31 : sg (T_X0_init_5 t i0 i1) i1 = some (5, 3, 3) := sg_mR.trans G_25
  have G_32 : sg (T_X0_init_5 t i0 i1) t.length = some (3, 2, 2) := sg_mR.trans G_27
  have R_33 : rf (T_X0_init_5 t i0 i1) t.length 0 = some (t.length + 1) := (rf_mK (by decide)).trans R_28
  have R_34 : rf (T_X0_init_5 t i0 i1) i0 1 = some t.length := (rf_mK (by decide)).trans R_29
  have R_35 : rf (T_X0_init_5 t i0 i1) i0 3 = some (t.length + 2) := rf_mS G_23 (by decide)
  clear L1
  refine a_aload_n 0 0 (μ := m_X0_init) (pc := 29) dX0_init_29 rfl rfl ?_
  refine a_bipush (v := 7) (μ := m_X0_init) (pc := 30) dX0_init_30 (by decide) ?_
  refine t_newI (t.length + 10) L ln_X0_init_5 0 7 (ty := .int) (rc' := 1) (rs' := 16) (μ := m_X0_init) (pc := 32) dX0_init_32 rfl (by decide) ac_0 (by decide) (by decide) (by decide) (by decide) (by decide) (fun q36 ad1 h1 p1 A_37 L1 => ?_)
  replace L : Lay (T_X0_init_6 t i0 i1) ad1 h1 := L1
  replace p := Pre.tr p p1
  have A_38 := p1 _ _ A_22
  have G_39 : sg (T_X0_init_6 t i0 i1) i0 = some (0, 8, 8) := sg_app G_30
  have A_40 := p1 _ _ A_24
  have G_41 : sg (T_X0_init_6 t i0 i1) i1 = some (5, 3, 3) := sg_app G_31
  have A_42 := p1 _ _ A_26
  have G_43 : sg (T_X0_init_6 t i0 i1) t.length = some (3, 2, 2) := sg_app G_32
  have A_44 := p1 _ _ A_21
  have R_45 : rf (T_X0_init_6 t i0 i1) t.length 0 = some (t.length + 1) := rf_app R_33
  have R_46 : rf (T_X0_init_6 t i0 i1) i0 1 = some t.length := rf_app R_34
  have R_47 : rf (T_X0_init_6 t i0 i1) i0 3 = some (t.length + 2) := rf_app R_35
  clear L1 p1
  refine t_putF L (i := i0) (j := (t.length + 10)) (μ := m_X0_init) (pc := 34) dX0_init_34 fl_X0_25 pf_X0_25 flF_0_5 rfl ir_0_5 id_0_5 rfl rfl G_39 A_38 (by decide) A_37 (fun h1 L1 => ?_)
  replace L : Lay (T_X0_init_7 t i0 i1) _ h1 := L1
  have G_48 : sg (T_X0_init_7 t i0 i1) i0 = some (0, 8, 8) := sg_mR.trans G_39
  have G_49 : sg (T_X0_init_7 t i0 i1) i1 = some (5, 3, 3) := sg_mR.trans G_41
  have G_50 : sg (T_X0_init_7 t i0 i1) t.length = some (3, 2, 2) := sg_mR.trans G_43
  have R_51 : rf (T_X0_init_7 t i0 i1) t.length 0 = some (t.length + 1) := (rf_mK (by decide)).trans R_45
  have R_52 : rf (T_X0_init_7 t i0 i1) i0 1 = some t.length := (rf_mK (by decide)).trans R_46
  have R_53 : rf (T_X0_init_7 t i0 i1) i0 3 = some (t.length + 2) := (rf_mK (by decide)).trans R_47
  have R_54 : rf (T_X0_init_7 t i0 i1) i0 5 = some (t.length + 10) := rf_mS G_39 (by decide)
  clear L1
  refine a_aload_n 0 0 (μ := m_X0_init) (pc := 37) dX0_init_37 rfl rfl ?_
  refine a_aload_n 1 1 (μ := m_X0_init) (pc := 38) dX0_init_38 rfl rfl ?_
  refine t_putF L (i := i0) (j := i1) (μ := m_X0_init) (pc := 39) dX0_init_39 fl_X0_29 pf_X0_29 flF_0_0 rfl ir_0_0 id_0_0 rfl rfl G_48 A_38 (by decide) A_40 (fun h1 L1 => ?_)
  replace L : Lay (T_X0_init_8 t i0 i1) _ h1 := L1
  have G_55 : sg (T_X0_init_8 t i0 i1) i0 = some (0, 8, 8) := sg_mR.trans G_48
  have G_56 : sg (T_X0_init_8 t i0 i1) i1 = some (5, 3, 3) := sg_mR.trans G_49
  have G_57 : sg (T_X0_init_8 t i0 i1) t.length = some (3, 2, 2) := sg_mR.trans G_50
  have R_58 : rf (T_X0_init_8 t i0 i1) t.length 0 = some (t.length + 1) := (rf_mO (by omega)).trans R_51
  have R_59 : rf (T_X0_init_8 t i0 i1) i0 1 = some t.length := (rf_mK (by decide)).trans R_52
  have R_60 : rf (T_X0_init_8 t i0 i1) i0 3 = some (t.length + 2) := (rf_mK (by decide)).trans R_53
  have R_61 : rf (T_X0_init_8 t i0 i1) i0 5 = some (t.length + 10) := (rf_mK (by decide)).trans R_54
  have R_62 : rf (T_X0_init_8 t i0 i1) i0 0 = some i1 := rf_mS G_48 (by decide)
  clear L1
  refine a_aload_n 0 0 (μ := m_X0_init) (pc := 42) dX0_init_42 rfl rfl ?_
  refine t_new (t.length + 11) L ln_X0_init_8 (ci := 1) (nf := 16) (rc' := 0) (rs' := 0) (μ := m_X0_init) (pc := 43) dX0_init_43 nw_X0_33 (by decide) (by decide) (by decide) (fun q63 ad1 h1 p1 A_64 L1 => ?_)
  replace L : Lay (T_X0_init_9 t i0 i1) ad1 h1 := L1
  replace p := Pre.tr p p1
  have A_65 := p1 _ _ A_38
  have G_66 : sg (T_X0_init_9 t i0 i1) i0 = some (0, 8, 8) := sg_app G_55
  have A_67 := p1 _ _ A_40
  have G_68 : sg (T_X0_init_9 t i0 i1) i1 = some (5, 3, 3) := sg_app G_56
  have A_69 := p1 _ _ A_42
  have G_70 : sg (T_X0_init_9 t i0 i1) t.length = some (3, 2, 2) := sg_app G_57
  have A_71 := p1 _ _ A_44
  have A_72 := p1 _ _ A_37
  have R_73 : rf (T_X0_init_9 t i0 i1) t.length 0 = some (t.length + 1) := rf_app R_58
  have R_74 : rf (T_X0_init_9 t i0 i1) i0 1 = some t.length := rf_app R_59
  have R_75 : rf (T_X0_init_9 t i0 i1) i0 3 = some (t.length + 2) := rf_app R_60
  have R_76 : rf (T_X0_init_9 t i0 i1) i0 5 = some (t.length + 10) := rf_app R_61
  have R_77 : rf (T_X0_init_9 t i0 i1) i0 0 = some i1 := rf_app R_62
  clear L1 p1
  have G_78 : sg (T_X0_init_9 t i0 i1) (t.length + 11) = some (1, 16, 16) := by
    have z := sg_ob (t := (T_X0_init_8 t i0 i1)) (ci := 1) (nf := 16)
    rw [ln_X0_init_8] at z
    exact z
  refine a_dup (μ := m_X0_init) (pc := 46) dX0_init_46 rfl ?_
  refine a_aload_n 1 1 (μ := m_X0_init) (pc := 47) dX0_init_47 rfl rfl ?_
  refine a_aload_n 0 0 (μ := m_X0_init) (pc := 48) dX0_init_48 rfl rfl ?_
  refine t_get L (i := i0) (j := t.length) (μ := m_X0_init) (pc := 49) dX0_init_49 fl_X0_16 ir_0_1 id_0_1 G_66 A_65 R_74 (fun b79 A_80 => ?_)
  refine t_call (rc' := 0) (rs' := 0) (t' := T_X1_init (T_X0_init_9 t i0 i1) (t.length + 11) i1 t.length (t.length + 1)) (As := [.ref a1, .ref b79]) (rest := [.ref q63, .ref a0]) (μ := m_X0_init) (pc := 52) dX0_init_52 ic_X0_35 rfl (Nat.le_of_ble_eq_true rfl) (d' := d - 1) (by omega) (by decide) (by decide) (i_X1_init hl (d := d - 1) (by omega) L A_64 G_78 A_67 G_68 A_80 G_70 R_73) (fun ad1 h1 p1 L1 => ?_) rfl
  replace L : Lay (T_X0_init_10 t i0 i1) ad1 h1 := L1
  replace p := Pre.tr p p1
  have A_81 := p1 _ _ A_65
  have G_82 : sg (T_X0_init_10 t i0 i1) i0 = some (0, 8, 8) := sgk_X1_init G_66
  have A_83 := p1 _ _ A_67
  have G_84 : sg (T_X0_init_10 t i0 i1) i1 = some (5, 3, 3) := sgk_X1_init G_68
  have A_85 := p1 _ _ A_69
  have G_86 : sg (T_X0_init_10 t i0 i1) t.length = some (3, 2, 2) := sgk_X1_init G_70
  have A_87 := p1 _ _ A_71
  have A_88 := p1 _ _ A_72
  have A_89 := p1 _ _ A_64
  have G_90 : sg (T_X0_init_10 t i0 i1) (t.length + 11) = some (1, 16, 16) := sgk_X1_init G_78
  have A_91 := p1 _ _ A_80
  have G_92 : sg (T_X0_init_10 t i0 i1) t.length = some (3, 2, 2) := sgk_X1_init G_70
  have R_93 : rf (T_X0_init_10 t i0 i1) t.length 0 = some (t.length + 1) := rfk_X1_init (by first | omega | (rw [ln_X0_init_9]; omega)) (by omega) R_73
  have R_94 : rf (T_X0_init_10 t i0 i1) i0 1 = some t.length := rfk_X1_init (by first | omega | (rw [ln_X0_init_9]; omega)) (by omega) R_74
  have R_95 : rf (T_X0_init_10 t i0 i1) i0 3 = some (t.length + 2) := rfk_X1_init (by first | omega | (rw [ln_X0_init_9]; omega)) (by omega) R_75
  have R_96 : rf (T_X0_init_10 t i0 i1) i0 5 = some (t.length + 10) := rfk_X1_init (by first | omega | (rw [ln_X0_init_9]; omega)) (by omega) R_76
  have R_97 : rf (T_X0_init_10 t i0 i1) i0 0 = some i1 := rfk_X1_init (by first | omega | (rw [ln_X0_init_9]; omega)) (by omega) R_77
  have R_98 : rf (T_X0_init_10 t i0 i1) t.length 0 = some (t.length + 1) := rfk_X1_init (by first | omega | (rw [ln_X0_init_9]; omega)) (by omega) R_73
  clear L1 p1
  refine t_putF L (i := i0) (j := (t.length + 11)) (μ := m_X0_init) (pc := 55) dX0_init_55 fl_X0_38 pf_X0_38 flF_0_2 rfl ir_0_2 id_0_2 rfl rfl G_82 A_81 (by decide) A_89 (fun h1 L1 => ?_)
  replace L : Lay (T_X0_init_11 t i0 i1) _ h1 := L1
  have G_99 : sg (T_X0_init_11 t i0 i1) i0 = some (0, 8, 8) := sg_mR.trans G_82
  have G_100 : sg (T_X0_init_11 t i0 i1) i1 = some (5, 3, 3) := sg_mR.trans G_84
  have G_101 : sg (T_X0_init_11 t i0 i1) t.length = some (3, 2, 2) := sg_mR.trans G_86
  have G_102 : sg (T_X0_init_11 t i0 i1) (t.length + 11) = some (1, 16, 16) := sg_mR.trans G_90
  have G_103 : sg (T_X0_init_11 t i0 i1) t.length = some (3, 2, 2) := sg_mR.trans G_92
  have R_104 : rf (T_X0_init_11 t i0 i1) t.length 0 = some (t.length + 1) := (rf_mK (by decide)).trans R_93
  have R_105 : rf (T_X0_init_11 t i0 i1) i0 1 = some t.length := (rf_mK (by decide)).trans R_94
  have R_106 : rf (T_X0_init_11 t i0 i1) i0 3 = some (t.length + 2) := (rf_mK (by decide)).trans R_95
  have R_107 : rf (T_X0_init_11 t i0 i1) i0 5 = some (t.length + 10) := (rf_mK (by decide)).trans R_96
  have R_108 : rf (T_X0_init_11 t i0 i1) i0 0 = some i1 := (rf_mK (by decide)).trans R_97
  have R_109 : rf (T_X0_init_11 t i0 i1) t.length 0 = some (t.length + 1) := (rf_mK (by decide)).trans R_98
  have R_110 : rf (T_X0_init_11 t i0 i1) i0 2 = some (t.length + 11) := rf_mS G_82 (by decide)
  clear L1
  exact a_vret (μ := m_X0_init) (pc := 58) dX0_init_58 rfl ⟨rfl, _, p, L⟩
end
section
theorem dX12_init_0 : decode cX12_init 0 = .ok (.aload_n 0, 1) := by decide +kernel
theorem dX12_init_1 : decode cX12_init 1 = .ok (.invokespecial 11, 3) := by decide +kernel
theorem dX12_init_4 : decode cX12_init 4 = .ok (.aload_n 0, 1) := by decide +kernel
theorem dX12_init_5 : decode cX12_init 5 = .ok (.iconst 3, 1) := by decide +kernel
theorem dX12_init_6 : decode cX12_init 6 = .ok (.newarray .int, 2) := by decide +kernel
theorem dX12_init_8 : decode cX12_init 8 = .ok (.putfield 7, 3) := by decide +kernel
theorem dX12_init_11 : decode cX12_init 11 = .ok (.aload_n 0, 1) := by decide +kernel
theorem dX12_init_12 : decode cX12_init 12 = .ok (.iconst (-1), 1) := by decide +kernel
theorem dX12_init_13 : decode cX12_init 13 = .ok (.putfield 17, 3) := by decide +kernel
theorem dX12_init_16 : decode cX12_init 16 = .ok (.aload_n 0, 1) := by decide +kernel
theorem dX12_init_17 : decode cX12_init 17 = .ok (.sipush 500, 3) := by decide +kernel
theorem dX12_init_20 : decode cX12_init 20 = .ok (.newarray .int, 2) := by decide +kernel
theorem dX12_init_22 : decode cX12_init 22 = .ok (.putfield 20, 3) := by decide +kernel
theorem dX12_init_25 : decode cX12_init 25 = .ok (.aload_n 0, 1) := by decide +kernel
theorem dX12_init_26 : decode cX12_init 26 = .ok (.bipush 8, 2) := by decide +kernel
theorem dX12_init_28 : decode cX12_init 28 = .ok (.putfield 23, 3) := by decide +kernel
theorem dX12_init_31 : decode cX12_init 31 = .ok (.aload_n 0, 1) := by decide +kernel
theorem dX12_init_32 : decode cX12_init 32 = .ok (.iconst 1, 1) := by decide +kernel
theorem dX12_init_33 : decode cX12_init 33 = .ok (.putfield 26, 3) := by decide +kernel
theorem dX12_init_36 : decode cX12_init 36 = .ok (.aload_n 0, 1) := by decide +kernel
theorem dX12_init_37 : decode cX12_init 37 = .ok (.iconst 1, 1) := by decide +kernel
theorem dX12_init_38 : decode cX12_init 38 = .ok (.putfield 29, 3) := by decide +kernel
theorem dX12_init_41 : decode cX12_init 41 = .ok (.aload_n 0, 1) := by decide +kernel
theorem dX12_init_42 : decode cX12_init 42 = .ok (.sipush 8000, 3) := by decide +kernel
theorem dX12_init_45 : decode cX12_init 45 = .ok (.newarray .int, 2) := by decide +kernel
theorem dX12_init_47 : decode cX12_init 47 = .ok (.putfield 33, 3) := by decide +kernel
theorem dX12_init_50 : decode cX12_init 50 = .ok (.aload_n 0, 1) := by decide +kernel
theorem dX12_init_51 : decode cX12_init 51 = .ok (.iconst 4, 1) := by decide +kernel
theorem dX12_init_52 : decode cX12_init 52 = .ok (.newarray .int, 2) := by decide +kernel
theorem dX12_init_54 : decode cX12_init 54 = .ok (.putfield 36, 3) := by decide +kernel
theorem dX12_init_57 : decode cX12_init 57 = .ok (.aload_n 0, 1) := by decide +kernel
theorem dX12_init_58 : decode cX12_init 58 = .ok (.sipush 4000, 3) := by decide +kernel
theorem dX12_init_61 : decode cX12_init 61 = .ok (.newarray .int, 2) := by decide +kernel
theorem dX12_init_63 : decode cX12_init 63 = .ok (.putfield 39, 3) := by decide +kernel
theorem dX12_init_66 : decode cX12_init 66 = .ok (.aload_n 0, 1) := by decide +kernel
theorem dX12_init_67 : decode cX12_init 67 = .ok (.sipush 4000, 3) := by decide +kernel
theorem dX12_init_70 : decode cX12_init 70 = .ok (.newarray .int, 2) := by decide +kernel
theorem dX12_init_72 : decode cX12_init 72 = .ok (.putfield 42, 3) := by decide +kernel
theorem dX12_init_75 : decode cX12_init 75 = .ok (.aload_n 0, 1) := by decide +kernel
theorem dX12_init_76 : decode cX12_init 76 = .ok (.iconst 4, 1) := by decide +kernel
theorem dX12_init_77 : decode cX12_init 77 = .ok (.newarray .int, 2) := by decide +kernel
theorem dX12_init_79 : decode cX12_init 79 = .ok (.putfield 45, 3) := by decide +kernel
theorem dX12_init_82 : decode cX12_init 82 = .ok (.aload_n 0, 1) := by decide +kernel
theorem dX12_init_83 : decode cX12_init 83 = .ok (.sipush 24000, 3) := by decide +kernel
theorem dX12_init_86 : decode cX12_init 86 = .ok (.newarray .int, 2) := by decide +kernel
theorem dX12_init_88 : decode cX12_init 88 = .ok (.putfield 48, 3) := by decide +kernel
theorem dX12_init_91 : decode cX12_init 91 = .ok (.aload_n 0, 1) := by decide +kernel
theorem dX12_init_92 : decode cX12_init 92 = .ok (.bipush 12, 2) := by decide +kernel
theorem dX12_init_94 : decode cX12_init 94 = .ok (.newarray .int, 2) := by decide +kernel
theorem dX12_init_96 : decode cX12_init 96 = .ok (.putfield 51, 3) := by decide +kernel
theorem dX12_init_99 : decode cX12_init 99 = .ok (.aload_n 0, 1) := by decide +kernel
theorem dX12_init_100 : decode cX12_init 100 = .ok (.sipush 12000, 3) := by decide +kernel
theorem dX12_init_103 : decode cX12_init 103 = .ok (.newarray .int, 2) := by decide +kernel
theorem dX12_init_105 : decode cX12_init 105 = .ok (.putfield 54, 3) := by decide +kernel
theorem dX12_init_108 : decode cX12_init 108 = .ok (.aload_n 0, 1) := by decide +kernel
theorem dX12_init_109 : decode cX12_init 109 = .ok (.sipush 12000, 3) := by decide +kernel
theorem dX12_init_112 : decode cX12_init 112 = .ok (.newarray .int, 2) := by decide +kernel
theorem dX12_init_114 : decode cX12_init 114 = .ok (.putfield 57, 3) := by decide +kernel
theorem dX12_init_117 : decode cX12_init 117 = .ok (.aload_n 0, 1) := by decide +kernel
theorem dX12_init_118 : decode cX12_init 118 = .ok (.bipush 12, 2) := by decide +kernel
theorem dX12_init_120 : decode cX12_init 120 = .ok (.newarray .int, 2) := by decide +kernel
theorem dX12_init_122 : decode cX12_init 122 = .ok (.putfield 60, 3) := by decide +kernel
theorem dX12_init_125 : decode cX12_init 125 = .ok (.aload_n 0, 1) := by decide +kernel
theorem dX12_init_126 : decode cX12_init 126 = .ok (.iconst 4, 1) := by decide +kernel
theorem dX12_init_127 : decode cX12_init 127 = .ok (.newarray .int, 2) := by decide +kernel
theorem dX12_init_129 : decode cX12_init 129 = .ok (.putfield 63, 3) := by decide +kernel
theorem dX12_init_132 : decode cX12_init 132 = .ok (.aload_n 0, 1) := by decide +kernel
theorem dX12_init_133 : decode cX12_init 133 = .ok (.sipush 240, 3) := by decide +kernel
theorem dX12_init_136 : decode cX12_init 136 = .ok (.newarray .int, 2) := by decide +kernel
theorem dX12_init_138 : decode cX12_init 138 = .ok (.putfield 66, 3) := by decide +kernel
theorem dX12_init_141 : decode cX12_init 141 = .ok (.aload_n 0, 1) := by decide +kernel
theorem dX12_init_142 : decode cX12_init 142 = .ok (.sipush 240, 3) := by decide +kernel
theorem dX12_init_145 : decode cX12_init 145 = .ok (.newarray .int, 2) := by decide +kernel
theorem dX12_init_147 : decode cX12_init 147 = .ok (.putfield 69, 3) := by decide +kernel
theorem dX12_init_150 : decode cX12_init 150 = .ok (.aload_n 0, 1) := by decide +kernel
theorem dX12_init_151 : decode cX12_init 151 = .ok (.sipush 240, 3) := by decide +kernel
theorem dX12_init_154 : decode cX12_init 154 = .ok (.newarray .int, 2) := by decide +kernel
theorem dX12_init_156 : decode cX12_init 156 = .ok (.putfield 72, 3) := by decide +kernel
theorem dX12_init_159 : decode cX12_init 159 = .ok (.aload_n 0, 1) := by decide +kernel
theorem dX12_init_160 : decode cX12_init 160 = .ok (.sipush 2000, 3) := by decide +kernel
theorem dX12_init_163 : decode cX12_init 163 = .ok (.newarray .int, 2) := by decide +kernel
theorem dX12_init_165 : decode cX12_init 165 = .ok (.putfield 75, 3) := by decide +kernel
theorem dX12_init_168 : decode cX12_init 168 = .ok (.aload_n 0, 1) := by decide +kernel
theorem dX12_init_169 : decode cX12_init 169 = .ok (.sipush 2000, 3) := by decide +kernel
theorem dX12_init_172 : decode cX12_init 172 = .ok (.newarray .int, 2) := by decide +kernel
theorem dX12_init_174 : decode cX12_init 174 = .ok (.putfield 78, 3) := by decide +kernel
theorem dX12_init_177 : decode cX12_init 177 = .ok (.aload_n 0, 1) := by decide +kernel
theorem dX12_init_178 : decode cX12_init 178 = .ok (.sipush 500, 3) := by decide +kernel
theorem dX12_init_181 : decode cX12_init 181 = .ok (.newarray .int, 2) := by decide +kernel
theorem dX12_init_183 : decode cX12_init 183 = .ok (.putfield 81, 3) := by decide +kernel
theorem dX12_init_186 : decode cX12_init 186 = .ok (.aload_n 0, 1) := by decide +kernel
theorem dX12_init_187 : decode cX12_init 187 = .ok (.sipush 14000, 3) := by decide +kernel
theorem dX12_init_190 : decode cX12_init 190 = .ok (.newarray .int, 2) := by decide +kernel
theorem dX12_init_192 : decode cX12_init 192 = .ok (.putfield 84, 3) := by decide +kernel
theorem dX12_init_195 : decode cX12_init 195 = .ok (.aload_n 0, 1) := by decide +kernel
theorem dX12_init_196 : decode cX12_init 196 = .ok (.bipush 16, 2) := by decide +kernel
theorem dX12_init_198 : decode cX12_init 198 = .ok (.newarray .int, 2) := by decide +kernel
theorem dX12_init_200 : decode cX12_init 200 = .ok (.putfield 87, 3) := by decide +kernel
theorem dX12_init_203 : decode cX12_init 203 = .ok (.aload_n 0, 1) := by decide +kernel
theorem dX12_init_204 : decode cX12_init 204 = .ok (.bipush 16, 2) := by decide +kernel
theorem dX12_init_206 : decode cX12_init 206 = .ok (.newarray .int, 2) := by decide +kernel
theorem dX12_init_208 : decode cX12_init 208 = .ok (.putfield 90, 3) := by decide +kernel
theorem dX12_init_211 : decode cX12_init 211 = .ok (.aload_n 0, 1) := by decide +kernel
theorem dX12_init_212 : decode cX12_init 212 = .ok (.ldc 93, 2) := by decide +kernel
theorem dX12_init_214 : decode cX12_init 214 = .ok (.newarray .int, 2) := by decide +kernel
theorem dX12_init_216 : decode cX12_init 216 = .ok (.putfield 94, 3) := by decide +kernel
theorem dX12_init_219 : decode cX12_init 219 = .ok (.aload_n 0, 1) := by decide +kernel
theorem dX12_init_220 : decode cX12_init 220 = .ok (.bipush 6, 2) := by decide +kernel
theorem dX12_init_222 : decode cX12_init 222 = .ok (.newarray .int, 2) := by decide +kernel
theorem dX12_init_224 : decode cX12_init 224 = .ok (.putfield 97, 3) := by decide +kernel
theorem dX12_init_227 : decode cX12_init 227 = .ok (.aload_n 0, 1) := by decide +kernel
theorem dX12_init_228 : decode cX12_init 228 = .ok (.sipush 2000, 3) := by decide +kernel
theorem dX12_init_231 : decode cX12_init 231 = .ok (.newarray .int, 2) := by decide +kernel
theorem dX12_init_233 : decode cX12_init 233 = .ok (.putfield 100, 3) := by decide +kernel
theorem dX12_init_236 : decode cX12_init 236 = .ok (.aload_n 0, 1) := by decide +kernel
theorem dX12_init_237 : decode cX12_init 237 = .ok (.sipush 2000, 3) := by decide +kernel
theorem dX12_init_240 : decode cX12_init 240 = .ok (.newarray .int, 2) := by decide +kernel
theorem dX12_init_242 : decode cX12_init 242 = .ok (.putfield 103, 3) := by decide +kernel
theorem dX12_init_245 : decode cX12_init 245 = .ok (.aload_n 0, 1) := by decide +kernel
theorem dX12_init_246 : decode cX12_init 246 = .ok (.iconst 4, 1) := by decide +kernel
theorem dX12_init_247 : decode cX12_init 247 = .ok (.newarray .int, 2) := by decide +kernel
theorem dX12_init_249 : decode cX12_init 249 = .ok (.putfield 106, 3) := by decide +kernel
theorem dX12_init_252 : decode cX12_init 252 = .ok (.return_, 1) := by decide +kernel
def T_X12_init_1 (t : List tc) (i0 : Nat) : List tc := t ++ [ar 13 3]
theorem ln_X12_init_1 {t : List tc} {i0 : Nat} : (T_X12_init_1 t i0).length = t.length + 1 := by unfold T_X12_init_1; rw [List.length_append]; rfl
theorem sgk_X12_init_1 {t : List tc} {i0 : Nat} {i9 : Nat} {x9 : Nat × Nat × Nat} (h9 : sg t i9 = some x9) : sg (T_X12_init_1 t i0) i9 = some x9 := sg_app h9
theorem rfk_X12_init_1 {t : List tc} {i0 : Nat} {i9 k9 j9 : Nat} (hlt : i9 < t.length) (hne : i9 ≠ i0) (h9 : rf t i9 k9 = some j9) : rf (T_X12_init_1 t i0) i9 k9 = some j9 := rf_app h9
def T_X12_init_2 (t : List tc) (i0 : Nat) : List tc := ((T_X12_init_1 t i0)).modify i0 (uR 1 t.length)
theorem ln_X12_init_2 {t : List tc} {i0 : Nat} : (T_X12_init_2 t i0).length = t.length + 1 := by unfold T_X12_init_2; rw [List.length_modify]; exact ln_X12_init_1
theorem sgk_X12_init_2 {t : List tc} {i0 : Nat} {i9 : Nat} {x9 : Nat × Nat × Nat} (h9 : sg t i9 = some x9) : sg (T_X12_init_2 t i0) i9 = some x9 := (sg_mR).trans (sgk_X12_init_1 h9)
theorem rfk_X12_init_2 {t : List tc} {i0 : Nat} {i9 k9 j9 : Nat} (hlt : i9 < t.length) (hne : i9 ≠ i0) (h9 : rf t i9 k9 = some j9) : rf (T_X12_init_2 t i0) i9 k9 = some j9 := (rf_mO (by omega)).trans (rfk_X12_init_1 hlt hne h9)
def T_X12_init_3 (t : List tc) (i0 : Nat) : List tc := ((T_X12_init_2 t i0)).modify i0 (uI 8 (-1))
theorem ln_X12_init_3 {t : List tc} {i0 : Nat} : (T_X12_init_3 t i0).length = t.length + 1 := by unfold T_X12_init_3; rw [List.length_modify]; exact ln_X12_init_2
theorem sgk_X12_init_3 {t : List tc} {i0 : Nat} {i9 : Nat} {x9 : Nat × Nat × Nat} (h9 : sg t i9 = some x9) : sg (T_X12_init_3 t i0) i9 = some x9 := (sg_mI).trans (sgk_X12_init_2 h9)
theorem rfk_X12_init_3 {t : List tc} {i0 : Nat} {i9 k9 j9 : Nat} (hlt : i9 < t.length) (hne : i9 ≠ i0) (h9 : rf t i9 k9 = some j9) : rf (T_X12_init_3 t i0) i9 k9 = some j9 := (rf_mI).trans (rfk_X12_init_2 hlt hne h9)
def T_X12_init_4 (t : List tc) (i0 : Nat) : List tc := (T_X12_init_3 t i0) ++ [ar 13 500]
theorem ln_X12_init_4 {t : List tc} {i0 : Nat} : (T_X12_init_4 t i0).length = t.length + 2 := by unfold T_X12_init_4; rw [List.length_append, ln_X12_init_3]; rfl
theorem sgk_X12_init_4 {t : List tc} {i0 : Nat} {i9 : Nat} {x9 : Nat × Nat × Nat} (h9 : sg t i9 = some x9) : sg (T_X12_init_4 t i0) i9 = some x9 := sg_app (sgk_X12_init_3 h9)
theorem rfk_X12_init_4 {t : List tc} {i0 : Nat} {i9 k9 j9 : Nat} (hlt : i9 < t.length) (hne : i9 ≠ i0) (h9 : rf t i9 k9 = some j9) : rf (T_X12_init_4 t i0) i9 k9 = some j9 := rf_app (rfk_X12_init_3 hlt hne h9)
def T_X12_init_5 (t : List tc) (i0 : Nat) : List tc := ((T_X12_init_4 t i0)).modify i0 (uR 9 (t.length + 1))
theorem ln_X12_init_5 {t : List tc} {i0 : Nat} : (T_X12_init_5 t i0).length = t.length + 2 := by unfold T_X12_init_5; rw [List.length_modify]; exact ln_X12_init_4
theorem sgk_X12_init_5 {t : List tc} {i0 : Nat} {i9 : Nat} {x9 : Nat × Nat × Nat} (h9 : sg t i9 = some x9) : sg (T_X12_init_5 t i0) i9 = some x9 := (sg_mR).trans (sgk_X12_init_4 h9)
theorem rfk_X12_init_5 {t : List tc} {i0 : Nat} {i9 k9 j9 : Nat} (hlt : i9 < t.length) (hne : i9 ≠ i0) (h9 : rf t i9 k9 = some j9) : rf (T_X12_init_5 t i0) i9 k9 = some j9 := (rf_mO (by omega)).trans (rfk_X12_init_4 hlt hne h9)
def T_X12_init_6 (t : List tc) (i0 : Nat) : List tc := ((T_X12_init_5 t i0)).modify i0 (uI 10 8)
theorem ln_X12_init_6 {t : List tc} {i0 : Nat} : (T_X12_init_6 t i0).length = t.length + 2 := by unfold T_X12_init_6; rw [List.length_modify]; exact ln_X12_init_5
theorem sgk_X12_init_6 {t : List tc} {i0 : Nat} {i9 : Nat} {x9 : Nat × Nat × Nat} (h9 : sg t i9 = some x9) : sg (T_X12_init_6 t i0) i9 = some x9 := (sg_mI).trans (sgk_X12_init_5 h9)
theorem rfk_X12_init_6 {t : List tc} {i0 : Nat} {i9 k9 j9 : Nat} (hlt : i9 < t.length) (hne : i9 ≠ i0) (h9 : rf t i9 k9 = some j9) : rf (T_X12_init_6 t i0) i9 k9 = some j9 := (rf_mI).trans (rfk_X12_init_5 hlt hne h9)
def T_X12_init_7 (t : List tc) (i0 : Nat) : List tc := ((T_X12_init_6 t i0)).modify i0 (uI 11 1)
theorem ln_X12_init_7 {t : List tc} {i0 : Nat} : (T_X12_init_7 t i0).length = t.length + 2 := by unfold T_X12_init_7; rw [List.length_modify]; exact ln_X12_init_6
theorem sgk_X12_init_7 {t : List tc} {i0 : Nat} {i9 : Nat} {x9 : Nat × Nat × Nat} (h9 : sg t i9 = some x9) : sg (T_X12_init_7 t i0) i9 = some x9 := (sg_mI).trans (sgk_X12_init_6 h9)
theorem rfk_X12_init_7 {t : List tc} {i0 : Nat} {i9 k9 j9 : Nat} (hlt : i9 < t.length) (hne : i9 ≠ i0) (h9 : rf t i9 k9 = some j9) : rf (T_X12_init_7 t i0) i9 k9 = some j9 := (rf_mI).trans (rfk_X12_init_6 hlt hne h9)
def T_X12_init_8 (t : List tc) (i0 : Nat) : List tc := ((T_X12_init_7 t i0)).modify i0 (uI 12 1)
theorem ln_X12_init_8 {t : List tc} {i0 : Nat} : (T_X12_init_8 t i0).length = t.length + 2 := by unfold T_X12_init_8; rw [List.length_modify]; exact ln_X12_init_7
theorem sgk_X12_init_8 {t : List tc} {i0 : Nat} {i9 : Nat} {x9 : Nat × Nat × Nat} (h9 : sg t i9 = some x9) : sg (T_X12_init_8 t i0) i9 = some x9 := (sg_mI).trans (sgk_X12_init_7 h9)
theorem rfk_X12_init_8 {t : List tc} {i0 : Nat} {i9 k9 j9 : Nat} (hlt : i9 < t.length) (hne : i9 ≠ i0) (h9 : rf t i9 k9 = some j9) : rf (T_X12_init_8 t i0) i9 k9 = some j9 := (rf_mI).trans (rfk_X12_init_7 hlt hne h9)
def T_X12_init_9 (t : List tc) (i0 : Nat) : List tc := (T_X12_init_8 t i0) ++ [ar 13 8000]
theorem ln_X12_init_9 {t : List tc} {i0 : Nat} : (T_X12_init_9 t i0).length = t.length + 3 := by unfold T_X12_init_9; rw [List.length_append, ln_X12_init_8]; rfl
theorem sgk_X12_init_9 {t : List tc} {i0 : Nat} {i9 : Nat} {x9 : Nat × Nat × Nat} (h9 : sg t i9 = some x9) : sg (T_X12_init_9 t i0) i9 = some x9 := sg_app (sgk_X12_init_8 h9)
theorem rfk_X12_init_9 {t : List tc} {i0 : Nat} {i9 k9 j9 : Nat} (hlt : i9 < t.length) (hne : i9 ≠ i0) (h9 : rf t i9 k9 = some j9) : rf (T_X12_init_9 t i0) i9 k9 = some j9 := rf_app (rfk_X12_init_8 hlt hne h9)
def T_X12_init_10 (t : List tc) (i0 : Nat) : List tc := ((T_X12_init_9 t i0)).modify i0 (uR 13 (t.length + 2))
theorem ln_X12_init_10 {t : List tc} {i0 : Nat} : (T_X12_init_10 t i0).length = t.length + 3 := by unfold T_X12_init_10; rw [List.length_modify]; exact ln_X12_init_9
theorem sgk_X12_init_10 {t : List tc} {i0 : Nat} {i9 : Nat} {x9 : Nat × Nat × Nat} (h9 : sg t i9 = some x9) : sg (T_X12_init_10 t i0) i9 = some x9 := (sg_mR).trans (sgk_X12_init_9 h9)
theorem rfk_X12_init_10 {t : List tc} {i0 : Nat} {i9 k9 j9 : Nat} (hlt : i9 < t.length) (hne : i9 ≠ i0) (h9 : rf t i9 k9 = some j9) : rf (T_X12_init_10 t i0) i9 k9 = some j9 := (rf_mO (by omega)).trans (rfk_X12_init_9 hlt hne h9)
def T_X12_init_11 (t : List tc) (i0 : Nat) : List tc := (T_X12_init_10 t i0) ++ [ar 13 4]
theorem ln_X12_init_11 {t : List tc} {i0 : Nat} : (T_X12_init_11 t i0).length = t.length + 4 := by unfold T_X12_init_11; rw [List.length_append, ln_X12_init_10]; rfl
theorem sgk_X12_init_11 {t : List tc} {i0 : Nat} {i9 : Nat} {x9 : Nat × Nat × Nat} (h9 : sg t i9 = some x9) : sg (T_X12_init_11 t i0) i9 = some x9 := sg_app (sgk_X12_init_10 h9)
theorem rfk_X12_init_11 {t : List tc} {i0 : Nat} {i9 k9 j9 : Nat} (hlt : i9 < t.length) (hne : i9 ≠ i0) (h9 : rf t i9 k9 = some j9) : rf (T_X12_init_11 t i0) i9 k9 = some j9 := rf_app (rfk_X12_init_10 hlt hne h9)
def T_X12_init_12 (t : List tc) (i0 : Nat) : List tc := ((T_X12_init_11 t i0)).modify i0 (uR 14 (t.length + 3))
theorem ln_X12_init_12 {t : List tc} {i0 : Nat} : (T_X12_init_12 t i0).length = t.length + 4 := by unfold T_X12_init_12; rw [List.length_modify]; exact ln_X12_init_11
theorem sgk_X12_init_12 {t : List tc} {i0 : Nat} {i9 : Nat} {x9 : Nat × Nat × Nat} (h9 : sg t i9 = some x9) : sg (T_X12_init_12 t i0) i9 = some x9 := (sg_mR).trans (sgk_X12_init_11 h9)
theorem rfk_X12_init_12 {t : List tc} {i0 : Nat} {i9 k9 j9 : Nat} (hlt : i9 < t.length) (hne : i9 ≠ i0) (h9 : rf t i9 k9 = some j9) : rf (T_X12_init_12 t i0) i9 k9 = some j9 := (rf_mO (by omega)).trans (rfk_X12_init_11 hlt hne h9)
def T_X12_init_13 (t : List tc) (i0 : Nat) : List tc := (T_X12_init_12 t i0) ++ [ar 13 4000]
theorem ln_X12_init_13 {t : List tc} {i0 : Nat} : (T_X12_init_13 t i0).length = t.length + 5 := by unfold T_X12_init_13; rw [List.length_append, ln_X12_init_12]; rfl
theorem sgk_X12_init_13 {t : List tc} {i0 : Nat} {i9 : Nat} {x9 : Nat × Nat × Nat} (h9 : sg t i9 = some x9) : sg (T_X12_init_13 t i0) i9 = some x9 := sg_app (sgk_X12_init_12 h9)
theorem rfk_X12_init_13 {t : List tc} {i0 : Nat} {i9 k9 j9 : Nat} (hlt : i9 < t.length) (hne : i9 ≠ i0) (h9 : rf t i9 k9 = some j9) : rf (T_X12_init_13 t i0) i9 k9 = some j9 := rf_app (rfk_X12_init_12 hlt hne h9)
def T_X12_init_14 (t : List tc) (i0 : Nat) : List tc := ((T_X12_init_13 t i0)).modify i0 (uR 15 (t.length + 4))
theorem ln_X12_init_14 {t : List tc} {i0 : Nat} : (T_X12_init_14 t i0).length = t.length + 5 := by unfold T_X12_init_14; rw [List.length_modify]; exact ln_X12_init_13
theorem sgk_X12_init_14 {t : List tc} {i0 : Nat} {i9 : Nat} {x9 : Nat × Nat × Nat} (h9 : sg t i9 = some x9) : sg (T_X12_init_14 t i0) i9 = some x9 := (sg_mR).trans (sgk_X12_init_13 h9)
theorem rfk_X12_init_14 {t : List tc} {i0 : Nat} {i9 k9 j9 : Nat} (hlt : i9 < t.length) (hne : i9 ≠ i0) (h9 : rf t i9 k9 = some j9) : rf (T_X12_init_14 t i0) i9 k9 = some j9 := (rf_mO (by omega)).trans (rfk_X12_init_13 hlt hne h9)
def T_X12_init_15 (t : List tc) (i0 : Nat) : List tc := (T_X12_init_14 t i0) ++ [ar 13 4000]
theorem ln_X12_init_15 {t : List tc} {i0 : Nat} : (T_X12_init_15 t i0).length = t.length + 6 := by unfold T_X12_init_15; rw [List.length_append, ln_X12_init_14]; rfl
theorem sgk_X12_init_15 {t : List tc} {i0 : Nat} {i9 : Nat} {x9 : Nat × Nat × Nat} (h9 : sg t i9 = some x9) : sg (T_X12_init_15 t i0) i9 = some x9 := sg_app (sgk_X12_init_14 h9)
theorem rfk_X12_init_15 {t : List tc} {i0 : Nat} {i9 k9 j9 : Nat} (hlt : i9 < t.length) (hne : i9 ≠ i0) (h9 : rf t i9 k9 = some j9) : rf (T_X12_init_15 t i0) i9 k9 = some j9 := rf_app (rfk_X12_init_14 hlt hne h9)
def T_X12_init_16 (t : List tc) (i0 : Nat) : List tc := ((T_X12_init_15 t i0)).modify i0 (uR 16 (t.length + 5))
theorem ln_X12_init_16 {t : List tc} {i0 : Nat} : (T_X12_init_16 t i0).length = t.length + 6 := by unfold T_X12_init_16; rw [List.length_modify]; exact ln_X12_init_15
theorem sgk_X12_init_16 {t : List tc} {i0 : Nat} {i9 : Nat} {x9 : Nat × Nat × Nat} (h9 : sg t i9 = some x9) : sg (T_X12_init_16 t i0) i9 = some x9 := (sg_mR).trans (sgk_X12_init_15 h9)
theorem rfk_X12_init_16 {t : List tc} {i0 : Nat} {i9 k9 j9 : Nat} (hlt : i9 < t.length) (hne : i9 ≠ i0) (h9 : rf t i9 k9 = some j9) : rf (T_X12_init_16 t i0) i9 k9 = some j9 := (rf_mO (by omega)).trans (rfk_X12_init_15 hlt hne h9)
def T_X12_init_17 (t : List tc) (i0 : Nat) : List tc := (T_X12_init_16 t i0) ++ [ar 13 4]
theorem ln_X12_init_17 {t : List tc} {i0 : Nat} : (T_X12_init_17 t i0).length = t.length + 7 := by unfold T_X12_init_17; rw [List.length_append, ln_X12_init_16]; rfl
theorem sgk_X12_init_17 {t : List tc} {i0 : Nat} {i9 : Nat} {x9 : Nat × Nat × Nat} (h9 : sg t i9 = some x9) : sg (T_X12_init_17 t i0) i9 = some x9 := sg_app (sgk_X12_init_16 h9)
theorem rfk_X12_init_17 {t : List tc} {i0 : Nat} {i9 k9 j9 : Nat} (hlt : i9 < t.length) (hne : i9 ≠ i0) (h9 : rf t i9 k9 = some j9) : rf (T_X12_init_17 t i0) i9 k9 = some j9 := rf_app (rfk_X12_init_16 hlt hne h9)
def T_X12_init_18 (t : List tc) (i0 : Nat) : List tc := ((T_X12_init_17 t i0)).modify i0 (uR 17 (t.length + 6))
theorem ln_X12_init_18 {t : List tc} {i0 : Nat} : (T_X12_init_18 t i0).length = t.length + 7 := by unfold T_X12_init_18; rw [List.length_modify]; exact ln_X12_init_17
theorem sgk_X12_init_18 {t : List tc} {i0 : Nat} {i9 : Nat} {x9 : Nat × Nat × Nat} (h9 : sg t i9 = some x9) : sg (T_X12_init_18 t i0) i9 = some x9 := (sg_mR).trans (sgk_X12_init_17 h9)
theorem rfk_X12_init_18 {t : List tc} {i0 : Nat} {i9 k9 j9 : Nat} (hlt : i9 < t.length) (hne : i9 ≠ i0) (h9 : rf t i9 k9 = some j9) : rf (T_X12_init_18 t i0) i9 k9 = some j9 := (rf_mO (by omega)).trans (rfk_X12_init_17 hlt hne h9)
def T_X12_init_19 (t : List tc) (i0 : Nat) : List tc := (T_X12_init_18 t i0) ++ [ar 13 24000]
theorem ln_X12_init_19 {t : List tc} {i0 : Nat} : (T_X12_init_19 t i0).length = t.length + 8 := by unfold T_X12_init_19; rw [List.length_append, ln_X12_init_18]; rfl
theorem sgk_X12_init_19 {t : List tc} {i0 : Nat} {i9 : Nat} {x9 : Nat × Nat × Nat} (h9 : sg t i9 = some x9) : sg (T_X12_init_19 t i0) i9 = some x9 := sg_app (sgk_X12_init_18 h9)
theorem rfk_X12_init_19 {t : List tc} {i0 : Nat} {i9 k9 j9 : Nat} (hlt : i9 < t.length) (hne : i9 ≠ i0) (h9 : rf t i9 k9 = some j9) : rf (T_X12_init_19 t i0) i9 k9 = some j9 := rf_app (rfk_X12_init_18 hlt hne h9)
def T_X12_init_20 (t : List tc) (i0 : Nat) : List tc := ((T_X12_init_19 t i0)).modify i0 (uR 19 (t.length + 7))
theorem ln_X12_init_20 {t : List tc} {i0 : Nat} : (T_X12_init_20 t i0).length = t.length + 8 := by unfold T_X12_init_20; rw [List.length_modify]; exact ln_X12_init_19
theorem sgk_X12_init_20 {t : List tc} {i0 : Nat} {i9 : Nat} {x9 : Nat × Nat × Nat} (h9 : sg t i9 = some x9) : sg (T_X12_init_20 t i0) i9 = some x9 := (sg_mR).trans (sgk_X12_init_19 h9)
theorem rfk_X12_init_20 {t : List tc} {i0 : Nat} {i9 k9 j9 : Nat} (hlt : i9 < t.length) (hne : i9 ≠ i0) (h9 : rf t i9 k9 = some j9) : rf (T_X12_init_20 t i0) i9 k9 = some j9 := (rf_mO (by omega)).trans (rfk_X12_init_19 hlt hne h9)
def T_X12_init_21 (t : List tc) (i0 : Nat) : List tc := (T_X12_init_20 t i0) ++ [ar 13 12]
theorem ln_X12_init_21 {t : List tc} {i0 : Nat} : (T_X12_init_21 t i0).length = t.length + 9 := by unfold T_X12_init_21; rw [List.length_append, ln_X12_init_20]; rfl
theorem sgk_X12_init_21 {t : List tc} {i0 : Nat} {i9 : Nat} {x9 : Nat × Nat × Nat} (h9 : sg t i9 = some x9) : sg (T_X12_init_21 t i0) i9 = some x9 := sg_app (sgk_X12_init_20 h9)
theorem rfk_X12_init_21 {t : List tc} {i0 : Nat} {i9 k9 j9 : Nat} (hlt : i9 < t.length) (hne : i9 ≠ i0) (h9 : rf t i9 k9 = some j9) : rf (T_X12_init_21 t i0) i9 k9 = some j9 := rf_app (rfk_X12_init_20 hlt hne h9)
def T_X12_init_22 (t : List tc) (i0 : Nat) : List tc := ((T_X12_init_21 t i0)).modify i0 (uR 20 (t.length + 8))
theorem ln_X12_init_22 {t : List tc} {i0 : Nat} : (T_X12_init_22 t i0).length = t.length + 9 := by unfold T_X12_init_22; rw [List.length_modify]; exact ln_X12_init_21
theorem sgk_X12_init_22 {t : List tc} {i0 : Nat} {i9 : Nat} {x9 : Nat × Nat × Nat} (h9 : sg t i9 = some x9) : sg (T_X12_init_22 t i0) i9 = some x9 := (sg_mR).trans (sgk_X12_init_21 h9)
theorem rfk_X12_init_22 {t : List tc} {i0 : Nat} {i9 k9 j9 : Nat} (hlt : i9 < t.length) (hne : i9 ≠ i0) (h9 : rf t i9 k9 = some j9) : rf (T_X12_init_22 t i0) i9 k9 = some j9 := (rf_mO (by omega)).trans (rfk_X12_init_21 hlt hne h9)
def T_X12_init_23 (t : List tc) (i0 : Nat) : List tc := (T_X12_init_22 t i0) ++ [ar 13 12000]
theorem ln_X12_init_23 {t : List tc} {i0 : Nat} : (T_X12_init_23 t i0).length = t.length + 10 := by unfold T_X12_init_23; rw [List.length_append, ln_X12_init_22]; rfl
theorem sgk_X12_init_23 {t : List tc} {i0 : Nat} {i9 : Nat} {x9 : Nat × Nat × Nat} (h9 : sg t i9 = some x9) : sg (T_X12_init_23 t i0) i9 = some x9 := sg_app (sgk_X12_init_22 h9)
theorem rfk_X12_init_23 {t : List tc} {i0 : Nat} {i9 k9 j9 : Nat} (hlt : i9 < t.length) (hne : i9 ≠ i0) (h9 : rf t i9 k9 = some j9) : rf (T_X12_init_23 t i0) i9 k9 = some j9 := rf_app (rfk_X12_init_22 hlt hne h9)
def T_X12_init_24 (t : List tc) (i0 : Nat) : List tc := ((T_X12_init_23 t i0)).modify i0 (uR 21 (t.length + 9))
theorem ln_X12_init_24 {t : List tc} {i0 : Nat} : (T_X12_init_24 t i0).length = t.length + 10 := by unfold T_X12_init_24; rw [List.length_modify]; exact ln_X12_init_23
theorem sgk_X12_init_24 {t : List tc} {i0 : Nat} {i9 : Nat} {x9 : Nat × Nat × Nat} (h9 : sg t i9 = some x9) : sg (T_X12_init_24 t i0) i9 = some x9 := (sg_mR).trans (sgk_X12_init_23 h9)
theorem rfk_X12_init_24 {t : List tc} {i0 : Nat} {i9 k9 j9 : Nat} (hlt : i9 < t.length) (hne : i9 ≠ i0) (h9 : rf t i9 k9 = some j9) : rf (T_X12_init_24 t i0) i9 k9 = some j9 := (rf_mO (by omega)).trans (rfk_X12_init_23 hlt hne h9)
def T_X12_init_25 (t : List tc) (i0 : Nat) : List tc := (T_X12_init_24 t i0) ++ [ar 13 12000]
theorem ln_X12_init_25 {t : List tc} {i0 : Nat} : (T_X12_init_25 t i0).length = t.length + 11 := by unfold T_X12_init_25; rw [List.length_append, ln_X12_init_24]; rfl
theorem sgk_X12_init_25 {t : List tc} {i0 : Nat} {i9 : Nat} {x9 : Nat × Nat × Nat} (h9 : sg t i9 = some x9) : sg (T_X12_init_25 t i0) i9 = some x9 := sg_app (sgk_X12_init_24 h9)
theorem rfk_X12_init_25 {t : List tc} {i0 : Nat} {i9 k9 j9 : Nat} (hlt : i9 < t.length) (hne : i9 ≠ i0) (h9 : rf t i9 k9 = some j9) : rf (T_X12_init_25 t i0) i9 k9 = some j9 := rf_app (rfk_X12_init_24 hlt hne h9)
def T_X12_init_26 (t : List tc) (i0 : Nat) : List tc := ((T_X12_init_25 t i0)).modify i0 (uR 22 (t.length + 10))
theorem ln_X12_init_26 {t : List tc} {i0 : Nat} : (T_X12_init_26 t i0).length = t.length + 11 := by unfold T_X12_init_26; rw [List.length_modify]; exact ln_X12_init_25
theorem sgk_X12_init_26 {t : List tc} {i0 : Nat} {i9 : Nat} {x9 : Nat × Nat × Nat} (h9 : sg t i9 = some x9) : sg (T_X12_init_26 t i0) i9 = some x9 := (sg_mR).trans (sgk_X12_init_25 h9)
theorem rfk_X12_init_26 {t : List tc} {i0 : Nat} {i9 k9 j9 : Nat} (hlt : i9 < t.length) (hne : i9 ≠ i0) (h9 : rf t i9 k9 = some j9) : rf (T_X12_init_26 t i0) i9 k9 = some j9 := (rf_mO (by omega)).trans (rfk_X12_init_25 hlt hne h9)
def T_X12_init_27 (t : List tc) (i0 : Nat) : List tc := (T_X12_init_26 t i0) ++ [ar 13 12]
theorem ln_X12_init_27 {t : List tc} {i0 : Nat} : (T_X12_init_27 t i0).length = t.length + 12 := by unfold T_X12_init_27; rw [List.length_append, ln_X12_init_26]; rfl
theorem sgk_X12_init_27 {t : List tc} {i0 : Nat} {i9 : Nat} {x9 : Nat × Nat × Nat} (h9 : sg t i9 = some x9) : sg (T_X12_init_27 t i0) i9 = some x9 := sg_app (sgk_X12_init_26 h9)
theorem rfk_X12_init_27 {t : List tc} {i0 : Nat} {i9 k9 j9 : Nat} (hlt : i9 < t.length) (hne : i9 ≠ i0) (h9 : rf t i9 k9 = some j9) : rf (T_X12_init_27 t i0) i9 k9 = some j9 := rf_app (rfk_X12_init_26 hlt hne h9)
def T_X12_init_28 (t : List tc) (i0 : Nat) : List tc := ((T_X12_init_27 t i0)).modify i0 (uR 23 (t.length + 11))
theorem ln_X12_init_28 {t : List tc} {i0 : Nat} : (T_X12_init_28 t i0).length = t.length + 12 := by unfold T_X12_init_28; rw [List.length_modify]; exact ln_X12_init_27
theorem sgk_X12_init_28 {t : List tc} {i0 : Nat} {i9 : Nat} {x9 : Nat × Nat × Nat} (h9 : sg t i9 = some x9) : sg (T_X12_init_28 t i0) i9 = some x9 := (sg_mR).trans (sgk_X12_init_27 h9)
theorem rfk_X12_init_28 {t : List tc} {i0 : Nat} {i9 k9 j9 : Nat} (hlt : i9 < t.length) (hne : i9 ≠ i0) (h9 : rf t i9 k9 = some j9) : rf (T_X12_init_28 t i0) i9 k9 = some j9 := (rf_mO (by omega)).trans (rfk_X12_init_27 hlt hne h9)
def T_X12_init_29 (t : List tc) (i0 : Nat) : List tc := (T_X12_init_28 t i0) ++ [ar 13 4]
theorem ln_X12_init_29 {t : List tc} {i0 : Nat} : (T_X12_init_29 t i0).length = t.length + 13 := by unfold T_X12_init_29; rw [List.length_append, ln_X12_init_28]; rfl
theorem sgk_X12_init_29 {t : List tc} {i0 : Nat} {i9 : Nat} {x9 : Nat × Nat × Nat} (h9 : sg t i9 = some x9) : sg (T_X12_init_29 t i0) i9 = some x9 := sg_app (sgk_X12_init_28 h9)
theorem rfk_X12_init_29 {t : List tc} {i0 : Nat} {i9 k9 j9 : Nat} (hlt : i9 < t.length) (hne : i9 ≠ i0) (h9 : rf t i9 k9 = some j9) : rf (T_X12_init_29 t i0) i9 k9 = some j9 := rf_app (rfk_X12_init_28 hlt hne h9)
def T_X12_init_30 (t : List tc) (i0 : Nat) : List tc := ((T_X12_init_29 t i0)).modify i0 (uR 28 (t.length + 12))
theorem ln_X12_init_30 {t : List tc} {i0 : Nat} : (T_X12_init_30 t i0).length = t.length + 13 := by unfold T_X12_init_30; rw [List.length_modify]; exact ln_X12_init_29
theorem sgk_X12_init_30 {t : List tc} {i0 : Nat} {i9 : Nat} {x9 : Nat × Nat × Nat} (h9 : sg t i9 = some x9) : sg (T_X12_init_30 t i0) i9 = some x9 := (sg_mR).trans (sgk_X12_init_29 h9)
theorem rfk_X12_init_30 {t : List tc} {i0 : Nat} {i9 k9 j9 : Nat} (hlt : i9 < t.length) (hne : i9 ≠ i0) (h9 : rf t i9 k9 = some j9) : rf (T_X12_init_30 t i0) i9 k9 = some j9 := (rf_mO (by omega)).trans (rfk_X12_init_29 hlt hne h9)
def T_X12_init_31 (t : List tc) (i0 : Nat) : List tc := (T_X12_init_30 t i0) ++ [ar 13 240]
theorem ln_X12_init_31 {t : List tc} {i0 : Nat} : (T_X12_init_31 t i0).length = t.length + 14 := by unfold T_X12_init_31; rw [List.length_append, ln_X12_init_30]; rfl
theorem sgk_X12_init_31 {t : List tc} {i0 : Nat} {i9 : Nat} {x9 : Nat × Nat × Nat} (h9 : sg t i9 = some x9) : sg (T_X12_init_31 t i0) i9 = some x9 := sg_app (sgk_X12_init_30 h9)
theorem rfk_X12_init_31 {t : List tc} {i0 : Nat} {i9 k9 j9 : Nat} (hlt : i9 < t.length) (hne : i9 ≠ i0) (h9 : rf t i9 k9 = some j9) : rf (T_X12_init_31 t i0) i9 k9 = some j9 := rf_app (rfk_X12_init_30 hlt hne h9)
def T_X12_init_32 (t : List tc) (i0 : Nat) : List tc := ((T_X12_init_31 t i0)).modify i0 (uR 29 (t.length + 13))
theorem ln_X12_init_32 {t : List tc} {i0 : Nat} : (T_X12_init_32 t i0).length = t.length + 14 := by unfold T_X12_init_32; rw [List.length_modify]; exact ln_X12_init_31
theorem sgk_X12_init_32 {t : List tc} {i0 : Nat} {i9 : Nat} {x9 : Nat × Nat × Nat} (h9 : sg t i9 = some x9) : sg (T_X12_init_32 t i0) i9 = some x9 := (sg_mR).trans (sgk_X12_init_31 h9)
theorem rfk_X12_init_32 {t : List tc} {i0 : Nat} {i9 k9 j9 : Nat} (hlt : i9 < t.length) (hne : i9 ≠ i0) (h9 : rf t i9 k9 = some j9) : rf (T_X12_init_32 t i0) i9 k9 = some j9 := (rf_mO (by omega)).trans (rfk_X12_init_31 hlt hne h9)
def T_X12_init_33 (t : List tc) (i0 : Nat) : List tc := (T_X12_init_32 t i0) ++ [ar 13 240]
theorem ln_X12_init_33 {t : List tc} {i0 : Nat} : (T_X12_init_33 t i0).length = t.length + 15 := by unfold T_X12_init_33; rw [List.length_append, ln_X12_init_32]; rfl
theorem sgk_X12_init_33 {t : List tc} {i0 : Nat} {i9 : Nat} {x9 : Nat × Nat × Nat} (h9 : sg t i9 = some x9) : sg (T_X12_init_33 t i0) i9 = some x9 := sg_app (sgk_X12_init_32 h9)
theorem rfk_X12_init_33 {t : List tc} {i0 : Nat} {i9 k9 j9 : Nat} (hlt : i9 < t.length) (hne : i9 ≠ i0) (h9 : rf t i9 k9 = some j9) : rf (T_X12_init_33 t i0) i9 k9 = some j9 := rf_app (rfk_X12_init_32 hlt hne h9)
def T_X12_init_34 (t : List tc) (i0 : Nat) : List tc := ((T_X12_init_33 t i0)).modify i0 (uR 30 (t.length + 14))
theorem ln_X12_init_34 {t : List tc} {i0 : Nat} : (T_X12_init_34 t i0).length = t.length + 15 := by unfold T_X12_init_34; rw [List.length_modify]; exact ln_X12_init_33
theorem sgk_X12_init_34 {t : List tc} {i0 : Nat} {i9 : Nat} {x9 : Nat × Nat × Nat} (h9 : sg t i9 = some x9) : sg (T_X12_init_34 t i0) i9 = some x9 := (sg_mR).trans (sgk_X12_init_33 h9)
theorem rfk_X12_init_34 {t : List tc} {i0 : Nat} {i9 k9 j9 : Nat} (hlt : i9 < t.length) (hne : i9 ≠ i0) (h9 : rf t i9 k9 = some j9) : rf (T_X12_init_34 t i0) i9 k9 = some j9 := (rf_mO (by omega)).trans (rfk_X12_init_33 hlt hne h9)
def T_X12_init_35 (t : List tc) (i0 : Nat) : List tc := (T_X12_init_34 t i0) ++ [ar 13 240]
theorem ln_X12_init_35 {t : List tc} {i0 : Nat} : (T_X12_init_35 t i0).length = t.length + 16 := by unfold T_X12_init_35; rw [List.length_append, ln_X12_init_34]; rfl
theorem sgk_X12_init_35 {t : List tc} {i0 : Nat} {i9 : Nat} {x9 : Nat × Nat × Nat} (h9 : sg t i9 = some x9) : sg (T_X12_init_35 t i0) i9 = some x9 := sg_app (sgk_X12_init_34 h9)
theorem rfk_X12_init_35 {t : List tc} {i0 : Nat} {i9 k9 j9 : Nat} (hlt : i9 < t.length) (hne : i9 ≠ i0) (h9 : rf t i9 k9 = some j9) : rf (T_X12_init_35 t i0) i9 k9 = some j9 := rf_app (rfk_X12_init_34 hlt hne h9)
def T_X12_init_36 (t : List tc) (i0 : Nat) : List tc := ((T_X12_init_35 t i0)).modify i0 (uR 31 (t.length + 15))
theorem ln_X12_init_36 {t : List tc} {i0 : Nat} : (T_X12_init_36 t i0).length = t.length + 16 := by unfold T_X12_init_36; rw [List.length_modify]; exact ln_X12_init_35
theorem sgk_X12_init_36 {t : List tc} {i0 : Nat} {i9 : Nat} {x9 : Nat × Nat × Nat} (h9 : sg t i9 = some x9) : sg (T_X12_init_36 t i0) i9 = some x9 := (sg_mR).trans (sgk_X12_init_35 h9)
theorem rfk_X12_init_36 {t : List tc} {i0 : Nat} {i9 k9 j9 : Nat} (hlt : i9 < t.length) (hne : i9 ≠ i0) (h9 : rf t i9 k9 = some j9) : rf (T_X12_init_36 t i0) i9 k9 = some j9 := (rf_mO (by omega)).trans (rfk_X12_init_35 hlt hne h9)
def T_X12_init_37 (t : List tc) (i0 : Nat) : List tc := (T_X12_init_36 t i0) ++ [ar 13 2000]
theorem ln_X12_init_37 {t : List tc} {i0 : Nat} : (T_X12_init_37 t i0).length = t.length + 17 := by unfold T_X12_init_37; rw [List.length_append, ln_X12_init_36]; rfl
theorem sgk_X12_init_37 {t : List tc} {i0 : Nat} {i9 : Nat} {x9 : Nat × Nat × Nat} (h9 : sg t i9 = some x9) : sg (T_X12_init_37 t i0) i9 = some x9 := sg_app (sgk_X12_init_36 h9)
theorem rfk_X12_init_37 {t : List tc} {i0 : Nat} {i9 k9 j9 : Nat} (hlt : i9 < t.length) (hne : i9 ≠ i0) (h9 : rf t i9 k9 = some j9) : rf (T_X12_init_37 t i0) i9 k9 = some j9 := rf_app (rfk_X12_init_36 hlt hne h9)
def T_X12_init_38 (t : List tc) (i0 : Nat) : List tc := ((T_X12_init_37 t i0)).modify i0 (uR 32 (t.length + 16))
theorem ln_X12_init_38 {t : List tc} {i0 : Nat} : (T_X12_init_38 t i0).length = t.length + 17 := by unfold T_X12_init_38; rw [List.length_modify]; exact ln_X12_init_37
theorem sgk_X12_init_38 {t : List tc} {i0 : Nat} {i9 : Nat} {x9 : Nat × Nat × Nat} (h9 : sg t i9 = some x9) : sg (T_X12_init_38 t i0) i9 = some x9 := (sg_mR).trans (sgk_X12_init_37 h9)
theorem rfk_X12_init_38 {t : List tc} {i0 : Nat} {i9 k9 j9 : Nat} (hlt : i9 < t.length) (hne : i9 ≠ i0) (h9 : rf t i9 k9 = some j9) : rf (T_X12_init_38 t i0) i9 k9 = some j9 := (rf_mO (by omega)).trans (rfk_X12_init_37 hlt hne h9)
def T_X12_init_39 (t : List tc) (i0 : Nat) : List tc := (T_X12_init_38 t i0) ++ [ar 13 2000]
theorem ln_X12_init_39 {t : List tc} {i0 : Nat} : (T_X12_init_39 t i0).length = t.length + 18 := by unfold T_X12_init_39; rw [List.length_append, ln_X12_init_38]; rfl
theorem sgk_X12_init_39 {t : List tc} {i0 : Nat} {i9 : Nat} {x9 : Nat × Nat × Nat} (h9 : sg t i9 = some x9) : sg (T_X12_init_39 t i0) i9 = some x9 := sg_app (sgk_X12_init_38 h9)
theorem rfk_X12_init_39 {t : List tc} {i0 : Nat} {i9 k9 j9 : Nat} (hlt : i9 < t.length) (hne : i9 ≠ i0) (h9 : rf t i9 k9 = some j9) : rf (T_X12_init_39 t i0) i9 k9 = some j9 := rf_app (rfk_X12_init_38 hlt hne h9)
def T_X12_init_40 (t : List tc) (i0 : Nat) : List tc := ((T_X12_init_39 t i0)).modify i0 (uR 33 (t.length + 17))
theorem ln_X12_init_40 {t : List tc} {i0 : Nat} : (T_X12_init_40 t i0).length = t.length + 18 := by unfold T_X12_init_40; rw [List.length_modify]; exact ln_X12_init_39
theorem sgk_X12_init_40 {t : List tc} {i0 : Nat} {i9 : Nat} {x9 : Nat × Nat × Nat} (h9 : sg t i9 = some x9) : sg (T_X12_init_40 t i0) i9 = some x9 := (sg_mR).trans (sgk_X12_init_39 h9)
theorem rfk_X12_init_40 {t : List tc} {i0 : Nat} {i9 k9 j9 : Nat} (hlt : i9 < t.length) (hne : i9 ≠ i0) (h9 : rf t i9 k9 = some j9) : rf (T_X12_init_40 t i0) i9 k9 = some j9 := (rf_mO (by omega)).trans (rfk_X12_init_39 hlt hne h9)
def T_X12_init_41 (t : List tc) (i0 : Nat) : List tc := (T_X12_init_40 t i0) ++ [ar 13 500]
theorem ln_X12_init_41 {t : List tc} {i0 : Nat} : (T_X12_init_41 t i0).length = t.length + 19 := by unfold T_X12_init_41; rw [List.length_append, ln_X12_init_40]; rfl
theorem sgk_X12_init_41 {t : List tc} {i0 : Nat} {i9 : Nat} {x9 : Nat × Nat × Nat} (h9 : sg t i9 = some x9) : sg (T_X12_init_41 t i0) i9 = some x9 := sg_app (sgk_X12_init_40 h9)
theorem rfk_X12_init_41 {t : List tc} {i0 : Nat} {i9 k9 j9 : Nat} (hlt : i9 < t.length) (hne : i9 ≠ i0) (h9 : rf t i9 k9 = some j9) : rf (T_X12_init_41 t i0) i9 k9 = some j9 := rf_app (rfk_X12_init_40 hlt hne h9)
def T_X12_init_42 (t : List tc) (i0 : Nat) : List tc := ((T_X12_init_41 t i0)).modify i0 (uR 34 (t.length + 18))
theorem ln_X12_init_42 {t : List tc} {i0 : Nat} : (T_X12_init_42 t i0).length = t.length + 19 := by unfold T_X12_init_42; rw [List.length_modify]; exact ln_X12_init_41
theorem sgk_X12_init_42 {t : List tc} {i0 : Nat} {i9 : Nat} {x9 : Nat × Nat × Nat} (h9 : sg t i9 = some x9) : sg (T_X12_init_42 t i0) i9 = some x9 := (sg_mR).trans (sgk_X12_init_41 h9)
theorem rfk_X12_init_42 {t : List tc} {i0 : Nat} {i9 k9 j9 : Nat} (hlt : i9 < t.length) (hne : i9 ≠ i0) (h9 : rf t i9 k9 = some j9) : rf (T_X12_init_42 t i0) i9 k9 = some j9 := (rf_mO (by omega)).trans (rfk_X12_init_41 hlt hne h9)
def T_X12_init_43 (t : List tc) (i0 : Nat) : List tc := (T_X12_init_42 t i0) ++ [ar 13 14000]
theorem ln_X12_init_43 {t : List tc} {i0 : Nat} : (T_X12_init_43 t i0).length = t.length + 20 := by unfold T_X12_init_43; rw [List.length_append, ln_X12_init_42]; rfl
theorem sgk_X12_init_43 {t : List tc} {i0 : Nat} {i9 : Nat} {x9 : Nat × Nat × Nat} (h9 : sg t i9 = some x9) : sg (T_X12_init_43 t i0) i9 = some x9 := sg_app (sgk_X12_init_42 h9)
theorem rfk_X12_init_43 {t : List tc} {i0 : Nat} {i9 k9 j9 : Nat} (hlt : i9 < t.length) (hne : i9 ≠ i0) (h9 : rf t i9 k9 = some j9) : rf (T_X12_init_43 t i0) i9 k9 = some j9 := rf_app (rfk_X12_init_42 hlt hne h9)
def T_X12_init_44 (t : List tc) (i0 : Nat) : List tc := ((T_X12_init_43 t i0)).modify i0 (uR 35 (t.length + 19))
theorem ln_X12_init_44 {t : List tc} {i0 : Nat} : (T_X12_init_44 t i0).length = t.length + 20 := by unfold T_X12_init_44; rw [List.length_modify]; exact ln_X12_init_43
theorem sgk_X12_init_44 {t : List tc} {i0 : Nat} {i9 : Nat} {x9 : Nat × Nat × Nat} (h9 : sg t i9 = some x9) : sg (T_X12_init_44 t i0) i9 = some x9 := (sg_mR).trans (sgk_X12_init_43 h9)
theorem rfk_X12_init_44 {t : List tc} {i0 : Nat} {i9 k9 j9 : Nat} (hlt : i9 < t.length) (hne : i9 ≠ i0) (h9 : rf t i9 k9 = some j9) : rf (T_X12_init_44 t i0) i9 k9 = some j9 := (rf_mO (by omega)).trans (rfk_X12_init_43 hlt hne h9)
def T_X12_init_45 (t : List tc) (i0 : Nat) : List tc := (T_X12_init_44 t i0) ++ [ar 13 16]
theorem ln_X12_init_45 {t : List tc} {i0 : Nat} : (T_X12_init_45 t i0).length = t.length + 21 := by unfold T_X12_init_45; rw [List.length_append, ln_X12_init_44]; rfl
theorem sgk_X12_init_45 {t : List tc} {i0 : Nat} {i9 : Nat} {x9 : Nat × Nat × Nat} (h9 : sg t i9 = some x9) : sg (T_X12_init_45 t i0) i9 = some x9 := sg_app (sgk_X12_init_44 h9)
theorem rfk_X12_init_45 {t : List tc} {i0 : Nat} {i9 k9 j9 : Nat} (hlt : i9 < t.length) (hne : i9 ≠ i0) (h9 : rf t i9 k9 = some j9) : rf (T_X12_init_45 t i0) i9 k9 = some j9 := rf_app (rfk_X12_init_44 hlt hne h9)
def T_X12_init_46 (t : List tc) (i0 : Nat) : List tc := ((T_X12_init_45 t i0)).modify i0 (uR 41 (t.length + 20))
theorem ln_X12_init_46 {t : List tc} {i0 : Nat} : (T_X12_init_46 t i0).length = t.length + 21 := by unfold T_X12_init_46; rw [List.length_modify]; exact ln_X12_init_45
theorem sgk_X12_init_46 {t : List tc} {i0 : Nat} {i9 : Nat} {x9 : Nat × Nat × Nat} (h9 : sg t i9 = some x9) : sg (T_X12_init_46 t i0) i9 = some x9 := (sg_mR).trans (sgk_X12_init_45 h9)
theorem rfk_X12_init_46 {t : List tc} {i0 : Nat} {i9 k9 j9 : Nat} (hlt : i9 < t.length) (hne : i9 ≠ i0) (h9 : rf t i9 k9 = some j9) : rf (T_X12_init_46 t i0) i9 k9 = some j9 := (rf_mO (by omega)).trans (rfk_X12_init_45 hlt hne h9)
def T_X12_init_47 (t : List tc) (i0 : Nat) : List tc := (T_X12_init_46 t i0) ++ [ar 13 16]
theorem ln_X12_init_47 {t : List tc} {i0 : Nat} : (T_X12_init_47 t i0).length = t.length + 22 := by unfold T_X12_init_47; rw [List.length_append, ln_X12_init_46]; rfl
theorem sgk_X12_init_47 {t : List tc} {i0 : Nat} {i9 : Nat} {x9 : Nat × Nat × Nat} (h9 : sg t i9 = some x9) : sg (T_X12_init_47 t i0) i9 = some x9 := sg_app (sgk_X12_init_46 h9)
theorem rfk_X12_init_47 {t : List tc} {i0 : Nat} {i9 k9 j9 : Nat} (hlt : i9 < t.length) (hne : i9 ≠ i0) (h9 : rf t i9 k9 = some j9) : rf (T_X12_init_47 t i0) i9 k9 = some j9 := rf_app (rfk_X12_init_46 hlt hne h9)
def T_X12_init_48 (t : List tc) (i0 : Nat) : List tc := ((T_X12_init_47 t i0)).modify i0 (uR 42 (t.length + 21))
theorem ln_X12_init_48 {t : List tc} {i0 : Nat} : (T_X12_init_48 t i0).length = t.length + 22 := by unfold T_X12_init_48; rw [List.length_modify]; exact ln_X12_init_47
theorem sgk_X12_init_48 {t : List tc} {i0 : Nat} {i9 : Nat} {x9 : Nat × Nat × Nat} (h9 : sg t i9 = some x9) : sg (T_X12_init_48 t i0) i9 = some x9 := (sg_mR).trans (sgk_X12_init_47 h9)
theorem rfk_X12_init_48 {t : List tc} {i0 : Nat} {i9 k9 j9 : Nat} (hlt : i9 < t.length) (hne : i9 ≠ i0) (h9 : rf t i9 k9 = some j9) : rf (T_X12_init_48 t i0) i9 k9 = some j9 := (rf_mO (by omega)).trans (rfk_X12_init_47 hlt hne h9)
def T_X12_init_49 (t : List tc) (i0 : Nat) : List tc := (T_X12_init_48 t i0) ++ [ar 13 458752]
theorem ln_X12_init_49 {t : List tc} {i0 : Nat} : (T_X12_init_49 t i0).length = t.length + 23 := by unfold T_X12_init_49; rw [List.length_append, ln_X12_init_48]; rfl
theorem sgk_X12_init_49 {t : List tc} {i0 : Nat} {i9 : Nat} {x9 : Nat × Nat × Nat} (h9 : sg t i9 = some x9) : sg (T_X12_init_49 t i0) i9 = some x9 := sg_app (sgk_X12_init_48 h9)
theorem rfk_X12_init_49 {t : List tc} {i0 : Nat} {i9 k9 j9 : Nat} (hlt : i9 < t.length) (hne : i9 ≠ i0) (h9 : rf t i9 k9 = some j9) : rf (T_X12_init_49 t i0) i9 k9 = some j9 := rf_app (rfk_X12_init_48 hlt hne h9)
def T_X12_init_50 (t : List tc) (i0 : Nat) : List tc := ((T_X12_init_49 t i0)).modify i0 (uR 43 (t.length + 22))
theorem ln_X12_init_50 {t : List tc} {i0 : Nat} : (T_X12_init_50 t i0).length = t.length + 23 := by unfold T_X12_init_50; rw [List.length_modify]; exact ln_X12_init_49
theorem sgk_X12_init_50 {t : List tc} {i0 : Nat} {i9 : Nat} {x9 : Nat × Nat × Nat} (h9 : sg t i9 = some x9) : sg (T_X12_init_50 t i0) i9 = some x9 := (sg_mR).trans (sgk_X12_init_49 h9)
theorem rfk_X12_init_50 {t : List tc} {i0 : Nat} {i9 k9 j9 : Nat} (hlt : i9 < t.length) (hne : i9 ≠ i0) (h9 : rf t i9 k9 = some j9) : rf (T_X12_init_50 t i0) i9 k9 = some j9 := (rf_mO (by omega)).trans (rfk_X12_init_49 hlt hne h9)
def T_X12_init_51 (t : List tc) (i0 : Nat) : List tc := (T_X12_init_50 t i0) ++ [ar 13 6]
theorem ln_X12_init_51 {t : List tc} {i0 : Nat} : (T_X12_init_51 t i0).length = t.length + 24 := by unfold T_X12_init_51; rw [List.length_append, ln_X12_init_50]; rfl
theorem sgk_X12_init_51 {t : List tc} {i0 : Nat} {i9 : Nat} {x9 : Nat × Nat × Nat} (h9 : sg t i9 = some x9) : sg (T_X12_init_51 t i0) i9 = some x9 := sg_app (sgk_X12_init_50 h9)
theorem rfk_X12_init_51 {t : List tc} {i0 : Nat} {i9 k9 j9 : Nat} (hlt : i9 < t.length) (hne : i9 ≠ i0) (h9 : rf t i9 k9 = some j9) : rf (T_X12_init_51 t i0) i9 k9 = some j9 := rf_app (rfk_X12_init_50 hlt hne h9)
def T_X12_init_52 (t : List tc) (i0 : Nat) : List tc := ((T_X12_init_51 t i0)).modify i0 (uR 44 (t.length + 23))
theorem ln_X12_init_52 {t : List tc} {i0 : Nat} : (T_X12_init_52 t i0).length = t.length + 24 := by unfold T_X12_init_52; rw [List.length_modify]; exact ln_X12_init_51
theorem sgk_X12_init_52 {t : List tc} {i0 : Nat} {i9 : Nat} {x9 : Nat × Nat × Nat} (h9 : sg t i9 = some x9) : sg (T_X12_init_52 t i0) i9 = some x9 := (sg_mR).trans (sgk_X12_init_51 h9)
theorem rfk_X12_init_52 {t : List tc} {i0 : Nat} {i9 k9 j9 : Nat} (hlt : i9 < t.length) (hne : i9 ≠ i0) (h9 : rf t i9 k9 = some j9) : rf (T_X12_init_52 t i0) i9 k9 = some j9 := (rf_mO (by omega)).trans (rfk_X12_init_51 hlt hne h9)
def T_X12_init_53 (t : List tc) (i0 : Nat) : List tc := (T_X12_init_52 t i0) ++ [ar 13 2000]
theorem ln_X12_init_53 {t : List tc} {i0 : Nat} : (T_X12_init_53 t i0).length = t.length + 25 := by unfold T_X12_init_53; rw [List.length_append, ln_X12_init_52]; rfl
theorem sgk_X12_init_53 {t : List tc} {i0 : Nat} {i9 : Nat} {x9 : Nat × Nat × Nat} (h9 : sg t i9 = some x9) : sg (T_X12_init_53 t i0) i9 = some x9 := sg_app (sgk_X12_init_52 h9)
theorem rfk_X12_init_53 {t : List tc} {i0 : Nat} {i9 k9 j9 : Nat} (hlt : i9 < t.length) (hne : i9 ≠ i0) (h9 : rf t i9 k9 = some j9) : rf (T_X12_init_53 t i0) i9 k9 = some j9 := rf_app (rfk_X12_init_52 hlt hne h9)
def T_X12_init_54 (t : List tc) (i0 : Nat) : List tc := ((T_X12_init_53 t i0)).modify i0 (uR 46 (t.length + 24))
theorem ln_X12_init_54 {t : List tc} {i0 : Nat} : (T_X12_init_54 t i0).length = t.length + 25 := by unfold T_X12_init_54; rw [List.length_modify]; exact ln_X12_init_53
theorem sgk_X12_init_54 {t : List tc} {i0 : Nat} {i9 : Nat} {x9 : Nat × Nat × Nat} (h9 : sg t i9 = some x9) : sg (T_X12_init_54 t i0) i9 = some x9 := (sg_mR).trans (sgk_X12_init_53 h9)
theorem rfk_X12_init_54 {t : List tc} {i0 : Nat} {i9 k9 j9 : Nat} (hlt : i9 < t.length) (hne : i9 ≠ i0) (h9 : rf t i9 k9 = some j9) : rf (T_X12_init_54 t i0) i9 k9 = some j9 := (rf_mO (by omega)).trans (rfk_X12_init_53 hlt hne h9)
def T_X12_init_55 (t : List tc) (i0 : Nat) : List tc := (T_X12_init_54 t i0) ++ [ar 13 2000]
theorem ln_X12_init_55 {t : List tc} {i0 : Nat} : (T_X12_init_55 t i0).length = t.length + 26 := by unfold T_X12_init_55; rw [List.length_append, ln_X12_init_54]; rfl
theorem sgk_X12_init_55 {t : List tc} {i0 : Nat} {i9 : Nat} {x9 : Nat × Nat × Nat} (h9 : sg t i9 = some x9) : sg (T_X12_init_55 t i0) i9 = some x9 := sg_app (sgk_X12_init_54 h9)
theorem rfk_X12_init_55 {t : List tc} {i0 : Nat} {i9 k9 j9 : Nat} (hlt : i9 < t.length) (hne : i9 ≠ i0) (h9 : rf t i9 k9 = some j9) : rf (T_X12_init_55 t i0) i9 k9 = some j9 := rf_app (rfk_X12_init_54 hlt hne h9)
def T_X12_init_56 (t : List tc) (i0 : Nat) : List tc := ((T_X12_init_55 t i0)).modify i0 (uR 48 (t.length + 25))
theorem ln_X12_init_56 {t : List tc} {i0 : Nat} : (T_X12_init_56 t i0).length = t.length + 26 := by unfold T_X12_init_56; rw [List.length_modify]; exact ln_X12_init_55
theorem sgk_X12_init_56 {t : List tc} {i0 : Nat} {i9 : Nat} {x9 : Nat × Nat × Nat} (h9 : sg t i9 = some x9) : sg (T_X12_init_56 t i0) i9 = some x9 := (sg_mR).trans (sgk_X12_init_55 h9)
theorem rfk_X12_init_56 {t : List tc} {i0 : Nat} {i9 k9 j9 : Nat} (hlt : i9 < t.length) (hne : i9 ≠ i0) (h9 : rf t i9 k9 = some j9) : rf (T_X12_init_56 t i0) i9 k9 = some j9 := (rf_mO (by omega)).trans (rfk_X12_init_55 hlt hne h9)
def T_X12_init_57 (t : List tc) (i0 : Nat) : List tc := (T_X12_init_56 t i0) ++ [ar 13 4]
theorem ln_X12_init_57 {t : List tc} {i0 : Nat} : (T_X12_init_57 t i0).length = t.length + 27 := by unfold T_X12_init_57; rw [List.length_append, ln_X12_init_56]; rfl
theorem sgk_X12_init_57 {t : List tc} {i0 : Nat} {i9 : Nat} {x9 : Nat × Nat × Nat} (h9 : sg t i9 = some x9) : sg (T_X12_init_57 t i0) i9 = some x9 := sg_app (sgk_X12_init_56 h9)
theorem rfk_X12_init_57 {t : List tc} {i0 : Nat} {i9 k9 j9 : Nat} (hlt : i9 < t.length) (hne : i9 ≠ i0) (h9 : rf t i9 k9 = some j9) : rf (T_X12_init_57 t i0) i9 k9 = some j9 := rf_app (rfk_X12_init_56 hlt hne h9)
def T_X12_init_58 (t : List tc) (i0 : Nat) : List tc := ((T_X12_init_57 t i0)).modify i0 (uR 57 (t.length + 26))
theorem ln_X12_init_58 {t : List tc} {i0 : Nat} : (T_X12_init_58 t i0).length = t.length + 27 := by unfold T_X12_init_58; rw [List.length_modify]; exact ln_X12_init_57
theorem sgk_X12_init_58 {t : List tc} {i0 : Nat} {i9 : Nat} {x9 : Nat × Nat × Nat} (h9 : sg t i9 = some x9) : sg (T_X12_init_58 t i0) i9 = some x9 := (sg_mR).trans (sgk_X12_init_57 h9)
theorem rfk_X12_init_58 {t : List tc} {i0 : Nat} {i9 k9 j9 : Nat} (hlt : i9 < t.length) (hne : i9 ≠ i0) (h9 : rf t i9 k9 = some j9) : rf (T_X12_init_58 t i0) i9 k9 = some j9 := (rf_mO (by omega)).trans (rfk_X12_init_57 hlt hne h9)
abbrev T_X12_init (t : List tc) (i0 : Nat) : List tc := T_X12_init_58 t i0
theorem ln_X12_init {t : List tc} {i0 : Nat} : (T_X12_init t i0).length = t.length + 27 := ln_X12_init_58
theorem sgk_X12_init {t : List tc} {i0 : Nat} {i9 : Nat} {x9 : Nat × Nat × Nat} (h9 : sg t i9 = some x9) : sg (T_X12_init t i0) i9 = some x9 := sgk_X12_init_58 h9
theorem rfk_X12_init {t : List tc} {i0 : Nat} {i9 k9 j9 : Nat} (hlt : i9 < t.length) (hne : i9 ≠ i0) (h9 : rf t i9 k9 = some j9) : rf (T_X12_init t i0) i9 k9 = some j9 := rfk_X12_init_58 hlt hne h9
set_option maxHeartbeats 4000000 in
set_option maxRecDepth 100000 in
theorem i_X12_init {l : Launch} {D : va_G} {cy : Nat → ClassId} {d : Nat} {t : List tc} {ad : List Nat} {h : hp} (hl : l.stackTraces = false) (hd : 1 ≤ d) (L : Lay t ad h) {i0 a0 : Nat} (A0 : ad[i0]? = some a0) (G0 : sg t i0 = some (12, 60, 60)) : Cal l D cy m_X12_init d 27 546553 [.ref a0] h (inP (T_X12_init t i0) ad) (fun _ _ => False) := by
  refine Cal.of (by decide +kernel) (Nat.le_of_ble_eq_true rfl) hl ?_
  have p : Pre ad ad := Pre.rf
  have hl0 := L.lt A0
  refine a_aload_n 0 0 (μ := m_X12_init) (pc := 0) dX12_init_0 rfl rfl ?_
  refine a_objI (μ := m_X12_init) (pc := 1) dX12_init_1 oi_X12_11 oi_i oi_c (Nat.le_of_ble_eq_true rfl) (by omega) ?_
  refine a_aload_n 0 0 (μ := m_X12_init) (pc := 4) dX12_init_4 rfl rfl ?_
  refine a_iconst (v := 3) (μ := m_X12_init) (pc := 5) dX12_init_5 (by decide) ?_
  refine t_newI t.length L rfl 0 3 (ty := .int) (rc' := 26) (rs' := 546550) (μ := m_X12_init) (pc := 6) dX12_init_6 rfl (by decide) ac_0 (by decide) (by decide) (by decide) (by decide) (by decide) (fun q1 ad1 h1 p1 A_2 L1 => ?_)
  replace L : Lay (T_X12_init_1 t i0) ad1 h1 := L1
  replace p := Pre.tr p p1
  have A_3 := p1 _ _ A0
  have G_4 : sg (T_X12_init_1 t i0) i0 = some (12, 60, 60) := sg_app G0
  clear L1 p1
  refine t_putF L (i := i0) (j := t.length) (μ := m_X12_init) (pc := 8) dX12_init_8 fl_X12_7 pf_X12_7 flF_12_1 rfl ir_12_1 id_12_1 rfl rfl G_4 A_3 (by decide) A_2 (fun h1 L1 => ?_)
  replace L : Lay (T_X12_init_2 t i0) _ h1 := L1
  have G_5 : sg (T_X12_init_2 t i0) i0 = some (12, 60, 60) := sg_mR.trans G_4
  have R_6 : rf (T_X12_init_2 t i0) i0 1 = some t.length := rf_mS G_4 (by decide)
  clear L1
  refine a_aload_n 0 0 (μ := m_X12_init) (pc := 11) dX12_init_11 rfl rfl ?_
  refine a_iconst (v := (-1)) (μ := m_X12_init) (pc := 12) dX12_init_12 (by decide) ?_
  refine t_putI L (i := i0) (μ := m_X12_init) (pc := 13) dX12_init_13 fl_X12_17 flw_12_8 (by decide) (by decide) ir_12_8 G_5 A_3 (by decide) (fun h1 L1 => ?_)
  replace L : Lay (T_X12_init_3 t i0) _ h1 := L1
  have G_7 : sg (T_X12_init_3 t i0) i0 = some (12, 60, 60) := sg_mI.trans G_5
  clear L1
  refine a_aload_n 0 0 (μ := m_X12_init) (pc := 16) dX12_init_16 rfl rfl ?_
  refine a_sipush (v := 500) (μ := m_X12_init) (pc := 17) dX12_init_17 (by decide) ?_
  refine t_newI (t.length + 1) L ln_X12_init_3 0 500 (ty := .int) (rc' := 25) (rs' := 546050) (μ := m_X12_init) (pc := 20) dX12_init_20 rfl (by decide) ac_0 (by decide) (by decide) (by decide) (by decide) (by decide) (fun q8 ad1 h1 p1 A_9 L1 => ?_)
  replace L : Lay (T_X12_init_4 t i0) ad1 h1 := L1
  replace p := Pre.tr p p1
  have A_10 := p1 _ _ A_3
  have G_11 : sg (T_X12_init_4 t i0) i0 = some (12, 60, 60) := sg_app G_7
  clear L1 p1
  refine t_putF L (i := i0) (j := (t.length + 1)) (μ := m_X12_init) (pc := 22) dX12_init_22 fl_X12_20 pf_X12_20 flF_12_9 rfl ir_12_9 id_12_9 rfl rfl G_11 A_10 (by decide) A_9 (fun h1 L1 => ?_)
  replace L : Lay (T_X12_init_5 t i0) _ h1 := L1
  have G_12 : sg (T_X12_init_5 t i0) i0 = some (12, 60, 60) := sg_mR.trans G_11
  have R_13 : rf (T_X12_init_5 t i0) i0 9 = some (t.length + 1) := rf_mS G_11 (by decide)
  clear L1
  refine a_aload_n 0 0 (μ := m_X12_init) (pc := 25) dX12_init_25 rfl rfl ?_
  refine a_bipush (v := 8) (μ := m_X12_init) (pc := 26) dX12_init_26 (by decide) ?_
  refine t_putI L (i := i0) (μ := m_X12_init) (pc := 28) dX12_init_28 fl_X12_23 flw_12_10 (by decide) (by decide) ir_12_10 G_12 A_10 (by decide) (fun h1 L1 => ?_)
  replace L : Lay (T_X12_init_6 t i0) _ h1 := L1
  have G_14 : sg (T_X12_init_6 t i0) i0 = some (12, 60, 60) := sg_mI.trans G_12
  clear L1
  refine a_aload_n 0 0 (μ := m_X12_init) (pc := 31) dX12_init_31 rfl rfl ?_
  refine a_iconst (v := 1) (μ := m_X12_init) (pc := 32) dX12_init_32 (by decide) ?_
  refine t_putI L (i := i0) (μ := m_X12_init) (pc := 33) dX12_init_33 fl_X12_26 flw_12_11 (by decide) (by decide) ir_12_11 G_14 A_10 (by decide) (fun h1 L1 => ?_)
  replace L : Lay (T_X12_init_7 t i0) _ h1 := L1
  have G_15 : sg (T_X12_init_7 t i0) i0 = some (12, 60, 60) := sg_mI.trans G_14
  clear L1
  refine a_aload_n 0 0 (μ := m_X12_init) (pc := 36) dX12_init_36 rfl rfl ?_
  refine a_iconst (v := 1) (μ := m_X12_init) (pc := 37) dX12_init_37 (by decide) ?_
  refine t_putI L (i := i0) (μ := m_X12_init) (pc := 38) dX12_init_38 fl_X12_29 flw_12_12 (by decide) (by decide) ir_12_12 G_15 A_10 (by decide) (fun h1 L1 => ?_)
  replace L : Lay (T_X12_init_8 t i0) _ h1 := L1
  have G_16 : sg (T_X12_init_8 t i0) i0 = some (12, 60, 60) := sg_mI.trans G_15
  clear L1
  refine a_aload_n 0 0 (μ := m_X12_init) (pc := 41) dX12_init_41 rfl rfl ?_
  refine a_sipush (v := 8000) (μ := m_X12_init) (pc := 42) dX12_init_42 (by decide) ?_
  refine t_newI (t.length + 2) L ln_X12_init_8 0 8000 (ty := .int) (rc' := 24) (rs' := 538050) (μ := m_X12_init) (pc := 45) dX12_init_45 rfl (by decide) ac_0 (by decide) (by decide) (by decide) (by decide) (by decide) (fun q17 ad1 h1 p1 A_18 L1 => ?_)
  replace L : Lay (T_X12_init_9 t i0) ad1 h1 := L1
  replace p := Pre.tr p p1
  have A_19 := p1 _ _ A_10
  have G_20 : sg (T_X12_init_9 t i0) i0 = some (12, 60, 60) := sg_app G_16
  clear L1 p1
  refine t_putF L (i := i0) (j := (t.length + 2)) (μ := m_X12_init) (pc := 47) dX12_init_47 fl_X12_33 pf_X12_33 flF_12_13 rfl ir_12_13 id_12_13 rfl rfl G_20 A_19 (by decide) A_18 (fun h1 L1 => ?_)
  replace L : Lay (T_X12_init_10 t i0) _ h1 := L1
  have G_21 : sg (T_X12_init_10 t i0) i0 = some (12, 60, 60) := sg_mR.trans G_20
  have R_22 : rf (T_X12_init_10 t i0) i0 13 = some (t.length + 2) := rf_mS G_20 (by decide)
  clear L1
  refine a_aload_n 0 0 (μ := m_X12_init) (pc := 50) dX12_init_50 rfl rfl ?_
  refine a_iconst (v := 4) (μ := m_X12_init) (pc := 51) dX12_init_51 (by decide) ?_
  refine t_newI (t.length + 3) L ln_X12_init_10 0 4 (ty := .int) (rc' := 23) (rs' := 538046) (μ := m_X12_init) (pc := 52) dX12_init_52 rfl (by decide) ac_0 (by decide) (by decide) (by decide) (by decide) (by decide) (fun q23 ad1 h1 p1 A_24 L1 => ?_)
  replace L : Lay (T_X12_init_11 t i0) ad1 h1 := L1
  replace p := Pre.tr p p1
  have A_25 := p1 _ _ A_19
  have G_26 : sg (T_X12_init_11 t i0) i0 = some (12, 60, 60) := sg_app G_21
  clear L1 p1
  refine t_putF L (i := i0) (j := (t.length + 3)) (μ := m_X12_init) (pc := 54) dX12_init_54 fl_X12_36 pf_X12_36 flF_12_14 rfl ir_12_14 id_12_14 rfl rfl G_26 A_25 (by decide) A_24 (fun h1 L1 => ?_)
  replace L : Lay (T_X12_init_12 t i0) _ h1 := L1
  have G_27 : sg (T_X12_init_12 t i0) i0 = some (12, 60, 60) := sg_mR.trans G_26
  have R_28 : rf (T_X12_init_12 t i0) i0 14 = some (t.length + 3) := rf_mS G_26 (by decide)
  clear L1
  refine a_aload_n 0 0 (μ := m_X12_init) (pc := 57) dX12_init_57 rfl rfl ?_
  refine a_sipush (v := 4000) (μ := m_X12_init) (pc := 58) dX12_init_58 (by decide) ?_
  refine t_newI (t.length + 4) L ln_X12_init_12 0 4000 (ty := .int) (rc' := 22) (rs' := 534046) (μ := m_X12_init) (pc := 61) dX12_init_61 rfl (by decide) ac_0 (by decide) (by decide) (by decide) (by decide) (by decide) (fun q29 ad1 h1 p1 A_30 L1 => ?_)
  replace L : Lay (T_X12_init_13 t i0) ad1 h1 := L1
  replace p := Pre.tr p p1
  have A_31 := p1 _ _ A_25
  have G_32 : sg (T_X12_init_13 t i0) i0 = some (12, 60, 60) := sg_app G_27
  clear L1 p1
  refine t_putF L (i := i0) (j := (t.length + 4)) (μ := m_X12_init) (pc := 63) dX12_init_63 fl_X12_39 pf_X12_39 flF_12_15 rfl ir_12_15 id_12_15 rfl rfl G_32 A_31 (by decide) A_30 (fun h1 L1 => ?_)
  replace L : Lay (T_X12_init_14 t i0) _ h1 := L1
  have G_33 : sg (T_X12_init_14 t i0) i0 = some (12, 60, 60) := sg_mR.trans G_32
  have R_34 : rf (T_X12_init_14 t i0) i0 15 = some (t.length + 4) := rf_mS G_32 (by decide)
  clear L1
  refine a_aload_n 0 0 (μ := m_X12_init) (pc := 66) dX12_init_66 rfl rfl ?_
  refine a_sipush (v := 4000) (μ := m_X12_init) (pc := 67) dX12_init_67 (by decide) ?_
  refine t_newI (t.length + 5) L ln_X12_init_14 0 4000 (ty := .int) (rc' := 21) (rs' := 530046) (μ := m_X12_init) (pc := 70) dX12_init_70 rfl (by decide) ac_0 (by decide) (by decide) (by decide) (by decide) (by decide) (fun q35 ad1 h1 p1 A_36 L1 => ?_)
  replace L : Lay (T_X12_init_15 t i0) ad1 h1 := L1
  replace p := Pre.tr p p1
  have A_37 := p1 _ _ A_31
  have G_38 : sg (T_X12_init_15 t i0) i0 = some (12, 60, 60) := sg_app G_33
  clear L1 p1
  refine t_putF L (i := i0) (j := (t.length + 5)) (μ := m_X12_init) (pc := 72) dX12_init_72 fl_X12_42 pf_X12_42 flF_12_16 rfl ir_12_16 id_12_16 rfl rfl G_38 A_37 (by decide) A_36 (fun h1 L1 => ?_)
  replace L : Lay (T_X12_init_16 t i0) _ h1 := L1
  have G_39 : sg (T_X12_init_16 t i0) i0 = some (12, 60, 60) := sg_mR.trans G_38
  have R_40 : rf (T_X12_init_16 t i0) i0 16 = some (t.length + 5) := rf_mS G_38 (by decide)
  clear L1
  refine a_aload_n 0 0 (μ := m_X12_init) (pc := 75) dX12_init_75 rfl rfl ?_
  refine a_iconst (v := 4) (μ := m_X12_init) (pc := 76) dX12_init_76 (by decide) ?_
  refine t_newI (t.length + 6) L ln_X12_init_16 0 4 (ty := .int) (rc' := 20) (rs' := 530042) (μ := m_X12_init) (pc := 77) dX12_init_77 rfl (by decide) ac_0 (by decide) (by decide) (by decide) (by decide) (by decide) (fun q41 ad1 h1 p1 A_42 L1 => ?_)
  replace L : Lay (T_X12_init_17 t i0) ad1 h1 := L1
  replace p := Pre.tr p p1
  have A_43 := p1 _ _ A_37
  have G_44 : sg (T_X12_init_17 t i0) i0 = some (12, 60, 60) := sg_app G_39
  clear L1 p1
  refine t_putF L (i := i0) (j := (t.length + 6)) (μ := m_X12_init) (pc := 79) dX12_init_79 fl_X12_45 pf_X12_45 flF_12_17 rfl ir_12_17 id_12_17 rfl rfl G_44 A_43 (by decide) A_42 (fun h1 L1 => ?_)
  replace L : Lay (T_X12_init_18 t i0) _ h1 := L1
  have G_45 : sg (T_X12_init_18 t i0) i0 = some (12, 60, 60) := sg_mR.trans G_44
  have R_46 : rf (T_X12_init_18 t i0) i0 17 = some (t.length + 6) := rf_mS G_44 (by decide)
  clear L1
  refine a_aload_n 0 0 (μ := m_X12_init) (pc := 82) dX12_init_82 rfl rfl ?_
  refine a_sipush (v := 24000) (μ := m_X12_init) (pc := 83) dX12_init_83 (by decide) ?_
  refine t_newI (t.length + 7) L ln_X12_init_18 0 24000 (ty := .int) (rc' := 19) (rs' := 506042) (μ := m_X12_init) (pc := 86) dX12_init_86 rfl (by decide) ac_0 (by decide) (by decide) (by decide) (by decide) (by decide) (fun q47 ad1 h1 p1 A_48 L1 => ?_)
  replace L : Lay (T_X12_init_19 t i0) ad1 h1 := L1
  replace p := Pre.tr p p1
  have A_49 := p1 _ _ A_43
  have G_50 : sg (T_X12_init_19 t i0) i0 = some (12, 60, 60) := sg_app G_45
  clear L1 p1
  refine t_putF L (i := i0) (j := (t.length + 7)) (μ := m_X12_init) (pc := 88) dX12_init_88 fl_X12_48 pf_X12_48 flF_12_19 rfl ir_12_19 id_12_19 rfl rfl G_50 A_49 (by decide) A_48 (fun h1 L1 => ?_)
  replace L : Lay (T_X12_init_20 t i0) _ h1 := L1
  have G_51 : sg (T_X12_init_20 t i0) i0 = some (12, 60, 60) := sg_mR.trans G_50
  have R_52 : rf (T_X12_init_20 t i0) i0 19 = some (t.length + 7) := rf_mS G_50 (by decide)
  clear L1
  refine a_aload_n 0 0 (μ := m_X12_init) (pc := 91) dX12_init_91 rfl rfl ?_
  refine a_bipush (v := 12) (μ := m_X12_init) (pc := 92) dX12_init_92 (by decide) ?_
  refine t_newI (t.length + 8) L ln_X12_init_20 0 12 (ty := .int) (rc' := 18) (rs' := 506030) (μ := m_X12_init) (pc := 94) dX12_init_94 rfl (by decide) ac_0 (by decide) (by decide) (by decide) (by decide) (by decide) (fun q53 ad1 h1 p1 A_54 L1 => ?_)
  replace L : Lay (T_X12_init_21 t i0) ad1 h1 := L1
  replace p := Pre.tr p p1
  have A_55 := p1 _ _ A_49
  have G_56 : sg (T_X12_init_21 t i0) i0 = some (12, 60, 60) := sg_app G_51
  clear L1 p1
  refine t_putF L (i := i0) (j := (t.length + 8)) (μ := m_X12_init) (pc := 96) dX12_init_96 fl_X12_51 pf_X12_51 flF_12_20 rfl ir_12_20 id_12_20 rfl rfl G_56 A_55 (by decide) A_54 (fun h1 L1 => ?_)
  replace L : Lay (T_X12_init_22 t i0) _ h1 := L1
  have G_57 : sg (T_X12_init_22 t i0) i0 = some (12, 60, 60) := sg_mR.trans G_56
  have R_58 : rf (T_X12_init_22 t i0) i0 20 = some (t.length + 8) := rf_mS G_56 (by decide)
  clear L1
  refine a_aload_n 0 0 (μ := m_X12_init) (pc := 99) dX12_init_99 rfl rfl ?_
  refine a_sipush (v := 12000) (μ := m_X12_init) (pc := 100) dX12_init_100 (by decide) ?_
  refine t_newI (t.length + 9) L ln_X12_init_22 0 12000 (ty := .int) (rc' := 17) (rs' := 494030) (μ := m_X12_init) (pc := 103) dX12_init_103 rfl (by decide) ac_0 (by decide) (by decide) (by decide) (by decide) (by decide) (fun q59 ad1 h1 p1 A_60 L1 => ?_)
  replace L : Lay (T_X12_init_23 t i0) ad1 h1 := L1
  replace p := Pre.tr p p1
  have A_61 := p1 _ _ A_55
  have G_62 : sg (T_X12_init_23 t i0) i0 = some (12, 60, 60) := sg_app G_57
  clear L1 p1
  refine t_putF L (i := i0) (j := (t.length + 9)) (μ := m_X12_init) (pc := 105) dX12_init_105 fl_X12_54 pf_X12_54 flF_12_21 rfl ir_12_21 id_12_21 rfl rfl G_62 A_61 (by decide) A_60 (fun h1 L1 => ?_)
  replace L : Lay (T_X12_init_24 t i0) _ h1 := L1
  have G_63 : sg (T_X12_init_24 t i0) i0 = some (12, 60, 60) := sg_mR.trans G_62
  have R_64 : rf (T_X12_init_24 t i0) i0 21 = some (t.length + 9) := rf_mS G_62 (by decide)
  clear L1
  refine a_aload_n 0 0 (μ := m_X12_init) (pc := 108) dX12_init_108 rfl rfl ?_
  refine a_sipush (v := 12000) (μ := m_X12_init) (pc := 109) dX12_init_109 (by decide) ?_
  refine t_newI (t.length + 10) L ln_X12_init_24 0 12000 (ty := .int) (rc' := 16) (rs' := 482030) (μ := m_X12_init) (pc := 112) dX12_init_112 rfl (by decide) ac_0 (by decide) (by decide) (by decide) (by decide) (by decide) (fun q65 ad1 h1 p1 A_66 L1 => ?_)
  replace L : Lay (T_X12_init_25 t i0) ad1 h1 := L1
  replace p := Pre.tr p p1
  have A_67 := p1 _ _ A_61
  have G_68 : sg (T_X12_init_25 t i0) i0 = some (12, 60, 60) := sg_app G_63
  clear L1 p1
  refine t_putF L (i := i0) (j := (t.length + 10)) (μ := m_X12_init) (pc := 114) dX12_init_114 fl_X12_57 pf_X12_57 flF_12_22 rfl ir_12_22 id_12_22 rfl rfl G_68 A_67 (by decide) A_66 (fun h1 L1 => ?_)
  replace L : Lay (T_X12_init_26 t i0) _ h1 := L1
  have G_69 : sg (T_X12_init_26 t i0) i0 = some (12, 60, 60) := sg_mR.trans G_68
  have R_70 : rf (T_X12_init_26 t i0) i0 22 = some (t.length + 10) := rf_mS G_68 (by decide)
  clear L1
  refine a_aload_n 0 0 (μ := m_X12_init) (pc := 117) dX12_init_117 rfl rfl ?_
  refine a_bipush (v := 12) (μ := m_X12_init) (pc := 118) dX12_init_118 (by decide) ?_
  refine t_newI (t.length + 11) L ln_X12_init_26 0 12 (ty := .int) (rc' := 15) (rs' := 482018) (μ := m_X12_init) (pc := 120) dX12_init_120 rfl (by decide) ac_0 (by decide) (by decide) (by decide) (by decide) (by decide) (fun q71 ad1 h1 p1 A_72 L1 => ?_)
  replace L : Lay (T_X12_init_27 t i0) ad1 h1 := L1
  replace p := Pre.tr p p1
  have A_73 := p1 _ _ A_67
  have G_74 : sg (T_X12_init_27 t i0) i0 = some (12, 60, 60) := sg_app G_69
  clear L1 p1
  refine t_putF L (i := i0) (j := (t.length + 11)) (μ := m_X12_init) (pc := 122) dX12_init_122 fl_X12_60 pf_X12_60 flF_12_23 rfl ir_12_23 id_12_23 rfl rfl G_74 A_73 (by decide) A_72 (fun h1 L1 => ?_)
  replace L : Lay (T_X12_init_28 t i0) _ h1 := L1
  have G_75 : sg (T_X12_init_28 t i0) i0 = some (12, 60, 60) := sg_mR.trans G_74
  have R_76 : rf (T_X12_init_28 t i0) i0 23 = some (t.length + 11) := rf_mS G_74 (by decide)
  clear L1
  refine a_aload_n 0 0 (μ := m_X12_init) (pc := 125) dX12_init_125 rfl rfl ?_
  refine a_iconst (v := 4) (μ := m_X12_init) (pc := 126) dX12_init_126 (by decide) ?_
  refine t_newI (t.length + 12) L ln_X12_init_28 0 4 (ty := .int) (rc' := 14) (rs' := 482014) (μ := m_X12_init) (pc := 127) dX12_init_127 rfl (by decide) ac_0 (by decide) (by decide) (by decide) (by decide) (by decide) (fun q77 ad1 h1 p1 A_78 L1 => ?_)
  replace L : Lay (T_X12_init_29 t i0) ad1 h1 := L1
  replace p := Pre.tr p p1
  have A_79 := p1 _ _ A_73
  have G_80 : sg (T_X12_init_29 t i0) i0 = some (12, 60, 60) := sg_app G_75
  clear L1 p1
  refine t_putF L (i := i0) (j := (t.length + 12)) (μ := m_X12_init) (pc := 129) dX12_init_129 fl_X12_63 pf_X12_63 flF_12_28 rfl ir_12_28 id_12_28 rfl rfl G_80 A_79 (by decide) A_78 (fun h1 L1 => ?_)
  replace L : Lay (T_X12_init_30 t i0) _ h1 := L1
  have G_81 : sg (T_X12_init_30 t i0) i0 = some (12, 60, 60) := sg_mR.trans G_80
  have R_82 : rf (T_X12_init_30 t i0) i0 28 = some (t.length + 12) := rf_mS G_80 (by decide)
  clear L1
  refine a_aload_n 0 0 (μ := m_X12_init) (pc := 132) dX12_init_132 rfl rfl ?_
  refine a_sipush (v := 240) (μ := m_X12_init) (pc := 133) dX12_init_133 (by decide) ?_
  refine t_newI (t.length + 13) L ln_X12_init_30 0 240 (ty := .int) (rc' := 13) (rs' := 481774) (μ := m_X12_init) (pc := 136) dX12_init_136 rfl (by decide) ac_0 (by decide) (by decide) (by decide) (by decide) (by decide) (fun q83 ad1 h1 p1 A_84 L1 => ?_)
  replace L : Lay (T_X12_init_31 t i0) ad1 h1 := L1
  replace p := Pre.tr p p1
  have A_85 := p1 _ _ A_79
  have G_86 : sg (T_X12_init_31 t i0) i0 = some (12, 60, 60) := sg_app G_81
  clear L1 p1
  refine t_putF L (i := i0) (j := (t.length + 13)) (μ := m_X12_init) (pc := 138) dX12_init_138 fl_X12_66 pf_X12_66 flF_12_29 rfl ir_12_29 id_12_29 rfl rfl G_86 A_85 (by decide) A_84 (fun h1 L1 => ?_)
  replace L : Lay (T_X12_init_32 t i0) _ h1 := L1
  have G_87 : sg (T_X12_init_32 t i0) i0 = some (12, 60, 60) := sg_mR.trans G_86
  have R_88 : rf (T_X12_init_32 t i0) i0 29 = some (t.length + 13) := rf_mS G_86 (by decide)
  clear L1
  refine a_aload_n 0 0 (μ := m_X12_init) (pc := 141) dX12_init_141 rfl rfl ?_
  refine a_sipush (v := 240) (μ := m_X12_init) (pc := 142) dX12_init_142 (by decide) ?_
  refine t_newI (t.length + 14) L ln_X12_init_32 0 240 (ty := .int) (rc' := 12) (rs' := 481534) (μ := m_X12_init) (pc := 145) dX12_init_145 rfl (by decide) ac_0 (by decide) (by decide) (by decide) (by decide) (by decide) (fun q89 ad1 h1 p1 A_90 L1 => ?_)
  replace L : Lay (T_X12_init_33 t i0) ad1 h1 := L1
  replace p := Pre.tr p p1
  have A_91 := p1 _ _ A_85
  have G_92 : sg (T_X12_init_33 t i0) i0 = some (12, 60, 60) := sg_app G_87
  clear L1 p1
  refine t_putF L (i := i0) (j := (t.length + 14)) (μ := m_X12_init) (pc := 147) dX12_init_147 fl_X12_69 pf_X12_69 flF_12_30 rfl ir_12_30 id_12_30 rfl rfl G_92 A_91 (by decide) A_90 (fun h1 L1 => ?_)
  replace L : Lay (T_X12_init_34 t i0) _ h1 := L1
  have G_93 : sg (T_X12_init_34 t i0) i0 = some (12, 60, 60) := sg_mR.trans G_92
  have R_94 : rf (T_X12_init_34 t i0) i0 30 = some (t.length + 14) := rf_mS G_92 (by decide)
  clear L1
  refine a_aload_n 0 0 (μ := m_X12_init) (pc := 150) dX12_init_150 rfl rfl ?_
  refine a_sipush (v := 240) (μ := m_X12_init) (pc := 151) dX12_init_151 (by decide) ?_
  refine t_newI (t.length + 15) L ln_X12_init_34 0 240 (ty := .int) (rc' := 11) (rs' := 481294) (μ := m_X12_init) (pc := 154) dX12_init_154 rfl (by decide) ac_0 (by decide) (by decide) (by decide) (by decide) (by decide) (fun q95 ad1 h1 p1 A_96 L1 => ?_)
  replace L : Lay (T_X12_init_35 t i0) ad1 h1 := L1
  replace p := Pre.tr p p1
  have A_97 := p1 _ _ A_91
  have G_98 : sg (T_X12_init_35 t i0) i0 = some (12, 60, 60) := sg_app G_93
  clear L1 p1
  refine t_putF L (i := i0) (j := (t.length + 15)) (μ := m_X12_init) (pc := 156) dX12_init_156 fl_X12_72 pf_X12_72 flF_12_31 rfl ir_12_31 id_12_31 rfl rfl G_98 A_97 (by decide) A_96 (fun h1 L1 => ?_)
  replace L : Lay (T_X12_init_36 t i0) _ h1 := L1
  have G_99 : sg (T_X12_init_36 t i0) i0 = some (12, 60, 60) := sg_mR.trans G_98
  have R_100 : rf (T_X12_init_36 t i0) i0 31 = some (t.length + 15) := rf_mS G_98 (by decide)
  clear L1
  refine a_aload_n 0 0 (μ := m_X12_init) (pc := 159) dX12_init_159 rfl rfl ?_
  refine a_sipush (v := 2000) (μ := m_X12_init) (pc := 160) dX12_init_160 (by decide) ?_
  refine t_newI (t.length + 16) L ln_X12_init_36 0 2000 (ty := .int) (rc' := 10) (rs' := 479294) (μ := m_X12_init) (pc := 163) dX12_init_163 rfl (by decide) ac_0 (by decide) (by decide) (by decide) (by decide) (by decide) (fun q101 ad1 h1 p1 A_102 L1 => ?_)
  replace L : Lay (T_X12_init_37 t i0) ad1 h1 := L1
  replace p := Pre.tr p p1
  have A_103 := p1 _ _ A_97
  have G_104 : sg (T_X12_init_37 t i0) i0 = some (12, 60, 60) := sg_app G_99
  clear L1 p1
  refine t_putF L (i := i0) (j := (t.length + 16)) (μ := m_X12_init) (pc := 165) dX12_init_165 fl_X12_75 pf_X12_75 flF_12_32 rfl ir_12_32 id_12_32 rfl rfl G_104 A_103 (by decide) A_102 (fun h1 L1 => ?_)
  replace L : Lay (T_X12_init_38 t i0) _ h1 := L1
  have G_105 : sg (T_X12_init_38 t i0) i0 = some (12, 60, 60) := sg_mR.trans G_104
  have R_106 : rf (T_X12_init_38 t i0) i0 32 = some (t.length + 16) := rf_mS G_104 (by decide)
  clear L1
  refine a_aload_n 0 0 (μ := m_X12_init) (pc := 168) dX12_init_168 rfl rfl ?_
  refine a_sipush (v := 2000) (μ := m_X12_init) (pc := 169) dX12_init_169 (by decide) ?_
  refine t_newI (t.length + 17) L ln_X12_init_38 0 2000 (ty := .int) (rc' := 9) (rs' := 477294) (μ := m_X12_init) (pc := 172) dX12_init_172 rfl (by decide) ac_0 (by decide) (by decide) (by decide) (by decide) (by decide) (fun q107 ad1 h1 p1 A_108 L1 => ?_)
  replace L : Lay (T_X12_init_39 t i0) ad1 h1 := L1
  replace p := Pre.tr p p1
  have A_109 := p1 _ _ A_103
  have G_110 : sg (T_X12_init_39 t i0) i0 = some (12, 60, 60) := sg_app G_105
  clear L1 p1
  refine t_putF L (i := i0) (j := (t.length + 17)) (μ := m_X12_init) (pc := 174) dX12_init_174 fl_X12_78 pf_X12_78 flF_12_33 rfl ir_12_33 id_12_33 rfl rfl G_110 A_109 (by decide) A_108 (fun h1 L1 => ?_)
  replace L : Lay (T_X12_init_40 t i0) _ h1 := L1
  have G_111 : sg (T_X12_init_40 t i0) i0 = some (12, 60, 60) := sg_mR.trans G_110
  have R_112 : rf (T_X12_init_40 t i0) i0 33 = some (t.length + 17) := rf_mS G_110 (by decide)
  clear L1
  refine a_aload_n 0 0 (μ := m_X12_init) (pc := 177) dX12_init_177 rfl rfl ?_
  refine a_sipush (v := 500) (μ := m_X12_init) (pc := 178) dX12_init_178 (by decide) ?_
  refine t_newI (t.length + 18) L ln_X12_init_40 0 500 (ty := .int) (rc' := 8) (rs' := 476794) (μ := m_X12_init) (pc := 181) dX12_init_181 rfl (by decide) ac_0 (by decide) (by decide) (by decide) (by decide) (by decide) (fun q113 ad1 h1 p1 A_114 L1 => ?_)
  replace L : Lay (T_X12_init_41 t i0) ad1 h1 := L1
  replace p := Pre.tr p p1
  have A_115 := p1 _ _ A_109
  have G_116 : sg (T_X12_init_41 t i0) i0 = some (12, 60, 60) := sg_app G_111
  clear L1 p1
  refine t_putF L (i := i0) (j := (t.length + 18)) (μ := m_X12_init) (pc := 183) dX12_init_183 fl_X12_81 pf_X12_81 flF_12_34 rfl ir_12_34 id_12_34 rfl rfl G_116 A_115 (by decide) A_114 (fun h1 L1 => ?_)
  replace L : Lay (T_X12_init_42 t i0) _ h1 := L1
  have G_117 : sg (T_X12_init_42 t i0) i0 = some (12, 60, 60) := sg_mR.trans G_116
  have R_118 : rf (T_X12_init_42 t i0) i0 34 = some (t.length + 18) := rf_mS G_116 (by decide)
  clear L1
  refine a_aload_n 0 0 (μ := m_X12_init) (pc := 186) dX12_init_186 rfl rfl ?_
  refine a_sipush (v := 14000) (μ := m_X12_init) (pc := 187) dX12_init_187 (by decide) ?_
  refine t_newI (t.length + 19) L ln_X12_init_42 0 14000 (ty := .int) (rc' := 7) (rs' := 462794) (μ := m_X12_init) (pc := 190) dX12_init_190 rfl (by decide) ac_0 (by decide) (by decide) (by decide) (by decide) (by decide) (fun q119 ad1 h1 p1 A_120 L1 => ?_)
  replace L : Lay (T_X12_init_43 t i0) ad1 h1 := L1
  replace p := Pre.tr p p1
  have A_121 := p1 _ _ A_115
  have G_122 : sg (T_X12_init_43 t i0) i0 = some (12, 60, 60) := sg_app G_117
  clear L1 p1
  refine t_putF L (i := i0) (j := (t.length + 19)) (μ := m_X12_init) (pc := 192) dX12_init_192 fl_X12_84 pf_X12_84 flF_12_35 rfl ir_12_35 id_12_35 rfl rfl G_122 A_121 (by decide) A_120 (fun h1 L1 => ?_)
  replace L : Lay (T_X12_init_44 t i0) _ h1 := L1
  have G_123 : sg (T_X12_init_44 t i0) i0 = some (12, 60, 60) := sg_mR.trans G_122
  have R_124 : rf (T_X12_init_44 t i0) i0 35 = some (t.length + 19) := rf_mS G_122 (by decide)
  clear L1
  refine a_aload_n 0 0 (μ := m_X12_init) (pc := 195) dX12_init_195 rfl rfl ?_
  refine a_bipush (v := 16) (μ := m_X12_init) (pc := 196) dX12_init_196 (by decide) ?_
  refine t_newI (t.length + 20) L ln_X12_init_44 0 16 (ty := .int) (rc' := 6) (rs' := 462778) (μ := m_X12_init) (pc := 198) dX12_init_198 rfl (by decide) ac_0 (by decide) (by decide) (by decide) (by decide) (by decide) (fun q125 ad1 h1 p1 A_126 L1 => ?_)
  replace L : Lay (T_X12_init_45 t i0) ad1 h1 := L1
  replace p := Pre.tr p p1
  have A_127 := p1 _ _ A_121
  have G_128 : sg (T_X12_init_45 t i0) i0 = some (12, 60, 60) := sg_app G_123
  clear L1 p1
  refine t_putF L (i := i0) (j := (t.length + 20)) (μ := m_X12_init) (pc := 200) dX12_init_200 fl_X12_87 pf_X12_87 flF_12_41 rfl ir_12_41 id_12_41 rfl rfl G_128 A_127 (by decide) A_126 (fun h1 L1 => ?_)
  replace L : Lay (T_X12_init_46 t i0) _ h1 := L1
  have G_129 : sg (T_X12_init_46 t i0) i0 = some (12, 60, 60) := sg_mR.trans G_128
  have R_130 : rf (T_X12_init_46 t i0) i0 41 = some (t.length + 20) := rf_mS G_128 (by decide)
  clear L1
  refine a_aload_n 0 0 (μ := m_X12_init) (pc := 203) dX12_init_203 rfl rfl ?_
  refine a_bipush (v := 16) (μ := m_X12_init) (pc := 204) dX12_init_204 (by decide) ?_
  refine t_newI (t.length + 21) L ln_X12_init_46 0 16 (ty := .int) (rc' := 5) (rs' := 462762) (μ := m_X12_init) (pc := 206) dX12_init_206 rfl (by decide) ac_0 (by decide) (by decide) (by decide) (by decide) (by decide) (fun q131 ad1 h1 p1 A_132 L1 => ?_)
  replace L : Lay (T_X12_init_47 t i0) ad1 h1 := L1
  replace p := Pre.tr p p1
  have A_133 := p1 _ _ A_127
  have G_134 : sg (T_X12_init_47 t i0) i0 = some (12, 60, 60) := sg_app G_129
  clear L1 p1
  refine t_putF L (i := i0) (j := (t.length + 21)) (μ := m_X12_init) (pc := 208) dX12_init_208 fl_X12_90 pf_X12_90 flF_12_42 rfl ir_12_42 id_12_42 rfl rfl G_134 A_133 (by decide) A_132 (fun h1 L1 => ?_)
  replace L : Lay (T_X12_init_48 t i0) _ h1 := L1
  have G_135 : sg (T_X12_init_48 t i0) i0 = some (12, 60, 60) := sg_mR.trans G_134
  have R_136 : rf (T_X12_init_48 t i0) i0 42 = some (t.length + 21) := rf_mS G_134 (by decide)
  clear L1
  refine a_aload_n 0 0 (μ := m_X12_init) (pc := 211) dX12_init_211 rfl rfl ?_
  refine a_ldc (v := 458752) (μ := m_X12_init) (pc := 212) dX12_init_212 cn_X12_93 ?_
  refine t_newI (t.length + 22) L ln_X12_init_48 0 458752 (ty := .int) (rc' := 4) (rs' := 4010) (μ := m_X12_init) (pc := 214) dX12_init_214 rfl (by decide) ac_0 (by decide) (by decide) (by decide) (by decide) (by decide) (fun q137 ad1 h1 p1 A_138 L1 => ?_)
  replace L : Lay (T_X12_init_49 t i0) ad1 h1 := L1
  replace p := Pre.tr p p1
  have A_139 := p1 _ _ A_133
  have G_140 : sg (T_X12_init_49 t i0) i0 = some (12, 60, 60) := sg_app G_135
  clear L1 p1
  refine t_putF L (i := i0) (j := (t.length + 22)) (μ := m_X12_init) (pc := 216) dX12_init_216 fl_X12_94 pf_X12_94 flF_12_43 rfl ir_12_43 id_12_43 rfl rfl G_140 A_139 (by decide) A_138 (fun h1 L1 => ?_)
  replace L : Lay (T_X12_init_50 t i0) _ h1 := L1
  have G_141 : sg (T_X12_init_50 t i0) i0 = some (12, 60, 60) := sg_mR.trans G_140
  have R_142 : rf (T_X12_init_50 t i0) i0 43 = some (t.length + 22) := rf_mS G_140 (by decide)
  clear L1
  refine a_aload_n 0 0 (μ := m_X12_init) (pc := 219) dX12_init_219 rfl rfl ?_
  refine a_bipush (v := 6) (μ := m_X12_init) (pc := 220) dX12_init_220 (by decide) ?_
  refine t_newI (t.length + 23) L ln_X12_init_50 0 6 (ty := .int) (rc' := 3) (rs' := 4004) (μ := m_X12_init) (pc := 222) dX12_init_222 rfl (by decide) ac_0 (by decide) (by decide) (by decide) (by decide) (by decide) (fun q143 ad1 h1 p1 A_144 L1 => ?_)
  replace L : Lay (T_X12_init_51 t i0) ad1 h1 := L1
  replace p := Pre.tr p p1
  have A_145 := p1 _ _ A_139
  have G_146 : sg (T_X12_init_51 t i0) i0 = some (12, 60, 60) := sg_app G_141
  clear L1 p1
  refine t_putF L (i := i0) (j := (t.length + 23)) (μ := m_X12_init) (pc := 224) dX12_init_224 fl_X12_97 pf_X12_97 flF_12_44 rfl ir_12_44 id_12_44 rfl rfl G_146 A_145 (by decide) A_144 (fun h1 L1 => ?_)
  replace L : Lay (T_X12_init_52 t i0) _ h1 := L1
  have G_147 : sg (T_X12_init_52 t i0) i0 = some (12, 60, 60) := sg_mR.trans G_146
  have R_148 : rf (T_X12_init_52 t i0) i0 44 = some (t.length + 23) := rf_mS G_146 (by decide)
  clear L1
  refine a_aload_n 0 0 (μ := m_X12_init) (pc := 227) dX12_init_227 rfl rfl ?_
  refine a_sipush (v := 2000) (μ := m_X12_init) (pc := 228) dX12_init_228 (by decide) ?_
  refine t_newI (t.length + 24) L ln_X12_init_52 0 2000 (ty := .int) (rc' := 2) (rs' := 2004) (μ := m_X12_init) (pc := 231) dX12_init_231 rfl (by decide) ac_0 (by decide) (by decide) (by decide) (by decide) (by decide) (fun q149 ad1 h1 p1 A_150 L1 => ?_)
  replace L : Lay (T_X12_init_53 t i0) ad1 h1 := L1
  replace p := Pre.tr p p1
  have A_151 := p1 _ _ A_145
  have G_152 : sg (T_X12_init_53 t i0) i0 = some (12, 60, 60) := sg_app G_147
  clear L1 p1
  refine t_putF L (i := i0) (j := (t.length + 24)) (μ := m_X12_init) (pc := 233) dX12_init_233 fl_X12_100 pf_X12_100 flF_12_46 rfl ir_12_46 id_12_46 rfl rfl G_152 A_151 (by decide) A_150 (fun h1 L1 => ?_)
  replace L : Lay (T_X12_init_54 t i0) _ h1 := L1
  have G_153 : sg (T_X12_init_54 t i0) i0 = some (12, 60, 60) := sg_mR.trans G_152
  have R_154 : rf (T_X12_init_54 t i0) i0 46 = some (t.length + 24) := rf_mS G_152 (by decide)
  clear L1
  refine a_aload_n 0 0 (μ := m_X12_init) (pc := 236) dX12_init_236 rfl rfl ?_
  refine a_sipush (v := 2000) (μ := m_X12_init) (pc := 237) dX12_init_237 (by decide) ?_
  refine t_newI (t.length + 25) L ln_X12_init_54 0 2000 (ty := .int) (rc' := 1) (rs' := 4) (μ := m_X12_init) (pc := 240) dX12_init_240 rfl (by decide) ac_0 (by decide) (by decide) (by decide) (by decide) (by decide) (fun q155 ad1 h1 p1 A_156 L1 => ?_)
  replace L : Lay (T_X12_init_55 t i0) ad1 h1 := L1
  replace p := Pre.tr p p1
  have A_157 := p1 _ _ A_151
  have G_158 : sg (T_X12_init_55 t i0) i0 = some (12, 60, 60) := sg_app G_153
  clear L1 p1
  refine t_putF L (i := i0) (j := (t.length + 25)) (μ := m_X12_init) (pc := 242) dX12_init_242 fl_X12_103 pf_X12_103 flF_12_48 rfl ir_12_48 id_12_48 rfl rfl G_158 A_157 (by decide) A_156 (fun h1 L1 => ?_)
  replace L : Lay (T_X12_init_56 t i0) _ h1 := L1
  have G_159 : sg (T_X12_init_56 t i0) i0 = some (12, 60, 60) := sg_mR.trans G_158
  have R_160 : rf (T_X12_init_56 t i0) i0 48 = some (t.length + 25) := rf_mS G_158 (by decide)
  clear L1
  refine a_aload_n 0 0 (μ := m_X12_init) (pc := 245) dX12_init_245 rfl rfl ?_
  refine a_iconst (v := 4) (μ := m_X12_init) (pc := 246) dX12_init_246 (by decide) ?_
  refine t_newI (t.length + 26) L ln_X12_init_56 0 4 (ty := .int) (rc' := 0) (rs' := 0) (μ := m_X12_init) (pc := 247) dX12_init_247 rfl (by decide) ac_0 (by decide) (by decide) (by decide) (by decide) (by decide) (fun q161 ad1 h1 p1 A_162 L1 => ?_)
  replace L : Lay (T_X12_init_57 t i0) ad1 h1 := L1
  replace p := Pre.tr p p1
  have A_163 := p1 _ _ A_157
  have G_164 : sg (T_X12_init_57 t i0) i0 = some (12, 60, 60) := sg_app G_159
  clear L1 p1
  refine t_putF L (i := i0) (j := (t.length + 26)) (μ := m_X12_init) (pc := 249) dX12_init_249 fl_X12_106 pf_X12_106 flF_12_57 rfl ir_12_57 id_12_57 rfl rfl G_164 A_163 (by decide) A_162 (fun h1 L1 => ?_)
  replace L : Lay (T_X12_init_58 t i0) _ h1 := L1
  have G_165 : sg (T_X12_init_58 t i0) i0 = some (12, 60, 60) := sg_mR.trans G_164
  have R_166 : rf (T_X12_init_58 t i0) i0 57 = some (t.length + 26) := rf_mS G_164 (by decide)
  clear L1
  exact a_vret (μ := m_X12_init) (pc := 252) dX12_init_252 rfl ⟨rfl, _, p, L⟩
end
