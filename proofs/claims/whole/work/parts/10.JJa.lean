theorem dJ6_compare_7cf53_0 : decode cJ6_compare_7cf53 0 = .ok (.iload_n 0, 1) := by decide +kernel
theorem dJ6_compare_7cf53_1 : decode cJ6_compare_7cf53 1 = .ok (.iload_n 1, 1) := by decide +kernel
theorem dJ6_compare_7cf53_2 : decode cJ6_compare_7cf53 2 = .ok (.if_icmp .ge 7, 3) := by decide +kernel
theorem dJ6_compare_7cf53_5 : decode cJ6_compare_7cf53 5 = .ok (.iconst (-1), 1) := by decide +kernel
theorem dJ6_compare_7cf53_6 : decode cJ6_compare_7cf53 6 = .ok (.goto 13, 3) := by decide +kernel
theorem dJ6_compare_7cf53_9 : decode cJ6_compare_7cf53 9 = .ok (.iload_n 0, 1) := by decide +kernel
theorem dJ6_compare_7cf53_10 : decode cJ6_compare_7cf53 10 = .ok (.iload_n 1, 1) := by decide +kernel
theorem dJ6_compare_7cf53_11 : decode cJ6_compare_7cf53 11 = .ok (.if_icmp .ne 7, 3) := by decide +kernel
theorem dJ6_compare_7cf53_14 : decode cJ6_compare_7cf53 14 = .ok (.iconst 0, 1) := by decide +kernel
theorem dJ6_compare_7cf53_15 : decode cJ6_compare_7cf53 15 = .ok (.goto 4, 3) := by decide +kernel
theorem dJ6_compare_7cf53_18 : decode cJ6_compare_7cf53 18 = .ok (.iconst 1, 1) := by decide +kernel
theorem dJ6_compare_7cf53_19 : decode cJ6_compare_7cf53 19 = .ok (.ireturn, 1) := by decide +kernel
theorem dJ13_bitCount_95d88_0 : decode cJ13_bitCount_95d88 0 = .ok (.lload_n 0, 1) := by decide +kernel
theorem dJ13_bitCount_95d88_1 : decode cJ13_bitCount_95d88 1 = .ok (.lload_n 0, 1) := by decide +kernel
theorem dJ13_bitCount_95d88_2 : decode cJ13_bitCount_95d88 2 = .ok (.iconst 1, 1) := by decide +kernel
theorem dJ13_bitCount_95d88_3 : decode cJ13_bitCount_95d88 3 = .ok (.lushr, 1) := by decide +kernel
theorem dJ13_bitCount_95d88_4 : decode cJ13_bitCount_95d88 4 = .ok (.ldc2_w 314, 3) := by decide +kernel
theorem dJ13_bitCount_95d88_7 : decode cJ13_bitCount_95d88 7 = .ok (.land, 1) := by decide +kernel
theorem dJ13_bitCount_95d88_8 : decode cJ13_bitCount_95d88 8 = .ok (.lsub, 1) := by decide +kernel
theorem dJ13_bitCount_95d88_9 : decode cJ13_bitCount_95d88 9 = .ok (.lstore_n 0, 1) := by decide +kernel
theorem dJ13_bitCount_95d88_10 : decode cJ13_bitCount_95d88 10 = .ok (.lload_n 0, 1) := by decide +kernel
theorem dJ13_bitCount_95d88_11 : decode cJ13_bitCount_95d88 11 = .ok (.ldc2_w 316, 3) := by decide +kernel
theorem dJ13_bitCount_95d88_14 : decode cJ13_bitCount_95d88 14 = .ok (.land, 1) := by decide +kernel
theorem dJ13_bitCount_95d88_15 : decode cJ13_bitCount_95d88 15 = .ok (.lload_n 0, 1) := by decide +kernel
theorem dJ13_bitCount_95d88_16 : decode cJ13_bitCount_95d88 16 = .ok (.iconst 2, 1) := by decide +kernel
theorem dJ13_bitCount_95d88_17 : decode cJ13_bitCount_95d88 17 = .ok (.lushr, 1) := by decide +kernel
theorem dJ13_bitCount_95d88_18 : decode cJ13_bitCount_95d88 18 = .ok (.ldc2_w 316, 3) := by decide +kernel
theorem dJ13_bitCount_95d88_21 : decode cJ13_bitCount_95d88 21 = .ok (.land, 1) := by decide +kernel
theorem dJ13_bitCount_95d88_22 : decode cJ13_bitCount_95d88 22 = .ok (.ladd, 1) := by decide +kernel
theorem dJ13_bitCount_95d88_23 : decode cJ13_bitCount_95d88 23 = .ok (.lstore_n 0, 1) := by decide +kernel
theorem dJ13_bitCount_95d88_24 : decode cJ13_bitCount_95d88 24 = .ok (.lload_n 0, 1) := by decide +kernel
theorem dJ13_bitCount_95d88_25 : decode cJ13_bitCount_95d88 25 = .ok (.lload_n 0, 1) := by decide +kernel
theorem dJ13_bitCount_95d88_26 : decode cJ13_bitCount_95d88 26 = .ok (.iconst 4, 1) := by decide +kernel
theorem dJ13_bitCount_95d88_27 : decode cJ13_bitCount_95d88 27 = .ok (.lushr, 1) := by decide +kernel
theorem dJ13_bitCount_95d88_28 : decode cJ13_bitCount_95d88 28 = .ok (.ladd, 1) := by decide +kernel
theorem dJ13_bitCount_95d88_29 : decode cJ13_bitCount_95d88 29 = .ok (.ldc2_w 318, 3) := by decide +kernel
theorem dJ13_bitCount_95d88_32 : decode cJ13_bitCount_95d88 32 = .ok (.land, 1) := by decide +kernel
theorem dJ13_bitCount_95d88_33 : decode cJ13_bitCount_95d88 33 = .ok (.lstore_n 0, 1) := by decide +kernel
theorem dJ13_bitCount_95d88_34 : decode cJ13_bitCount_95d88 34 = .ok (.lload_n 0, 1) := by decide +kernel
theorem dJ13_bitCount_95d88_35 : decode cJ13_bitCount_95d88 35 = .ok (.lload_n 0, 1) := by decide +kernel
theorem dJ13_bitCount_95d88_36 : decode cJ13_bitCount_95d88 36 = .ok (.bipush 8, 2) := by decide +kernel
theorem dJ13_bitCount_95d88_38 : decode cJ13_bitCount_95d88 38 = .ok (.lushr, 1) := by decide +kernel
theorem dJ13_bitCount_95d88_39 : decode cJ13_bitCount_95d88 39 = .ok (.ladd, 1) := by decide +kernel
theorem dJ13_bitCount_95d88_40 : decode cJ13_bitCount_95d88 40 = .ok (.lstore_n 0, 1) := by decide +kernel
theorem dJ13_bitCount_95d88_41 : decode cJ13_bitCount_95d88 41 = .ok (.lload_n 0, 1) := by decide +kernel
theorem dJ13_bitCount_95d88_42 : decode cJ13_bitCount_95d88 42 = .ok (.lload_n 0, 1) := by decide +kernel
theorem dJ13_bitCount_95d88_43 : decode cJ13_bitCount_95d88 43 = .ok (.bipush 16, 2) := by decide +kernel
theorem dJ13_bitCount_95d88_45 : decode cJ13_bitCount_95d88 45 = .ok (.lushr, 1) := by decide +kernel
theorem dJ13_bitCount_95d88_46 : decode cJ13_bitCount_95d88 46 = .ok (.ladd, 1) := by decide +kernel
theorem dJ13_bitCount_95d88_47 : decode cJ13_bitCount_95d88 47 = .ok (.lstore_n 0, 1) := by decide +kernel
theorem dJ13_bitCount_95d88_48 : decode cJ13_bitCount_95d88 48 = .ok (.lload_n 0, 1) := by decide +kernel
theorem dJ13_bitCount_95d88_49 : decode cJ13_bitCount_95d88 49 = .ok (.lload_n 0, 1) := by decide +kernel
theorem dJ13_bitCount_95d88_50 : decode cJ13_bitCount_95d88 50 = .ok (.bipush 32, 2) := by decide +kernel
theorem dJ13_bitCount_95d88_52 : decode cJ13_bitCount_95d88 52 = .ok (.lushr, 1) := by decide +kernel
theorem dJ13_bitCount_95d88_53 : decode cJ13_bitCount_95d88 53 = .ok (.ladd, 1) := by decide +kernel
theorem dJ13_bitCount_95d88_54 : decode cJ13_bitCount_95d88 54 = .ok (.lstore_n 0, 1) := by decide +kernel
theorem dJ13_bitCount_95d88_55 : decode cJ13_bitCount_95d88 55 = .ok (.lload_n 0, 1) := by decide +kernel
theorem dJ13_bitCount_95d88_56 : decode cJ13_bitCount_95d88 56 = .ok (.l2i, 1) := by decide +kernel
theorem dJ13_bitCount_95d88_57 : decode cJ13_bitCount_95d88 57 = .ok (.bipush 127, 2) := by decide +kernel
theorem dJ13_bitCount_95d88_59 : decode cJ13_bitCount_95d88 59 = .ok (.iand, 1) := by decide +kernel
theorem dJ13_bitCount_95d88_60 : decode cJ13_bitCount_95d88 60 = .ok (.ireturn, 1) := by decide +kernel
theorem dJ9_max_7cf53_0 : decode cJ9_max_7cf53 0 = .ok (.iload_n 0, 1) := by decide +kernel
theorem dJ9_max_7cf53_1 : decode cJ9_max_7cf53 1 = .ok (.iload_n 1, 1) := by decide +kernel
theorem dJ9_max_7cf53_2 : decode cJ9_max_7cf53 2 = .ok (.if_icmp .lt 7, 3) := by decide +kernel
theorem dJ9_max_7cf53_5 : decode cJ9_max_7cf53 5 = .ok (.iload_n 0, 1) := by decide +kernel
theorem dJ9_max_7cf53_6 : decode cJ9_max_7cf53 6 = .ok (.goto 4, 3) := by decide +kernel
theorem dJ9_max_7cf53_9 : decode cJ9_max_7cf53 9 = .ok (.iload_n 1, 1) := by decide +kernel
theorem dJ9_max_7cf53_10 : decode cJ9_max_7cf53 10 = .ok (.ireturn, 1) := by decide +kernel
theorem dJ9_min_7cf53_0 : decode cJ9_min_7cf53 0 = .ok (.iload_n 0, 1) := by decide +kernel
theorem dJ9_min_7cf53_1 : decode cJ9_min_7cf53 1 = .ok (.iload_n 1, 1) := by decide +kernel
theorem dJ9_min_7cf53_2 : decode cJ9_min_7cf53 2 = .ok (.if_icmp .gt 7, 3) := by decide +kernel
theorem dJ9_min_7cf53_5 : decode cJ9_min_7cf53 5 = .ok (.iload_n 0, 1) := by decide +kernel
theorem dJ9_min_7cf53_6 : decode cJ9_min_7cf53 6 = .ok (.goto 4, 3) := by decide +kernel
theorem dJ9_min_7cf53_9 : decode cJ9_min_7cf53 9 = .ok (.iload_n 1, 1) := by decide +kernel
theorem dJ9_min_7cf53_10 : decode cJ9_min_7cf53 10 = .ok (.ireturn, 1) := by decide +kernel
theorem dJ0_length_8abf5_0 : decode cJ0_length_8abf5 0 = .ok (.aload_n 0, 1) := by decide +kernel
theorem dJ0_length_8abf5_1 : decode cJ0_length_8abf5 1 = .ok (.getfield 9, 3) := by decide +kernel
theorem dJ0_length_8abf5_4 : decode cJ0_length_8abf5 4 = .ok (.arraylength, 1) := by decide +kernel
theorem dJ0_length_8abf5_5 : decode cJ0_length_8abf5 5 = .ok (.aload_n 0, 1) := by decide +kernel
theorem dJ0_length_8abf5_6 : decode cJ0_length_8abf5 6 = .ok (.invokevirtual 335, 3) := by decide +kernel
theorem dJ0_length_8abf5_9 : decode cJ0_length_8abf5 9 = .ok (.ishr, 1) := by decide +kernel
theorem dJ0_length_8abf5_10 : decode cJ0_length_8abf5 10 = .ok (.ireturn, 1) := by decide +kernel
theorem dJ0_charAt_5068e_0 : decode cJ0_charAt_5068e 0 = .ok (.aload_n 0, 1) := by decide +kernel
theorem dJ0_charAt_5068e_1 : decode cJ0_charAt_5068e 1 = .ok (.invokevirtual 492, 3) := by decide +kernel
theorem dJ0_charAt_5068e_4 : decode cJ0_charAt_5068e 4 = .ok (.ifCond .eq 12, 3) := by decide +kernel
theorem dJ0_charAt_5068e_7 : decode cJ0_charAt_5068e 7 = .ok (.aload_n 0, 1) := by decide +kernel
theorem dJ0_charAt_5068e_8 : decode cJ0_charAt_5068e 8 = .ok (.getfield 9, 3) := by decide +kernel
theorem dJ0_charAt_5068e_11 : decode cJ0_charAt_5068e 11 = .ok (.iload_n 1, 1) := by decide +kernel
theorem dJ0_charAt_5068e_12 : decode cJ0_charAt_5068e 12 = .ok (.invokestatic 495, 3) := by decide +kernel
theorem dJ0_charAt_5068e_15 : decode cJ0_charAt_5068e 15 = .ok (.ireturn, 1) := by decide +kernel
theorem dJ0_charAt_5068e_16 : decode cJ0_charAt_5068e 16 = .ok (.aload_n 0, 1) := by decide +kernel
theorem dJ0_charAt_5068e_17 : decode cJ0_charAt_5068e 17 = .ok (.getfield 9, 3) := by decide +kernel
theorem dJ0_charAt_5068e_20 : decode cJ0_charAt_5068e 20 = .ok (.iload_n 1, 1) := by decide +kernel
theorem dJ0_charAt_5068e_21 : decode cJ0_charAt_5068e 21 = .ok (.invokestatic 498, 3) := by decide +kernel
theorem dJ0_charAt_5068e_24 : decode cJ0_charAt_5068e 24 = .ok (.ireturn, 1) := by decide +kernel
theorem dJ0_coder_7d493_0 : decode cJ0_coder_7d493 0 = .ok (.getstatic 38, 3) := by decide +kernel
theorem dJ0_coder_7d493_3 : decode cJ0_coder_7d493 3 = .ok (.ifCond .eq 10, 3) := by decide +kernel
theorem dJ0_coder_7d493_6 : decode cJ0_coder_7d493 6 = .ok (.aload_n 0, 1) := by decide +kernel
theorem dJ0_coder_7d493_7 : decode cJ0_coder_7d493 7 = .ok (.getfield 15, 3) := by decide +kernel
theorem dJ0_coder_7d493_10 : decode cJ0_coder_7d493 10 = .ok (.goto 4, 3) := by decide +kernel
theorem dJ0_coder_7d493_13 : decode cJ0_coder_7d493 13 = .ok (.iconst 1, 1) := by decide +kernel
theorem dJ0_coder_7d493_14 : decode cJ0_coder_7d493 14 = .ok (.ireturn, 1) := by decide +kernel
theorem dJ0_isLatin1_aae02_0 : decode cJ0_isLatin1_aae02 0 = .ok (.getstatic 38, 3) := by decide +kernel
theorem dJ0_isLatin1_aae02_3 : decode cJ0_isLatin1_aae02 3 = .ok (.ifCond .eq 14, 3) := by decide +kernel
theorem dJ0_isLatin1_aae02_6 : decode cJ0_isLatin1_aae02 6 = .ok (.aload_n 0, 1) := by decide +kernel
theorem dJ0_isLatin1_aae02_7 : decode cJ0_isLatin1_aae02 7 = .ok (.getfield 15, 3) := by decide +kernel
theorem dJ0_isLatin1_aae02_10 : decode cJ0_isLatin1_aae02 10 = .ok (.ifCond .ne 7, 3) := by decide +kernel
theorem dJ0_isLatin1_aae02_13 : decode cJ0_isLatin1_aae02 13 = .ok (.iconst 1, 1) := by decide +kernel
theorem dJ0_isLatin1_aae02_14 : decode cJ0_isLatin1_aae02 14 = .ok (.goto 4, 3) := by decide +kernel
theorem dJ0_isLatin1_aae02_17 : decode cJ0_isLatin1_aae02 17 = .ok (.iconst 0, 1) := by decide +kernel
theorem dJ0_isLatin1_aae02_18 : decode cJ0_isLatin1_aae02 18 = .ok (.ireturn, 1) := by decide +kernel
theorem dJ0_checkIndex_df160_0 : decode cJ0_checkIndex_df160 0 = .ok (.iload_n 0, 1) := by decide +kernel
theorem dJ0_checkIndex_df160_1 : decode cJ0_checkIndex_df160 1 = .ok (.iload_n 1, 1) := by decide +kernel
theorem dJ0_checkIndex_df160_2 : decode cJ0_checkIndex_df160 2 = .ok (.getstatic 1053, 3) := by decide +kernel
theorem dJ0_checkIndex_df160_5 : decode cJ0_checkIndex_df160 5 = .ok (.invokestatic 1059, 3) := by decide +kernel
theorem dJ0_checkIndex_df160_8 : decode cJ0_checkIndex_df160 8 = .ok (.pop, 1) := by decide +kernel
theorem dJ0_checkIndex_df160_9 : decode cJ0_checkIndex_df160 9 = .ok (.return_, 1) := by decide +kernel
theorem dJ1_charAt_3b067_0 : decode cJ1_charAt_3b067 0 = .ok (.iload_n 1, 1) := by decide +kernel
theorem dJ1_charAt_3b067_1 : decode cJ1_charAt_3b067 1 = .ok (.aload_n 0, 1) := by decide +kernel
theorem dJ1_charAt_3b067_2 : decode cJ1_charAt_3b067 2 = .ok (.arraylength, 1) := by decide +kernel
theorem dJ1_charAt_3b067_3 : decode cJ1_charAt_3b067 3 = .ok (.invokestatic 9, 3) := by decide +kernel
theorem dJ1_charAt_3b067_6 : decode cJ1_charAt_3b067 6 = .ok (.aload_n 0, 1) := by decide +kernel
theorem dJ1_charAt_3b067_7 : decode cJ1_charAt_3b067 7 = .ok (.iload_n 1, 1) := by decide +kernel
theorem dJ1_charAt_3b067_8 : decode cJ1_charAt_3b067 8 = .ok (.baload, 1) := by decide +kernel
theorem dJ1_charAt_3b067_9 : decode cJ1_charAt_3b067 9 = .ok (.sipush 255, 3) := by decide +kernel
theorem dJ1_charAt_3b067_12 : decode cJ1_charAt_3b067 12 = .ok (.iand, 1) := by decide +kernel
theorem dJ1_charAt_3b067_13 : decode cJ1_charAt_3b067 13 = .ok (.i2c, 1) := by decide +kernel
theorem dJ1_charAt_3b067_14 : decode cJ1_charAt_3b067 14 = .ok (.ireturn, 1) := by decide +kernel
theorem dJ3_checkIndex_8e157_0 : decode cJ3_checkIndex_8e157 0 = .ok (.iload_n 0, 1) := by decide +kernel
theorem dJ3_checkIndex_8e157_1 : decode cJ3_checkIndex_8e157 1 = .ok (.ifCond .lt 8, 3) := by decide +kernel
theorem dJ3_checkIndex_8e157_4 : decode cJ3_checkIndex_8e157 4 = .ok (.iload_n 0, 1) := by decide +kernel
theorem dJ3_checkIndex_8e157_5 : decode cJ3_checkIndex_8e157 5 = .ok (.iload_n 1, 1) := by decide +kernel
theorem dJ3_checkIndex_8e157_6 : decode cJ3_checkIndex_8e157 6 = .ok (.if_icmp .lt 10, 3) := by decide +kernel
theorem dJ3_checkIndex_8e157_9 : decode cJ3_checkIndex_8e157 9 = .ok (.aload_n 2, 1) := by decide +kernel
theorem dJ3_checkIndex_8e157_10 : decode cJ3_checkIndex_8e157 10 = .ok (.iload_n 0, 1) := by decide +kernel
theorem dJ3_checkIndex_8e157_11 : decode cJ3_checkIndex_8e157 11 = .ok (.iload_n 1, 1) := by decide +kernel
theorem dJ3_checkIndex_8e157_12 : decode cJ3_checkIndex_8e157 12 = .ok (.invokestatic 95, 3) := by decide +kernel
theorem dJ3_checkIndex_8e157_15 : decode cJ3_checkIndex_8e157 15 = .ok (.athrow, 1) := by decide +kernel
theorem dJ3_checkIndex_8e157_16 : decode cJ3_checkIndex_8e157 16 = .ok (.iload_n 0, 1) := by decide +kernel
theorem dJ3_checkIndex_8e157_17 : decode cJ3_checkIndex_8e157 17 = .ok (.ireturn, 1) := by decide +kernel
def J_J9_max_7cf53_10 (N : Nat) (g : gp) (x0 : Int32) (x1 : Int32) (xs0 : Int32) (δ : dp) : Option (Int32 × dp) :=
  some (xs0, δ)
set_option maxHeartbeats 4000000 in
set_option maxRecDepth 100000 in
theorem t_J_J9_max_7cf53_10 {l : Launch} {D : va_G} {cy : Nat → ClassId} {N d : Nat} {g : gp} (wt : WT g) (hl : l.stackTraces = false) (hd : 1 ≤ d) {x0 : Int32} {x1 : Int32} : ∀ (xs0 : Int32) (δ : dp), AWD l D cy m_J9_max_7cf53 d 0 0 ei g 10 [] [.int xs0] δ (J_J9_max_7cf53_10 N g x0 x1 xs0 δ) := by
    intro xs0 δ 
    unfold J_J9_max_7cf53_10
    exact w_iret (μ := m_J9_max_7cf53) (pc := 10) dJ9_max_7cf53_10 rfl rfl
def D_J9_max_7cf53 (N : Nat) (g : gp) (x0 : Int32) (x1 : Int32) (δ : dp) : Option (Int32 × dp) :=
  if x0 < x1 then (J_J9_max_7cf53_10 N g x0 x1 x1 δ) else (J_J9_max_7cf53_10 N g x0 x1 x0 δ)
set_option maxHeartbeats 4000000 in
set_option maxRecDepth 100000 in
theorem c_J9_max_7cf53 {l : Launch} {D : va_G} {cy : Nat → ClassId} {N d : Nat} {g : gp} (wt : WT g) (hl : l.stackTraces = false) (hd : 1 ≤ d) {x0 : Int32} {x1 : Int32} {δ : dp} : CalD l D cy m_J9_max_7cf53 d 0 0 ei g [.int x0, .int x1] δ (D_J9_max_7cf53 N g x0 x1 δ) := by
  refine CalD.of (by decide +kernel) (Nat.le_of_ble_eq_true rfl) hl ?_
  unfold D_J9_max_7cf53
  refine w_iload_n 0 0 (μ := m_J9_max_7cf53) (pc := 0) dJ9_max_7cf53_0 rfl rfl ?_
  refine w_iload_n 1 1 (μ := m_J9_max_7cf53) (pc := 1) dJ9_max_7cf53_1 rfl rfl ?_
  refine w_icmp_lt 9 (μ := m_J9_max_7cf53) (pc := 2) dJ9_max_7cf53_2 (by decide) (fun c_1 => ?_) (fun c_1 => ?_)
  · refine w_iload_n 1 1 (μ := m_J9_max_7cf53) (pc := 9) dJ9_max_7cf53_9 rfl rfl ?_
    refine w_lv [] rfl ?_
    exact t_J_J9_max_7cf53_10 wt hl (by omega) _ _
  · refine w_iload_n 0 0 (μ := m_J9_max_7cf53) (pc := 5) dJ9_max_7cf53_5 rfl rfl ?_
    refine w_goto 10 (μ := m_J9_max_7cf53) (pc := 6) dJ9_max_7cf53_6 (by decide) ?_
    refine w_lv [] rfl ?_
    exact t_J_J9_max_7cf53_10 wt hl (by omega) _ _
def J_J9_min_7cf53_10 (N : Nat) (g : gp) (x0 : Int32) (x1 : Int32) (xs0 : Int32) (δ : dp) : Option (Int32 × dp) :=
  some (xs0, δ)
set_option maxHeartbeats 4000000 in
set_option maxRecDepth 100000 in
theorem t_J_J9_min_7cf53_10 {l : Launch} {D : va_G} {cy : Nat → ClassId} {N d : Nat} {g : gp} (wt : WT g) (hl : l.stackTraces = false) (hd : 1 ≤ d) {x0 : Int32} {x1 : Int32} : ∀ (xs0 : Int32) (δ : dp), AWD l D cy m_J9_min_7cf53 d 0 0 ei g 10 [] [.int xs0] δ (J_J9_min_7cf53_10 N g x0 x1 xs0 δ) := by
    intro xs0 δ 
    unfold J_J9_min_7cf53_10
    exact w_iret (μ := m_J9_min_7cf53) (pc := 10) dJ9_min_7cf53_10 rfl rfl
def D_J9_min_7cf53 (N : Nat) (g : gp) (x0 : Int32) (x1 : Int32) (δ : dp) : Option (Int32 × dp) :=
  if x1 < x0 then (J_J9_min_7cf53_10 N g x0 x1 x1 δ) else (J_J9_min_7cf53_10 N g x0 x1 x0 δ)
set_option maxHeartbeats 4000000 in
set_option maxRecDepth 100000 in
theorem c_J9_min_7cf53 {l : Launch} {D : va_G} {cy : Nat → ClassId} {N d : Nat} {g : gp} (wt : WT g) (hl : l.stackTraces = false) (hd : 1 ≤ d) {x0 : Int32} {x1 : Int32} {δ : dp} : CalD l D cy m_J9_min_7cf53 d 0 0 ei g [.int x0, .int x1] δ (D_J9_min_7cf53 N g x0 x1 δ) := by
  refine CalD.of (by decide +kernel) (Nat.le_of_ble_eq_true rfl) hl ?_
  unfold D_J9_min_7cf53
  refine w_iload_n 0 0 (μ := m_J9_min_7cf53) (pc := 0) dJ9_min_7cf53_0 rfl rfl ?_
  refine w_iload_n 1 1 (μ := m_J9_min_7cf53) (pc := 1) dJ9_min_7cf53_1 rfl rfl ?_
  refine w_icmp_gt 9 (μ := m_J9_min_7cf53) (pc := 2) dJ9_min_7cf53_2 (by decide) (fun c_1 => ?_) (fun c_1 => ?_)
  · refine w_iload_n 1 1 (μ := m_J9_min_7cf53) (pc := 9) dJ9_min_7cf53_9 rfl rfl ?_
    refine w_lv [] rfl ?_
    exact t_J_J9_min_7cf53_10 wt hl (by omega) _ _
  · refine w_iload_n 0 0 (μ := m_J9_min_7cf53) (pc := 5) dJ9_min_7cf53_5 rfl rfl ?_
    refine w_goto 10 (μ := m_J9_min_7cf53) (pc := 6) dJ9_min_7cf53_6 (by decide) ?_
    refine w_lv [] rfl ?_
    exact t_J_J9_min_7cf53_10 wt hl (by omega) _ _
def J_J6_compare_7cf53_19 (N : Nat) (g : gp) (x0 : Int32) (x1 : Int32) (xs0 : Int32) (δ : dp) : Option (Int32 × dp) :=
  some (xs0, δ)
set_option maxHeartbeats 4000000 in
set_option maxRecDepth 100000 in
theorem t_J_J6_compare_7cf53_19 {l : Launch} {D : va_G} {cy : Nat → ClassId} {N d : Nat} {g : gp} (wt : WT g) (hl : l.stackTraces = false) (hd : 1 ≤ d) {x0 : Int32} {x1 : Int32} : ∀ (xs0 : Int32) (δ : dp), AWD l D cy m_J6_compare_7cf53 d 0 0 ei g 19 [] [.int xs0] δ (J_J6_compare_7cf53_19 N g x0 x1 xs0 δ) := by
    intro xs0 δ 
    unfold J_J6_compare_7cf53_19
    exact w_iret (μ := m_J6_compare_7cf53) (pc := 19) dJ6_compare_7cf53_19 rfl rfl
def D_J6_compare_7cf53 (N : Nat) (g : gp) (x0 : Int32) (x1 : Int32) (δ : dp) : Option (Int32 × dp) :=
  if x1 ≤ x0 then (if x0 = x1 then (J_J6_compare_7cf53_19 N g x0 x1 0 δ) else (J_J6_compare_7cf53_19 N g x0 x1 1 δ)) else (J_J6_compare_7cf53_19 N g x0 x1 ((-1)) δ)
set_option maxHeartbeats 4000000 in
set_option maxRecDepth 100000 in
theorem c_J6_compare_7cf53 {l : Launch} {D : va_G} {cy : Nat → ClassId} {N d : Nat} {g : gp} (wt : WT g) (hl : l.stackTraces = false) (hd : 1 ≤ d) {x0 : Int32} {x1 : Int32} {δ : dp} : CalD l D cy m_J6_compare_7cf53 d 0 0 ei g [.int x0, .int x1] δ (D_J6_compare_7cf53 N g x0 x1 δ) := by
  refine CalD.of (by decide +kernel) (Nat.le_of_ble_eq_true rfl) hl ?_
  unfold D_J6_compare_7cf53
  refine w_iload_n 0 0 (μ := m_J6_compare_7cf53) (pc := 0) dJ6_compare_7cf53_0 rfl rfl ?_
  refine w_iload_n 1 1 (μ := m_J6_compare_7cf53) (pc := 1) dJ6_compare_7cf53_1 rfl rfl ?_
  refine w_icmp_ge 9 (μ := m_J6_compare_7cf53) (pc := 2) dJ6_compare_7cf53_2 (by decide) (fun c_1 => ?_) (fun c_1 => ?_)
  · refine w_iload_n 0 0 (μ := m_J6_compare_7cf53) (pc := 9) dJ6_compare_7cf53_9 rfl rfl ?_
    refine w_iload_n 1 1 (μ := m_J6_compare_7cf53) (pc := 10) dJ6_compare_7cf53_10 rfl rfl ?_
    refine w_icmp_ne 18 (μ := m_J6_compare_7cf53) (pc := 11) dJ6_compare_7cf53_11 (by decide) (fun c_2 => ?_) (fun c_2 => ?_)
    · refine w_iconst (v := 1) (μ := m_J6_compare_7cf53) (pc := 18) dJ6_compare_7cf53_18 (by decide) ?_
      refine w_lv [] rfl ?_
      exact t_J_J6_compare_7cf53_19 wt hl (by omega) _ _
    · refine w_iconst (v := 0) (μ := m_J6_compare_7cf53) (pc := 14) dJ6_compare_7cf53_14 (by decide) ?_
      refine w_goto 19 (μ := m_J6_compare_7cf53) (pc := 15) dJ6_compare_7cf53_15 (by decide) ?_
      refine w_lv [] rfl ?_
      exact t_J_J6_compare_7cf53_19 wt hl (by omega) _ _
  · refine w_iconst (v := (-1)) (μ := m_J6_compare_7cf53) (pc := 5) dJ6_compare_7cf53_5 (by decide) ?_
    refine w_goto 19 (μ := m_J6_compare_7cf53) (pc := 6) dJ6_compare_7cf53_6 (by decide) ?_
    refine w_lv [] rfl ?_
    exact t_J_J6_compare_7cf53_19 wt hl (by omega) _ _
def D_J13_bitCount_95d88 (N : Nat) (g : gp) (y0 : Int64) (δ : dp) : Option (Int32 × dp) :=
  bl (y0 - (((y0.toUInt64 >>> ((1 : Int32).toInt64.toUInt64 &&& Int64.toUInt64 63)).toInt64) &&& 6148914691236517205)) fun y_1 => bl ((y_1 &&& 3689348814741910323) + (((y_1.toUInt64 >>> ((2 : Int32).toInt64.toUInt64 &&& Int64.toUInt64 63)).toInt64) &&& 3689348814741910323)) fun y_3 => bl ((y_3 + ((y_3.toUInt64 >>> ((4 : Int32).toInt64.toUInt64 &&& Int64.toUInt64 63)).toInt64)) &&& 1085102592571150095) fun y_5 => bl (y_5 + ((y_5.toUInt64 >>> ((8 : Int32).toInt64.toUInt64 &&& Int64.toUInt64 63)).toInt64)) fun y_7 => bl (y_7 + ((y_7.toUInt64 >>> ((16 : Int32).toInt64.toUInt64 &&& Int64.toUInt64 63)).toInt64)) fun y_9 => bl (y_9 + ((y_9.toUInt64 >>> ((32 : Int32).toInt64.toUInt64 &&& Int64.toUInt64 63)).toInt64)) fun y_11 => some (y_11.toInt32 &&& 127, δ)
set_option maxHeartbeats 4000000 in
set_option maxRecDepth 100000 in
theorem c_J13_bitCount_95d88 {l : Launch} {D : va_G} {cy : Nat → ClassId} {N d : Nat} {g : gp} (wt : WT g) (hl : l.stackTraces = false) (hd : 1 ≤ d) {y0 : Int64} {δ : dp} : CalD l D cy m_J13_bitCount_95d88 d 0 0 ei g [.long y0] δ (D_J13_bitCount_95d88 N g y0 δ) := by
  refine CalD.of (by decide +kernel) (Nat.le_of_ble_eq_true rfl) hl ?_
  unfold D_J13_bitCount_95d88
  refine w_lload_n 0 0 (μ := m_J13_bitCount_95d88) (pc := 0) dJ13_bitCount_95d88_0 rfl rfl ?_
  refine w_lload_n 0 0 (μ := m_J13_bitCount_95d88) (pc := 1) dJ13_bitCount_95d88_1 rfl rfl ?_
  refine w_iconst (v := 1) (μ := m_J13_bitCount_95d88) (pc := 2) dJ13_bitCount_95d88_2 (by decide) ?_
  refine w_lushr (μ := m_J13_bitCount_95d88) (pc := 3) dJ13_bitCount_95d88_3 ?_
  refine w_ldc2 (v := 6148914691236517205) (μ := m_J13_bitCount_95d88) (pc := 4) dJ13_bitCount_95d88_4 cl_J13_314 ?_
  refine w_land (μ := m_J13_bitCount_95d88) (pc := 7) dJ13_bitCount_95d88_7 ?_
  refine w_lsub (μ := m_J13_bitCount_95d88) (pc := 8) dJ13_bitCount_95d88_8 ?_
  refine w_bl (fun y_1 e_2 => ?_)
  refine w_lstore_n [(0, .long y_1)] (μ := m_J13_bitCount_95d88) (pc := 9) dJ13_bitCount_95d88_9 rfl (by decide) rfl ?_
  refine w_lload_n 0 0 (μ := m_J13_bitCount_95d88) (pc := 10) dJ13_bitCount_95d88_10 rfl rfl ?_
  refine w_ldc2 (v := 3689348814741910323) (μ := m_J13_bitCount_95d88) (pc := 11) dJ13_bitCount_95d88_11 cl_J13_316 ?_
  refine w_land (μ := m_J13_bitCount_95d88) (pc := 14) dJ13_bitCount_95d88_14 ?_
  refine w_lload_n 0 0 (μ := m_J13_bitCount_95d88) (pc := 15) dJ13_bitCount_95d88_15 rfl rfl ?_
  refine w_iconst (v := 2) (μ := m_J13_bitCount_95d88) (pc := 16) dJ13_bitCount_95d88_16 (by decide) ?_
  refine w_lushr (μ := m_J13_bitCount_95d88) (pc := 17) dJ13_bitCount_95d88_17 ?_
  refine w_ldc2 (v := 3689348814741910323) (μ := m_J13_bitCount_95d88) (pc := 18) dJ13_bitCount_95d88_18 cl_J13_316 ?_
  refine w_land (μ := m_J13_bitCount_95d88) (pc := 21) dJ13_bitCount_95d88_21 ?_
  refine w_ladd (μ := m_J13_bitCount_95d88) (pc := 22) dJ13_bitCount_95d88_22 ?_
  refine w_bl (fun y_3 e_4 => ?_)
  refine w_lstore_n [(0, .long y_3)] (μ := m_J13_bitCount_95d88) (pc := 23) dJ13_bitCount_95d88_23 rfl (by decide) rfl ?_
  refine w_lload_n 0 0 (μ := m_J13_bitCount_95d88) (pc := 24) dJ13_bitCount_95d88_24 rfl rfl ?_
  refine w_lload_n 0 0 (μ := m_J13_bitCount_95d88) (pc := 25) dJ13_bitCount_95d88_25 rfl rfl ?_
  refine w_iconst (v := 4) (μ := m_J13_bitCount_95d88) (pc := 26) dJ13_bitCount_95d88_26 (by decide) ?_
  refine w_lushr (μ := m_J13_bitCount_95d88) (pc := 27) dJ13_bitCount_95d88_27 ?_
  refine w_ladd (μ := m_J13_bitCount_95d88) (pc := 28) dJ13_bitCount_95d88_28 ?_
  refine w_ldc2 (v := 1085102592571150095) (μ := m_J13_bitCount_95d88) (pc := 29) dJ13_bitCount_95d88_29 cl_J13_318 ?_
  refine w_land (μ := m_J13_bitCount_95d88) (pc := 32) dJ13_bitCount_95d88_32 ?_
  refine w_bl (fun y_5 e_6 => ?_)
  refine w_lstore_n [(0, .long y_5)] (μ := m_J13_bitCount_95d88) (pc := 33) dJ13_bitCount_95d88_33 rfl (by decide) rfl ?_
  refine w_lload_n 0 0 (μ := m_J13_bitCount_95d88) (pc := 34) dJ13_bitCount_95d88_34 rfl rfl ?_
  refine w_lload_n 0 0 (μ := m_J13_bitCount_95d88) (pc := 35) dJ13_bitCount_95d88_35 rfl rfl ?_
  refine w_bipush (v := 8) (μ := m_J13_bitCount_95d88) (pc := 36) dJ13_bitCount_95d88_36 (by decide) ?_
  refine w_lushr (μ := m_J13_bitCount_95d88) (pc := 38) dJ13_bitCount_95d88_38 ?_
  refine w_ladd (μ := m_J13_bitCount_95d88) (pc := 39) dJ13_bitCount_95d88_39 ?_
  refine w_bl (fun y_7 e_8 => ?_)
  refine w_lstore_n [(0, .long y_7)] (μ := m_J13_bitCount_95d88) (pc := 40) dJ13_bitCount_95d88_40 rfl (by decide) rfl ?_
  refine w_lload_n 0 0 (μ := m_J13_bitCount_95d88) (pc := 41) dJ13_bitCount_95d88_41 rfl rfl ?_
  refine w_lload_n 0 0 (μ := m_J13_bitCount_95d88) (pc := 42) dJ13_bitCount_95d88_42 rfl rfl ?_
  refine w_bipush (v := 16) (μ := m_J13_bitCount_95d88) (pc := 43) dJ13_bitCount_95d88_43 (by decide) ?_
  refine w_lushr (μ := m_J13_bitCount_95d88) (pc := 45) dJ13_bitCount_95d88_45 ?_
  refine w_ladd (μ := m_J13_bitCount_95d88) (pc := 46) dJ13_bitCount_95d88_46 ?_
  refine w_bl (fun y_9 e_10 => ?_)
  refine w_lstore_n [(0, .long y_9)] (μ := m_J13_bitCount_95d88) (pc := 47) dJ13_bitCount_95d88_47 rfl (by decide) rfl ?_
  refine w_lload_n 0 0 (μ := m_J13_bitCount_95d88) (pc := 48) dJ13_bitCount_95d88_48 rfl rfl ?_
  refine w_lload_n 0 0 (μ := m_J13_bitCount_95d88) (pc := 49) dJ13_bitCount_95d88_49 rfl rfl ?_
  refine w_bipush (v := 32) (μ := m_J13_bitCount_95d88) (pc := 50) dJ13_bitCount_95d88_50 (by decide) ?_
  refine w_lushr (μ := m_J13_bitCount_95d88) (pc := 52) dJ13_bitCount_95d88_52 ?_
  refine w_ladd (μ := m_J13_bitCount_95d88) (pc := 53) dJ13_bitCount_95d88_53 ?_
  refine w_bl (fun y_11 e_12 => ?_)
  refine w_lstore_n [(0, .long y_11)] (μ := m_J13_bitCount_95d88) (pc := 54) dJ13_bitCount_95d88_54 rfl (by decide) rfl ?_
  refine w_lload_n 0 0 (μ := m_J13_bitCount_95d88) (pc := 55) dJ13_bitCount_95d88_55 rfl rfl ?_
  refine w_l2i (μ := m_J13_bitCount_95d88) (pc := 56) dJ13_bitCount_95d88_56 ?_
  refine w_bipush (v := 127) (μ := m_J13_bitCount_95d88) (pc := 57) dJ13_bitCount_95d88_57 (by decide) ?_
  refine w_iand (μ := m_J13_bitCount_95d88) (pc := 59) dJ13_bitCount_95d88_59 ?_
  exact w_iret (μ := m_J13_bitCount_95d88) (pc := 60) dJ13_bitCount_95d88_60 rfl rfl
def D_J3_checkIndex_8e157 (N : Nat) (g : gp) (x0 : Int32) (x1 : Int32) (δ : dp) : Option (Int32 × dp) :=
  if x0 < 0 then (none) else (if x0 < x1 then (some (x0, δ)) else (none))
set_option maxHeartbeats 4000000 in
set_option maxRecDepth 100000 in
theorem c_J3_checkIndex_8e157 {l : Launch} {D : va_G} {cy : Nat → ClassId} {N d : Nat} {g : gp} (wt : WT g) (hl : l.stackTraces = false) (hd : 1 ≤ d) {x0 : Int32} {x1 : Int32} {r2 : Option Nat} {δ : dp} : CalD l D cy m_J3_checkIndex_8e157 d 0 0 ei g [.int x0, .int x1, va_rf r2] δ (D_J3_checkIndex_8e157 N g x0 x1 δ) := by
  refine CalD.of (by decide +kernel) (by cases r2 <;> exact Nat.le_of_ble_eq_true rfl) hl ?_
  unfold D_J3_checkIndex_8e157
  refine w_iload_n 0 0 (μ := m_J3_checkIndex_8e157) (pc := 0) dJ3_checkIndex_8e157_0 rfl rfl ?_
  refine w_if_lt 9 (μ := m_J3_checkIndex_8e157) (pc := 1) dJ3_checkIndex_8e157_1 (by decide) (fun c_1 => ?_) (fun c_1 => ?_)
  · exact w_none
  · refine w_iload_n 0 0 (μ := m_J3_checkIndex_8e157) (pc := 4) dJ3_checkIndex_8e157_4 rfl rfl ?_
    refine w_iload_n 1 1 (μ := m_J3_checkIndex_8e157) (pc := 5) dJ3_checkIndex_8e157_5 rfl rfl ?_
    refine w_icmp_lt 16 (μ := m_J3_checkIndex_8e157) (pc := 6) dJ3_checkIndex_8e157_6 (by decide) (fun c_2 => ?_) (fun c_2 => ?_)
    · refine w_iload_n 0 0 (μ := m_J3_checkIndex_8e157) (pc := 16) dJ3_checkIndex_8e157_16 rfl rfl ?_
      exact w_iret (μ := m_J3_checkIndex_8e157) (pc := 17) dJ3_checkIndex_8e157_17 rfl rfl
    · exact w_none
def D_J0_checkIndex_df160 (N : Nat) (g : gp) (x0 : Int32) (x1 : Int32) (δ : dp) : Option (dp) :=
  (D_J3_checkIndex_8e157 N g x0 x1 δ).bind fun r_2 => some r_2.2
set_option maxHeartbeats 4000000 in
set_option maxRecDepth 100000 in
theorem c_J0_checkIndex_df160 {l : Launch} {D : va_G} {cy : Nat → ClassId} {N d : Nat} {g : gp} (wt : WT g) (hl : l.stackTraces = false) (hd : 2 ≤ d) {x0 : Int32} {x1 : Int32} {δ : dp} : CalD l D cy m_J0_checkIndex_df160 d 0 0 ev g [.int x0, .int x1] δ (D_J0_checkIndex_df160 N g x0 x1 δ) := by
  refine CalD.of (by decide +kernel) (Nat.le_of_ble_eq_true rfl) hl ?_
  unfold D_J0_checkIndex_df160
  refine w_iload_n 0 0 (μ := m_J0_checkIndex_df160) (pc := 0) dJ0_checkIndex_df160_0 rfl rfl ?_
  refine w_iload_n 1 1 (μ := m_J0_checkIndex_df160) (pc := 1) dJ0_checkIndex_df160_1 rfl rfl ?_
  refine w_sfmt (μ := m_J0_checkIndex_df160) (pc := 2) dJ0_checkIndex_df160_2 sg_J0_1053 (fun q_1 => ?_)
  refine w_callS (As := [.int x0, .int x1, va_rf q_1]) (rest := []) (μ := m_J0_checkIndex_df160) (pc := 5) dJ0_checkIndex_df160_5 cs_J0_1059 rfl rfl (Nat.le_of_ble_eq_true rfl) (d' := d - 1) (by omega) he_i (c_J3_checkIndex_8e157 wt hl (d := d - 1) (by omega) ) (fun r_2 => ?_)
  refine w_pop (μ := m_J0_checkIndex_df160) (pc := 8) dJ0_checkIndex_df160_8 rfl ?_
  exact w_vret (μ := m_J0_checkIndex_df160) (pc := 9) dJ0_checkIndex_df160_9 rfl rfl
def J_J0_coder_7d493_14 (N : Nat) (g : gp) (a0 : Nat) (xs0 : Int32) (δ : dp) : Option (Int32 × dp) :=
  if narrow .byte (.int xs0) = .int xs0 then some (xs0, δ) else none
set_option maxHeartbeats 4000000 in
set_option maxRecDepth 100000 in
theorem t_J_J0_coder_7d493_14 {l : Launch} {D : va_G} {cy : Nat → ClassId} {N d : Nat} {g : gp} (wt : WT g) (hl : l.stackTraces = false) (hd : 1 ≤ d) {a0 : Nat} (k0 : a0 < 16) : ∀ (xs0 : Int32) (δ : dp), AWD l D cy m_J0_coder_7d493 d 0 0 ei g 14 [] [.int xs0] δ (J_J0_coder_7d493_14 N g a0 xs0 δ) := by
    intro xs0 δ 
    unfold J_J0_coder_7d493_14
    refine w_gd (fun z_2 => ?_)
    exact w_nret (μ := m_J0_coder_7d493) (pc := 14) dJ0_coder_7d493_14 rfl z_2 rfl
def D_J0_coder_7d493 (N : Nat) (g : gp) (a0 : Nat) (δ : dp) : Option (Int32 × dp) :=
  if (1 : Int32) = 0 then (J_J0_coder_7d493_14 N g a0 1 δ) else (J_J0_coder_7d493_14 N g a0 0 δ)
set_option maxHeartbeats 4000000 in
set_option maxRecDepth 100000 in
theorem c_J0_coder_7d493 {l : Launch} {D : va_G} {cy : Nat → ClassId} {N d : Nat} {g : gp} (wt : WT g) (hl : l.stackTraces = false) (hd : 1 ≤ d) {a0 : Nat} {δ : dp} (k0 : a0 < 16) : CalD l D cy m_J0_coder_7d493 d 0 0 ei g [.ref (D.2 100 a0)] δ (D_J0_coder_7d493 N g a0 δ) := by
  refine CalD.of (by decide +kernel) (Nat.le_of_ble_eq_true rfl) hl ?_
  unfold D_J0_coder_7d493
  refine w_scmp (μ := m_J0_coder_7d493) (pc := 0) dJ0_coder_7d493_0 sf_J0_38 ?_
  refine w_if_eq 13 (μ := m_J0_coder_7d493) (pc := 3) dJ0_coder_7d493_3 (by decide) (fun c_1 => ?_) (fun c_1 => ?_)
  · refine w_iconst (v := 1) (μ := m_J0_coder_7d493) (pc := 13) dJ0_coder_7d493_13 (by decide) ?_
    refine w_lv [] rfl ?_
    exact t_J_J0_coder_7d493_14 wt hl (by omega) k0 _ _
  · refine w_aload_n 0 0 (μ := m_J0_coder_7d493) (pc := 6) dJ0_coder_7d493_6 rfl rfl ?_
    refine w_scod k0 (μ := m_J0_coder_7d493) (pc := 7) dJ0_coder_7d493_7 sf_J0_15 ?_
    refine w_goto 14 (μ := m_J0_coder_7d493) (pc := 10) dJ0_coder_7d493_10 (by decide) ?_
    refine w_lv [] rfl ?_
    exact t_J_J0_coder_7d493_14 wt hl (by omega) k0 _ _
def J_J0_isLatin1_aae02_18 (N : Nat) (g : gp) (a0 : Nat) (xs0 : Int32) (δ : dp) : Option (Int32 × dp) :=
  if xs0 = 0 ∨ xs0 = 1 then some (xs0, δ) else none
set_option maxHeartbeats 4000000 in
set_option maxRecDepth 100000 in
theorem t_J_J0_isLatin1_aae02_18 {l : Launch} {D : va_G} {cy : Nat → ClassId} {N d : Nat} {g : gp} (wt : WT g) (hl : l.stackTraces = false) (hd : 1 ≤ d) {a0 : Nat} (k0 : a0 < 16) : ∀ (xs0 : Int32) (δ : dp), AWD l D cy m_J0_isLatin1_aae02 d 0 0 ei g 18 [] [.int xs0] δ (J_J0_isLatin1_aae02_18 N g a0 xs0 δ) := by
    intro xs0 δ 
    unfold J_J0_isLatin1_aae02_18
    exact w_zret (μ := m_J0_isLatin1_aae02) (pc := 18) dJ0_isLatin1_aae02_18 rfl rfl
def J_J0_isLatin1_aae02_17 (N : Nat) (g : gp) (a0 : Nat) (δ : dp) : Option (Int32 × dp) :=
  J_J0_isLatin1_aae02_18 N g a0 0 δ
set_option maxHeartbeats 4000000 in
set_option maxRecDepth 100000 in
theorem t_J_J0_isLatin1_aae02_17 {l : Launch} {D : va_G} {cy : Nat → ClassId} {N d : Nat} {g : gp} (wt : WT g) (hl : l.stackTraces = false) (hd : 1 ≤ d) {a0 : Nat} (k0 : a0 < 16) : ∀ (δ : dp), AWD l D cy m_J0_isLatin1_aae02 d 0 0 ei g 17 [] [] δ (J_J0_isLatin1_aae02_17 N g a0 δ) := by
    intro  δ 
    unfold J_J0_isLatin1_aae02_17
    refine w_iconst (v := 0) (μ := m_J0_isLatin1_aae02) (pc := 17) dJ0_isLatin1_aae02_17 (by decide) ?_
    exact t_J_J0_isLatin1_aae02_18 wt hl (by omega) k0 _ _
def D_J0_isLatin1_aae02 (N : Nat) (g : gp) (a0 : Nat) (δ : dp) : Option (Int32 × dp) :=
  if (1 : Int32) = 0 then (J_J0_isLatin1_aae02_17 N g a0 δ) else (if (0 : Int32) = 0 then (J_J0_isLatin1_aae02_18 N g a0 1 δ) else (J_J0_isLatin1_aae02_17 N g a0 δ))
set_option maxHeartbeats 4000000 in
set_option maxRecDepth 100000 in
theorem c_J0_isLatin1_aae02 {l : Launch} {D : va_G} {cy : Nat → ClassId} {N d : Nat} {g : gp} (wt : WT g) (hl : l.stackTraces = false) (hd : 1 ≤ d) {a0 : Nat} {δ : dp} (k0 : a0 < 16) : CalD l D cy m_J0_isLatin1_aae02 d 0 0 ei g [.ref (D.2 100 a0)] δ (D_J0_isLatin1_aae02 N g a0 δ) := by
  refine CalD.of (by decide +kernel) (Nat.le_of_ble_eq_true rfl) hl ?_
  unfold D_J0_isLatin1_aae02
  refine w_scmp (μ := m_J0_isLatin1_aae02) (pc := 0) dJ0_isLatin1_aae02_0 sf_J0_38 ?_
  refine w_if_eq 17 (μ := m_J0_isLatin1_aae02) (pc := 3) dJ0_isLatin1_aae02_3 (by decide) (fun c_1 => ?_) (fun c_1 => ?_)
  · refine w_lv [] rfl ?_
    exact t_J_J0_isLatin1_aae02_17 wt hl (by omega) k0 _
  · refine w_aload_n 0 0 (μ := m_J0_isLatin1_aae02) (pc := 6) dJ0_isLatin1_aae02_6 rfl rfl ?_
    refine w_scod k0 (μ := m_J0_isLatin1_aae02) (pc := 7) dJ0_isLatin1_aae02_7 sf_J0_15 ?_
    refine w_if_ne 17 (μ := m_J0_isLatin1_aae02) (pc := 10) dJ0_isLatin1_aae02_10 (by decide) (fun c_2 => ?_) (fun c_2 => ?_)
    · refine w_lv [] rfl ?_
      exact t_J_J0_isLatin1_aae02_17 wt hl (by omega) k0 _
    · refine w_iconst (v := 1) (μ := m_J0_isLatin1_aae02) (pc := 13) dJ0_isLatin1_aae02_13 (by decide) ?_
      refine w_goto 18 (μ := m_J0_isLatin1_aae02) (pc := 14) dJ0_isLatin1_aae02_14 (by decide) ?_
      refine w_lv [] rfl ?_
      exact t_J_J0_isLatin1_aae02_18 wt hl (by omega) k0 _ _
def D_J0_length_8abf5 (N : Nat) (g : gp) (a0 : Nat) (δ : dp) : Option (Int32 × dp) :=
  (D_J0_coder_7d493 N g a0 δ).bind fun r_1 => some ((Int32.ofNat (tx_n a0)) >>> (r_1.1 &&& 31), r_1.2)
set_option maxHeartbeats 4000000 in
set_option maxRecDepth 100000 in
theorem c_J0_length_8abf5 {l : Launch} {D : va_G} {cy : Nat → ClassId} {N d : Nat} {g : gp} (wt : WT g) (hl : l.stackTraces = false) (hd : 2 ≤ d) {a0 : Nat} {δ : dp} (k0 : a0 < 16) : CalD l D cy m_J0_length_8abf5 d 0 0 ei g [.ref (D.2 100 a0)] δ (D_J0_length_8abf5 N g a0 δ) := by
  refine CalD.of (by decide +kernel) (Nat.le_of_ble_eq_true rfl) hl ?_
  unfold D_J0_length_8abf5
  refine w_aload_n 0 0 (μ := m_J0_length_8abf5) (pc := 0) dJ0_length_8abf5_0 rfl rfl ?_
  refine w_sval k0 (μ := m_J0_length_8abf5) (pc := 1) dJ0_length_8abf5_1 sf_J0_9 ?_
  refine w_slen k0 (μ := m_J0_length_8abf5) (pc := 4) dJ0_length_8abf5_4 ?_
  refine w_aload_n 0 0 (μ := m_J0_length_8abf5) (pc := 5) dJ0_length_8abf5_5 rfl rfl ?_
  refine w_callT (As := []) (rest := [.int (Int32.ofNat (tx_n a0))]) k0 (μ := m_J0_length_8abf5) (pc := 6) dJ0_length_8abf5_6 cv_J0_335 rfl rfl rfl (Nat.le_of_ble_eq_true rfl) (d' := d - 1) (by omega) he_i (c_J0_coder_7d493 wt hl (d := d - 1) (by omega) k0) (fun r_1 => ?_)
  refine w_ishr (μ := m_J0_length_8abf5) (pc := 9) dJ0_length_8abf5_9 ?_
  exact w_iret (μ := m_J0_length_8abf5) (pc := 10) dJ0_length_8abf5_10 rfl rfl
def D_J1_charAt_3b067 (N : Nat) (g : gp) (a0 : Nat) (x1 : Int32) (δ : dp) : Option (Int32 × dp) :=
  (D_J0_checkIndex_df160 N g x1 (Int32.ofNat (tx_n a0)) δ).bind fun r_1 => if x1 < 0 ∨ tx_n a0 ≤ x1.toNatClampNeg then none else if narrow .char (.int ((((tx_b a0 x1.toNatClampNeg) &&& 255).toUInt32 % 65536).toInt32)) = .int ((((tx_b a0 x1.toNatClampNeg) &&& 255).toUInt32 % 65536).toInt32) then some ((((tx_b a0 x1.toNatClampNeg) &&& 255).toUInt32 % 65536).toInt32, r_1) else none
set_option maxHeartbeats 4000000 in
set_option maxRecDepth 100000 in
theorem c_J1_charAt_3b067 {l : Launch} {D : va_G} {cy : Nat → ClassId} {N d : Nat} {g : gp} (wt : WT g) (hl : l.stackTraces = false) (hd : 3 ≤ d) {a0 : Nat} {x1 : Int32} {δ : dp} (k0 : a0 < 16) : CalD l D cy m_J1_charAt_3b067 d 0 0 ei g [.ref (D.2 101 a0), .int x1] δ (D_J1_charAt_3b067 N g a0 x1 δ) := by
  refine CalD.of (by decide +kernel) (Nat.le_of_ble_eq_true rfl) hl ?_
  unfold D_J1_charAt_3b067
  refine w_iload_n 1 1 (μ := m_J1_charAt_3b067) (pc := 0) dJ1_charAt_3b067_0 rfl rfl ?_
  refine w_aload_n 0 0 (μ := m_J1_charAt_3b067) (pc := 1) dJ1_charAt_3b067_1 rfl rfl ?_
  refine w_slen k0 (μ := m_J1_charAt_3b067) (pc := 2) dJ1_charAt_3b067_2 ?_
  refine w_callS (As := [.int x1, .int (Int32.ofNat (tx_n a0))]) (rest := []) (μ := m_J1_charAt_3b067) (pc := 3) dJ1_charAt_3b067_3 cs_J1_9 rfl rfl (Nat.le_of_ble_eq_true rfl) (d' := d - 1) (by omega) he_v (c_J0_checkIndex_df160 wt hl (d := d - 1) (by omega) ) (fun r_1 => ?_)
  refine w_aload_n 0 0 (μ := m_J1_charAt_3b067) (pc := 6) dJ1_charAt_3b067_6 rfl rfl ?_
  refine w_iload_n 1 1 (μ := m_J1_charAt_3b067) (pc := 7) dJ1_charAt_3b067_7 rfl rfl ?_
  refine w_sbld k0 (μ := m_J1_charAt_3b067) (pc := 8) dJ1_charAt_3b067_8 ?_
  refine w_sipush (v := 255) (μ := m_J1_charAt_3b067) (pc := 9) dJ1_charAt_3b067_9 (by decide) ?_
  refine w_iand (μ := m_J1_charAt_3b067) (pc := 12) dJ1_charAt_3b067_12 ?_
  refine w_i2c (μ := m_J1_charAt_3b067) (pc := 13) dJ1_charAt_3b067_13 ?_
  refine w_gd (fun z_2 => ?_)
  exact w_nret (μ := m_J1_charAt_3b067) (pc := 14) dJ1_charAt_3b067_14 rfl z_2 rfl
def D_J0_charAt_5068e (N : Nat) (g : gp) (a0 : Nat) (x1 : Int32) (δ : dp) : Option (Int32 × dp) :=
  (D_J0_isLatin1_aae02 N g a0 δ).bind fun r_1 => if r_1.1 = 0 then (none) else ((D_J1_charAt_3b067 N g a0 x1 r_1.2).bind fun r_3 => if narrow .char (.int r_3.1) = .int r_3.1 then some (r_3.1, r_3.2) else none)
set_option maxHeartbeats 4000000 in
set_option maxRecDepth 100000 in
theorem c_J0_charAt_5068e {l : Launch} {D : va_G} {cy : Nat → ClassId} {N d : Nat} {g : gp} (wt : WT g) (hl : l.stackTraces = false) (hd : 4 ≤ d) {a0 : Nat} {x1 : Int32} {δ : dp} (k0 : a0 < 16) : CalD l D cy m_J0_charAt_5068e d 0 0 ei g [.ref (D.2 100 a0), .int x1] δ (D_J0_charAt_5068e N g a0 x1 δ) := by
  refine CalD.of (by decide +kernel) (Nat.le_of_ble_eq_true rfl) hl ?_
  unfold D_J0_charAt_5068e
  refine w_aload_n 0 0 (μ := m_J0_charAt_5068e) (pc := 0) dJ0_charAt_5068e_0 rfl rfl ?_
  refine w_callT (As := []) (rest := []) k0 (μ := m_J0_charAt_5068e) (pc := 1) dJ0_charAt_5068e_1 cv_J0_492 rfl rfl rfl (Nat.le_of_ble_eq_true rfl) (d' := d - 1) (by omega) he_i (c_J0_isLatin1_aae02 wt hl (d := d - 1) (by omega) k0) (fun r_1 => ?_)
  refine w_if_eq 16 (μ := m_J0_charAt_5068e) (pc := 4) dJ0_charAt_5068e_4 (by decide) (fun c_2 => ?_) (fun c_2 => ?_)
  · refine w_aload_n 0 0 (μ := m_J0_charAt_5068e) (pc := 16) dJ0_charAt_5068e_16 rfl rfl ?_
    refine w_sval k0 (μ := m_J0_charAt_5068e) (pc := 17) dJ0_charAt_5068e_17 sf_J0_9 ?_
    refine w_iload_n 1 1 (μ := m_J0_charAt_5068e) (pc := 20) dJ0_charAt_5068e_20 rfl rfl ?_
    exact w_none
  · refine w_aload_n 0 0 (μ := m_J0_charAt_5068e) (pc := 7) dJ0_charAt_5068e_7 rfl rfl ?_
    refine w_sval k0 (μ := m_J0_charAt_5068e) (pc := 8) dJ0_charAt_5068e_8 sf_J0_9 ?_
    refine w_iload_n 1 1 (μ := m_J0_charAt_5068e) (pc := 11) dJ0_charAt_5068e_11 rfl rfl ?_
    refine w_callS (As := [.ref (D.2 101 a0), .int x1]) (rest := []) (μ := m_J0_charAt_5068e) (pc := 12) dJ0_charAt_5068e_12 cs_J0_495 rfl rfl (Nat.le_of_ble_eq_true rfl) (d' := d - 1) (by omega) he_i (c_J1_charAt_3b067 wt hl (d := d - 1) (by omega) k0) (fun r_3 => ?_)
    refine w_gd (fun z_4 => ?_)
    exact w_nret (μ := m_J0_charAt_5068e) (pc := 15) dJ0_charAt_5068e_15 rfl z_4 rfl
