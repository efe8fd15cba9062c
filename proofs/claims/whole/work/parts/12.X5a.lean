theorem dX5_take_0 : decode cX5_take 0 = .ok (.aload_n 0, 1) := by decide +kernel
theorem dX5_take_1 : decode cX5_take 1 = .ok (.aload_n 1, 1) := by decide +kernel
theorem dX5_take_2 : decode cX5_take 2 = .ok (.getfield 24, 3) := by decide +kernel
theorem dX5_take_5 : decode cX5_take 5 = .ok (.putfield 11, 3) := by decide +kernel
theorem dX5_take_8 : decode cX5_take 8 = .ok (.aload_n 0, 1) := by decide +kernel
theorem dX5_take_9 : decode cX5_take 9 = .ok (.aload_n 1, 1) := by decide +kernel
theorem dX5_take_10 : decode cX5_take 10 = .ok (.getfield 25, 3) := by decide +kernel
theorem dX5_take_13 : decode cX5_take 13 = .ok (.putfield 17, 3) := by decide +kernel
theorem dX5_take_16 : decode cX5_take 16 = .ok (.aload_n 0, 1) := by decide +kernel
theorem dX5_take_17 : decode cX5_take 17 = .ok (.aload_n 1, 1) := by decide +kernel
theorem dX5_take_18 : decode cX5_take 18 = .ok (.getfield 26, 3) := by decide +kernel
theorem dX5_take_21 : decode cX5_take 21 = .ok (.putfield 21, 3) := by decide +kernel
theorem dX5_take_24 : decode cX5_take 24 = .ok (.return_, 1) := by decide +kernel
theorem dX5_greatest_0 : decode cX5_greatest 0 = .ok (.iconst 1, 1) := by decide +kernel
theorem dX5_greatest_1 : decode cX5_greatest 1 = .ok (.aload_n 0, 1) := by decide +kernel
theorem dX5_greatest_2 : decode cX5_greatest 2 = .ok (.getfield 11, 3) := by decide +kernel
theorem dX5_greatest_5 : decode cX5_greatest 5 = .ok (.ishl, 1) := by decide +kernel
theorem dX5_greatest_6 : decode cX5_greatest 6 = .ok (.iconst 1, 1) := by decide +kernel
theorem dX5_greatest_7 : decode cX5_greatest 7 = .ok (.isub, 1) := by decide +kernel
theorem dX5_greatest_8 : decode cX5_greatest 8 = .ok (.ireturn, 1) := by decide +kernel
theorem dX5_isSmall_0 : decode cX5_isSmall 0 = .ok (.aload_n 0, 1) := by decide +kernel
theorem dX5_isSmall_1 : decode cX5_isSmall 1 = .ok (.getfield 11, 3) := by decide +kernel
theorem dX5_isSmall_4 : decode cX5_isSmall 4 = .ok (.bipush 6, 2) := by decide +kernel
theorem dX5_isSmall_6 : decode cX5_isSmall 6 = .ok (.if_icmp .gt 7, 3) := by decide +kernel
theorem dX5_isSmall_9 : decode cX5_isSmall 9 = .ok (.iconst 1, 1) := by decide +kernel
theorem dX5_isSmall_10 : decode cX5_isSmall 10 = .ok (.goto 4, 3) := by decide +kernel
theorem dX5_isSmall_13 : decode cX5_isSmall 13 = .ok (.iconst 0, 1) := by decide +kernel
theorem dX5_isSmall_14 : decode cX5_isSmall 14 = .ok (.ireturn, 1) := by decide +kernel
theorem dX5_mostInSets_0 : decode cX5_mostInSets 0 = .ok (.aload_n 0, 1) := by decide +kernel
theorem dX5_mostInSets_1 : decode cX5_mostInSets 1 = .ok (.getfield 11, 3) := by decide +kernel
theorem dX5_mostInSets_4 : decode cX5_mostInSets 4 = .ok (.iconst 4, 1) := by decide +kernel
theorem dX5_mostInSets_5 : decode cX5_mostInSets 5 = .ok (.if_icmp .gt 8, 3) := by decide +kernel
theorem dX5_mostInSets_8 : decode cX5_mostInSets 8 = .ok (.bipush 16, 2) := by decide +kernel
theorem dX5_mostInSets_10 : decode cX5_mostInSets 10 = .ok (.goto 4, 3) := by decide +kernel
theorem dX5_mostInSets_13 : decode cX5_mostInSets 13 = .ok (.iconst 3, 1) := by decide +kernel
theorem dX5_mostInSets_14 : decode cX5_mostInSets 14 = .ok (.ireturn, 1) := by decide +kernel
theorem dX5_mostInRows_0 : decode cX5_mostInRows 0 = .ok (.aload_n 0, 1) := by decide +kernel
theorem dX5_mostInRows_1 : decode cX5_mostInRows 1 = .ok (.getfield 11, 3) := by decide +kernel
theorem dX5_mostInRows_4 : decode cX5_mostInRows 4 = .ok (.iconst 4, 1) := by decide +kernel
theorem dX5_mostInRows_5 : decode cX5_mostInRows 5 = .ok (.if_icmp .gt 8, 3) := by decide +kernel
theorem dX5_mostInRows_8 : decode cX5_mostInRows 8 = .ok (.bipush 6, 2) := by decide +kernel
theorem dX5_mostInRows_10 : decode cX5_mostInRows 10 = .ok (.goto 4, 3) := by decide +kernel
theorem dX5_mostInRows_13 : decode cX5_mostInRows 13 = .ok (.iconst 2, 1) := by decide +kernel
theorem dX5_mostInRows_14 : decode cX5_mostInRows 14 = .ok (.ireturn, 1) := by decide +kernel
theorem dX5_lowerBits_0 : decode cX5_lowerBits 0 = .ok (.aload_n 0, 1) := by decide +kernel
theorem dX5_lowerBits_1 : decode cX5_lowerBits 1 = .ok (.getfield 17, 3) := by decide +kernel
theorem dX5_lowerBits_4 : decode cX5_lowerBits 4 = .ok (.ifCond .eq 9, 3) := by decide +kernel
theorem dX5_lowerBits_7 : decode cX5_lowerBits 7 = .ok (.iload_n 1, 1) := by decide +kernel
theorem dX5_lowerBits_8 : decode cX5_lowerBits 8 = .ok (.iconst 2, 1) := by decide +kernel
theorem dX5_lowerBits_9 : decode cX5_lowerBits 9 = .ok (.idiv, 1) := by decide +kernel
theorem dX5_lowerBits_10 : decode cX5_lowerBits 10 = .ok (.goto 8, 3) := by decide +kernel
theorem dX5_lowerBits_13 : decode cX5_lowerBits 13 = .ok (.iload_n 1, 1) := by decide +kernel
theorem dX5_lowerBits_14 : decode cX5_lowerBits 14 = .ok (.iconst 1, 1) := by decide +kernel
theorem dX5_lowerBits_15 : decode cX5_lowerBits 15 = .ok (.iadd, 1) := by decide +kernel
theorem dX5_lowerBits_16 : decode cX5_lowerBits 16 = .ok (.iconst 2, 1) := by decide +kernel
theorem dX5_lowerBits_17 : decode cX5_lowerBits 17 = .ok (.idiv, 1) := by decide +kernel
theorem dX5_lowerBits_18 : decode cX5_lowerBits 18 = .ok (.ireturn, 1) := by decide +kernel
theorem dX5_boundOf_0 : decode cX5_boundOf 0 = .ok (.aload_n 0, 1) := by decide +kernel
theorem dX5_boundOf_1 : decode cX5_boundOf 1 = .ok (.iload_n 1, 1) := by decide +kernel
theorem dX5_boundOf_2 : decode cX5_boundOf 2 = .ok (.aload_n 0, 1) := by decide +kernel
theorem dX5_boundOf_3 : decode cX5_boundOf 3 = .ok (.getfield 11, 3) := by decide +kernel
theorem dX5_boundOf_6 : decode cX5_boundOf 6 = .ok (.ldc 27, 2) := by decide +kernel
theorem dX5_boundOf_8 : decode cX5_boundOf 8 = .ok (.invokevirtual 28, 3) := by decide +kernel
theorem dX5_boundOf_11 : decode cX5_boundOf 11 = .ok (.ireturn, 1) := by decide +kernel
theorem dX5_mostTouches_0 : decode cX5_mostTouches 0 = .ok (.iload_n 3, 1) := by decide +kernel
theorem dX5_mostTouches_1 : decode cX5_mostTouches 1 = .ok (.iconst 2, 1) := by decide +kernel
theorem dX5_mostTouches_2 : decode cX5_mostTouches 2 = .ok (.isub, 1) := by decide +kernel
theorem dX5_mostTouches_3 : decode cX5_mostTouches 3 = .ok (.istore 4, 2) := by decide +kernel
theorem dX5_mostTouches_5 : decode cX5_mostTouches 5 = .ok (.iload_n 2, 1) := by decide +kernel
theorem dX5_mostTouches_6 : decode cX5_mostTouches 6 = .ok (.aload_n 0, 1) := by decide +kernel
theorem dX5_mostTouches_7 : decode cX5_mostTouches 7 = .ok (.getfield 21, 3) := by decide +kernel
theorem dX5_mostTouches_10 : decode cX5_mostTouches 10 = .ok (.if_icmp .le 17, 3) := by decide +kernel
theorem dX5_mostTouches_13 : decode cX5_mostTouches 13 = .ok (.iload 4, 2) := by decide +kernel
theorem dX5_mostTouches_15 : decode cX5_mostTouches 15 = .ok (.ifCond .lt 12, 3) := by decide +kernel
theorem dX5_mostTouches_18 : decode cX5_mostTouches 18 = .ok (.iload 4, 2) := by decide +kernel
theorem dX5_mostTouches_20 : decode cX5_mostTouches 20 = .ok (.ifCond .ne 9, 3) := by decide +kernel
theorem dX5_mostTouches_23 : decode cX5_mostTouches 23 = .ok (.iload_n 1, 1) := by decide +kernel
theorem dX5_mostTouches_24 : decode cX5_mostTouches 24 = .ok (.ifCond .eq 5, 3) := by decide +kernel
theorem dX5_mostTouches_27 : decode cX5_mostTouches 27 = .ok (.iconst 1, 1) := by decide +kernel
theorem dX5_mostTouches_28 : decode cX5_mostTouches 28 = .ok (.ireturn, 1) := by decide +kernel
theorem dX5_mostTouches_29 : decode cX5_mostTouches 29 = .ok (.aload_n 0, 1) := by decide +kernel
theorem dX5_mostTouches_30 : decode cX5_mostTouches 30 = .ok (.iload_n 2, 1) := by decide +kernel
theorem dX5_mostTouches_31 : decode cX5_mostTouches 31 = .ok (.invokevirtual 32, 3) := by decide +kernel
theorem dX5_mostTouches_34 : decode cX5_mostTouches 34 = .ok (.istore 5, 2) := by decide +kernel
theorem dX5_mostTouches_36 : decode cX5_mostTouches 36 = .ok (.iload 4, 2) := by decide +kernel
theorem dX5_mostTouches_38 : decode cX5_mostTouches 38 = .ok (.ifCond .ne 7, 3) := by decide +kernel
theorem dX5_mostTouches_41 : decode cX5_mostTouches 41 = .ok (.iconst 0, 1) := by decide +kernel
theorem dX5_mostTouches_42 : decode cX5_mostTouches 42 = .ok (.goto 12, 3) := by decide +kernel
theorem dX5_mostTouches_45 : decode cX5_mostTouches 45 = .ok (.aload_n 0, 1) := by decide +kernel
theorem dX5_mostTouches_46 : decode cX5_mostTouches 46 = .ok (.iload_n 1, 1) := by decide +kernel
theorem dX5_mostTouches_47 : decode cX5_mostTouches 47 = .ok (.iload 5, 2) := by decide +kernel
theorem dX5_mostTouches_49 : decode cX5_mostTouches 49 = .ok (.iload 4, 2) := by decide +kernel
theorem dX5_mostTouches_51 : decode cX5_mostTouches 51 = .ok (.invokevirtual 28, 3) := by decide +kernel
theorem dX5_mostTouches_54 : decode cX5_mostTouches 54 = .ok (.istore 6, 2) := by decide +kernel
theorem dX5_mostTouches_56 : decode cX5_mostTouches 56 = .ok (.iload_n 1, 1) := by decide +kernel
theorem dX5_mostTouches_57 : decode cX5_mostTouches 57 = .ok (.iconst 2, 1) := by decide +kernel
theorem dX5_mostTouches_58 : decode cX5_mostTouches 58 = .ok (.if_icmp .ne 8, 3) := by decide +kernel
theorem dX5_mostTouches_61 : decode cX5_mostTouches 61 = .ok (.iconst 1, 1) := by decide +kernel
theorem dX5_mostTouches_62 : decode cX5_mostTouches 62 = .ok (.iload 6, 2) := by decide +kernel
theorem dX5_mostTouches_64 : decode cX5_mostTouches 64 = .ok (.iadd, 1) := by decide +kernel
theorem dX5_mostTouches_65 : decode cX5_mostTouches 65 = .ok (.ireturn, 1) := by decide +kernel
theorem dX5_mostTouches_66 : decode cX5_mostTouches 66 = .ok (.aload_n 0, 1) := by decide +kernel
theorem dX5_mostTouches_67 : decode cX5_mostTouches 67 = .ok (.iload_n 1, 1) := by decide +kernel
theorem dX5_mostTouches_68 : decode cX5_mostTouches 68 = .ok (.iload_n 2, 1) := by decide +kernel
theorem dX5_mostTouches_69 : decode cX5_mostTouches 69 = .ok (.iload 5, 2) := by decide +kernel
theorem dX5_mostTouches_71 : decode cX5_mostTouches 71 = .ok (.isub, 1) := by decide +kernel
theorem dX5_mostTouches_72 : decode cX5_mostTouches 72 = .ok (.iload 4, 2) := by decide +kernel
theorem dX5_mostTouches_74 : decode cX5_mostTouches 74 = .ok (.invokevirtual 28, 3) := by decide +kernel
theorem dX5_mostTouches_77 : decode cX5_mostTouches 77 = .ok (.istore 7, 2) := by decide +kernel
theorem dX5_mostTouches_79 : decode cX5_mostTouches 79 = .ok (.iload_n 1, 1) := by decide +kernel
theorem dX5_mostTouches_80 : decode cX5_mostTouches 80 = .ok (.ifCond .eq 14, 3) := by decide +kernel
theorem dX5_mostTouches_83 : decode cX5_mostTouches 83 = .ok (.iload_n 1, 1) := by decide +kernel
theorem dX5_mostTouches_84 : decode cX5_mostTouches 84 = .ok (.iconst 1, 1) := by decide +kernel
theorem dX5_mostTouches_85 : decode cX5_mostTouches 85 = .ok (.if_icmp .eq 9, 3) := by decide +kernel
theorem dX5_mostTouches_88 : decode cX5_mostTouches 88 = .ok (.iload 4, 2) := by decide +kernel
theorem dX5_mostTouches_90 : decode cX5_mostTouches 90 = .ok (.iconst 1, 1) := by decide +kernel
theorem dX5_mostTouches_91 : decode cX5_mostTouches 91 = .ok (.if_icmp .le 6, 3) := by decide +kernel
theorem dX5_mostTouches_94 : decode cX5_mostTouches 94 = .ok (.iinc 7 1, 3) := by decide +kernel
theorem dX5_mostTouches_97 : decode cX5_mostTouches 97 = .ok (.iload_n 1, 1) := by decide +kernel
theorem dX5_mostTouches_98 : decode cX5_mostTouches 98 = .ok (.ifCond .ne 7, 3) := by decide +kernel
theorem dX5_mostTouches_101 : decode cX5_mostTouches 101 = .ok (.iconst 1, 1) := by decide +kernel
theorem dX5_mostTouches_102 : decode cX5_mostTouches 102 = .ok (.goto 13, 3) := by decide +kernel
theorem dX5_mostTouches_105 : decode cX5_mostTouches 105 = .ok (.iload_n 1, 1) := by decide +kernel
theorem dX5_mostTouches_106 : decode cX5_mostTouches 106 = .ok (.iconst 1, 1) := by decide +kernel
theorem dX5_mostTouches_107 : decode cX5_mostTouches 107 = .ok (.if_icmp .ne 7, 3) := by decide +kernel
theorem dX5_mostTouches_110 : decode cX5_mostTouches 110 = .ok (.iconst 3, 1) := by decide +kernel
theorem dX5_mostTouches_111 : decode cX5_mostTouches 111 = .ok (.goto 4, 3) := by decide +kernel
theorem dX5_mostTouches_114 : decode cX5_mostTouches 114 = .ok (.iconst 2, 1) := by decide +kernel
theorem dX5_mostTouches_115 : decode cX5_mostTouches 115 = .ok (.iload 6, 2) := by decide +kernel
theorem dX5_mostTouches_117 : decode cX5_mostTouches 117 = .ok (.iload 7, 2) := by decide +kernel
theorem dX5_mostTouches_119 : decode cX5_mostTouches 119 = .ok (.invokestatic 36, 3) := by decide +kernel
theorem dX5_mostTouches_122 : decode cX5_mostTouches 122 = .ok (.iadd, 1) := by decide +kernel
theorem dX5_mostTouches_123 : decode cX5_mostTouches 123 = .ok (.ireturn, 1) := by decide +kernel
def D_X5_take (N : Nat) (g : gp) (a0 : Nat) (a1 : Nat) (δ : dp) : Option (dp) :=
  bd (s_I δ 5 0 a0 (q_I δ 6 0 a1)) fun δ_1 => if (q_I δ_1 6 1 a1) = 0 ∨ (q_I δ_1 6 1 a1) = 1 then bd (s_I δ_1 5 1 a0 (q_I δ_1 6 1 a1)) fun δ_3 => bd (s_I δ_3 5 2 a0 (q_I δ_3 6 2 a1)) fun δ_5 => some δ_5 else none
set_option maxHeartbeats 4000000 in
set_option maxRecDepth 100000 in
theorem c_X5_take {l : Launch} {D : va_G} {cy : Nat → ClassId} {N d : Nat} {g : gp} (wt : WT g) (hl : l.stackTraces = false) (hd : 1 ≤ d) {a0 : Nat} {a1 : Nat} {δ : dp} (k0 : q_K g a0 = 5) (k1 : q_K g a1 = 6) : CalD l D cy m_X5_take d 0 0 ev g [.ref a0, .ref a1] δ (D_X5_take N g a0 a1 δ) := by
  refine CalD.of (by decide +kernel) (Nat.le_of_ble_eq_true rfl) hl ?_
  unfold D_X5_take
  refine w_aload_n 0 0 (μ := m_X5_take) (pc := 0) dX5_take_0 rfl rfl ?_
  refine w_aload_n 1 1 (μ := m_X5_take) (pc := 1) dX5_take_1 rfl rfl ?_
  refine w_getI (μ := m_X5_take) (pc := 2) dX5_take_2 fl_X5_24 ir_6_0 k1 ?_
  refine w_putI (μ := m_X5_take) (pc := 5) dX5_take_5 fl_X5_11 flw_5_0 ir_5_0 k0 ?_
  refine w_bd (fun δ_1 e_2 => ?_)
  refine w_aload_n 0 0 (μ := m_X5_take) (pc := 8) dX5_take_8 rfl rfl ?_
  refine w_aload_n 1 1 (μ := m_X5_take) (pc := 9) dX5_take_9 rfl rfl ?_
  refine w_getI (μ := m_X5_take) (pc := 10) dX5_take_10 fl_X5_25 ir_6_1 k1 ?_
  refine w_gd (fun z_7 => ?_)
  refine w_putZ (μ := m_X5_take) (pc := 13) dX5_take_13 fl_X5_17 flw_5_1 ir_5_1 k0 z_7 ?_
  refine w_bd (fun δ_3 e_4 => ?_)
  refine w_aload_n 0 0 (μ := m_X5_take) (pc := 16) dX5_take_16 rfl rfl ?_
  refine w_aload_n 1 1 (μ := m_X5_take) (pc := 17) dX5_take_17 rfl rfl ?_
  refine w_getI (μ := m_X5_take) (pc := 18) dX5_take_18 fl_X5_26 ir_6_2 k1 ?_
  refine w_putI (μ := m_X5_take) (pc := 21) dX5_take_21 fl_X5_21 flw_5_2 ir_5_2 k0 ?_
  refine w_bd (fun δ_5 e_6 => ?_)
  exact w_vret (μ := m_X5_take) (pc := 24) dX5_take_24 rfl rfl
def D_X5_greatest (N : Nat) (g : gp) (a0 : Nat) (δ : dp) : Option (Int32 × dp) :=
  some ((1 <<< ((q_I δ 5 0 a0) &&& 31)) - 1, δ)
set_option maxHeartbeats 4000000 in
set_option maxRecDepth 100000 in
theorem c_X5_greatest {l : Launch} {D : va_G} {cy : Nat → ClassId} {N d : Nat} {g : gp} (wt : WT g) (hl : l.stackTraces = false) (hd : 1 ≤ d) {a0 : Nat} {δ : dp} (k0 : q_K g a0 = 5) : CalD l D cy m_X5_greatest d 0 0 ei g [.ref a0] δ (D_X5_greatest N g a0 δ) := by
  refine CalD.of (by decide +kernel) (Nat.le_of_ble_eq_true rfl) hl ?_
  unfold D_X5_greatest
  refine w_iconst (v := 1) (μ := m_X5_greatest) (pc := 0) dX5_greatest_0 (by decide) ?_
  refine w_aload_n 0 0 (μ := m_X5_greatest) (pc := 1) dX5_greatest_1 rfl rfl ?_
  refine w_getI (μ := m_X5_greatest) (pc := 2) dX5_greatest_2 fl_X5_11 ir_5_0 k0 ?_
  refine w_ishl (μ := m_X5_greatest) (pc := 5) dX5_greatest_5 ?_
  refine w_iconst (v := 1) (μ := m_X5_greatest) (pc := 6) dX5_greatest_6 (by decide) ?_
  refine w_isub (μ := m_X5_greatest) (pc := 7) dX5_greatest_7 ?_
  exact w_iret (μ := m_X5_greatest) (pc := 8) dX5_greatest_8 rfl rfl
def J_X5_isSmall_14 (N : Nat) (g : gp) (a0 : Nat) (xs0 : Int32) (δ : dp) : Option (Int32 × dp) :=
  if xs0 = 0 ∨ xs0 = 1 then some (xs0, δ) else none
set_option maxHeartbeats 4000000 in
set_option maxRecDepth 100000 in
theorem t_J_X5_isSmall_14 {l : Launch} {D : va_G} {cy : Nat → ClassId} {N d : Nat} {g : gp} (wt : WT g) (hl : l.stackTraces = false) (hd : 1 ≤ d) {a0 : Nat} (k0 : q_K g a0 = 5) : ∀ (xs0 : Int32) (δ : dp), AWD l D cy m_X5_isSmall d 0 0 ei g 14 [] [.int xs0] δ (J_X5_isSmall_14 N g a0 xs0 δ) := by
    intro xs0 δ 
    unfold J_X5_isSmall_14
    exact w_zret (μ := m_X5_isSmall) (pc := 14) dX5_isSmall_14 rfl rfl
def D_X5_isSmall (N : Nat) (g : gp) (a0 : Nat) (δ : dp) : Option (Int32 × dp) :=
  if (6 : Int32) < (q_I δ 5 0 a0) then (J_X5_isSmall_14 N g a0 0 δ) else (J_X5_isSmall_14 N g a0 1 δ)
set_option maxHeartbeats 4000000 in
set_option maxRecDepth 100000 in
theorem c_X5_isSmall {l : Launch} {D : va_G} {cy : Nat → ClassId} {N d : Nat} {g : gp} (wt : WT g) (hl : l.stackTraces = false) (hd : 1 ≤ d) {a0 : Nat} {δ : dp} (k0 : q_K g a0 = 5) : CalD l D cy m_X5_isSmall d 0 0 ei g [.ref a0] δ (D_X5_isSmall N g a0 δ) := by
  refine CalD.of (by decide +kernel) (Nat.le_of_ble_eq_true rfl) hl ?_
  unfold D_X5_isSmall
  refine w_aload_n 0 0 (μ := m_X5_isSmall) (pc := 0) dX5_isSmall_0 rfl rfl ?_
  refine w_getI (μ := m_X5_isSmall) (pc := 1) dX5_isSmall_1 fl_X5_11 ir_5_0 k0 ?_
  refine w_bipush (v := 6) (μ := m_X5_isSmall) (pc := 4) dX5_isSmall_4 (by decide) ?_
  refine w_icmp_gt 13 (μ := m_X5_isSmall) (pc := 6) dX5_isSmall_6 (by decide) (fun c_1 => ?_) (fun c_1 => ?_)
  · refine w_iconst (v := 0) (μ := m_X5_isSmall) (pc := 13) dX5_isSmall_13 (by decide) ?_
    refine w_lv [] rfl ?_
    exact t_J_X5_isSmall_14 wt hl (by omega) k0 _ _
  · refine w_iconst (v := 1) (μ := m_X5_isSmall) (pc := 9) dX5_isSmall_9 (by decide) ?_
    refine w_goto 14 (μ := m_X5_isSmall) (pc := 10) dX5_isSmall_10 (by decide) ?_
    refine w_lv [] rfl ?_
    exact t_J_X5_isSmall_14 wt hl (by omega) k0 _ _
def J_X5_mostInSets_14 (N : Nat) (g : gp) (a0 : Nat) (xs0 : Int32) (δ : dp) : Option (Int32 × dp) :=
  some (xs0, δ)
set_option maxHeartbeats 4000000 in
set_option maxRecDepth 100000 in
theorem t_J_X5_mostInSets_14 {l : Launch} {D : va_G} {cy : Nat → ClassId} {N d : Nat} {g : gp} (wt : WT g) (hl : l.stackTraces = false) (hd : 1 ≤ d) {a0 : Nat} (k0 : q_K g a0 = 5) : ∀ (xs0 : Int32) (δ : dp), AWD l D cy m_X5_mostInSets d 0 0 ei g 14 [] [.int xs0] δ (J_X5_mostInSets_14 N g a0 xs0 δ) := by
    intro xs0 δ 
    unfold J_X5_mostInSets_14
    exact w_iret (μ := m_X5_mostInSets) (pc := 14) dX5_mostInSets_14 rfl rfl
def D_X5_mostInSets (N : Nat) (g : gp) (a0 : Nat) (δ : dp) : Option (Int32 × dp) :=
  if (4 : Int32) < (q_I δ 5 0 a0) then (J_X5_mostInSets_14 N g a0 3 δ) else (J_X5_mostInSets_14 N g a0 16 δ)
set_option maxHeartbeats 4000000 in
set_option maxRecDepth 100000 in
theorem c_X5_mostInSets {l : Launch} {D : va_G} {cy : Nat → ClassId} {N d : Nat} {g : gp} (wt : WT g) (hl : l.stackTraces = false) (hd : 1 ≤ d) {a0 : Nat} {δ : dp} (k0 : q_K g a0 = 5) : CalD l D cy m_X5_mostInSets d 0 0 ei g [.ref a0] δ (D_X5_mostInSets N g a0 δ) := by
  refine CalD.of (by decide +kernel) (Nat.le_of_ble_eq_true rfl) hl ?_
  unfold D_X5_mostInSets
  refine w_aload_n 0 0 (μ := m_X5_mostInSets) (pc := 0) dX5_mostInSets_0 rfl rfl ?_
  refine w_getI (μ := m_X5_mostInSets) (pc := 1) dX5_mostInSets_1 fl_X5_11 ir_5_0 k0 ?_
  refine w_iconst (v := 4) (μ := m_X5_mostInSets) (pc := 4) dX5_mostInSets_4 (by decide) ?_
  refine w_icmp_gt 13 (μ := m_X5_mostInSets) (pc := 5) dX5_mostInSets_5 (by decide) (fun c_1 => ?_) (fun c_1 => ?_)
  · refine w_iconst (v := 3) (μ := m_X5_mostInSets) (pc := 13) dX5_mostInSets_13 (by decide) ?_
    refine w_lv [] rfl ?_
    exact t_J_X5_mostInSets_14 wt hl (by omega) k0 _ _
  · refine w_bipush (v := 16) (μ := m_X5_mostInSets) (pc := 8) dX5_mostInSets_8 (by decide) ?_
    refine w_goto 14 (μ := m_X5_mostInSets) (pc := 10) dX5_mostInSets_10 (by decide) ?_
    refine w_lv [] rfl ?_
    exact t_J_X5_mostInSets_14 wt hl (by omega) k0 _ _
def J_X5_mostInRows_14 (N : Nat) (g : gp) (a0 : Nat) (xs0 : Int32) (δ : dp) : Option (Int32 × dp) :=
  some (xs0, δ)
set_option maxHeartbeats 4000000 in
set_option maxRecDepth 100000 in
theorem t_J_X5_mostInRows_14 {l : Launch} {D : va_G} {cy : Nat → ClassId} {N d : Nat} {g : gp} (wt : WT g) (hl : l.stackTraces = false) (hd : 1 ≤ d) {a0 : Nat} (k0 : q_K g a0 = 5) : ∀ (xs0 : Int32) (δ : dp), AWD l D cy m_X5_mostInRows d 0 0 ei g 14 [] [.int xs0] δ (J_X5_mostInRows_14 N g a0 xs0 δ) := by
    intro xs0 δ 
    unfold J_X5_mostInRows_14
    exact w_iret (μ := m_X5_mostInRows) (pc := 14) dX5_mostInRows_14 rfl rfl
def D_X5_mostInRows (N : Nat) (g : gp) (a0 : Nat) (δ : dp) : Option (Int32 × dp) :=
  if (4 : Int32) < (q_I δ 5 0 a0) then (J_X5_mostInRows_14 N g a0 2 δ) else (J_X5_mostInRows_14 N g a0 6 δ)
set_option maxHeartbeats 4000000 in
set_option maxRecDepth 100000 in
theorem c_X5_mostInRows {l : Launch} {D : va_G} {cy : Nat → ClassId} {N d : Nat} {g : gp} (wt : WT g) (hl : l.stackTraces = false) (hd : 1 ≤ d) {a0 : Nat} {δ : dp} (k0 : q_K g a0 = 5) : CalD l D cy m_X5_mostInRows d 0 0 ei g [.ref a0] δ (D_X5_mostInRows N g a0 δ) := by
  refine CalD.of (by decide +kernel) (Nat.le_of_ble_eq_true rfl) hl ?_
  unfold D_X5_mostInRows
  refine w_aload_n 0 0 (μ := m_X5_mostInRows) (pc := 0) dX5_mostInRows_0 rfl rfl ?_
  refine w_getI (μ := m_X5_mostInRows) (pc := 1) dX5_mostInRows_1 fl_X5_11 ir_5_0 k0 ?_
  refine w_iconst (v := 4) (μ := m_X5_mostInRows) (pc := 4) dX5_mostInRows_4 (by decide) ?_
  refine w_icmp_gt 13 (μ := m_X5_mostInRows) (pc := 5) dX5_mostInRows_5 (by decide) (fun c_1 => ?_) (fun c_1 => ?_)
  · refine w_iconst (v := 2) (μ := m_X5_mostInRows) (pc := 13) dX5_mostInRows_13 (by decide) ?_
    refine w_lv [] rfl ?_
    exact t_J_X5_mostInRows_14 wt hl (by omega) k0 _ _
  · refine w_bipush (v := 6) (μ := m_X5_mostInRows) (pc := 8) dX5_mostInRows_8 (by decide) ?_
    refine w_goto 14 (μ := m_X5_mostInRows) (pc := 10) dX5_mostInRows_10 (by decide) ?_
    refine w_lv [] rfl ?_
    exact t_J_X5_mostInRows_14 wt hl (by omega) k0 _ _
def J_X5_lowerBits_18 (N : Nat) (g : gp) (a0 : Nat) (x1 : Int32) (xs0 : Int32) (δ : dp) : Option (Int32 × dp) :=
  some (xs0, δ)
set_option maxHeartbeats 4000000 in
set_option maxRecDepth 100000 in
theorem t_J_X5_lowerBits_18 {l : Launch} {D : va_G} {cy : Nat → ClassId} {N d : Nat} {g : gp} (wt : WT g) (hl : l.stackTraces = false) (hd : 1 ≤ d) {a0 : Nat} {x1 : Int32} (k0 : q_K g a0 = 5) : ∀ (xs0 : Int32) (δ : dp), AWD l D cy m_X5_lowerBits d 0 0 ei g 18 [] [.int xs0] δ (J_X5_lowerBits_18 N g a0 x1 xs0 δ) := by
    intro xs0 δ 
    unfold J_X5_lowerBits_18
    exact w_iret (μ := m_X5_lowerBits) (pc := 18) dX5_lowerBits_18 rfl rfl
def D_X5_lowerBits (N : Nat) (g : gp) (a0 : Nat) (x1 : Int32) (δ : dp) : Option (Int32 × dp) :=
  if (q_I δ 5 1 a0) = 0 then (J_X5_lowerBits_18 N g a0 x1 ((x1 + 1) / 2) δ) else (J_X5_lowerBits_18 N g a0 x1 (x1 / 2) δ)
set_option maxHeartbeats 4000000 in
set_option maxRecDepth 100000 in
theorem c_X5_lowerBits {l : Launch} {D : va_G} {cy : Nat → ClassId} {N d : Nat} {g : gp} (wt : WT g) (hl : l.stackTraces = false) (hd : 1 ≤ d) {a0 : Nat} {x1 : Int32} {δ : dp} (k0 : q_K g a0 = 5) : CalD l D cy m_X5_lowerBits d 0 0 ei g [.ref a0, .int x1] δ (D_X5_lowerBits N g a0 x1 δ) := by
  refine CalD.of (by decide +kernel) (Nat.le_of_ble_eq_true rfl) hl ?_
  unfold D_X5_lowerBits
  refine w_aload_n 0 0 (μ := m_X5_lowerBits) (pc := 0) dX5_lowerBits_0 rfl rfl ?_
  refine w_getI (μ := m_X5_lowerBits) (pc := 1) dX5_lowerBits_1 fl_X5_17 ir_5_1 k0 ?_
  refine w_if_eq 13 (μ := m_X5_lowerBits) (pc := 4) dX5_lowerBits_4 (by decide) (fun c_1 => ?_) (fun c_1 => ?_)
  · refine w_iload_n 1 1 (μ := m_X5_lowerBits) (pc := 13) dX5_lowerBits_13 rfl rfl ?_
    refine w_iconst (v := 1) (μ := m_X5_lowerBits) (pc := 14) dX5_lowerBits_14 (by decide) ?_
    refine w_iadd (μ := m_X5_lowerBits) (pc := 15) dX5_lowerBits_15 ?_
    refine w_iconst (v := 2) (μ := m_X5_lowerBits) (pc := 16) dX5_lowerBits_16 (by decide) ?_
    refine w_idiv (μ := m_X5_lowerBits) (pc := 17) dX5_lowerBits_17 (by decide) ?_
    refine w_lv [] rfl ?_
    exact t_J_X5_lowerBits_18 wt hl (by omega) k0 _ _
  · refine w_iload_n 1 1 (μ := m_X5_lowerBits) (pc := 7) dX5_lowerBits_7 rfl rfl ?_
    refine w_iconst (v := 2) (μ := m_X5_lowerBits) (pc := 8) dX5_lowerBits_8 (by decide) ?_
    refine w_idiv (μ := m_X5_lowerBits) (pc := 9) dX5_lowerBits_9 (by decide) ?_
    refine w_goto 18 (μ := m_X5_lowerBits) (pc := 10) dX5_lowerBits_10 (by decide) ?_
    refine w_lv [] rfl ?_
    exact t_J_X5_lowerBits_18 wt hl (by omega) k0 _ _
def J_X5_mostTouches_27 (N : Nat) (g : gp) (T : Nat → Int32 → Int32 → Int32 → dp → Option (Int32 × dp)) (a0 : Nat) (x1 : Int32) (x2 : Int32) (x3 : Int32) (δ : dp) : Option (Int32 × dp) :=
  some (1, δ)
set_option maxHeartbeats 4000000 in
set_option maxRecDepth 100000 in
theorem t_J_X5_mostTouches_27 {l : Launch} {D : va_G} {cy : Nat → ClassId} {N d : Nat} {g : gp} (wt : WT g) (hl : l.stackTraces = false) {T : Nat → Int32 → Int32 → Int32 → dp → Option (Int32 × dp)} {dh : Nat} (hT : ∀ (a0 : Nat) (x1 : Int32) (x2 : Int32) (x3 : Int32) (δ : dp), q_K g a0 = 5 → CalD l D cy m_X5_mostTouches dh 0 0 ei g [.ref a0, .int x1, .int x2, .int x3] δ (T a0 x1 x2 x3 δ)) (hh : dh + 1 ≤ d) (hd : 2 ≤ d) {a0 : Nat} {x1 : Int32} {x2 : Int32} {x3 : Int32} (k0 : q_K g a0 = 5) : ∀ (δ : dp), AWD l D cy m_X5_mostTouches d 0 0 ei g 27 [] [] δ (J_X5_mostTouches_27 N g T a0 x1 x2 x3 δ) := by
    intro  δ 
    unfold J_X5_mostTouches_27
    refine w_iconst (v := 1) (μ := m_X5_mostTouches) (pc := 27) dX5_mostTouches_27 (by decide) ?_
    exact w_iret (μ := m_X5_mostTouches) (pc := 28) dX5_mostTouches_28 rfl rfl
def J_X5_mostTouches_115 (N : Nat) (g : gp) (T : Nat → Int32 → Int32 → Int32 → dp → Option (Int32 × dp)) (a0 : Nat) (x1 : Int32) (x2 : Int32) (x3 : Int32) (xs0 : Int32) (x6v : Int32) (x7v : Int32) (δ : dp) : Option (Int32 × dp) :=
  (D_J9_max_7cf53 N g x6v x7v δ).bind fun r_16 => some (xs0 + r_16.1, r_16.2)
set_option maxHeartbeats 4000000 in
set_option maxRecDepth 100000 in
theorem t_J_X5_mostTouches_115 {l : Launch} {D : va_G} {cy : Nat → ClassId} {N d : Nat} {g : gp} (wt : WT g) (hl : l.stackTraces = false) {T : Nat → Int32 → Int32 → Int32 → dp → Option (Int32 × dp)} {dh : Nat} (hT : ∀ (a0 : Nat) (x1 : Int32) (x2 : Int32) (x3 : Int32) (δ : dp), q_K g a0 = 5 → CalD l D cy m_X5_mostTouches dh 0 0 ei g [.ref a0, .int x1, .int x2, .int x3] δ (T a0 x1 x2 x3 δ)) (hh : dh + 1 ≤ d) (hd : 2 ≤ d) {a0 : Nat} {x1 : Int32} {x2 : Int32} {x3 : Int32} (k0 : q_K g a0 = 5) : ∀ (xs0 : Int32) (x6v : Int32) (x7v : Int32) (δ : dp), AWD l D cy m_X5_mostTouches d 0 0 ei g 115 [(6, .int x6v), (7, .int x7v)] [.int xs0] δ (J_X5_mostTouches_115 N g T a0 x1 x2 x3 xs0 x6v x7v δ) := by
    intro xs0 x6v x7v δ 
    unfold J_X5_mostTouches_115
    refine w_iload 0 (μ := m_X5_mostTouches) (pc := 115) dX5_mostTouches_115 rfl ?_
    refine w_iload 1 (μ := m_X5_mostTouches) (pc := 117) dX5_mostTouches_117 rfl ?_
    refine w_callS (As := [.int x6v, .int x7v]) (rest := [.int xs0]) (μ := m_X5_mostTouches) (pc := 119) dX5_mostTouches_119 cs_X5_36 rfl rfl (Nat.le_of_ble_eq_true rfl) (d' := d - 1) (by omega) he_i (c_J9_max_7cf53 wt hl (d := d - 1) (by omega) ) (fun r_16 => ?_)
    refine w_iadd (μ := m_X5_mostTouches) (pc := 122) dX5_mostTouches_122 ?_
    exact w_iret (μ := m_X5_mostTouches) (pc := 123) dX5_mostTouches_123 rfl rfl
def J_X5_mostTouches_97 (N : Nat) (g : gp) (T : Nat → Int32 → Int32 → Int32 → dp → Option (Int32 × dp)) (a0 : Nat) (x1 : Int32) (x2 : Int32) (x3 : Int32) (x6v : Int32) (x7v : Int32) (δ : dp) : Option (Int32 × dp) :=
  if x1 = 0 then (J_X5_mostTouches_115 N g T a0 x1 x2 x3 1 x6v x7v δ) else (if x1 = (1 : Int32) then (J_X5_mostTouches_115 N g T a0 x1 x2 x3 3 x6v x7v δ) else (J_X5_mostTouches_115 N g T a0 x1 x2 x3 2 x6v x7v δ))
set_option maxHeartbeats 4000000 in
set_option maxRecDepth 100000 in
theorem t_J_X5_mostTouches_97 {l : Launch} {D : va_G} {cy : Nat → ClassId} {N d : Nat} {g : gp} (wt : WT g) (hl : l.stackTraces = false) {T : Nat → Int32 → Int32 → Int32 → dp → Option (Int32 × dp)} {dh : Nat} (hT : ∀ (a0 : Nat) (x1 : Int32) (x2 : Int32) (x3 : Int32) (δ : dp), q_K g a0 = 5 → CalD l D cy m_X5_mostTouches dh 0 0 ei g [.ref a0, .int x1, .int x2, .int x3] δ (T a0 x1 x2 x3 δ)) (hh : dh + 1 ≤ d) (hd : 2 ≤ d) {a0 : Nat} {x1 : Int32} {x2 : Int32} {x3 : Int32} (k0 : q_K g a0 = 5) : ∀ (x6v : Int32) (x7v : Int32) (δ : dp), AWD l D cy m_X5_mostTouches d 0 0 ei g 97 [(1, .int x1), (6, .int x6v), (7, .int x7v)] [] δ (J_X5_mostTouches_97 N g T a0 x1 x2 x3 x6v x7v δ) := by
    intro x6v x7v δ 
    unfold J_X5_mostTouches_97
    refine w_iload_n 0 1 (μ := m_X5_mostTouches) (pc := 97) dX5_mostTouches_97 rfl rfl ?_
    refine w_if_ne 105 (μ := m_X5_mostTouches) (pc := 98) dX5_mostTouches_98 (by decide) (fun c_14 => ?_) (fun c_14 => ?_)
    · refine w_iload_n 0 1 (μ := m_X5_mostTouches) (pc := 105) dX5_mostTouches_105 rfl rfl ?_
      refine w_iconst (v := 1) (μ := m_X5_mostTouches) (pc := 106) dX5_mostTouches_106 (by decide) ?_
      refine w_icmp_ne 114 (μ := m_X5_mostTouches) (pc := 107) dX5_mostTouches_107 (by decide) (fun c_15 => ?_) (fun c_15 => ?_)
      · refine w_iconst (v := 2) (μ := m_X5_mostTouches) (pc := 114) dX5_mostTouches_114 (by decide) ?_
        refine w_lv [1, 2] rfl ?_
        exact t_J_X5_mostTouches_115 wt hl hT (by omega) (by omega) k0 _ _ _ _
      · refine w_iconst (v := 3) (μ := m_X5_mostTouches) (pc := 110) dX5_mostTouches_110 (by decide) ?_
        refine w_goto 115 (μ := m_X5_mostTouches) (pc := 111) dX5_mostTouches_111 (by decide) ?_
        refine w_lv [1, 2] rfl ?_
        exact t_J_X5_mostTouches_115 wt hl hT (by omega) (by omega) k0 _ _ _ _
    · refine w_iconst (v := 1) (μ := m_X5_mostTouches) (pc := 101) dX5_mostTouches_101 (by decide) ?_
      refine w_goto 115 (μ := m_X5_mostTouches) (pc := 102) dX5_mostTouches_102 (by decide) ?_
      refine w_lv [1, 2] rfl ?_
      exact t_J_X5_mostTouches_115 wt hl hT (by omega) (by omega) k0 _ _ _ _
def J_X5_mostTouches_94 (N : Nat) (g : gp) (T : Nat → Int32 → Int32 → Int32 → dp → Option (Int32 × dp)) (a0 : Nat) (x1 : Int32) (x2 : Int32) (x3 : Int32) (x6v : Int32) (x7v : Int32) (δ : dp) : Option (Int32 × dp) :=
  bi (x7v + 1) fun x_12 => J_X5_mostTouches_97 N g T a0 x1 x2 x3 x6v x_12 δ
set_option maxHeartbeats 4000000 in
set_option maxRecDepth 100000 in
theorem t_J_X5_mostTouches_94 {l : Launch} {D : va_G} {cy : Nat → ClassId} {N d : Nat} {g : gp} (wt : WT g) (hl : l.stackTraces = false) {T : Nat → Int32 → Int32 → Int32 → dp → Option (Int32 × dp)} {dh : Nat} (hT : ∀ (a0 : Nat) (x1 : Int32) (x2 : Int32) (x3 : Int32) (δ : dp), q_K g a0 = 5 → CalD l D cy m_X5_mostTouches dh 0 0 ei g [.ref a0, .int x1, .int x2, .int x3] δ (T a0 x1 x2 x3 δ)) (hh : dh + 1 ≤ d) (hd : 2 ≤ d) {a0 : Nat} {x1 : Int32} {x2 : Int32} {x3 : Int32} (k0 : q_K g a0 = 5) : ∀ (x6v : Int32) (x7v : Int32) (δ : dp), AWD l D cy m_X5_mostTouches d 0 0 ei g 94 [(1, .int x1), (6, .int x6v), (7, .int x7v)] [] δ (J_X5_mostTouches_94 N g T a0 x1 x2 x3 x6v x7v δ) := by
    intro x6v x7v δ 
    unfold J_X5_mostTouches_94
    refine w_inb (fun x_12 e_13 => ?_)
    refine w_iinc 2 [(7, .int x_12), (1, .int x1), (6, .int x6v)] (μ := m_X5_mostTouches) (pc := 94) dX5_mostTouches_94 rfl (by rw [e_13]; rfl) (by decide) rfl ?_
    refine w_lv [1, 2, 0] rfl ?_
    exact t_J_X5_mostTouches_97 wt hl hT (by omega) (by omega) k0 _ _ _
def J_X5_mostTouches_54 (N : Nat) (g : gp) (T : Nat → Int32 → Int32 → Int32 → dp → Option (Int32 × dp)) (a0 : Nat) (x1 : Int32) (x2 : Int32) (x3 : Int32) (xs0 : Int32) (x4v : Int32) (x5v : Int32) (δ : dp) : Option (Int32 × dp) :=
  if x1 = (2 : Int32) then (some (1 + xs0, δ)) else ((T a0 x1 (x2 - x5v) x4v δ).bind fun r_10 => if x1 = 0 then (J_X5_mostTouches_94 N g T a0 x1 x2 x3 xs0 r_10.1 r_10.2) else (if x1 = (1 : Int32) then (J_X5_mostTouches_94 N g T a0 x1 x2 x3 xs0 r_10.1 r_10.2) else (if x4v ≤ (1 : Int32) then (J_X5_mostTouches_97 N g T a0 x1 x2 x3 xs0 r_10.1 r_10.2) else (J_X5_mostTouches_94 N g T a0 x1 x2 x3 xs0 r_10.1 r_10.2))))
set_option maxHeartbeats 4000000 in
set_option maxRecDepth 100000 in
theorem t_J_X5_mostTouches_54 {l : Launch} {D : va_G} {cy : Nat → ClassId} {N d : Nat} {g : gp} (wt : WT g) (hl : l.stackTraces = false) {T : Nat → Int32 → Int32 → Int32 → dp → Option (Int32 × dp)} {dh : Nat} (hT : ∀ (a0 : Nat) (x1 : Int32) (x2 : Int32) (x3 : Int32) (δ : dp), q_K g a0 = 5 → CalD l D cy m_X5_mostTouches dh 0 0 ei g [.ref a0, .int x1, .int x2, .int x3] δ (T a0 x1 x2 x3 δ)) (hh : dh + 1 ≤ d) (hd : 2 ≤ d) {a0 : Nat} {x1 : Int32} {x2 : Int32} {x3 : Int32} (k0 : q_K g a0 = 5) : ∀ (xs0 : Int32) (x4v : Int32) (x5v : Int32) (δ : dp), AWD l D cy m_X5_mostTouches d 0 0 ei g 54 [(0, .ref a0), (1, .int x1), (2, .int x2), (4, .int x4v), (5, .int x5v)] [.int xs0] δ (J_X5_mostTouches_54 N g T a0 x1 x2 x3 xs0 x4v x5v δ) := by
    intro xs0 x4v x5v δ 
    unfold J_X5_mostTouches_54
    refine w_istore [(6, .int xs0), (0, .ref a0), (1, .int x1), (2, .int x2), (4, .int x4v), (5, .int x5v)] (μ := m_X5_mostTouches) (pc := 54) dX5_mostTouches_54 (by decide) rfl ?_
    refine w_iload_n 2 1 (μ := m_X5_mostTouches) (pc := 56) dX5_mostTouches_56 rfl rfl ?_
    refine w_iconst (v := 2) (μ := m_X5_mostTouches) (pc := 57) dX5_mostTouches_57 (by decide) ?_
    refine w_icmp_ne 66 (μ := m_X5_mostTouches) (pc := 58) dX5_mostTouches_58 (by decide) (fun c_9 => ?_) (fun c_9 => ?_)
    · refine w_aload_n 1 0 (μ := m_X5_mostTouches) (pc := 66) dX5_mostTouches_66 rfl rfl ?_
      refine w_iload_n 2 1 (μ := m_X5_mostTouches) (pc := 67) dX5_mostTouches_67 rfl rfl ?_
      refine w_iload_n 3 2 (μ := m_X5_mostTouches) (pc := 68) dX5_mostTouches_68 rfl rfl ?_
      refine w_iload 5 (μ := m_X5_mostTouches) (pc := 69) dX5_mostTouches_69 rfl ?_
      refine w_isub (μ := m_X5_mostTouches) (pc := 71) dX5_mostTouches_71 ?_
      refine w_iload 4 (μ := m_X5_mostTouches) (pc := 72) dX5_mostTouches_72 rfl ?_
      refine w_callV (As := [.int x1, .int (x2 - x5v), .int x4v]) (rest := []) (μ := m_X5_mostTouches) (pc := 74) dX5_mostTouches_74 cv_X5_28 rfl rfl k0 (by decide) rfl (Nat.le_of_ble_eq_true rfl) (d' := dh) (by omega) he_i (hT _ _ _ _ _ k0) (fun r_10 => ?_)
      refine w_istore [(7, .int r_10.1), (6, .int xs0), (0, .ref a0), (1, .int x1), (2, .int x2), (4, .int x4v), (5, .int x5v)] (μ := m_X5_mostTouches) (pc := 77) dX5_mostTouches_77 (by decide) rfl ?_
      refine w_iload_n 3 1 (μ := m_X5_mostTouches) (pc := 79) dX5_mostTouches_79 rfl rfl ?_
      refine w_if_eq 94 (μ := m_X5_mostTouches) (pc := 80) dX5_mostTouches_80 (by decide) (fun c_11 => ?_) (fun c_11 => ?_)
      · refine w_lv [3, 1, 0] rfl ?_
        exact t_J_X5_mostTouches_94 wt hl hT (by omega) (by omega) k0 _ _ _
      · refine w_iload_n 3 1 (μ := m_X5_mostTouches) (pc := 83) dX5_mostTouches_83 rfl rfl ?_
        refine w_iconst (v := 1) (μ := m_X5_mostTouches) (pc := 84) dX5_mostTouches_84 (by decide) ?_
        refine w_icmp_eq 94 (μ := m_X5_mostTouches) (pc := 85) dX5_mostTouches_85 (by decide) (fun c_17 => ?_) (fun c_17 => ?_)
        · refine w_lv [3, 1, 0] rfl ?_
          exact t_J_X5_mostTouches_94 wt hl hT (by omega) (by omega) k0 _ _ _
        · refine w_iload 5 (μ := m_X5_mostTouches) (pc := 88) dX5_mostTouches_88 rfl ?_
          refine w_iconst (v := 1) (μ := m_X5_mostTouches) (pc := 90) dX5_mostTouches_90 (by decide) ?_
          refine w_icmp_le 97 (μ := m_X5_mostTouches) (pc := 91) dX5_mostTouches_91 (by decide) (fun c_18 => ?_) (fun c_18 => ?_)
          · refine w_lv [3, 1, 0] rfl ?_
            exact t_J_X5_mostTouches_97 wt hl hT (by omega) (by omega) k0 _ _ _
          · refine w_lv [3, 1, 0] rfl ?_
            exact t_J_X5_mostTouches_94 wt hl hT (by omega) (by omega) k0 _ _ _
    · refine w_iconst (v := 1) (μ := m_X5_mostTouches) (pc := 61) dX5_mostTouches_61 (by decide) ?_
      refine w_iload 0 (μ := m_X5_mostTouches) (pc := 62) dX5_mostTouches_62 rfl ?_
      refine w_iadd (μ := m_X5_mostTouches) (pc := 64) dX5_mostTouches_64 ?_
      exact w_iret (μ := m_X5_mostTouches) (pc := 65) dX5_mostTouches_65 rfl rfl
def J_X5_mostTouches_29 (N : Nat) (g : gp) (T : Nat → Int32 → Int32 → Int32 → dp → Option (Int32 × dp)) (a0 : Nat) (x1 : Int32) (x2 : Int32) (x3 : Int32) (x4v : Int32) (δ : dp) : Option (Int32 × dp) :=
  (D_X5_lowerBits N g a0 x2 δ).bind fun r_6 => if x4v = 0 then (J_X5_mostTouches_54 N g T a0 x1 x2 x3 0 x4v r_6.1 r_6.2) else ((T a0 x1 r_6.1 x4v r_6.2).bind fun r_8 => J_X5_mostTouches_54 N g T a0 x1 x2 x3 r_8.1 x4v r_6.1 r_8.2)
set_option maxHeartbeats 4000000 in
set_option maxRecDepth 100000 in
theorem t_J_X5_mostTouches_29 {l : Launch} {D : va_G} {cy : Nat → ClassId} {N d : Nat} {g : gp} (wt : WT g) (hl : l.stackTraces = false) {T : Nat → Int32 → Int32 → Int32 → dp → Option (Int32 × dp)} {dh : Nat} (hT : ∀ (a0 : Nat) (x1 : Int32) (x2 : Int32) (x3 : Int32) (δ : dp), q_K g a0 = 5 → CalD l D cy m_X5_mostTouches dh 0 0 ei g [.ref a0, .int x1, .int x2, .int x3] δ (T a0 x1 x2 x3 δ)) (hh : dh + 1 ≤ d) (hd : 2 ≤ d) {a0 : Nat} {x1 : Int32} {x2 : Int32} {x3 : Int32} (k0 : q_K g a0 = 5) : ∀ (x4v : Int32) (δ : dp), AWD l D cy m_X5_mostTouches d 0 0 ei g 29 [(0, .ref a0), (1, .int x1), (2, .int x2), (4, .int x4v)] [] δ (J_X5_mostTouches_29 N g T a0 x1 x2 x3 x4v δ) := by
    intro x4v δ 
    unfold J_X5_mostTouches_29
    refine w_aload_n 0 0 (μ := m_X5_mostTouches) (pc := 29) dX5_mostTouches_29 rfl rfl ?_
    refine w_iload_n 2 2 (μ := m_X5_mostTouches) (pc := 30) dX5_mostTouches_30 rfl rfl ?_
    refine w_callV (As := [.int x2]) (rest := []) (μ := m_X5_mostTouches) (pc := 31) dX5_mostTouches_31 cv_X5_32 rfl rfl k0 (by decide) rfl (Nat.le_of_ble_eq_true rfl) (d' := d - 1) (by omega) he_i (c_X5_lowerBits wt hl (d := d - 1) (by omega) k0) (fun r_6 => ?_)
    refine w_istore [(5, .int r_6.1), (0, .ref a0), (1, .int x1), (2, .int x2), (4, .int x4v)] (μ := m_X5_mostTouches) (pc := 34) dX5_mostTouches_34 (by decide) rfl ?_
    refine w_iload 4 (μ := m_X5_mostTouches) (pc := 36) dX5_mostTouches_36 rfl ?_
    refine w_if_ne 45 (μ := m_X5_mostTouches) (pc := 38) dX5_mostTouches_38 (by decide) (fun c_7 => ?_) (fun c_7 => ?_)
    · refine w_aload_n 1 0 (μ := m_X5_mostTouches) (pc := 45) dX5_mostTouches_45 rfl rfl ?_
      refine w_iload_n 2 1 (μ := m_X5_mostTouches) (pc := 46) dX5_mostTouches_46 rfl rfl ?_
      refine w_iload 0 (μ := m_X5_mostTouches) (pc := 47) dX5_mostTouches_47 rfl ?_
      refine w_iload 4 (μ := m_X5_mostTouches) (pc := 49) dX5_mostTouches_49 rfl ?_
      refine w_callV (As := [.int x1, .int r_6.1, .int x4v]) (rest := []) (μ := m_X5_mostTouches) (pc := 51) dX5_mostTouches_51 cv_X5_28 rfl rfl k0 (by decide) rfl (Nat.le_of_ble_eq_true rfl) (d' := dh) (by omega) he_i (hT _ _ _ _ _ k0) (fun r_8 => ?_)
      refine w_lv [1, 2, 3, 4, 0] rfl ?_
      exact t_J_X5_mostTouches_54 wt hl hT (by omega) (by omega) k0 _ _ _ _
    · refine w_iconst (v := 0) (μ := m_X5_mostTouches) (pc := 41) dX5_mostTouches_41 (by decide) ?_
      refine w_goto 54 (μ := m_X5_mostTouches) (pc := 42) dX5_mostTouches_42 (by decide) ?_
      refine w_lv [1, 2, 3, 4, 0] rfl ?_
      exact t_J_X5_mostTouches_54 wt hl hT (by omega) (by omega) k0 _ _ _ _
def B_X5_mostTouches (N : Nat) (g : gp) (T : Nat → Int32 → Int32 → Int32 → dp → Option (Int32 × dp)) (a0 : Nat) (x1 : Int32) (x2 : Int32) (x3 : Int32) (δ : dp) : Option (Int32 × dp) :=
  bi (x3 - 2) fun x_1 => if x2 ≤ (q_I δ 5 2 a0) then (J_X5_mostTouches_27 N g T a0 x1 x2 x3 δ) else (if x_1 < 0 then (J_X5_mostTouches_27 N g T a0 x1 x2 x3 δ) else (if x_1 = 0 then (if x1 = 0 then (J_X5_mostTouches_29 N g T a0 x1 x2 x3 x_1 δ) else (J_X5_mostTouches_27 N g T a0 x1 x2 x3 δ)) else (J_X5_mostTouches_29 N g T a0 x1 x2 x3 x_1 δ)))
set_option maxHeartbeats 4000000 in
set_option maxRecDepth 100000 in
theorem c_b_X5_mostTouches {l : Launch} {D : va_G} {cy : Nat → ClassId} {N d : Nat} {g : gp} (wt : WT g) (hl : l.stackTraces = false) {T : Nat → Int32 → Int32 → Int32 → dp → Option (Int32 × dp)} {dh : Nat} (hT : ∀ (a0 : Nat) (x1 : Int32) (x2 : Int32) (x3 : Int32) (δ : dp), q_K g a0 = 5 → CalD l D cy m_X5_mostTouches dh 0 0 ei g [.ref a0, .int x1, .int x2, .int x3] δ (T a0 x1 x2 x3 δ)) (hh : dh + 1 ≤ d) (hd : 2 ≤ d) {a0 : Nat} {x1 : Int32} {x2 : Int32} {x3 : Int32} {δ : dp} (k0 : q_K g a0 = 5) : CalD l D cy m_X5_mostTouches d 0 0 ei g [.ref a0, .int x1, .int x2, .int x3] δ (B_X5_mostTouches N g T a0 x1 x2 x3 δ) := by
  refine CalD.of (by decide +kernel) (Nat.le_of_ble_eq_true rfl) hl ?_
  unfold B_X5_mostTouches
  refine w_iload_n 3 3 (μ := m_X5_mostTouches) (pc := 0) dX5_mostTouches_0 rfl rfl ?_
  refine w_iconst (v := 2) (μ := m_X5_mostTouches) (pc := 1) dX5_mostTouches_1 (by decide) ?_
  refine w_isub (μ := m_X5_mostTouches) (pc := 2) dX5_mostTouches_2 ?_
  refine w_bi (fun x_1 e_2 => ?_)
  refine w_istore [(4, .int x_1), (0, .ref a0), (1, .int x1), (2, .int x2), (3, .int x3)] (μ := m_X5_mostTouches) (pc := 3) dX5_mostTouches_3 (by decide) rfl ?_
  refine w_iload_n 3 2 (μ := m_X5_mostTouches) (pc := 5) dX5_mostTouches_5 rfl rfl ?_
  refine w_aload_n 1 0 (μ := m_X5_mostTouches) (pc := 6) dX5_mostTouches_6 rfl rfl ?_
  refine w_getI (μ := m_X5_mostTouches) (pc := 7) dX5_mostTouches_7 fl_X5_21 ir_5_2 k0 ?_
  refine w_icmp_le 27 (μ := m_X5_mostTouches) (pc := 10) dX5_mostTouches_10 (by decide) (fun c_3 => ?_) (fun c_3 => ?_)
  · refine w_lv [] rfl ?_
    exact t_J_X5_mostTouches_27 wt hl hT (by omega) (by omega) k0 _
  · refine w_iload 0 (μ := m_X5_mostTouches) (pc := 13) dX5_mostTouches_13 rfl ?_
    refine w_if_lt 27 (μ := m_X5_mostTouches) (pc := 15) dX5_mostTouches_15 (by decide) (fun c_4 => ?_) (fun c_4 => ?_)
    · refine w_lv [] rfl ?_
      exact t_J_X5_mostTouches_27 wt hl hT (by omega) (by omega) k0 _
    · refine w_iload 0 (μ := m_X5_mostTouches) (pc := 18) dX5_mostTouches_18 rfl ?_
      refine w_if_ne 29 (μ := m_X5_mostTouches) (pc := 20) dX5_mostTouches_20 (by decide) (fun c_5 => ?_) (fun c_5 => ?_)
      · refine w_lv [1, 2, 3, 0] rfl ?_
        exact t_J_X5_mostTouches_29 wt hl hT (by omega) (by omega) k0 _ _
      · refine w_iload_n 2 1 (μ := m_X5_mostTouches) (pc := 23) dX5_mostTouches_23 rfl rfl ?_
        refine w_if_eq 29 (μ := m_X5_mostTouches) (pc := 24) dX5_mostTouches_24 (by decide) (fun c_19 => ?_) (fun c_19 => ?_)
        · refine w_lv [1, 2, 3, 0] rfl ?_
          exact t_J_X5_mostTouches_29 wt hl hT (by omega) (by omega) k0 _ _
        · refine w_lv [] rfl ?_
          exact t_J_X5_mostTouches_27 wt hl hT (by omega) (by omega) k0 _
def E_X5_mostTouches (N : Nat) (g : gp) : Nat → Nat → Int32 → Int32 → Int32 → dp → Option (Int32 × dp)
  | 0, _, _, _, _, _ => none
  | k + 1, a0, x1, x2, x3, δ => B_X5_mostTouches N g (E_X5_mostTouches N g k) a0 x1 x2 x3 δ
theorem e_X5_mostTouches {l : Launch} {D : va_G} {cy : Nat → ClassId} {N : Nat} {g : gp} (wt : WT g) (hl : l.stackTraces = false) : ∀ (k d : Nat), 2 + 1 * k ≤ d → ∀ (a0 : Nat) (x1 : Int32) (x2 : Int32) (x3 : Int32) (δ : dp), q_K g a0 = 5 → CalD l D cy m_X5_mostTouches d 0 0 ei g [.ref a0, .int x1, .int x2, .int x3] δ (E_X5_mostTouches N g k a0 x1 x2 x3 δ) := by
  intro k
  induction k with
  | zero => intro d _ a0 x1 x2 x3 δ k0 r hr; cases hr
  | succ k ih =>
    intro d hd a0 x1 x2 x3 δ k0
    unfold E_X5_mostTouches
    exact c_b_X5_mostTouches wt hl (ih (2 + 1 * k) (Nat.le_refl _)) (by omega) (by omega) k0
def D_X5_mostTouches (N : Nat) (g : gp) (a0 : Nat) (x1 : Int32) (x2 : Int32) (x3 : Int32) (δ : dp) : Option (Int32 × dp) := E_X5_mostTouches N g 20 a0 x1 x2 x3 δ
theorem c_X5_mostTouches {l : Launch} {D : va_G} {cy : Nat → ClassId} {N d : Nat} {g : gp} (wt : WT g) (hl : l.stackTraces = false) (hd : 22 ≤ d) {a0 : Nat} {x1 : Int32} {x2 : Int32} {x3 : Int32} {δ : dp} (k0 : q_K g a0 = 5) : CalD l D cy m_X5_mostTouches d 0 0 ei g [.ref a0, .int x1, .int x2, .int x3] δ (D_X5_mostTouches N g a0 x1 x2 x3 δ) := e_X5_mostTouches wt hl 20 d (by omega) _ _ _ _ _ k0
def D_X5_boundOf (N : Nat) (g : gp) (a0 : Nat) (x1 : Int32) (δ : dp) : Option (Int32 × dp) :=
  (D_X5_mostTouches N g a0 x1 (q_I δ 5 0 a0) 1048576 δ).bind fun r_1 => some (r_1.1, r_1.2)
set_option maxHeartbeats 4000000 in
set_option maxRecDepth 100000 in
theorem c_X5_boundOf {l : Launch} {D : va_G} {cy : Nat → ClassId} {N d : Nat} {g : gp} (wt : WT g) (hl : l.stackTraces = false) (hd : 23 ≤ d) {a0 : Nat} {x1 : Int32} {δ : dp} (k0 : q_K g a0 = 5) : CalD l D cy m_X5_boundOf d 0 0 ei g [.ref a0, .int x1] δ (D_X5_boundOf N g a0 x1 δ) := by
  refine CalD.of (by decide +kernel) (Nat.le_of_ble_eq_true rfl) hl ?_
  unfold D_X5_boundOf
  refine w_aload_n 0 0 (μ := m_X5_boundOf) (pc := 0) dX5_boundOf_0 rfl rfl ?_
  refine w_iload_n 1 1 (μ := m_X5_boundOf) (pc := 1) dX5_boundOf_1 rfl rfl ?_
  refine w_aload_n 0 0 (μ := m_X5_boundOf) (pc := 2) dX5_boundOf_2 rfl rfl ?_
  refine w_getI (μ := m_X5_boundOf) (pc := 3) dX5_boundOf_3 fl_X5_11 ir_5_0 k0 ?_
  refine w_ldc (v := 1048576) (μ := m_X5_boundOf) (pc := 6) dX5_boundOf_6 cn_X5_27 ?_
  refine w_callV (As := [.int x1, .int (q_I δ 5 0 a0), .int 1048576]) (rest := []) (μ := m_X5_boundOf) (pc := 8) dX5_boundOf_8 cv_X5_28 rfl rfl k0 (by decide) rfl (Nat.le_of_ble_eq_true rfl) (d' := d - 1) (by omega) he_i (c_X5_mostTouches wt hl (d := d - 1) (by omega) k0) (fun r_1 => ?_)
  exact w_iret (μ := m_X5_boundOf) (pc := 11) dX5_boundOf_11 rfl rfl
