theorem dX11_init_0 : decode cX11_init 0 = .ok (.aload_n 0, 1) := by decide +kernel
theorem dX11_init_1 : decode cX11_init 1 = .ok (.invokespecial 1, 3) := by decide +kernel
theorem dX11_init_4 : decode cX11_init 4 = .ok (.aload_n 0, 1) := by decide +kernel
theorem dX11_init_5 : decode cX11_init 5 = .ok (.new 7, 3) := by decide +kernel
theorem dX11_init_8 : decode cX11_init 8 = .ok (.dup, 1) := by decide +kernel
theorem dX11_init_9 : decode cX11_init 9 = .ok (.invokespecial 9, 3) := by decide +kernel
theorem dX11_init_12 : decode cX11_init 12 = .ok (.putfield 10, 3) := by decide +kernel
theorem dX11_init_15 : decode cX11_init 15 = .ok (.aload_n 0, 1) := by decide +kernel
theorem dX11_init_16 : decode cX11_init 16 = .ok (.new 16, 3) := by decide +kernel
theorem dX11_init_19 : decode cX11_init 19 = .ok (.dup, 1) := by decide +kernel
theorem dX11_init_20 : decode cX11_init 20 = .ok (.invokespecial 18, 3) := by decide +kernel
theorem dX11_init_23 : decode cX11_init 23 = .ok (.putfield 19, 3) := by decide +kernel
theorem dX11_init_26 : decode cX11_init 26 = .ok (.aload_n 0, 1) := by decide +kernel
theorem dX11_init_27 : decode cX11_init 27 = .ok (.new 23, 3) := by decide +kernel
theorem dX11_init_30 : decode cX11_init 30 = .ok (.dup, 1) := by decide +kernel
theorem dX11_init_31 : decode cX11_init 31 = .ok (.invokespecial 25, 3) := by decide +kernel
theorem dX11_init_34 : decode cX11_init 34 = .ok (.putfield 26, 3) := by decide +kernel
theorem dX11_init_37 : decode cX11_init 37 = .ok (.aload_n 0, 1) := by decide +kernel
theorem dX11_init_38 : decode cX11_init 38 = .ok (.new 30, 3) := by decide +kernel
theorem dX11_init_41 : decode cX11_init 41 = .ok (.dup, 1) := by decide +kernel
theorem dX11_init_42 : decode cX11_init 42 = .ok (.invokespecial 32, 3) := by decide +kernel
theorem dX11_init_45 : decode cX11_init 45 = .ok (.putfield 33, 3) := by decide +kernel
theorem dX11_init_48 : decode cX11_init 48 = .ok (.aload_n 0, 1) := by decide +kernel
theorem dX11_init_49 : decode cX11_init 49 = .ok (.iconst 5, 1) := by decide +kernel
theorem dX11_init_50 : decode cX11_init 50 = .ok (.anewarray 37, 3) := by decide +kernel
theorem dX11_init_53 : decode cX11_init 53 = .ok (.putfield 39, 3) := by decide +kernel
theorem dX11_init_56 : decode cX11_init 56 = .ok (.aload_n 0, 1) := by decide +kernel
theorem dX11_init_57 : decode cX11_init 57 = .ok (.iconst 4, 1) := by decide +kernel
theorem dX11_init_58 : decode cX11_init 58 = .ok (.anewarray 43, 3) := by decide +kernel
theorem dX11_init_61 : decode cX11_init 61 = .ok (.putfield 45, 3) := by decide +kernel
theorem dX11_init_64 : decode cX11_init 64 = .ok (.aload_n 0, 1) := by decide +kernel
theorem dX11_init_65 : decode cX11_init 65 = .ok (.new 49, 3) := by decide +kernel
theorem dX11_init_68 : decode cX11_init 68 = .ok (.dup, 1) := by decide +kernel
theorem dX11_init_69 : decode cX11_init 69 = .ok (.sipush 2000, 3) := by decide +kernel
theorem dX11_init_72 : decode cX11_init 72 = .ok (.invokespecial 51, 3) := by decide +kernel
theorem dX11_init_75 : decode cX11_init 75 = .ok (.putfield 54, 3) := by decide +kernel
theorem dX11_init_78 : decode cX11_init 78 = .ok (.aload_n 0, 1) := by decide +kernel
theorem dX11_init_79 : decode cX11_init 79 = .ok (.new 58, 3) := by decide +kernel
theorem dX11_init_82 : decode cX11_init 82 = .ok (.dup, 1) := by decide +kernel
theorem dX11_init_83 : decode cX11_init 83 = .ok (.aload_n 0, 1) := by decide +kernel
theorem dX11_init_84 : decode cX11_init 84 = .ok (.getfield 19, 3) := by decide +kernel
theorem dX11_init_87 : decode cX11_init 87 = .ok (.invokespecial 60, 3) := by decide +kernel
theorem dX11_init_90 : decode cX11_init 90 = .ok (.putfield 63, 3) := by decide +kernel
theorem dX11_init_93 : decode cX11_init 93 = .ok (.aload_n 0, 1) := by decide +kernel
theorem dX11_init_94 : decode cX11_init 94 = .ok (.new 67, 3) := by decide +kernel
theorem dX11_init_97 : decode cX11_init 97 = .ok (.dup, 1) := by decide +kernel
theorem dX11_init_98 : decode cX11_init 98 = .ok (.aload_n 0, 1) := by decide +kernel
theorem dX11_init_99 : decode cX11_init 99 = .ok (.getfield 19, 3) := by decide +kernel
theorem dX11_init_102 : decode cX11_init 102 = .ok (.invokespecial 69, 3) := by decide +kernel
theorem dX11_init_105 : decode cX11_init 105 = .ok (.putfield 70, 3) := by decide +kernel
theorem dX11_init_108 : decode cX11_init 108 = .ok (.aload_n 0, 1) := by decide +kernel
theorem dX11_init_109 : decode cX11_init 109 = .ok (.new 74, 3) := by decide +kernel
theorem dX11_init_112 : decode cX11_init 112 = .ok (.dup, 1) := by decide +kernel
theorem dX11_init_113 : decode cX11_init 113 = .ok (.aload_n 0, 1) := by decide +kernel
theorem dX11_init_114 : decode cX11_init 114 = .ok (.getfield 19, 3) := by decide +kernel
theorem dX11_init_117 : decode cX11_init 117 = .ok (.invokespecial 76, 3) := by decide +kernel
theorem dX11_init_120 : decode cX11_init 120 = .ok (.putfield 77, 3) := by decide +kernel
theorem dX11_init_123 : decode cX11_init 123 = .ok (.aload_n 0, 1) := by decide +kernel
theorem dX11_init_124 : decode cX11_init 124 = .ok (.iconst 3, 1) := by decide +kernel
theorem dX11_init_125 : decode cX11_init 125 = .ok (.iconst 4, 1) := by decide +kernel
theorem dX11_init_126 : decode cX11_init 126 = .ok (.multianewarray 81 2, 4) := by decide +kernel
theorem dX11_init_130 : decode cX11_init 130 = .ok (.putfield 83, 3) := by decide +kernel
theorem dX11_init_133 : decode cX11_init 133 = .ok (.aload_n 0, 1) := by decide +kernel
theorem dX11_init_134 : decode cX11_init 134 = .ok (.iconst 3, 1) := by decide +kernel
theorem dX11_init_135 : decode cX11_init 135 = .ok (.newarray .int, 2) := by decide +kernel
theorem dX11_init_137 : decode cX11_init 137 = .ok (.putfield 86, 3) := by decide +kernel
theorem dX11_init_140 : decode cX11_init 140 = .ok (.iconst 0, 1) := by decide +kernel
theorem dX11_init_141 : decode cX11_init 141 = .ok (.istore_n 1, 1) := by decide +kernel
theorem dX11_init_142 : decode cX11_init 142 = .ok (.iload_n 1, 1) := by decide +kernel
theorem dX11_init_143 : decode cX11_init 143 = .ok (.aload_n 0, 1) := by decide +kernel
theorem dX11_init_144 : decode cX11_init 144 = .ok (.getfield 39, 3) := by decide +kernel
theorem dX11_init_147 : decode cX11_init 147 = .ok (.arraylength, 1) := by decide +kernel
theorem dX11_init_148 : decode cX11_init 148 = .ok (.if_icmp .ge 22, 3) := by decide +kernel
theorem dX11_init_151 : decode cX11_init 151 = .ok (.aload_n 0, 1) := by decide +kernel
theorem dX11_init_152 : decode cX11_init 152 = .ok (.getfield 39, 3) := by decide +kernel
theorem dX11_init_155 : decode cX11_init 155 = .ok (.iload_n 1, 1) := by decide +kernel
theorem dX11_init_156 : decode cX11_init 156 = .ok (.new 37, 3) := by decide +kernel
theorem dX11_init_159 : decode cX11_init 159 = .ok (.dup, 1) := by decide +kernel
theorem dX11_init_160 : decode cX11_init 160 = .ok (.invokespecial 90, 3) := by decide +kernel
theorem dX11_init_163 : decode cX11_init 163 = .ok (.aastore, 1) := by decide +kernel
theorem dX11_init_164 : decode cX11_init 164 = .ok (.iinc 1 1, 3) := by decide +kernel
theorem dX11_init_167 : decode cX11_init 167 = .ok (.goto (-25), 3) := by decide +kernel
theorem dX11_init_170 : decode cX11_init 170 = .ok (.iconst 0, 1) := by decide +kernel
theorem dX11_init_171 : decode cX11_init 171 = .ok (.istore_n 1, 1) := by decide +kernel
theorem dX11_init_172 : decode cX11_init 172 = .ok (.iload_n 1, 1) := by decide +kernel
theorem dX11_init_173 : decode cX11_init 173 = .ok (.iconst 4, 1) := by decide +kernel
theorem dX11_init_174 : decode cX11_init 174 = .ok (.if_icmp .ge 26, 3) := by decide +kernel
theorem dX11_init_177 : decode cX11_init 177 = .ok (.aload_n 0, 1) := by decide +kernel
theorem dX11_init_178 : decode cX11_init 178 = .ok (.getfield 45, 3) := by decide +kernel
theorem dX11_init_181 : decode cX11_init 181 = .ok (.iload_n 1, 1) := by decide +kernel
theorem dX11_init_182 : decode cX11_init 182 = .ok (.new 43, 3) := by decide +kernel
theorem dX11_init_185 : decode cX11_init 185 = .ok (.dup, 1) := by decide +kernel
theorem dX11_init_186 : decode cX11_init 186 = .ok (.aload_n 0, 1) := by decide +kernel
theorem dX11_init_187 : decode cX11_init 187 = .ok (.getfield 19, 3) := by decide +kernel
theorem dX11_init_190 : decode cX11_init 190 = .ok (.invokespecial 91, 3) := by decide +kernel
theorem dX11_init_193 : decode cX11_init 193 = .ok (.aastore, 1) := by decide +kernel
theorem dX11_init_194 : decode cX11_init 194 = .ok (.iinc 1 1, 3) := by decide +kernel
theorem dX11_init_197 : decode cX11_init 197 = .ok (.goto (-25), 3) := by decide +kernel
theorem dX11_init_200 : decode cX11_init 200 = .ok (.return_, 1) := by decide +kernel
def T_X11_init_1 : List tc := [ob 11 14] ++ [ob 7 7]
def T_X11_init_2 : List tc := T_X7_init T_X11_init_1 1
def T_X11_init_3 : List tc := (T_X11_init_2).modify 0 (uR 0 1)
def T_X11_init_4 : List tc := T_X11_init_3 ++ [ob 5 3]
def T_X11_init_5 : List tc := T_X5_init T_X11_init_4 3
def T_X11_init_6 : List tc := (T_X11_init_5).modify 0 (uR 1 3)
def T_X11_init_7 : List tc := T_X11_init_6 ++ [ob 6 4]
def T_X11_init_8 : List tc := T_X6_init T_X11_init_7 4
def T_X11_init_9 : List tc := (T_X11_init_8).modify 0 (uR 2 4)
def T_X11_init_10 : List tc := T_X11_init_9 ++ [ob 9 7]
def T_X11_init_11 : List tc := T_X9_init T_X11_init_10 6
def T_X11_init_12 : List tc := (T_X11_init_11).modify 0 (uR 3 6)
def T_X11_init_13 : List tc := T_X11_init_12 ++ [aq 17 5]
def T_X11_init_14 : List tc := (T_X11_init_13).modify 0 (uR 4 9)
def T_X11_init_15 : List tc := T_X11_init_14 ++ [aq 16 4]
def T_X11_init_16 : List tc := (T_X11_init_15).modify 0 (uR 6 10)
def T_X11_init_17 : List tc := T_X11_init_16 ++ [ob 3 2]
def T_X11_init_18 : List tc := T_X3_init T_X11_init_17 11 2000
def T_X11_init_19 : List tc := (T_X11_init_18).modify 0 (uR 7 11)
def T_X11_init_20 : List tc := T_X11_init_19 ++ [ob 4 20]
def T_X11_init_21 : List tc := T_X4_init T_X11_init_20 13 3
def T_X11_init_22 : List tc := (T_X11_init_21).modify 0 (uR 8 13)
def T_X11_init_23 : List tc := T_X11_init_22 ++ [ob 10 7]
def T_X11_init_24 : List tc := T_X10_init T_X11_init_23 19 3
def T_X11_init_25 : List tc := (T_X11_init_24).modify 0 (uR 9 19)
def T_X11_init_26 : List tc := T_X11_init_25 ++ [ob 0 8]
def T_X11_init_27 : List tc := T_X0_init T_X11_init_26 42 3
def T_X11_init_28 : List tc := (T_X11_init_27).modify 0 (uR 10 42)
def T_X11_init_29 : List tc := T_X11_init_28 ++ a2 18 13 3 4 55
def T_X11_init_30 : List tc := (T_X11_init_29).modify 0 (uR 11 55)
def T_X11_init_31 : List tc := T_X11_init_30 ++ [ar 13 3]
def T_X11_init_32 : List tc := (T_X11_init_31).modify 0 (uR 13 59)
def T_X11_init_33 : List tc := T_X11_init_32 ++ [ob 8 4]
def T_X11_init_34 : List tc := T_X8_init T_X11_init_33 60
def T_X11_init_35 : List tc := (T_X11_init_34).modify 9 (uR 0 60)
def T_X11_init_36 : List tc := T_X11_init_35 ++ [ob 8 4]
def T_X11_init_37 : List tc := T_X8_init T_X11_init_36 63
def T_X11_init_38 : List tc := (T_X11_init_37).modify 9 (uR 1 63)
def T_X11_init_39 : List tc := T_X11_init_38 ++ [ob 8 4]
def T_X11_init_40 : List tc := T_X8_init T_X11_init_39 66
def T_X11_init_41 : List tc := (T_X11_init_40).modify 9 (uR 2 66)
def T_X11_init_42 : List tc := T_X11_init_41 ++ [ob 8 4]
def T_X11_init_43 : List tc := T_X8_init T_X11_init_42 69
def T_X11_init_44 : List tc := (T_X11_init_43).modify 9 (uR 3 69)
def T_X11_init_45 : List tc := T_X11_init_44 ++ [ob 8 4]
def T_X11_init_46 : List tc := T_X8_init T_X11_init_45 72
def T_X11_init_47 : List tc := (T_X11_init_46).modify 9 (uR 4 72)
def T_X11_init_48 : List tc := T_X11_init_47 ++ [ob 2 5]
def T_X11_init_49 : List tc := T_X2_init T_X11_init_48 75 3
def T_X11_init_50 : List tc := (T_X11_init_49).modify 10 (uR 0 75)
def T_X11_init_51 : List tc := T_X11_init_50 ++ [ob 2 5]
def T_X11_init_52 : List tc := T_X2_init T_X11_init_51 81 3
def T_X11_init_53 : List tc := (T_X11_init_52).modify 10 (uR 1 81)
def T_X11_init_54 : List tc := T_X11_init_53 ++ [ob 2 5]
def T_X11_init_55 : List tc := T_X2_init T_X11_init_54 87 3
def T_X11_init_56 : List tc := (T_X11_init_55).modify 10 (uR 2 87)
def T_X11_init_57 : List tc := T_X11_init_56 ++ [ob 2 5]
def T_X11_init_58 : List tc := T_X2_init T_X11_init_57 93 3
def T_X11_init_59 : List tc := (T_X11_init_58).modify 10 (uR 3 93)
set_option maxHeartbeats 4000000 in
set_option maxRecDepth 100000 in
theorem i_X11_init {l : Launch} {D : va_G} {cy : Nat → ClassId} {d : Nat} {ad : List Nat} {h : hp} (hl : l.stackTraces = false) (hd : 3 ≤ d) (L : Lay [ob 11 14] ad h) {a0 : Nat} (A0 : ad[0]? = some a0) : Cal l D cy m_X11_init d 98 26156 [.ref a0] h (inP T_X11_init_59 ad) (fun _ _ => False) := by
  refine Cal.of (by decide +kernel) (Nat.le_of_ble_eq_true rfl) hl ?_
  have p : Pre ad ad := Pre.rf
  refine a_aload_n 0 0 (μ := m_X11_init) (pc := 0) dX11_init_0 rfl rfl ?_
  refine a_objI (μ := m_X11_init) (pc := 1) dX11_init_1 oi_X11_1 oi_i oi_c (Nat.le_of_ble_eq_true rfl) (by omega) ?_
  refine a_aload_n 0 0 (μ := m_X11_init) (pc := 4) dX11_init_4 rfl rfl ?_
  refine t_new 1 L rfl (ci := 7) (nf := 7) (rc' := 97) (rs' := 26149) (μ := m_X11_init) (pc := 5) dX11_init_5 nw_X11_7 (by decide) (by decide) (by decide) (fun q1 ad1 h1 p1 A_2 L1 => ?_)
  replace L : Lay T_X11_init_1 ad1 h1 := L1
  replace p := Pre.tr p p1
  have A_3 := p1 _ _ A0
  clear L1 p1
  refine a_dup (μ := m_X11_init) (pc := 8) dX11_init_8 rfl ?_
  refine t_call (rc' := 96) (rs' := 25649) (t' := T_X7_init T_X11_init_1 1) (As := []) (rest := [.ref q1, .ref a0]) (μ := m_X11_init) (pc := 9) dX11_init_9 ic_X11_9 rfl (Nat.le_of_ble_eq_true rfl) (d' := d - 1) (by omega) (by decide) (by decide) (i_X7_init hl (d := d - 1) (by omega) L A_2 (show sg T_X11_init_1 1 = some (7, 7, 7) by decide +kernel)) (fun ad1 h1 p1 L1 => ?_) rfl
  replace L : Lay T_X11_init_2 ad1 h1 := L1
  replace p := Pre.tr p p1
  have A_4 := p1 _ _ A_3
  have A_5 := p1 _ _ A_2
  clear L1 p1
  refine t_putF L (i := 0) (j := 1) (μ := m_X11_init) (pc := 12) dX11_init_12 fl_X11_10 pf_X11_10 flF_11_0 rfl ir_11_0 id_11_0 rfl rfl (show sg T_X11_init_2 0 = some (11, 14, 14) by decide +kernel) A_4 (by decide) A_5 (fun h1 L1 => ?_)
  replace L : Lay T_X11_init_3 _ h1 := L1
  clear L1
  refine a_aload_n 0 0 (μ := m_X11_init) (pc := 15) dX11_init_15 rfl rfl ?_
  refine t_new 3 L rfl (ci := 5) (nf := 3) (rc' := 95) (rs' := 25646) (μ := m_X11_init) (pc := 16) dX11_init_16 nw_X11_16 (by decide) (by decide) (by decide) (fun q6 ad1 h1 p1 A_7 L1 => ?_)
  replace L : Lay T_X11_init_4 ad1 h1 := L1
  replace p := Pre.tr p p1
  have A_8 := p1 _ _ A_4
  clear L1 p1
  refine a_dup (μ := m_X11_init) (pc := 19) dX11_init_19 rfl ?_
  refine t_call (rc' := 95) (rs' := 25646) (t' := T_X5_init T_X11_init_4 3) (As := []) (rest := [.ref q6, .ref a0]) (μ := m_X11_init) (pc := 20) dX11_init_20 ic_X11_18 rfl (Nat.le_of_ble_eq_true rfl) (d' := d - 1) (by omega) (by decide) (by decide) (i_X5_init hl (d := d - 1) (by omega) L A_7 (show sg T_X11_init_4 3 = some (5, 3, 3) by decide +kernel)) (fun ad1 h1 p1 L1 => ?_) rfl
  replace L : Lay T_X11_init_5 ad1 h1 := L1
  replace p := Pre.tr p p1
  have A_9 := p1 _ _ A_8
  have A_10 := p1 _ _ A_7
  clear L1 p1
  refine t_putF L (i := 0) (j := 3) (μ := m_X11_init) (pc := 23) dX11_init_23 fl_X11_19 pf_X11_19 flF_11_1 rfl ir_11_1 id_11_1 rfl rfl (show sg T_X11_init_5 0 = some (11, 14, 14) by decide +kernel) A_9 (by decide) A_10 (fun h1 L1 => ?_)
  replace L : Lay T_X11_init_6 _ h1 := L1
  clear L1
  refine a_aload_n 0 0 (μ := m_X11_init) (pc := 26) dX11_init_26 rfl rfl ?_
  refine t_new 4 L rfl (ci := 6) (nf := 4) (rc' := 94) (rs' := 25642) (μ := m_X11_init) (pc := 27) dX11_init_27 nw_X11_23 (by decide) (by decide) (by decide) (fun q11 ad1 h1 p1 A_12 L1 => ?_)
  replace L : Lay T_X11_init_7 ad1 h1 := L1
  replace p := Pre.tr p p1
  have A_13 := p1 _ _ A_9
  clear L1 p1
  refine a_dup (μ := m_X11_init) (pc := 30) dX11_init_30 rfl ?_
  refine t_call (rc' := 93) (rs' := 25639) (t' := T_X6_init T_X11_init_7 4) (As := []) (rest := [.ref q11, .ref a0]) (μ := m_X11_init) (pc := 31) dX11_init_31 ic_X11_25 rfl (Nat.le_of_ble_eq_true rfl) (d' := d - 1) (by omega) (by decide) (by decide) (i_X6_init hl (d := d - 1) (by omega) L A_12 (show sg T_X11_init_7 4 = some (6, 4, 4) by decide +kernel)) (fun ad1 h1 p1 L1 => ?_) rfl
  replace L : Lay T_X11_init_8 ad1 h1 := L1
  replace p := Pre.tr p p1
  have A_14 := p1 _ _ A_13
  have A_15 := p1 _ _ A_12
  clear L1 p1
  refine t_putF L (i := 0) (j := 4) (μ := m_X11_init) (pc := 34) dX11_init_34 fl_X11_26 pf_X11_26 flF_11_2 rfl ir_11_2 id_11_2 rfl rfl (show sg T_X11_init_8 0 = some (11, 14, 14) by decide +kernel) A_14 (by decide) A_15 (fun h1 L1 => ?_)
  replace L : Lay T_X11_init_9 _ h1 := L1
  clear L1
  refine a_aload_n 0 0 (μ := m_X11_init) (pc := 37) dX11_init_37 rfl rfl ?_
  refine t_new 6 L rfl (ci := 9) (nf := 7) (rc' := 92) (rs' := 25632) (μ := m_X11_init) (pc := 38) dX11_init_38 nw_X11_30 (by decide) (by decide) (by decide) (fun q16 ad1 h1 p1 A_17 L1 => ?_)
  replace L : Lay T_X11_init_10 ad1 h1 := L1
  replace p := Pre.tr p p1
  have A_18 := p1 _ _ A_14
  clear L1 p1
  refine a_dup (μ := m_X11_init) (pc := 41) dX11_init_41 rfl ?_
  refine t_call (rc' := 90) (rs' := 25626) (t' := T_X9_init T_X11_init_10 6) (As := []) (rest := [.ref q16, .ref a0]) (μ := m_X11_init) (pc := 42) dX11_init_42 ic_X11_32 rfl (Nat.le_of_ble_eq_true rfl) (d' := d - 1) (by omega) (by decide) (by decide) (i_X9_init hl (d := d - 1) (by omega) L A_17 (show sg T_X11_init_10 6 = some (9, 7, 7) by decide +kernel)) (fun ad1 h1 p1 L1 => ?_) rfl
  replace L : Lay T_X11_init_11 ad1 h1 := L1
  replace p := Pre.tr p p1
  have A_19 := p1 _ _ A_18
  have A_20 := p1 _ _ A_17
  clear L1 p1
  refine t_putF L (i := 0) (j := 6) (μ := m_X11_init) (pc := 45) dX11_init_45 fl_X11_33 pf_X11_33 flF_11_3 rfl ir_11_3 id_11_3 rfl rfl (show sg T_X11_init_11 0 = some (11, 14, 14) by decide +kernel) A_19 (by decide) A_20 (fun h1 L1 => ?_)
  replace L : Lay T_X11_init_12 _ h1 := L1
  clear L1
  refine a_aload_n 0 0 (μ := m_X11_init) (pc := 48) dX11_init_48 rfl rfl ?_
  refine a_iconst (v := 5) (μ := m_X11_init) (pc := 49) dX11_init_49 (by decide) ?_
  refine t_newQ 9 L rfl (C := RX8) 4 5 (rc' := 89) (rs' := 25621) (μ := m_X11_init) (pc := 50) dX11_init_50 (by decide) (by decide) rfl kl_X11_37 (Or.inr rfl) (by decide) (by decide) (by decide) (by decide) (by decide) (fun q21 ad1 h1 p1 A_22 L1 => ?_)
  replace L : Lay T_X11_init_13 ad1 h1 := L1
  replace p := Pre.tr p p1
  have A_23 := p1 _ _ A_19
  clear L1 p1
  refine t_putF L (i := 0) (j := 9) (μ := m_X11_init) (pc := 53) dX11_init_53 fl_X11_39 pf_X11_39 flF_11_4 rfl ir_11_4 id_11_4 rfl rfl (show sg T_X11_init_13 0 = some (11, 14, 14) by decide +kernel) A_23 (by decide) A_22 (fun h1 L1 => ?_)
  replace L : Lay T_X11_init_14 _ h1 := L1
  clear L1
  refine a_aload_n 0 0 (μ := m_X11_init) (pc := 56) dX11_init_56 rfl rfl ?_
  refine a_iconst (v := 4) (μ := m_X11_init) (pc := 57) dX11_init_57 (by decide) ?_
  refine t_newQ 10 L rfl (C := RX2) 3 4 (rc' := 88) (rs' := 25617) (μ := m_X11_init) (pc := 58) dX11_init_58 (by decide) (by decide) rfl kl_X11_43 (Or.inl rfl) (by decide) (by decide) (by decide) (by decide) (by decide) (fun q24 ad1 h1 p1 A_25 L1 => ?_)
  replace L : Lay T_X11_init_15 ad1 h1 := L1
  replace p := Pre.tr p p1
  have A_26 := p1 _ _ A_23
  clear L1 p1
  refine t_putF L (i := 0) (j := 10) (μ := m_X11_init) (pc := 61) dX11_init_61 fl_X11_45 pf_X11_45 flF_11_6 rfl ir_11_6 id_11_6 rfl rfl (show sg T_X11_init_15 0 = some (11, 14, 14) by decide +kernel) A_26 (by decide) A_25 (fun h1 L1 => ?_)
  replace L : Lay T_X11_init_16 _ h1 := L1
  clear L1
  refine a_aload_n 0 0 (μ := m_X11_init) (pc := 64) dX11_init_64 rfl rfl ?_
  refine t_new 11 L rfl (ci := 3) (nf := 2) (rc' := 87) (rs' := 25615) (μ := m_X11_init) (pc := 65) dX11_init_65 nw_X11_49 (by decide) (by decide) (by decide) (fun q27 ad1 h1 p1 A_28 L1 => ?_)
  replace L : Lay T_X11_init_17 ad1 h1 := L1
  replace p := Pre.tr p p1
  have A_29 := p1 _ _ A_26
  clear L1 p1
  refine a_dup (μ := m_X11_init) (pc := 68) dX11_init_68 rfl ?_
  refine a_sipush (v := 2000) (μ := m_X11_init) (pc := 69) dX11_init_69 (by decide) ?_
  refine t_call (rc' := 86) (rs' := 23615) (t' := T_X3_init T_X11_init_17 11 2000) (As := [.int 2000]) (rest := [.ref q27, .ref a0]) (μ := m_X11_init) (pc := 72) dX11_init_72 ic_X11_51 rfl (Nat.le_of_ble_eq_true rfl) (d' := d - 1) (by omega) (by decide) (by decide) (i_X3_init hl (d := d - 1) (by omega) L A_28 (show sg T_X11_init_17 11 = some (3, 2, 2) by decide +kernel) (m1 := 2000) (by decide) (by decide) (by decide)) (fun ad1 h1 p1 L1 => ?_) rfl
  replace L : Lay T_X11_init_18 ad1 h1 := L1
  replace p := Pre.tr p p1
  have A_30 := p1 _ _ A_29
  have A_31 := p1 _ _ A_28
  clear L1 p1
  refine t_putF L (i := 0) (j := 11) (μ := m_X11_init) (pc := 75) dX11_init_75 fl_X11_54 pf_X11_54 flF_11_7 rfl ir_11_7 id_11_7 rfl rfl (show sg T_X11_init_18 0 = some (11, 14, 14) by decide +kernel) A_30 (by decide) A_31 (fun h1 L1 => ?_)
  replace L : Lay T_X11_init_19 _ h1 := L1
  clear L1
  refine a_aload_n 0 0 (μ := m_X11_init) (pc := 78) dX11_init_78 rfl rfl ?_
  refine t_new 13 L rfl (ci := 4) (nf := 20) (rc' := 85) (rs' := 23595) (μ := m_X11_init) (pc := 79) dX11_init_79 nw_X11_58 (by decide) (by decide) (by decide) (fun q32 ad1 h1 p1 A_33 L1 => ?_)
  replace L : Lay T_X11_init_20 ad1 h1 := L1
  replace p := Pre.tr p p1
  have A_34 := p1 _ _ A_30
  clear L1 p1
  refine a_dup (μ := m_X11_init) (pc := 82) dX11_init_82 rfl ?_
  refine a_aload_n 0 0 (μ := m_X11_init) (pc := 83) dX11_init_83 rfl rfl ?_
  refine t_get L (i := 0) (j := 3) (μ := m_X11_init) (pc := 84) dX11_init_84 fl_X11_19 ir_11_1 id_11_1 (show sg T_X11_init_20 0 = some (11, 14, 14) by decide +kernel) A_34 (show rf T_X11_init_20 0 1 = some 3 by decide +kernel) (fun b35 A_36 => ?_)
  refine t_call (rc' := 80) (rs' := 21541) (t' := T_X4_init T_X11_init_20 13 3) (As := [.ref b35]) (rest := [.ref q32, .ref a0]) (μ := m_X11_init) (pc := 87) dX11_init_87 ic_X11_60 rfl (Nat.le_of_ble_eq_true rfl) (d' := d - 1) (by omega) (by decide) (by decide) (i_X4_init hl (d := d - 1) (by omega) L A_33 (show sg T_X11_init_20 13 = some (4, 20, 20) by decide +kernel) A_36 (show sg T_X11_init_20 3 = some (5, 3, 3) by decide +kernel)) (fun ad1 h1 p1 L1 => ?_) rfl
  replace L : Lay T_X11_init_21 ad1 h1 := L1
  replace p := Pre.tr p p1
  have A_37 := p1 _ _ A_34
  have A_38 := p1 _ _ A_33
  have A_39 := p1 _ _ A_36
  clear L1 p1
  refine t_putF L (i := 0) (j := 13) (μ := m_X11_init) (pc := 90) dX11_init_90 fl_X11_63 pf_X11_63 flF_11_8 rfl ir_11_8 id_11_8 rfl rfl (show sg T_X11_init_21 0 = some (11, 14, 14) by decide +kernel) A_37 (by decide) A_38 (fun h1 L1 => ?_)
  replace L : Lay T_X11_init_22 _ h1 := L1
  clear L1
  refine a_aload_n 0 0 (μ := m_X11_init) (pc := 93) dX11_init_93 rfl rfl ?_
  refine t_new 19 L rfl (ci := 10) (nf := 7) (rc' := 79) (rs' := 21534) (μ := m_X11_init) (pc := 94) dX11_init_94 nw_X11_67 (by decide) (by decide) (by decide) (fun q40 ad1 h1 p1 A_41 L1 => ?_)
  replace L : Lay T_X11_init_23 ad1 h1 := L1
  replace p := Pre.tr p p1
  have A_42 := p1 _ _ A_37
  clear L1 p1
  refine a_dup (μ := m_X11_init) (pc := 97) dX11_init_97 rfl ?_
  refine a_aload_n 0 0 (μ := m_X11_init) (pc := 98) dX11_init_98 rfl rfl ?_
  refine t_get L (i := 0) (j := 3) (μ := m_X11_init) (pc := 99) dX11_init_99 fl_X11_19 ir_11_1 id_11_1 (show sg T_X11_init_23 0 = some (11, 14, 14) by decide +kernel) A_42 (show rf T_X11_init_23 0 1 = some 3 by decide +kernel) (fun b43 A_44 => ?_)
  refine t_call (rc' := 57) (rs' := 21225) (t' := T_X10_init T_X11_init_23 19 3) (As := [.ref b43]) (rest := [.ref q40, .ref a0]) (μ := m_X11_init) (pc := 102) dX11_init_102 ic_X11_69 rfl (Nat.le_of_ble_eq_true rfl) (d' := d - 1) (by omega) (by decide) (by decide) (i_X10_init hl (d := d - 1) (by omega) L A_41 (show sg T_X11_init_23 19 = some (10, 7, 7) by decide +kernel) A_44 (show sg T_X11_init_23 3 = some (5, 3, 3) by decide +kernel)) (fun ad1 h1 p1 L1 => ?_) rfl
  replace L : Lay T_X11_init_24 ad1 h1 := L1
  replace p := Pre.tr p p1
  have A_45 := p1 _ _ A_42
  have A_46 := p1 _ _ A_41
  have A_47 := p1 _ _ A_44
  clear L1 p1
  refine t_putF L (i := 0) (j := 19) (μ := m_X11_init) (pc := 105) dX11_init_105 fl_X11_70 pf_X11_70 flF_11_9 rfl ir_11_9 id_11_9 rfl rfl (show sg T_X11_init_24 0 = some (11, 14, 14) by decide +kernel) A_45 (by decide) A_46 (fun h1 L1 => ?_)
  replace L : Lay T_X11_init_25 _ h1 := L1
  clear L1
  refine a_aload_n 0 0 (μ := m_X11_init) (pc := 108) dX11_init_108 rfl rfl ?_
  refine t_new 42 L rfl (ci := 0) (nf := 8) (rc' := 56) (rs' := 21217) (μ := m_X11_init) (pc := 109) dX11_init_109 nw_X11_74 (by decide) (by decide) (by decide) (fun q48 ad1 h1 p1 A_49 L1 => ?_)
  replace L : Lay T_X11_init_26 ad1 h1 := L1
  replace p := Pre.tr p p1
  have A_50 := p1 _ _ A_45
  clear L1 p1
  refine a_dup (μ := m_X11_init) (pc := 112) dX11_init_112 rfl ?_
  refine a_aload_n 0 0 (μ := m_X11_init) (pc := 113) dX11_init_113 rfl rfl ?_
  refine t_get L (i := 0) (j := 3) (μ := m_X11_init) (pc := 114) dX11_init_114 fl_X11_19 ir_11_1 id_11_1 (show sg T_X11_init_26 0 = some (11, 14, 14) by decide +kernel) A_50 (show rf T_X11_init_26 0 1 = some 3 by decide +kernel) (fun b51 A_52 => ?_)
  refine t_call (rc' := 44) (rs' := 21130) (t' := T_X0_init T_X11_init_26 42 3) (As := [.ref b51]) (rest := [.ref q48, .ref a0]) (μ := m_X11_init) (pc := 117) dX11_init_117 ic_X11_76 rfl (Nat.le_of_ble_eq_true rfl) (d' := d - 1) (by omega) (by decide) (by decide) (i_X0_init hl (d := d - 1) (by omega) L A_49 (show sg T_X11_init_26 42 = some (0, 8, 8) by decide +kernel) A_52 (show sg T_X11_init_26 3 = some (5, 3, 3) by decide +kernel)) (fun ad1 h1 p1 L1 => ?_) rfl
  replace L : Lay T_X11_init_27 ad1 h1 := L1
  replace p := Pre.tr p p1
  have A_53 := p1 _ _ A_50
  have A_54 := p1 _ _ A_49
  have A_55 := p1 _ _ A_52
  clear L1 p1
  refine t_putF L (i := 0) (j := 42) (μ := m_X11_init) (pc := 120) dX11_init_120 fl_X11_77 pf_X11_77 flF_11_10 rfl ir_11_10 id_11_10 rfl rfl (show sg T_X11_init_27 0 = some (11, 14, 14) by decide +kernel) A_53 (by decide) A_54 (fun h1 L1 => ?_)
  replace L : Lay T_X11_init_28 _ h1 := L1
  clear L1
  refine a_aload_n 0 0 (μ := m_X11_init) (pc := 123) dX11_init_123 rfl rfl ?_
  refine a_iconst (v := 3) (μ := m_X11_init) (pc := 124) dX11_init_124 (by decide) ?_
  refine a_iconst (v := 4) (μ := m_X11_init) (pc := 125) dX11_init_125 (by decide) ?_
  refine t_mna 55 L rfl 5 0 3 4 (ty := .int) (rc' := 40) (rs' := 21115) (μ := m_X11_init) (pc := 126) dX11_init_126 (by decide) mc_X11_81 ac_0 (by decide) (by decide) (by decide) (by decide) (by decide) (by decide) (by decide) (by decide) (fun q56 ad1 h1 p1 A_57 L1 => ?_)
  replace L : Lay T_X11_init_29 ad1 h1 := L1
  replace p := Pre.tr p p1
  have A_58 := p1 _ _ A_53
  clear L1 p1
  refine t_putF L (i := 0) (j := 55) (μ := m_X11_init) (pc := 130) dX11_init_130 fl_X11_83 pf_X11_83 flF_11_11 rfl ir_11_11 id_11_11 rfl rfl (show sg T_X11_init_29 0 = some (11, 14, 14) by decide +kernel) A_58 (by decide) A_57 (fun h1 L1 => ?_)
  replace L : Lay T_X11_init_30 _ h1 := L1
  clear L1
  refine a_aload_n 0 0 (μ := m_X11_init) (pc := 133) dX11_init_133 rfl rfl ?_
  refine a_iconst (v := 3) (μ := m_X11_init) (pc := 134) dX11_init_134 (by decide) ?_
  refine t_newI 59 L rfl 0 3 (ty := .int) (rc' := 39) (rs' := 21112) (μ := m_X11_init) (pc := 135) dX11_init_135 rfl (by decide) ac_0 (by decide) (by decide) (by decide) (by decide) (by decide) (fun q59 ad1 h1 p1 A_60 L1 => ?_)
  replace L : Lay T_X11_init_31 ad1 h1 := L1
  replace p := Pre.tr p p1
  have A_61 := p1 _ _ A_58
  clear L1 p1
  refine t_putF L (i := 0) (j := 59) (μ := m_X11_init) (pc := 137) dX11_init_137 fl_X11_86 pf_X11_86 flF_11_13 rfl ir_11_13 id_11_13 rfl rfl (show sg T_X11_init_31 0 = some (11, 14, 14) by decide +kernel) A_61 (by decide) A_60 (fun h1 L1 => ?_)
  replace L : Lay T_X11_init_32 _ h1 := L1
  clear L1
  refine a_iconst (v := 0) (μ := m_X11_init) (pc := 140) dX11_init_140 (by decide) ?_
  refine a_istore_n [(1, .int 0), (0, .ref a0)] (μ := m_X11_init) (pc := 141) dX11_init_141 rfl (by decide) rfl ?_
  refine a_iload_n 0 1 (μ := m_X11_init) (pc := 142) dX11_init_142 rfl rfl ?_
  refine a_aload_n 1 0 (μ := m_X11_init) (pc := 143) dX11_init_143 rfl rfl ?_
  refine t_get L (i := 0) (j := 9) (μ := m_X11_init) (pc := 144) dX11_init_144 fl_X11_39 ir_11_4 id_11_4 (show sg T_X11_init_32 0 = some (11, 14, 14) by decide +kernel) A_61 (show rf T_X11_init_32 0 4 = some 9 by decide +kernel) (fun b62 A_63 => ?_)
  refine t_alen L (i := 9) 4 5 (v := 5) (μ := m_X11_init) (pc := 147) dX11_init_147 (nr := 5) (ni := 0) (by decide +kernel) A_63 (by decide +kernel) (by decide) rfl (by decide) ?_
  refine a_icmp_ge 170 (μ := m_X11_init) (pc := 148) dX11_init_148 (by decide) (fun z => absurd z (show ¬ (5 : Int32) ≤ 0 by decide)) (fun _ => ?_)
  refine a_aload_n 1 0 (μ := m_X11_init) (pc := 151) dX11_init_151 rfl rfl ?_
  refine t_get L (i := 0) (j := 9) (μ := m_X11_init) (pc := 152) dX11_init_152 fl_X11_39 ir_11_4 id_11_4 (show sg T_X11_init_32 0 = some (11, 14, 14) by decide +kernel) A_61 (show rf T_X11_init_32 0 4 = some 9 by decide +kernel) (fun b64 A_65 => ?_)
  refine a_iload_n 0 1 (μ := m_X11_init) (pc := 155) dX11_init_155 rfl rfl ?_
  refine t_new 60 L rfl (ci := 8) (nf := 4) (rc' := 38) (rs' := 21108) (μ := m_X11_init) (pc := 156) dX11_init_156 nw_X11_37 (by decide) (by decide) (by decide) (fun q66 ad1 h1 p1 A_67 L1 => ?_)
  replace L : Lay T_X11_init_33 ad1 h1 := L1
  replace p := Pre.tr p p1
  have A_68 := p1 _ _ A_61
  have A_69 := p1 _ _ A_65
  clear L1 p1
  refine a_dup (μ := m_X11_init) (pc := 159) dX11_init_159 rfl ?_
  refine t_call (rc' := 36) (rs' := 20108) (t' := T_X8_init T_X11_init_33 60) (As := []) (rest := [.ref q66, .int 0, .ref b64]) (μ := m_X11_init) (pc := 160) dX11_init_160 ic_X11_90 rfl (Nat.le_of_ble_eq_true rfl) (d' := d - 1) (by omega) (by decide) (by decide) (i_X8_init hl (d := d - 1) (by omega) L A_67 (show sg T_X11_init_33 60 = some (8, 4, 4) by decide +kernel)) (fun ad1 h1 p1 L1 => ?_) rfl
  replace L : Lay T_X11_init_34 ad1 h1 := L1
  replace p := Pre.tr p p1
  have A_70 := p1 _ _ A_68
  have A_71 := p1 _ _ A_69
  have A_72 := p1 _ _ A_67
  clear L1 p1
  refine t_aast L (i := 9) (j := 60) (y := 4) (nr := 5) (ni := 0) (r := (RX8, TX8, 4)) 0 (μ := m_X11_init) (pc := 163) dX11_init_163 (by decide) (by decide) rfl (ci := 8) rfl (by decide) (by decide +kernel) A_71 (show sg T_X11_init_34 60 = some (8, 4, 4) by decide +kernel) A_72 (by decide) (by decide) (by decide) (L.Nn A_71 (show sg T_X11_init_34 9 = some (17, 5, 0) by decide +kernel) (by decide) (by decide +kernel)) (fun h1 L1 => ?_)
  replace L : Lay T_X11_init_35 _ h1 := L1
  clear L1
  refine a_iinc (v := 1) 0 [(1, .int 1), (0, .ref a0)] (μ := m_X11_init) (pc := 164) dX11_init_164 rfl (by decide) (by decide) rfl ?_
  refine a_goto 142 (μ := m_X11_init) (pc := 167) dX11_init_167 (by decide) ?_
  refine a_iload_n 0 1 (μ := m_X11_init) (pc := 142) dX11_init_142 rfl rfl ?_
  refine a_aload_n 1 0 (μ := m_X11_init) (pc := 143) dX11_init_143 rfl rfl ?_
  refine t_get L (i := 0) (j := 9) (μ := m_X11_init) (pc := 144) dX11_init_144 fl_X11_39 ir_11_4 id_11_4 (show sg T_X11_init_35 0 = some (11, 14, 14) by decide +kernel) A_70 (show rf T_X11_init_35 0 4 = some 9 by decide +kernel) (fun b73 A_74 => ?_)
  refine t_alen L (i := 9) 4 5 (v := 5) (μ := m_X11_init) (pc := 147) dX11_init_147 (nr := 5) (ni := 0) (by decide +kernel) A_74 (by decide +kernel) (by decide) rfl (by decide) ?_
  refine a_icmp_ge 170 (μ := m_X11_init) (pc := 148) dX11_init_148 (by decide) (fun z => absurd z (show ¬ (5 : Int32) ≤ 1 by decide)) (fun _ => ?_)
  refine a_aload_n 1 0 (μ := m_X11_init) (pc := 151) dX11_init_151 rfl rfl ?_
  refine t_get L (i := 0) (j := 9) (μ := m_X11_init) (pc := 152) dX11_init_152 fl_X11_39 ir_11_4 id_11_4 (show sg T_X11_init_35 0 = some (11, 14, 14) by decide +kernel) A_70 (show rf T_X11_init_35 0 4 = some 9 by decide +kernel) (fun b75 A_76 => ?_)
  refine a_iload_n 0 1 (μ := m_X11_init) (pc := 155) dX11_init_155 rfl rfl ?_
  refine t_new 63 L rfl (ci := 8) (nf := 4) (rc' := 35) (rs' := 20104) (μ := m_X11_init) (pc := 156) dX11_init_156 nw_X11_37 (by decide) (by decide) (by decide) (fun q77 ad1 h1 p1 A_78 L1 => ?_)
  replace L : Lay T_X11_init_36 ad1 h1 := L1
  replace p := Pre.tr p p1
  have A_79 := p1 _ _ A_70
  have A_80 := p1 _ _ A_76
  clear L1 p1
  refine a_dup (μ := m_X11_init) (pc := 159) dX11_init_159 rfl ?_
  refine t_call (rc' := 33) (rs' := 19104) (t' := T_X8_init T_X11_init_36 63) (As := []) (rest := [.ref q77, .int 1, .ref b75]) (μ := m_X11_init) (pc := 160) dX11_init_160 ic_X11_90 rfl (Nat.le_of_ble_eq_true rfl) (d' := d - 1) (by omega) (by decide) (by decide) (i_X8_init hl (d := d - 1) (by omega) L A_78 (show sg T_X11_init_36 63 = some (8, 4, 4) by decide +kernel)) (fun ad1 h1 p1 L1 => ?_) rfl
  replace L : Lay T_X11_init_37 ad1 h1 := L1
  replace p := Pre.tr p p1
  have A_81 := p1 _ _ A_79
  have A_82 := p1 _ _ A_80
  have A_83 := p1 _ _ A_78
  clear L1 p1
  refine t_aast L (i := 9) (j := 63) (y := 4) (nr := 5) (ni := 0) (r := (RX8, TX8, 4)) 1 (μ := m_X11_init) (pc := 163) dX11_init_163 (by decide) (by decide) rfl (ci := 8) rfl (by decide) (by decide +kernel) A_82 (show sg T_X11_init_37 63 = some (8, 4, 4) by decide +kernel) A_83 (by decide) (by decide) (by decide) (L.Nn A_82 (show sg T_X11_init_37 9 = some (17, 5, 0) by decide +kernel) (by decide) (by decide +kernel)) (fun h1 L1 => ?_)
  replace L : Lay T_X11_init_38 _ h1 := L1
  clear L1
  refine a_iinc (v := 2) 0 [(1, .int 2), (0, .ref a0)] (μ := m_X11_init) (pc := 164) dX11_init_164 rfl (by decide) (by decide) rfl ?_
  refine a_goto 142 (μ := m_X11_init) (pc := 167) dX11_init_167 (by decide) ?_
  refine a_iload_n 0 1 (μ := m_X11_init) (pc := 142) dX11_init_142 rfl rfl ?_
  refine a_aload_n 1 0 (μ := m_X11_init) (pc := 143) dX11_init_143 rfl rfl ?_
  refine t_get L (i := 0) (j := 9) (μ := m_X11_init) (pc := 144) dX11_init_144 fl_X11_39 ir_11_4 id_11_4 (show sg T_X11_init_38 0 = some (11, 14, 14) by decide +kernel) A_81 (show rf T_X11_init_38 0 4 = some 9 by decide +kernel) (fun b84 A_85 => ?_)
  refine t_alen L (i := 9) 4 5 (v := 5) (μ := m_X11_init) (pc := 147) dX11_init_147 (nr := 5) (ni := 0) (by decide +kernel) A_85 (by decide +kernel) (by decide) rfl (by decide) ?_
  refine a_icmp_ge 170 (μ := m_X11_init) (pc := 148) dX11_init_148 (by decide) (fun z => absurd z (show ¬ (5 : Int32) ≤ 2 by decide)) (fun _ => ?_)
  refine a_aload_n 1 0 (μ := m_X11_init) (pc := 151) dX11_init_151 rfl rfl ?_
  refine t_get L (i := 0) (j := 9) (μ := m_X11_init) (pc := 152) dX11_init_152 fl_X11_39 ir_11_4 id_11_4 (show sg T_X11_init_38 0 = some (11, 14, 14) by decide +kernel) A_81 (show rf T_X11_init_38 0 4 = some 9 by decide +kernel) (fun b86 A_87 => ?_)
  refine a_iload_n 0 1 (μ := m_X11_init) (pc := 155) dX11_init_155 rfl rfl ?_
  refine t_new 66 L rfl (ci := 8) (nf := 4) (rc' := 32) (rs' := 19100) (μ := m_X11_init) (pc := 156) dX11_init_156 nw_X11_37 (by decide) (by decide) (by decide) (fun q88 ad1 h1 p1 A_89 L1 => ?_)
  replace L : Lay T_X11_init_39 ad1 h1 := L1
  replace p := Pre.tr p p1
  have A_90 := p1 _ _ A_81
  have A_91 := p1 _ _ A_87
  clear L1 p1
  refine a_dup (μ := m_X11_init) (pc := 159) dX11_init_159 rfl ?_
  refine t_call (rc' := 30) (rs' := 18100) (t' := T_X8_init T_X11_init_39 66) (As := []) (rest := [.ref q88, .int 2, .ref b86]) (μ := m_X11_init) (pc := 160) dX11_init_160 ic_X11_90 rfl (Nat.le_of_ble_eq_true rfl) (d' := d - 1) (by omega) (by decide) (by decide) (i_X8_init hl (d := d - 1) (by omega) L A_89 (show sg T_X11_init_39 66 = some (8, 4, 4) by decide +kernel)) (fun ad1 h1 p1 L1 => ?_) rfl
  replace L : Lay T_X11_init_40 ad1 h1 := L1
  replace p := Pre.tr p p1
  have A_92 := p1 _ _ A_90
  have A_93 := p1 _ _ A_91
  have A_94 := p1 _ _ A_89
  clear L1 p1
  refine t_aast L (i := 9) (j := 66) (y := 4) (nr := 5) (ni := 0) (r := (RX8, TX8, 4)) 2 (μ := m_X11_init) (pc := 163) dX11_init_163 (by decide) (by decide) rfl (ci := 8) rfl (by decide) (by decide +kernel) A_93 (show sg T_X11_init_40 66 = some (8, 4, 4) by decide +kernel) A_94 (by decide) (by decide) (by decide) (L.Nn A_93 (show sg T_X11_init_40 9 = some (17, 5, 0) by decide +kernel) (by decide) (by decide +kernel)) (fun h1 L1 => ?_)
  replace L : Lay T_X11_init_41 _ h1 := L1
  clear L1
  refine a_iinc (v := 3) 0 [(1, .int 3), (0, .ref a0)] (μ := m_X11_init) (pc := 164) dX11_init_164 rfl (by decide) (by decide) rfl ?_
  refine a_goto 142 (μ := m_X11_init) (pc := 167) dX11_init_167 (by decide) ?_
  refine a_iload_n 0 1 (μ := m_X11_init) (pc := 142) dX11_init_142 rfl rfl ?_
  refine a_aload_n 1 0 (μ := m_X11_init) (pc := 143) dX11_init_143 rfl rfl ?_
  refine t_get L (i := 0) (j := 9) (μ := m_X11_init) (pc := 144) dX11_init_144 fl_X11_39 ir_11_4 id_11_4 (show sg T_X11_init_41 0 = some (11, 14, 14) by decide +kernel) A_92 (show rf T_X11_init_41 0 4 = some 9 by decide +kernel) (fun b95 A_96 => ?_)
  refine t_alen L (i := 9) 4 5 (v := 5) (μ := m_X11_init) (pc := 147) dX11_init_147 (nr := 5) (ni := 0) (by decide +kernel) A_96 (by decide +kernel) (by decide) rfl (by decide) ?_
  refine a_icmp_ge 170 (μ := m_X11_init) (pc := 148) dX11_init_148 (by decide) (fun z => absurd z (show ¬ (5 : Int32) ≤ 3 by decide)) (fun _ => ?_)
  refine a_aload_n 1 0 (μ := m_X11_init) (pc := 151) dX11_init_151 rfl rfl ?_
  refine t_get L (i := 0) (j := 9) (μ := m_X11_init) (pc := 152) dX11_init_152 fl_X11_39 ir_11_4 id_11_4 (show sg T_X11_init_41 0 = some (11, 14, 14) by decide +kernel) A_92 (show rf T_X11_init_41 0 4 = some 9 by decide +kernel) (fun b97 A_98 => ?_)
  refine a_iload_n 0 1 (μ := m_X11_init) (pc := 155) dX11_init_155 rfl rfl ?_
  refine t_new 69 L rfl (ci := 8) (nf := 4) (rc' := 29) (rs' := 18096) (μ := m_X11_init) (pc := 156) dX11_init_156 nw_X11_37 (by decide) (by decide) (by decide) (fun q99 ad1 h1 p1 A_100 L1 => ?_)
  replace L : Lay T_X11_init_42 ad1 h1 := L1
  replace p := Pre.tr p p1
  have A_101 := p1 _ _ A_92
  have A_102 := p1 _ _ A_98
  clear L1 p1
  refine a_dup (μ := m_X11_init) (pc := 159) dX11_init_159 rfl ?_
  refine t_call (rc' := 27) (rs' := 17096) (t' := T_X8_init T_X11_init_42 69) (As := []) (rest := [.ref q99, .int 3, .ref b97]) (μ := m_X11_init) (pc := 160) dX11_init_160 ic_X11_90 rfl (Nat.le_of_ble_eq_true rfl) (d' := d - 1) (by omega) (by decide) (by decide) (i_X8_init hl (d := d - 1) (by omega) L A_100 (show sg T_X11_init_42 69 = some (8, 4, 4) by decide +kernel)) (fun ad1 h1 p1 L1 => ?_) rfl
  replace L : Lay T_X11_init_43 ad1 h1 := L1
  replace p := Pre.tr p p1
  have A_103 := p1 _ _ A_101
  have A_104 := p1 _ _ A_102
  have A_105 := p1 _ _ A_100
  clear L1 p1
  refine t_aast L (i := 9) (j := 69) (y := 4) (nr := 5) (ni := 0) (r := (RX8, TX8, 4)) 3 (μ := m_X11_init) (pc := 163) dX11_init_163 (by decide) (by decide) rfl (ci := 8) rfl (by decide) (by decide +kernel) A_104 (show sg T_X11_init_43 69 = some (8, 4, 4) by decide +kernel) A_105 (by decide) (by decide) (by decide) (L.Nn A_104 (show sg T_X11_init_43 9 = some (17, 5, 0) by decide +kernel) (by decide) (by decide +kernel)) (fun h1 L1 => ?_)
  replace L : Lay T_X11_init_44 _ h1 := L1
  clear L1
  refine a_iinc (v := 4) 0 [(1, .int 4), (0, .ref a0)] (μ := m_X11_init) (pc := 164) dX11_init_164 rfl (by decide) (by decide) rfl ?_
  refine a_goto 142 (μ := m_X11_init) (pc := 167) dX11_init_167 (by decide) ?_
  refine a_iload_n 0 1 (μ := m_X11_init) (pc := 142) dX11_init_142 rfl rfl ?_
  refine a_aload_n 1 0 (μ := m_X11_init) (pc := 143) dX11_init_143 rfl rfl ?_
  refine t_get L (i := 0) (j := 9) (μ := m_X11_init) (pc := 144) dX11_init_144 fl_X11_39 ir_11_4 id_11_4 (show sg T_X11_init_44 0 = some (11, 14, 14) by decide +kernel) A_103 (show rf T_X11_init_44 0 4 = some 9 by decide +kernel) (fun b106 A_107 => ?_)
  refine t_alen L (i := 9) 4 5 (v := 5) (μ := m_X11_init) (pc := 147) dX11_init_147 (nr := 5) (ni := 0) (by decide +kernel) A_107 (by decide +kernel) (by decide) rfl (by decide) ?_
  refine a_icmp_ge 170 (μ := m_X11_init) (pc := 148) dX11_init_148 (by decide) (fun z => absurd z (show ¬ (5 : Int32) ≤ 4 by decide)) (fun _ => ?_)
  refine a_aload_n 1 0 (μ := m_X11_init) (pc := 151) dX11_init_151 rfl rfl ?_
  refine t_get L (i := 0) (j := 9) (μ := m_X11_init) (pc := 152) dX11_init_152 fl_X11_39 ir_11_4 id_11_4 (show sg T_X11_init_44 0 = some (11, 14, 14) by decide +kernel) A_103 (show rf T_X11_init_44 0 4 = some 9 by decide +kernel) (fun b108 A_109 => ?_)
  refine a_iload_n 0 1 (μ := m_X11_init) (pc := 155) dX11_init_155 rfl rfl ?_
  refine t_new 72 L rfl (ci := 8) (nf := 4) (rc' := 26) (rs' := 17092) (μ := m_X11_init) (pc := 156) dX11_init_156 nw_X11_37 (by decide) (by decide) (by decide) (fun q110 ad1 h1 p1 A_111 L1 => ?_)
  replace L : Lay T_X11_init_45 ad1 h1 := L1
  replace p := Pre.tr p p1
  have A_112 := p1 _ _ A_103
  have A_113 := p1 _ _ A_109
  clear L1 p1
  refine a_dup (μ := m_X11_init) (pc := 159) dX11_init_159 rfl ?_
  refine t_call (rc' := 24) (rs' := 16092) (t' := T_X8_init T_X11_init_45 72) (As := []) (rest := [.ref q110, .int 4, .ref b108]) (μ := m_X11_init) (pc := 160) dX11_init_160 ic_X11_90 rfl (Nat.le_of_ble_eq_true rfl) (d' := d - 1) (by omega) (by decide) (by decide) (i_X8_init hl (d := d - 1) (by omega) L A_111 (show sg T_X11_init_45 72 = some (8, 4, 4) by decide +kernel)) (fun ad1 h1 p1 L1 => ?_) rfl
  replace L : Lay T_X11_init_46 ad1 h1 := L1
  replace p := Pre.tr p p1
  have A_114 := p1 _ _ A_112
  have A_115 := p1 _ _ A_113
  have A_116 := p1 _ _ A_111
  clear L1 p1
  refine t_aast L (i := 9) (j := 72) (y := 4) (nr := 5) (ni := 0) (r := (RX8, TX8, 4)) 4 (μ := m_X11_init) (pc := 163) dX11_init_163 (by decide) (by decide) rfl (ci := 8) rfl (by decide) (by decide +kernel) A_115 (show sg T_X11_init_46 72 = some (8, 4, 4) by decide +kernel) A_116 (by decide) (by decide) (by decide) (L.Nn A_115 (show sg T_X11_init_46 9 = some (17, 5, 0) by decide +kernel) (by decide) (by decide +kernel)) (fun h1 L1 => ?_)
  replace L : Lay T_X11_init_47 _ h1 := L1
  clear L1
  refine a_iinc (v := 5) 0 [(1, .int 5), (0, .ref a0)] (μ := m_X11_init) (pc := 164) dX11_init_164 rfl (by decide) (by decide) rfl ?_
  refine a_goto 142 (μ := m_X11_init) (pc := 167) dX11_init_167 (by decide) ?_
  refine a_iload_n 0 1 (μ := m_X11_init) (pc := 142) dX11_init_142 rfl rfl ?_
  refine a_aload_n 1 0 (μ := m_X11_init) (pc := 143) dX11_init_143 rfl rfl ?_
  refine t_get L (i := 0) (j := 9) (μ := m_X11_init) (pc := 144) dX11_init_144 fl_X11_39 ir_11_4 id_11_4 (show sg T_X11_init_47 0 = some (11, 14, 14) by decide +kernel) A_114 (show rf T_X11_init_47 0 4 = some 9 by decide +kernel) (fun b117 A_118 => ?_)
  refine t_alen L (i := 9) 4 5 (v := 5) (μ := m_X11_init) (pc := 147) dX11_init_147 (nr := 5) (ni := 0) (by decide +kernel) A_118 (by decide +kernel) (by decide) rfl (by decide) ?_
  refine a_icmp_ge 170 (μ := m_X11_init) (pc := 148) dX11_init_148 (by decide) (fun _ => ?_) (fun z => absurd (show (5 : Int32) ≤ 5 by decide) z)
  refine a_iconst (v := 0) (μ := m_X11_init) (pc := 170) dX11_init_170 (by decide) ?_
  refine a_istore_n [(1, .int 0), (0, .ref a0)] (μ := m_X11_init) (pc := 171) dX11_init_171 rfl (by decide) rfl ?_
  refine a_iload_n 0 1 (μ := m_X11_init) (pc := 172) dX11_init_172 rfl rfl ?_
  refine a_iconst (v := 4) (μ := m_X11_init) (pc := 173) dX11_init_173 (by decide) ?_
  refine a_icmp_ge 200 (μ := m_X11_init) (pc := 174) dX11_init_174 (by decide) (fun z => absurd z (show ¬ (4 : Int32) ≤ 0 by decide)) (fun _ => ?_)
  refine a_aload_n 1 0 (μ := m_X11_init) (pc := 177) dX11_init_177 rfl rfl ?_
  refine t_get L (i := 0) (j := 10) (μ := m_X11_init) (pc := 178) dX11_init_178 fl_X11_45 ir_11_6 id_11_6 (show sg T_X11_init_47 0 = some (11, 14, 14) by decide +kernel) A_114 (show rf T_X11_init_47 0 6 = some 10 by decide +kernel) (fun b119 A_120 => ?_)
  refine a_iload_n 0 1 (μ := m_X11_init) (pc := 181) dX11_init_181 rfl rfl ?_
  refine t_new 75 L rfl (ci := 2) (nf := 5) (rc' := 23) (rs' := 16087) (μ := m_X11_init) (pc := 182) dX11_init_182 nw_X11_43 (by decide) (by decide) (by decide) (fun q121 ad1 h1 p1 A_122 L1 => ?_)
  replace L : Lay T_X11_init_48 ad1 h1 := L1
  replace p := Pre.tr p p1
  have A_123 := p1 _ _ A_114
  have A_124 := p1 _ _ A_120
  clear L1 p1
  refine a_dup (μ := m_X11_init) (pc := 185) dX11_init_185 rfl ?_
  refine a_aload_n 1 0 (μ := m_X11_init) (pc := 186) dX11_init_186 rfl rfl ?_
  refine t_get L (i := 0) (j := 3) (μ := m_X11_init) (pc := 187) dX11_init_187 fl_X11_19 ir_11_1 id_11_1 (show sg T_X11_init_48 0 = some (11, 14, 14) by decide +kernel) A_123 (show rf T_X11_init_48 0 1 = some 3 by decide +kernel) (fun b125 A_126 => ?_)
  refine t_call (rc' := 18) (rs' := 12069) (t' := T_X2_init T_X11_init_48 75 3) (As := [.ref b125]) (rest := [.ref q121, .int 0, .ref b119]) (μ := m_X11_init) (pc := 190) dX11_init_190 ic_X11_91 rfl (Nat.le_of_ble_eq_true rfl) (d' := d - 1) (by omega) (by decide) (by decide) (i_X2_init hl (d := d - 1) (by omega) L A_122 (show sg T_X11_init_48 75 = some (2, 5, 5) by decide +kernel) A_126 (show sg T_X11_init_48 3 = some (5, 3, 3) by decide +kernel)) (fun ad1 h1 p1 L1 => ?_) rfl
  replace L : Lay T_X11_init_49 ad1 h1 := L1
  replace p := Pre.tr p p1
  have A_127 := p1 _ _ A_123
  have A_128 := p1 _ _ A_124
  have A_129 := p1 _ _ A_122
  have A_130 := p1 _ _ A_126
  clear L1 p1
  refine t_aast L (i := 10) (j := 75) (y := 3) (nr := 4) (ni := 0) (r := (RX2, TX2, 5)) 0 (μ := m_X11_init) (pc := 193) dX11_init_193 (by decide) (by decide) rfl (ci := 2) rfl (by decide) (by decide +kernel) A_128 (show sg T_X11_init_49 75 = some (2, 5, 5) by decide +kernel) A_129 (by decide) (by decide) (by decide) (L.Nn A_128 (show sg T_X11_init_49 10 = some (16, 4, 0) by decide +kernel) (by decide) (by decide +kernel)) (fun h1 L1 => ?_)
  replace L : Lay T_X11_init_50 _ h1 := L1
  clear L1
  refine a_iinc (v := 1) 0 [(1, .int 1), (0, .ref a0)] (μ := m_X11_init) (pc := 194) dX11_init_194 rfl (by decide) (by decide) rfl ?_
  refine a_goto 172 (μ := m_X11_init) (pc := 197) dX11_init_197 (by decide) ?_
  refine a_iload_n 0 1 (μ := m_X11_init) (pc := 172) dX11_init_172 rfl rfl ?_
  refine a_iconst (v := 4) (μ := m_X11_init) (pc := 173) dX11_init_173 (by decide) ?_
  refine a_icmp_ge 200 (μ := m_X11_init) (pc := 174) dX11_init_174 (by decide) (fun z => absurd z (show ¬ (4 : Int32) ≤ 1 by decide)) (fun _ => ?_)
  refine a_aload_n 1 0 (μ := m_X11_init) (pc := 177) dX11_init_177 rfl rfl ?_
  refine t_get L (i := 0) (j := 10) (μ := m_X11_init) (pc := 178) dX11_init_178 fl_X11_45 ir_11_6 id_11_6 (show sg T_X11_init_50 0 = some (11, 14, 14) by decide +kernel) A_127 (show rf T_X11_init_50 0 6 = some 10 by decide +kernel) (fun b131 A_132 => ?_)
  refine a_iload_n 0 1 (μ := m_X11_init) (pc := 181) dX11_init_181 rfl rfl ?_
  refine t_new 81 L rfl (ci := 2) (nf := 5) (rc' := 17) (rs' := 12064) (μ := m_X11_init) (pc := 182) dX11_init_182 nw_X11_43 (by decide) (by decide) (by decide) (fun q133 ad1 h1 p1 A_134 L1 => ?_)
  replace L : Lay T_X11_init_51 ad1 h1 := L1
  replace p := Pre.tr p p1
  have A_135 := p1 _ _ A_127
  have A_136 := p1 _ _ A_132
  clear L1 p1
  refine a_dup (μ := m_X11_init) (pc := 185) dX11_init_185 rfl ?_
  refine a_aload_n 1 0 (μ := m_X11_init) (pc := 186) dX11_init_186 rfl rfl ?_
  refine t_get L (i := 0) (j := 3) (μ := m_X11_init) (pc := 187) dX11_init_187 fl_X11_19 ir_11_1 id_11_1 (show sg T_X11_init_51 0 = some (11, 14, 14) by decide +kernel) A_135 (show rf T_X11_init_51 0 1 = some 3 by decide +kernel) (fun b137 A_138 => ?_)
  refine t_call (rc' := 12) (rs' := 8046) (t' := T_X2_init T_X11_init_51 81 3) (As := [.ref b137]) (rest := [.ref q133, .int 1, .ref b131]) (μ := m_X11_init) (pc := 190) dX11_init_190 ic_X11_91 rfl (Nat.le_of_ble_eq_true rfl) (d' := d - 1) (by omega) (by decide) (by decide) (i_X2_init hl (d := d - 1) (by omega) L A_134 (show sg T_X11_init_51 81 = some (2, 5, 5) by decide +kernel) A_138 (show sg T_X11_init_51 3 = some (5, 3, 3) by decide +kernel)) (fun ad1 h1 p1 L1 => ?_) rfl
  replace L : Lay T_X11_init_52 ad1 h1 := L1
  replace p := Pre.tr p p1
  have A_139 := p1 _ _ A_135
  have A_140 := p1 _ _ A_136
  have A_141 := p1 _ _ A_134
  have A_142 := p1 _ _ A_138
  clear L1 p1
  refine t_aast L (i := 10) (j := 81) (y := 3) (nr := 4) (ni := 0) (r := (RX2, TX2, 5)) 1 (μ := m_X11_init) (pc := 193) dX11_init_193 (by decide) (by decide) rfl (ci := 2) rfl (by decide) (by decide +kernel) A_140 (show sg T_X11_init_52 81 = some (2, 5, 5) by decide +kernel) A_141 (by decide) (by decide) (by decide) (L.Nn A_140 (show sg T_X11_init_52 10 = some (16, 4, 0) by decide +kernel) (by decide) (by decide +kernel)) (fun h1 L1 => ?_)
  replace L : Lay T_X11_init_53 _ h1 := L1
  clear L1
  refine a_iinc (v := 2) 0 [(1, .int 2), (0, .ref a0)] (μ := m_X11_init) (pc := 194) dX11_init_194 rfl (by decide) (by decide) rfl ?_
  refine a_goto 172 (μ := m_X11_init) (pc := 197) dX11_init_197 (by decide) ?_
  refine a_iload_n 0 1 (μ := m_X11_init) (pc := 172) dX11_init_172 rfl rfl ?_
  refine a_iconst (v := 4) (μ := m_X11_init) (pc := 173) dX11_init_173 (by decide) ?_
  refine a_icmp_ge 200 (μ := m_X11_init) (pc := 174) dX11_init_174 (by decide) (fun z => absurd z (show ¬ (4 : Int32) ≤ 2 by decide)) (fun _ => ?_)
  refine a_aload_n 1 0 (μ := m_X11_init) (pc := 177) dX11_init_177 rfl rfl ?_
  refine t_get L (i := 0) (j := 10) (μ := m_X11_init) (pc := 178) dX11_init_178 fl_X11_45 ir_11_6 id_11_6 (show sg T_X11_init_53 0 = some (11, 14, 14) by decide +kernel) A_139 (show rf T_X11_init_53 0 6 = some 10 by decide +kernel) (fun b143 A_144 => ?_)
  refine a_iload_n 0 1 (μ := m_X11_init) (pc := 181) dX11_init_181 rfl rfl ?_
  refine t_new 87 L rfl (ci := 2) (nf := 5) (rc' := 11) (rs' := 8041) (μ := m_X11_init) (pc := 182) dX11_init_182 nw_X11_43 (by decide) (by decide) (by decide) (fun q145 ad1 h1 p1 A_146 L1 => ?_)
  replace L : Lay T_X11_init_54 ad1 h1 := L1
  replace p := Pre.tr p p1
  have A_147 := p1 _ _ A_139
  have A_148 := p1 _ _ A_144
  clear L1 p1
  refine a_dup (μ := m_X11_init) (pc := 185) dX11_init_185 rfl ?_
  refine a_aload_n 1 0 (μ := m_X11_init) (pc := 186) dX11_init_186 rfl rfl ?_
  refine t_get L (i := 0) (j := 3) (μ := m_X11_init) (pc := 187) dX11_init_187 fl_X11_19 ir_11_1 id_11_1 (show sg T_X11_init_54 0 = some (11, 14, 14) by decide +kernel) A_147 (show rf T_X11_init_54 0 1 = some 3 by decide +kernel) (fun b149 A_150 => ?_)
  refine t_call (rc' := 6) (rs' := 4023) (t' := T_X2_init T_X11_init_54 87 3) (As := [.ref b149]) (rest := [.ref q145, .int 2, .ref b143]) (μ := m_X11_init) (pc := 190) dX11_init_190 ic_X11_91 rfl (Nat.le_of_ble_eq_true rfl) (d' := d - 1) (by omega) (by decide) (by decide) (i_X2_init hl (d := d - 1) (by omega) L A_146 (show sg T_X11_init_54 87 = some (2, 5, 5) by decide +kernel) A_150 (show sg T_X11_init_54 3 = some (5, 3, 3) by decide +kernel)) (fun ad1 h1 p1 L1 => ?_) rfl
  replace L : Lay T_X11_init_55 ad1 h1 := L1
  replace p := Pre.tr p p1
  have A_151 := p1 _ _ A_147
  have A_152 := p1 _ _ A_148
  have A_153 := p1 _ _ A_146
  have A_154 := p1 _ _ A_150
  clear L1 p1
  refine t_aast L (i := 10) (j := 87) (y := 3) (nr := 4) (ni := 0) (r := (RX2, TX2, 5)) 2 (μ := m_X11_init) (pc := 193) dX11_init_193 (by decide) (by decide) rfl (ci := 2) rfl (by decide) (by decide +kernel) A_152 (show sg T_X11_init_55 87 = some (2, 5, 5) by decide +kernel) A_153 (by decide) (by decide) (by decide) (L.Nn A_152 (show sg T_X11_init_55 10 = some (16, 4, 0) by decide +kernel) (by decide) (by decide +kernel)) (fun h1 L1 => ?_)
  replace L : Lay T_X11_init_56 _ h1 := L1
  clear L1
  refine a_iinc (v := 3) 0 [(1, .int 3), (0, .ref a0)] (μ := m_X11_init) (pc := 194) dX11_init_194 rfl (by decide) (by decide) rfl ?_
  refine a_goto 172 (μ := m_X11_init) (pc := 197) dX11_init_197 (by decide) ?_
  refine a_iload_n 0 1 (μ := m_X11_init) (pc := 172) dX11_init_172 rfl rfl ?_
  refine a_iconst (v := 4) (μ := m_X11_init) (pc := 173) dX11_init_173 (by decide) ?_
  refine a_icmp_ge 200 (μ := m_X11_init) (pc := 174) dX11_init_174 (by decide) (fun z => absurd z (show ¬ (4 : Int32) ≤ 3 by decide)) (fun _ => ?_)
  refine a_aload_n 1 0 (μ := m_X11_init) (pc := 177) dX11_init_177 rfl rfl ?_
  refine t_get L (i := 0) (j := 10) (μ := m_X11_init) (pc := 178) dX11_init_178 fl_X11_45 ir_11_6 id_11_6 (show sg T_X11_init_56 0 = some (11, 14, 14) by decide +kernel) A_151 (show rf T_X11_init_56 0 6 = some 10 by decide +kernel) (fun b155 A_156 => ?_)
  refine a_iload_n 0 1 (μ := m_X11_init) (pc := 181) dX11_init_181 rfl rfl ?_
  refine t_new 93 L rfl (ci := 2) (nf := 5) (rc' := 5) (rs' := 4018) (μ := m_X11_init) (pc := 182) dX11_init_182 nw_X11_43 (by decide) (by decide) (by decide) (fun q157 ad1 h1 p1 A_158 L1 => ?_)
  replace L : Lay T_X11_init_57 ad1 h1 := L1
  replace p := Pre.tr p p1
  have A_159 := p1 _ _ A_151
  have A_160 := p1 _ _ A_156
  clear L1 p1
  refine a_dup (μ := m_X11_init) (pc := 185) dX11_init_185 rfl ?_
  refine a_aload_n 1 0 (μ := m_X11_init) (pc := 186) dX11_init_186 rfl rfl ?_
  refine t_get L (i := 0) (j := 3) (μ := m_X11_init) (pc := 187) dX11_init_187 fl_X11_19 ir_11_1 id_11_1 (show sg T_X11_init_57 0 = some (11, 14, 14) by decide +kernel) A_159 (show rf T_X11_init_57 0 1 = some 3 by decide +kernel) (fun b161 A_162 => ?_)
  refine t_call (rc' := 0) (rs' := 0) (t' := T_X2_init T_X11_init_57 93 3) (As := [.ref b161]) (rest := [.ref q157, .int 3, .ref b155]) (μ := m_X11_init) (pc := 190) dX11_init_190 ic_X11_91 rfl (Nat.le_of_ble_eq_true rfl) (d' := d - 1) (by omega) (by decide) (by decide) (i_X2_init hl (d := d - 1) (by omega) L A_158 (show sg T_X11_init_57 93 = some (2, 5, 5) by decide +kernel) A_162 (show sg T_X11_init_57 3 = some (5, 3, 3) by decide +kernel)) (fun ad1 h1 p1 L1 => ?_) rfl
  replace L : Lay T_X11_init_58 ad1 h1 := L1
  replace p := Pre.tr p p1
  have A_163 := p1 _ _ A_159
  have A_164 := p1 _ _ A_160
  have A_165 := p1 _ _ A_158
  have A_166 := p1 _ _ A_162
  clear L1 p1
  refine t_aast L (i := 10) (j := 93) (y := 3) (nr := 4) (ni := 0) (r := (RX2, TX2, 5)) 3 (μ := m_X11_init) (pc := 193) dX11_init_193 (by decide) (by decide) rfl (ci := 2) rfl (by decide) (by decide +kernel) A_164 (show sg T_X11_init_58 93 = some (2, 5, 5) by decide +kernel) A_165 (by decide) (by decide) (by decide) (L.Nn A_164 (show sg T_X11_init_58 10 = some (16, 4, 0) by decide +kernel) (by decide) (by decide +kernel)) (fun h1 L1 => ?_)
  replace L : Lay T_X11_init_59 _ h1 := L1
  clear L1
  refine a_iinc (v := 4) 0 [(1, .int 4), (0, .ref a0)] (μ := m_X11_init) (pc := 194) dX11_init_194 rfl (by decide) (by decide) rfl ?_
  refine a_goto 172 (μ := m_X11_init) (pc := 197) dX11_init_197 (by decide) ?_
  refine a_iload_n 0 1 (μ := m_X11_init) (pc := 172) dX11_init_172 rfl rfl ?_
  refine a_iconst (v := 4) (μ := m_X11_init) (pc := 173) dX11_init_173 (by decide) ?_
  refine a_icmp_ge 200 (μ := m_X11_init) (pc := 174) dX11_init_174 (by decide) (fun _ => ?_) (fun z => absurd (show (4 : Int32) ≤ 4 by decide) z)
  exact a_vret (μ := m_X11_init) (pc := 200) dX11_init_200 rfl ⟨rfl, _, p, L⟩
