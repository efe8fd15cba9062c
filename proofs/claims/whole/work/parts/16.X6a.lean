theorem dX6_read_0 : decode cX6_read 0 = .ok (.aload_n 0, 1) := by decide +kernel
theorem dX6_read_1 : decode cX6_read 1 = .ok (.bipush 8, 2) := by decide +kernel
theorem dX6_read_3 : decode cX6_read 3 = .ok (.putfield 15, 3) := by decide +kernel
theorem dX6_read_6 : decode cX6_read 6 = .ok (.aload_n 0, 1) := by decide +kernel
theorem dX6_read_7 : decode cX6_read 7 = .ok (.iconst 1, 1) := by decide +kernel
theorem dX6_read_8 : decode cX6_read 8 = .ok (.putfield 19, 3) := by decide +kernel
theorem dX6_read_11 : decode cX6_read 11 = .ok (.aload_n 0, 1) := by decide +kernel
theorem dX6_read_12 : decode cX6_read 12 = .ok (.iconst 1, 1) := by decide +kernel
theorem dX6_read_13 : decode cX6_read 13 = .ok (.putfield 23, 3) := by decide +kernel
theorem dX6_read_16 : decode cX6_read 16 = .ok (.iconst 0, 1) := by decide +kernel
theorem dX6_read_17 : decode cX6_read 17 = .ok (.istore_n 2, 1) := by decide +kernel
theorem dX6_read_18 : decode cX6_read 18 = .ok (.iload_n 2, 1) := by decide +kernel
theorem dX6_read_19 : decode cX6_read 19 = .ok (.iconst 3, 1) := by decide +kernel
theorem dX6_read_20 : decode cX6_read 20 = .ok (.if_icmp .ge 16, 3) := by decide +kernel
theorem dX6_read_23 : decode cX6_read 23 = .ok (.aload_n 0, 1) := by decide +kernel
theorem dX6_read_24 : decode cX6_read 24 = .ok (.getfield 11, 3) := by decide +kernel
theorem dX6_read_27 : decode cX6_read 27 = .ok (.iload_n 2, 1) := by decide +kernel
theorem dX6_read_28 : decode cX6_read 28 = .ok (.iconst 0, 1) := by decide +kernel
theorem dX6_read_29 : decode cX6_read 29 = .ok (.bastore, 1) := by decide +kernel
theorem dX6_read_30 : decode cX6_read 30 = .ok (.iinc 2 1, 3) := by decide +kernel
theorem dX6_read_33 : decode cX6_read 33 = .ok (.goto (-15), 3) := by decide +kernel
theorem dX6_read_36 : decode cX6_read 36 = .ok (.iconst 0, 1) := by decide +kernel
theorem dX6_read_37 : decode cX6_read 37 = .ok (.istore_n 2, 1) := by decide +kernel
theorem dX6_read_38 : decode cX6_read 38 = .ok (.iload_n 2, 1) := by decide +kernel
theorem dX6_read_39 : decode cX6_read 39 = .ok (.sipush 500, 3) := by decide +kernel
theorem dX6_read_42 : decode cX6_read 42 = .ok (.if_icmp .ge 29, 3) := by decide +kernel
theorem dX6_read_45 : decode cX6_read 45 = .ok (.aload_n 1, 1) := by decide +kernel
theorem dX6_read_46 : decode cX6_read 46 = .ok (.invokevirtual 26, 3) := by decide +kernel
theorem dX6_read_49 : decode cX6_read 49 = .ok (.ifCond .eq 22, 3) := by decide +kernel
theorem dX6_read_52 : decode cX6_read 52 = .ok (.aload_n 1, 1) := by decide +kernel
theorem dX6_read_53 : decode cX6_read 53 = .ok (.invokevirtual 32, 3) := by decide +kernel
theorem dX6_read_56 : decode cX6_read 56 = .ok (.iconst (-1), 1) := by decide +kernel
theorem dX6_read_57 : decode cX6_read 57 = .ok (.if_icmp .eq 14, 3) := by decide +kernel
theorem dX6_read_60 : decode cX6_read 60 = .ok (.aload_n 0, 1) := by decide +kernel
theorem dX6_read_61 : decode cX6_read 61 = .ok (.aload_n 1, 1) := by decide +kernel
theorem dX6_read_62 : decode cX6_read 62 = .ok (.invokevirtual 36, 3) := by decide +kernel
theorem dX6_read_65 : decode cX6_read 65 = .ok (.iinc 2 1, 3) := by decide +kernel
theorem dX6_read_68 : decode cX6_read 68 = .ok (.goto (-30), 3) := by decide +kernel
theorem dX6_read_71 : decode cX6_read 71 = .ok (.return_, 1) := by decide +kernel
theorem dX6_readClause_0 : decode cX6_readClause 0 = .ok (.aload_n 1, 1) := by decide +kernel
theorem dX6_readClause_1 : decode cX6_readClause 1 = .ok (.invokevirtual 40, 3) := by decide +kernel
theorem dX6_readClause_4 : decode cX6_readClause 4 = .ok (.aload_n 1, 1) := by decide +kernel
theorem dX6_readClause_5 : decode cX6_readClause 5 = .ok (.ldc 43, 2) := by decide +kernel
theorem dX6_readClause_7 : decode cX6_readClause 7 = .ok (.invokevirtual 44, 3) := by decide +kernel
theorem dX6_readClause_10 : decode cX6_readClause 10 = .ok (.ifCond .eq 7, 3) := by decide +kernel
theorem dX6_readClause_13 : decode cX6_readClause 13 = .ok (.iconst 0, 1) := by decide +kernel
theorem dX6_readClause_14 : decode cX6_readClause 14 = .ok (.goto 30, 3) := by decide +kernel
theorem dX6_readClause_17 : decode cX6_readClause 17 = .ok (.aload_n 1, 1) := by decide +kernel
theorem dX6_readClause_18 : decode cX6_readClause 18 = .ok (.ldc 48, 2) := by decide +kernel
theorem dX6_readClause_20 : decode cX6_readClause 20 = .ok (.invokevirtual 44, 3) := by decide +kernel
theorem dX6_readClause_23 : decode cX6_readClause 23 = .ok (.ifCond .eq 7, 3) := by decide +kernel
theorem dX6_readClause_26 : decode cX6_readClause 26 = .ok (.iconst 1, 1) := by decide +kernel
theorem dX6_readClause_27 : decode cX6_readClause 27 = .ok (.goto 17, 3) := by decide +kernel
theorem dX6_readClause_30 : decode cX6_readClause 30 = .ok (.aload_n 1, 1) := by decide +kernel
theorem dX6_readClause_31 : decode cX6_readClause 31 = .ok (.ldc 50, 2) := by decide +kernel
theorem dX6_readClause_33 : decode cX6_readClause 33 = .ok (.invokevirtual 44, 3) := by decide +kernel
theorem dX6_readClause_36 : decode cX6_readClause 36 = .ok (.ifCond .eq 7, 3) := by decide +kernel
theorem dX6_readClause_39 : decode cX6_readClause 39 = .ok (.iconst 2, 1) := by decide +kernel
theorem dX6_readClause_40 : decode cX6_readClause 40 = .ok (.goto 4, 3) := by decide +kernel
theorem dX6_readClause_43 : decode cX6_readClause 43 = .ok (.iconst (-1), 1) := by decide +kernel
theorem dX6_readClause_44 : decode cX6_readClause 44 = .ok (.istore_n 2, 1) := by decide +kernel
theorem dX6_readClause_45 : decode cX6_readClause 45 = .ok (.iload_n 2, 1) := by decide +kernel
theorem dX6_readClause_46 : decode cX6_readClause 46 = .ok (.iconst (-1), 1) := by decide +kernel
theorem dX6_readClause_47 : decode cX6_readClause 47 = .ok (.if_icmp .ne 11, 3) := by decide +kernel
theorem dX6_readClause_50 : decode cX6_readClause 50 = .ok (.aload_n 1, 1) := by decide +kernel
theorem dX6_readClause_51 : decode cX6_readClause 51 = .ok (.iconst 1, 1) := by decide +kernel
theorem dX6_readClause_52 : decode cX6_readClause 52 = .ok (.invokevirtual 51, 3) := by decide +kernel
theorem dX6_readClause_55 : decode cX6_readClause 55 = .ok (.goto 39, 3) := by decide +kernel
theorem dX6_readClause_58 : decode cX6_readClause 58 = .ok (.aload_n 0, 1) := by decide +kernel
theorem dX6_readClause_59 : decode cX6_readClause 59 = .ok (.getfield 11, 3) := by decide +kernel
theorem dX6_readClause_62 : decode cX6_readClause 62 = .ok (.iload_n 2, 1) := by decide +kernel
theorem dX6_readClause_63 : decode cX6_readClause 63 = .ok (.baload, 1) := by decide +kernel
theorem dX6_readClause_64 : decode cX6_readClause 64 = .ok (.ifCond .eq 11, 3) := by decide +kernel
theorem dX6_readClause_67 : decode cX6_readClause 67 = .ok (.aload_n 1, 1) := by decide +kernel
theorem dX6_readClause_68 : decode cX6_readClause 68 = .ok (.iconst 4, 1) := by decide +kernel
theorem dX6_readClause_69 : decode cX6_readClause 69 = .ok (.invokevirtual 51, 3) := by decide +kernel
theorem dX6_readClause_72 : decode cX6_readClause 72 = .ok (.goto 22, 3) := by decide +kernel
theorem dX6_readClause_75 : decode cX6_readClause 75 = .ok (.aload_n 0, 1) := by decide +kernel
theorem dX6_readClause_76 : decode cX6_readClause 76 = .ok (.getfield 11, 3) := by decide +kernel
theorem dX6_readClause_79 : decode cX6_readClause 79 = .ok (.iload_n 2, 1) := by decide +kernel
theorem dX6_readClause_80 : decode cX6_readClause 80 = .ok (.iconst 1, 1) := by decide +kernel
theorem dX6_readClause_81 : decode cX6_readClause 81 = .ok (.bastore, 1) := by decide +kernel
theorem dX6_readClause_82 : decode cX6_readClause 82 = .ok (.aload_n 0, 1) := by decide +kernel
theorem dX6_readClause_83 : decode cX6_readClause 83 = .ok (.aload_n 1, 1) := by decide +kernel
theorem dX6_readClause_84 : decode cX6_readClause 84 = .ok (.iload_n 2, 1) := by decide +kernel
theorem dX6_readClause_85 : decode cX6_readClause 85 = .ok (.invokevirtual 55, 3) := by decide +kernel
theorem dX6_readClause_88 : decode cX6_readClause 88 = .ok (.aload_n 1, 1) := by decide +kernel
theorem dX6_readClause_89 : decode cX6_readClause 89 = .ok (.bipush 59, 2) := by decide +kernel
theorem dX6_readClause_91 : decode cX6_readClause 91 = .ok (.invokevirtual 59, 3) := by decide +kernel
theorem dX6_readClause_94 : decode cX6_readClause 94 = .ok (.return_, 1) := by decide +kernel
theorem dX6_readValue_0 : decode cX6_readValue 0 = .ok (.iload_n 2, 1) := by decide +kernel
theorem dX6_readValue_1 : decode cX6_readValue 1 = .ok (.ifCond .ne 17, 3) := by decide +kernel
theorem dX6_readValue_4 : decode cX6_readValue 4 = .ok (.aload_n 0, 1) := by decide +kernel
theorem dX6_readValue_5 : decode cX6_readValue 5 = .ok (.aload_n 1, 1) := by decide +kernel
theorem dX6_readValue_6 : decode cX6_readValue 6 = .ok (.iconst 2, 1) := by decide +kernel
theorem dX6_readValue_7 : decode cX6_readValue 7 = .ok (.bipush 16, 2) := by decide +kernel
theorem dX6_readValue_9 : decode cX6_readValue 9 = .ok (.invokevirtual 62, 3) := by decide +kernel
theorem dX6_readValue_12 : decode cX6_readValue 12 = .ok (.putfield 15, 3) := by decide +kernel
theorem dX6_readValue_15 : decode cX6_readValue 15 = .ok (.goto 56, 3) := by decide +kernel
theorem dX6_readValue_18 : decode cX6_readValue 18 = .ok (.iload_n 2, 1) := by decide +kernel
theorem dX6_readValue_19 : decode cX6_readValue 19 = .ok (.iconst 2, 1) := by decide +kernel
theorem dX6_readValue_20 : decode cX6_readValue 20 = .ok (.if_icmp .ne 16, 3) := by decide +kernel
theorem dX6_readValue_23 : decode cX6_readValue 23 = .ok (.aload_n 0, 1) := by decide +kernel
theorem dX6_readValue_24 : decode cX6_readValue 24 = .ok (.aload_n 1, 1) := by decide +kernel
theorem dX6_readValue_25 : decode cX6_readValue 25 = .ok (.iconst 1, 1) := by decide +kernel
theorem dX6_readValue_26 : decode cX6_readValue 26 = .ok (.iconst 5, 1) := by decide +kernel
theorem dX6_readValue_27 : decode cX6_readValue 27 = .ok (.invokevirtual 62, 3) := by decide +kernel
theorem dX6_readValue_30 : decode cX6_readValue 30 = .ok (.putfield 23, 3) := by decide +kernel
theorem dX6_readValue_33 : decode cX6_readValue 33 = .ok (.goto 38, 3) := by decide +kernel
theorem dX6_readValue_36 : decode cX6_readValue 36 = .ok (.aload_n 1, 1) := by decide +kernel
theorem dX6_readValue_37 : decode cX6_readValue 37 = .ok (.invokevirtual 40, 3) := by decide +kernel
theorem dX6_readValue_40 : decode cX6_readValue 40 = .ok (.aload_n 0, 1) := by decide +kernel
theorem dX6_readValue_41 : decode cX6_readValue 41 = .ok (.aload_n 1, 1) := by decide +kernel
theorem dX6_readValue_42 : decode cX6_readValue 42 = .ok (.ldc 66, 2) := by decide +kernel
theorem dX6_readValue_44 : decode cX6_readValue 44 = .ok (.invokevirtual 44, 3) := by decide +kernel
theorem dX6_readValue_47 : decode cX6_readValue 47 = .ok (.putfield 19, 3) := by decide +kernel
theorem dX6_readValue_50 : decode cX6_readValue 50 = .ok (.aload_n 0, 1) := by decide +kernel
theorem dX6_readValue_51 : decode cX6_readValue 51 = .ok (.getfield 19, 3) := by decide +kernel
theorem dX6_readValue_54 : decode cX6_readValue 54 = .ok (.ifCond .ne 17, 3) := by decide +kernel
theorem dX6_readValue_57 : decode cX6_readValue 57 = .ok (.aload_n 1, 1) := by decide +kernel
theorem dX6_readValue_58 : decode cX6_readValue 58 = .ok (.ldc 68, 2) := by decide +kernel
theorem dX6_readValue_60 : decode cX6_readValue 60 = .ok (.invokevirtual 44, 3) := by decide +kernel
theorem dX6_readValue_63 : decode cX6_readValue 63 = .ok (.ifCond .ne 8, 3) := by decide +kernel
theorem dX6_readValue_66 : decode cX6_readValue 66 = .ok (.aload_n 1, 1) := by decide +kernel
theorem dX6_readValue_67 : decode cX6_readValue 67 = .ok (.iconst 1, 1) := by decide +kernel
theorem dX6_readValue_68 : decode cX6_readValue 68 = .ok (.invokevirtual 51, 3) := by decide +kernel
theorem dX6_readValue_71 : decode cX6_readValue 71 = .ok (.return_, 1) := by decide +kernel
def J_X6_readValue_71 (N : Nat) (g : gp) (a0 : Nat) (a1 : Nat) (x2 : Int32) (δ : dp) : Option (dp) :=
  some δ
set_option maxHeartbeats 4000000 in
set_option maxRecDepth 100000 in
theorem t_J_X6_readValue_71 {l : Launch} {D : va_G} {cy : Nat → ClassId} {N d : Nat} {g : gp} (wt : WT g) (hl : l.stackTraces = false) (hd : 6 ≤ d) {a0 : Nat} {a1 : Nat} {x2 : Int32} (k0 : q_K g a0 = 6) (k1 : q_K g a1 = 7) : ∀ (δ : dp), AWD l D cy m_X6_readValue d 0 0 ev g 71 [] [] δ (J_X6_readValue_71 N g a0 a1 x2 δ) := by
    intro  δ 
    unfold J_X6_readValue_71
    exact w_vret (μ := m_X6_readValue) (pc := 71) dX6_readValue_71 rfl rfl
def D_X6_readValue (N : Nat) (g : gp) (a0 : Nat) (a1 : Nat) (x2 : Int32) (δ : dp) : Option (dp) :=
  if x2 = 0 then ((D_X7_readNumber N g a1 2 16 δ).bind fun r_15 => bd (s_I r_15.2 6 0 a0 r_15.1) fun δ_16 => J_X6_readValue_71 N g a0 a1 x2 δ_16) else (if x2 = (2 : Int32) then ((D_X7_readNumber N g a1 1 5 δ).bind fun r_12 => bd (s_I r_12.2 6 2 a0 r_12.1) fun δ_13 => J_X6_readValue_71 N g a0 a1 x2 δ_13) else ((D_X7_readWord N g a1 δ).bind fun r_3 => (D_X7_wordIs N g a1 3 r_3).bind fun r_4 => if r_4.1 = 0 ∨ r_4.1 = 1 then bd (s_I r_4.2 6 1 a0 r_4.1) fun δ_5 => if (q_I δ_5 6 1 a0) = 0 then ((D_X7_wordIs N g a1 4 δ_5).bind fun r_8 => if r_8.1 = 0 then ((D_X7_refuse N g a1 1 r_8.2).bind fun r_10 => J_X6_readValue_71 N g a0 a1 x2 r_10) else (J_X6_readValue_71 N g a0 a1 x2 r_8.2)) else (J_X6_readValue_71 N g a0 a1 x2 δ_5) else none))
set_option maxHeartbeats 4000000 in
set_option maxRecDepth 100000 in
theorem c_X6_readValue {l : Launch} {D : va_G} {cy : Nat → ClassId} {N d : Nat} {g : gp} (wt : WT g) (hl : l.stackTraces = false) (hd : 6 ≤ d) {a0 : Nat} {a1 : Nat} {x2 : Int32} {δ : dp} (k0 : q_K g a0 = 6) (k1 : q_K g a1 = 7) : CalD l D cy m_X6_readValue d 0 0 ev g [.ref a0, .ref a1, .int x2] δ (D_X6_readValue N g a0 a1 x2 δ) := by
  refine CalD.of (by decide +kernel) (Nat.le_of_ble_eq_true rfl) hl ?_
  unfold D_X6_readValue
  refine w_iload_n 2 2 (μ := m_X6_readValue) (pc := 0) dX6_readValue_0 rfl rfl ?_
  refine w_if_ne 18 (μ := m_X6_readValue) (pc := 1) dX6_readValue_1 (by decide) (fun c_1 => ?_) (fun c_1 => ?_)
  · refine w_iload_n 2 2 (μ := m_X6_readValue) (pc := 18) dX6_readValue_18 rfl rfl ?_
    refine w_iconst (v := 2) (μ := m_X6_readValue) (pc := 19) dX6_readValue_19 (by decide) ?_
    refine w_icmp_ne 36 (μ := m_X6_readValue) (pc := 20) dX6_readValue_20 (by decide) (fun c_2 => ?_) (fun c_2 => ?_)
    · refine w_aload_n 1 1 (μ := m_X6_readValue) (pc := 36) dX6_readValue_36 rfl rfl ?_
      refine w_callV (As := []) (rest := []) (μ := m_X6_readValue) (pc := 37) dX6_readValue_37 cv_X6_40 rfl rfl k1 (by decide) rfl (Nat.le_of_ble_eq_true rfl) (d' := d - 1) (by omega) he_v (c_X7_readWord wt hl (d := d - 1) (by omega) k1) (fun r_3 => ?_)
      refine w_aload_n 0 0 (μ := m_X6_readValue) (pc := 40) dX6_readValue_40 rfl rfl ?_
      refine w_aload_n 1 1 (μ := m_X6_readValue) (pc := 41) dX6_readValue_41 rfl rfl ?_
      refine w_ldcS 3 (tx := "more") (μ := m_X6_readValue) (pc := 42) dX6_readValue_42 (by decide +kernel) ?_
      refine w_callV (As := [.ref (D.2 100 3)]) (rest := [.ref a0]) (μ := m_X6_readValue) (pc := 44) dX6_readValue_44 cv_X6_44 rfl rfl k1 (by decide) rfl (Nat.le_of_ble_eq_true rfl) (d' := d - 1) (by omega) he_i (c_X7_wordIs wt hl (d := d - 1) (by omega) k1 (by decide)) (fun r_4 => ?_)
      refine w_gd (fun z_11 => ?_)
      refine w_putZ (μ := m_X6_readValue) (pc := 47) dX6_readValue_47 fl_X6_19 flw_6_1 ir_6_1 k0 z_11 ?_
      refine w_bd (fun δ_5 e_6 => ?_)
      refine w_aload_n 0 0 (μ := m_X6_readValue) (pc := 50) dX6_readValue_50 rfl rfl ?_
      refine w_getI (μ := m_X6_readValue) (pc := 51) dX6_readValue_51 fl_X6_19 ir_6_1 k0 ?_
      refine w_if_ne 71 (μ := m_X6_readValue) (pc := 54) dX6_readValue_54 (by decide) (fun c_7 => ?_) (fun c_7 => ?_)
      · refine w_lv [] rfl ?_
        exact t_J_X6_readValue_71 wt hl (by omega) k0 k1 _
      · refine w_aload_n 1 1 (μ := m_X6_readValue) (pc := 57) dX6_readValue_57 rfl rfl ?_
        refine w_ldcS 4 (tx := "less") (μ := m_X6_readValue) (pc := 58) dX6_readValue_58 (by decide +kernel) ?_
        refine w_callV (As := [.ref (D.2 100 4)]) (rest := []) (μ := m_X6_readValue) (pc := 60) dX6_readValue_60 cv_X6_44 rfl rfl k1 (by decide) rfl (Nat.le_of_ble_eq_true rfl) (d' := d - 1) (by omega) he_i (c_X7_wordIs wt hl (d := d - 1) (by omega) k1 (by decide)) (fun r_8 => ?_)
        refine w_if_ne 71 (μ := m_X6_readValue) (pc := 63) dX6_readValue_63 (by decide) (fun c_9 => ?_) (fun c_9 => ?_)
        · refine w_lv [] rfl ?_
          exact t_J_X6_readValue_71 wt hl (by omega) k0 k1 _
        · refine w_aload_n 1 1 (μ := m_X6_readValue) (pc := 66) dX6_readValue_66 rfl rfl ?_
          refine w_iconst (v := 1) (μ := m_X6_readValue) (pc := 67) dX6_readValue_67 (by decide) ?_
          refine w_callV (As := [.int 1]) (rest := []) (μ := m_X6_readValue) (pc := 68) dX6_readValue_68 cv_X6_51 rfl rfl k1 (by decide) rfl (Nat.le_of_ble_eq_true rfl) (d' := d - 1) (by omega) he_v (c_X7_refuse wt hl (d := d - 1) (by omega) k1) (fun r_10 => ?_)
          refine w_lv [] rfl ?_
          exact t_J_X6_readValue_71 wt hl (by omega) k0 k1 _
    · refine w_aload_n 0 0 (μ := m_X6_readValue) (pc := 23) dX6_readValue_23 rfl rfl ?_
      refine w_aload_n 1 1 (μ := m_X6_readValue) (pc := 24) dX6_readValue_24 rfl rfl ?_
      refine w_iconst (v := 1) (μ := m_X6_readValue) (pc := 25) dX6_readValue_25 (by decide) ?_
      refine w_iconst (v := 5) (μ := m_X6_readValue) (pc := 26) dX6_readValue_26 (by decide) ?_
      refine w_callV (As := [.int 1, .int 5]) (rest := [.ref a0]) (μ := m_X6_readValue) (pc := 27) dX6_readValue_27 cv_X6_62 rfl rfl k1 (by decide) rfl (Nat.le_of_ble_eq_true rfl) (d' := d - 1) (by omega) he_i (c_X7_readNumber wt hl (d := d - 1) (by omega) k1) (fun r_12 => ?_)
      refine w_putI (μ := m_X6_readValue) (pc := 30) dX6_readValue_30 fl_X6_23 flw_6_2 ir_6_2 k0 ?_
      refine w_bd (fun δ_13 e_14 => ?_)
      refine w_goto 71 (μ := m_X6_readValue) (pc := 33) dX6_readValue_33 (by decide) ?_
      refine w_lv [] rfl ?_
      exact t_J_X6_readValue_71 wt hl (by omega) k0 k1 _
  · refine w_aload_n 0 0 (μ := m_X6_readValue) (pc := 4) dX6_readValue_4 rfl rfl ?_
    refine w_aload_n 1 1 (μ := m_X6_readValue) (pc := 5) dX6_readValue_5 rfl rfl ?_
    refine w_iconst (v := 2) (μ := m_X6_readValue) (pc := 6) dX6_readValue_6 (by decide) ?_
    refine w_bipush (v := 16) (μ := m_X6_readValue) (pc := 7) dX6_readValue_7 (by decide) ?_
    refine w_callV (As := [.int 2, .int 16]) (rest := [.ref a0]) (μ := m_X6_readValue) (pc := 9) dX6_readValue_9 cv_X6_62 rfl rfl k1 (by decide) rfl (Nat.le_of_ble_eq_true rfl) (d' := d - 1) (by omega) he_i (c_X7_readNumber wt hl (d := d - 1) (by omega) k1) (fun r_15 => ?_)
    refine w_putI (μ := m_X6_readValue) (pc := 12) dX6_readValue_12 fl_X6_15 flw_6_0 ir_6_0 k0 ?_
    refine w_bd (fun δ_16 e_17 => ?_)
    refine w_goto 71 (μ := m_X6_readValue) (pc := 15) dX6_readValue_15 (by decide) ?_
    refine w_lv [] rfl ?_
    exact t_J_X6_readValue_71 wt hl (by omega) k0 k1 _
def J_X6_readClause_94 (N : Nat) (g : gp) (a0 : Nat) (a1 : Nat) (δ : dp) : Option (dp) :=
  some δ
set_option maxHeartbeats 4000000 in
set_option maxRecDepth 100000 in
theorem t_J_X6_readClause_94 {l : Launch} {D : va_G} {cy : Nat → ClassId} {N d : Nat} {g : gp} (wt : WT g) (hl : l.stackTraces = false) (hd : 7 ≤ d) {a0 : Nat} {a1 : Nat} (k0 : q_K g a0 = 6) (k1 : q_K g a1 = 7) : ∀ (δ : dp), AWD l D cy m_X6_readClause d 0 0 ev g 94 [] [] δ (J_X6_readClause_94 N g a0 a1 δ) := by
    intro  δ 
    unfold J_X6_readClause_94
    exact w_vret (μ := m_X6_readClause) (pc := 94) dX6_readClause_94 rfl rfl
def J_X6_readClause_44 (N : Nat) (g : gp) (a0 : Nat) (a1 : Nat) (xs0 : Int32) (δ : dp) : Option (dp) :=
  if xs0 = ((-1) : Int32) then ((D_X7_refuse N g a1 1 δ).bind fun r_19 => J_X6_readClause_94 N g a0 a1 r_19) else ((q_O g 6 3 a0).bind fun b_9 => if xs0 < 0 ∨ q_N g b_9 ≤ xs0.toNatClampNeg then none else if (q_R δ b_9 xs0.toNatClampNeg) = 0 then ((q_O g 6 3 a0).bind fun b_12 => if xs0 < 0 ∨ q_N g b_12 ≤ xs0.toNatClampNeg then none else bd (s_R δ b_12 xs0.toNatClampNeg (vp_nar .boolean 1)) fun δ_14 => (D_X6_readValue N g a0 a1 xs0 δ_14).bind fun r_16 => (D_X7_needSign N g a1 59 r_16).bind fun r_17 => J_X6_readClause_94 N g a0 a1 r_17) else ((D_X7_refuse N g a1 4 δ).bind fun r_18 => J_X6_readClause_94 N g a0 a1 r_18))
set_option maxHeartbeats 4000000 in
set_option maxRecDepth 100000 in
theorem t_J_X6_readClause_44 {l : Launch} {D : va_G} {cy : Nat → ClassId} {N d : Nat} {g : gp} (wt : WT g) (hl : l.stackTraces = false) (hd : 7 ≤ d) {a0 : Nat} {a1 : Nat} (k0 : q_K g a0 = 6) (k1 : q_K g a1 = 7) : ∀ (xs0 : Int32) (δ : dp), AWD l D cy m_X6_readClause d 0 0 ev g 44 [(0, .ref a0), (1, .ref a1)] [.int xs0] δ (J_X6_readClause_44 N g a0 a1 xs0 δ) := by
    intro xs0 δ 
    unfold J_X6_readClause_44
    refine w_istore_n [(2, .int xs0), (0, .ref a0), (1, .ref a1)] (μ := m_X6_readClause) (pc := 44) dX6_readClause_44 rfl (by decide) rfl ?_
    refine w_iload_n 0 2 (μ := m_X6_readClause) (pc := 45) dX6_readClause_45 rfl rfl ?_
    refine w_iconst (v := (-1)) (μ := m_X6_readClause) (pc := 46) dX6_readClause_46 (by decide) ?_
    refine w_icmp_ne 58 (μ := m_X6_readClause) (pc := 47) dX6_readClause_47 (by decide) (fun c_8 => ?_) (fun c_8 => ?_)
    · refine w_aload_n 1 0 (μ := m_X6_readClause) (pc := 58) dX6_readClause_58 rfl rfl ?_
      refine w_getO (μ := m_X6_readClause) (pc := 59) dX6_readClause_59 fl_X6_11 ir_6_3 id_6_3 k0 (fun b_9 e_10 => ?_)
      refine w_iload_n 0 2 (μ := m_X6_readClause) (pc := 62) dX6_readClause_62 rfl rfl ?_
      refine w_zald (μ := m_X6_readClause) (pc := 63) dX6_readClause_63 (wt_6_3 wt k0 e_10) ?_
      refine w_if_eq 75 (μ := m_X6_readClause) (pc := 64) dX6_readClause_64 (by decide) (fun c_11 => ?_) (fun c_11 => ?_)
      · refine w_aload_n 1 0 (μ := m_X6_readClause) (pc := 75) dX6_readClause_75 rfl rfl ?_
        refine w_getO (μ := m_X6_readClause) (pc := 76) dX6_readClause_76 fl_X6_11 ir_6_3 id_6_3 k0 (fun b_12 e_13 => ?_)
        refine w_iload_n 0 2 (μ := m_X6_readClause) (pc := 79) dX6_readClause_79 rfl rfl ?_
        refine w_iconst (v := 1) (μ := m_X6_readClause) (pc := 80) dX6_readClause_80 (by decide) ?_
        refine w_zast (μ := m_X6_readClause) (pc := 81) dX6_readClause_81 (wt_6_3 wt k0 e_13) ?_
        refine w_bd (fun δ_14 e_15 => ?_)
        refine w_aload_n 1 0 (μ := m_X6_readClause) (pc := 82) dX6_readClause_82 rfl rfl ?_
        refine w_aload_n 2 1 (μ := m_X6_readClause) (pc := 83) dX6_readClause_83 rfl rfl ?_
        refine w_iload_n 0 2 (μ := m_X6_readClause) (pc := 84) dX6_readClause_84 rfl rfl ?_
        refine w_callV (As := [.ref a1, .int xs0]) (rest := []) (μ := m_X6_readClause) (pc := 85) dX6_readClause_85 cv_X6_55 rfl rfl k0 (by decide) rfl (Nat.le_of_ble_eq_true rfl) (d' := d - 1) (by omega) he_v (c_X6_readValue wt hl (d := d - 1) (by omega) k0 k1) (fun r_16 => ?_)
        refine w_aload_n 2 1 (μ := m_X6_readClause) (pc := 88) dX6_readClause_88 rfl rfl ?_
        refine w_bipush (v := 59) (μ := m_X6_readClause) (pc := 89) dX6_readClause_89 (by decide) ?_
        refine w_callV (As := [.int 59]) (rest := []) (μ := m_X6_readClause) (pc := 91) dX6_readClause_91 cv_X6_59 rfl rfl k1 (by decide) rfl (Nat.le_of_ble_eq_true rfl) (d' := d - 1) (by omega) he_v (c_X7_needSign wt hl (d := d - 1) (by omega) k1) (fun r_17 => ?_)
        refine w_lv [] rfl ?_
        exact t_J_X6_readClause_94 wt hl (by omega) k0 k1 _
      · refine w_aload_n 2 1 (μ := m_X6_readClause) (pc := 67) dX6_readClause_67 rfl rfl ?_
        refine w_iconst (v := 4) (μ := m_X6_readClause) (pc := 68) dX6_readClause_68 (by decide) ?_
        refine w_callV (As := [.int 4]) (rest := []) (μ := m_X6_readClause) (pc := 69) dX6_readClause_69 cv_X6_51 rfl rfl k1 (by decide) rfl (Nat.le_of_ble_eq_true rfl) (d' := d - 1) (by omega) he_v (c_X7_refuse wt hl (d := d - 1) (by omega) k1) (fun r_18 => ?_)
        refine w_goto 94 (μ := m_X6_readClause) (pc := 72) dX6_readClause_72 (by decide) ?_
        refine w_lv [] rfl ?_
        exact t_J_X6_readClause_94 wt hl (by omega) k0 k1 _
    · refine w_aload_n 2 1 (μ := m_X6_readClause) (pc := 50) dX6_readClause_50 rfl rfl ?_
      refine w_iconst (v := 1) (μ := m_X6_readClause) (pc := 51) dX6_readClause_51 (by decide) ?_
      refine w_callV (As := [.int 1]) (rest := []) (μ := m_X6_readClause) (pc := 52) dX6_readClause_52 cv_X6_51 rfl rfl k1 (by decide) rfl (Nat.le_of_ble_eq_true rfl) (d' := d - 1) (by omega) he_v (c_X7_refuse wt hl (d := d - 1) (by omega) k1) (fun r_19 => ?_)
      refine w_goto 94 (μ := m_X6_readClause) (pc := 55) dX6_readClause_55 (by decide) ?_
      refine w_lv [] rfl ?_
      exact t_J_X6_readClause_94 wt hl (by omega) k0 k1 _
def D_X6_readClause (N : Nat) (g : gp) (a0 : Nat) (a1 : Nat) (δ : dp) : Option (dp) :=
  (D_X7_readWord N g a1 δ).bind fun r_1 => (D_X7_wordIs N g a1 0 r_1).bind fun r_2 => if r_2.1 = 0 then ((D_X7_wordIs N g a1 1 r_2.2).bind fun r_4 => if r_4.1 = 0 then ((D_X7_wordIs N g a1 2 r_4.2).bind fun r_6 => if r_6.1 = 0 then (J_X6_readClause_44 N g a0 a1 ((-1)) r_6.2) else (J_X6_readClause_44 N g a0 a1 2 r_6.2)) else (J_X6_readClause_44 N g a0 a1 1 r_4.2)) else (J_X6_readClause_44 N g a0 a1 0 r_2.2)
set_option maxHeartbeats 4000000 in
set_option maxRecDepth 100000 in
theorem c_X6_readClause {l : Launch} {D : va_G} {cy : Nat → ClassId} {N d : Nat} {g : gp} (wt : WT g) (hl : l.stackTraces = false) (hd : 7 ≤ d) {a0 : Nat} {a1 : Nat} {δ : dp} (k0 : q_K g a0 = 6) (k1 : q_K g a1 = 7) : CalD l D cy m_X6_readClause d 0 0 ev g [.ref a0, .ref a1] δ (D_X6_readClause N g a0 a1 δ) := by
  refine CalD.of (by decide +kernel) (Nat.le_of_ble_eq_true rfl) hl ?_
  unfold D_X6_readClause
  refine w_aload_n 1 1 (μ := m_X6_readClause) (pc := 0) dX6_readClause_0 rfl rfl ?_
  refine w_callV (As := []) (rest := []) (μ := m_X6_readClause) (pc := 1) dX6_readClause_1 cv_X6_40 rfl rfl k1 (by decide) rfl (Nat.le_of_ble_eq_true rfl) (d' := d - 1) (by omega) he_v (c_X7_readWord wt hl (d := d - 1) (by omega) k1) (fun r_1 => ?_)
  refine w_aload_n 1 1 (μ := m_X6_readClause) (pc := 4) dX6_readClause_4 rfl rfl ?_
  refine w_ldcS 0 (tx := "wide") (μ := m_X6_readClause) (pc := 5) dX6_readClause_5 (by decide +kernel) ?_
  refine w_callV (As := [.ref (D.2 100 0)]) (rest := []) (μ := m_X6_readClause) (pc := 7) dX6_readClause_7 cv_X6_44 rfl rfl k1 (by decide) rfl (Nat.le_of_ble_eq_true rfl) (d' := d - 1) (by omega) he_i (c_X7_wordIs wt hl (d := d - 1) (by omega) k1 (by decide)) (fun r_2 => ?_)
  refine w_if_eq 17 (μ := m_X6_readClause) (pc := 10) dX6_readClause_10 (by decide) (fun c_3 => ?_) (fun c_3 => ?_)
  · refine w_aload_n 1 1 (μ := m_X6_readClause) (pc := 17) dX6_readClause_17 rfl rfl ?_
    refine w_ldcS 1 (tx := "upper") (μ := m_X6_readClause) (pc := 18) dX6_readClause_18 (by decide +kernel) ?_
    refine w_callV (As := [.ref (D.2 100 1)]) (rest := []) (μ := m_X6_readClause) (pc := 20) dX6_readClause_20 cv_X6_44 rfl rfl k1 (by decide) rfl (Nat.le_of_ble_eq_true rfl) (d' := d - 1) (by omega) he_i (c_X7_wordIs wt hl (d := d - 1) (by omega) k1 (by decide)) (fun r_4 => ?_)
    refine w_if_eq 30 (μ := m_X6_readClause) (pc := 23) dX6_readClause_23 (by decide) (fun c_5 => ?_) (fun c_5 => ?_)
    · refine w_aload_n 1 1 (μ := m_X6_readClause) (pc := 30) dX6_readClause_30 rfl rfl ?_
      refine w_ldcS 2 (tx := "ends") (μ := m_X6_readClause) (pc := 31) dX6_readClause_31 (by decide +kernel) ?_
      refine w_callV (As := [.ref (D.2 100 2)]) (rest := []) (μ := m_X6_readClause) (pc := 33) dX6_readClause_33 cv_X6_44 rfl rfl k1 (by decide) rfl (Nat.le_of_ble_eq_true rfl) (d' := d - 1) (by omega) he_i (c_X7_wordIs wt hl (d := d - 1) (by omega) k1 (by decide)) (fun r_6 => ?_)
      refine w_if_eq 43 (μ := m_X6_readClause) (pc := 36) dX6_readClause_36 (by decide) (fun c_7 => ?_) (fun c_7 => ?_)
      · refine w_iconst (v := (-1)) (μ := m_X6_readClause) (pc := 43) dX6_readClause_43 (by decide) ?_
        exact t_J_X6_readClause_44 wt hl (by omega) k0 k1 _ _
      · refine w_iconst (v := 2) (μ := m_X6_readClause) (pc := 39) dX6_readClause_39 (by decide) ?_
        refine w_goto 44 (μ := m_X6_readClause) (pc := 40) dX6_readClause_40 (by decide) ?_
        exact t_J_X6_readClause_44 wt hl (by omega) k0 k1 _ _
    · refine w_iconst (v := 1) (μ := m_X6_readClause) (pc := 26) dX6_readClause_26 (by decide) ?_
      refine w_goto 44 (μ := m_X6_readClause) (pc := 27) dX6_readClause_27 (by decide) ?_
      exact t_J_X6_readClause_44 wt hl (by omega) k0 k1 _ _
  · refine w_iconst (v := 0) (μ := m_X6_readClause) (pc := 13) dX6_readClause_13 (by decide) ?_
    refine w_goto 44 (μ := m_X6_readClause) (pc := 14) dX6_readClause_14 (by decide) ?_
    exact t_J_X6_readClause_44 wt hl (by omega) k0 k1 _ _
def J_X6_read_71 (N : Nat) (g : gp) (a0 : Nat) (a1 : Nat) (δ : dp) : Option (dp) :=
  some δ
set_option maxHeartbeats 4000000 in
set_option maxRecDepth 100000 in
theorem t_J_X6_read_71 {l : Launch} {D : va_G} {cy : Nat → ClassId} {N d : Nat} {g : gp} (wt : WT g) (hl : l.stackTraces = false) (hd : 8 ≤ d) {a0 : Nat} {a1 : Nat} (k0 : q_K g a0 = 6) (k1 : q_K g a1 = 7) : ∀ (δ : dp), AWD l D cy m_X6_read d 0 0 ev g 71 [] [] δ (J_X6_read_71 N g a0 a1 δ) := by
    intro  δ 
    unfold J_X6_read_71
    exact w_vret (μ := m_X6_read) (pc := 71) dX6_read_71 rfl rfl
def L_X6_read_38 (N : Nat) (g : gp) (a0 : Nat) (a1 : Nat) : Nat → Int32 → dp → Option (dp)
  | 0, _, _ => none
  | n + 1, x2v, δ => if (500 : Int32) ≤ x2v then (J_X6_read_71 N g a0 a1 δ) else ((D_X7_isSound N g a1 δ).bind fun r_9 => if r_9.1 = 0 then (J_X6_read_71 N g a0 a1 r_9.2) else ((D_X7_ahead N g a1 r_9.2).bind fun r_11 => if r_11.1 = ((-1) : Int32) then (J_X6_read_71 N g a0 a1 r_11.2) else ((D_X6_readClause N g a0 a1 r_11.2).bind fun r_13 => bi (x2v + 1) fun x_14 => L_X6_read_38 N g a0 a1 n x_14 r_13)))
set_option maxHeartbeats 4000000 in
set_option maxRecDepth 100000 in
theorem t_L_X6_read_38 {l : Launch} {D : va_G} {cy : Nat → ClassId} {N d : Nat} {g : gp} (wt : WT g) (hl : l.stackTraces = false) (hd : 8 ≤ d) {a0 : Nat} {a1 : Nat} (k0 : q_K g a0 = 6) (k1 : q_K g a1 = 7) : ∀ (n : Nat) (x2v : Int32) (δ : dp), AWD l D cy m_X6_read d 0 0 ev g 38 [(0, .ref a0), (1, .ref a1), (2, .int x2v)] [] δ (L_X6_read_38 N g a0 a1 n x2v δ) := by
  intro n
  induction n with
  | zero => intro x2v δ ; exact w_none
  | succ n ih =>
    intro x2v δ 
    unfold L_X6_read_38
    refine w_iload_n 2 2 (μ := m_X6_read) (pc := 38) dX6_read_38 rfl rfl ?_
    refine w_sipush (v := 500) (μ := m_X6_read) (pc := 39) dX6_read_39 (by decide) ?_
    refine w_icmp_ge 71 (μ := m_X6_read) (pc := 42) dX6_read_42 (by decide) (fun c_8 => ?_) (fun c_8 => ?_)
    · refine w_lv [] rfl ?_
      exact t_J_X6_read_71 wt hl (by omega) k0 k1 _
    · refine w_aload_n 1 1 (μ := m_X6_read) (pc := 45) dX6_read_45 rfl rfl ?_
      refine w_callV (As := []) (rest := []) (μ := m_X6_read) (pc := 46) dX6_read_46 cv_X6_26 rfl rfl k1 (by decide) rfl (Nat.le_of_ble_eq_true rfl) (d' := d - 1) (by omega) he_i (c_X7_isSound wt hl (d := d - 1) (by omega) k1) (fun r_9 => ?_)
      refine w_if_eq 71 (μ := m_X6_read) (pc := 49) dX6_read_49 (by decide) (fun c_10 => ?_) (fun c_10 => ?_)
      · refine w_lv [] rfl ?_
        exact t_J_X6_read_71 wt hl (by omega) k0 k1 _
      · refine w_aload_n 1 1 (μ := m_X6_read) (pc := 52) dX6_read_52 rfl rfl ?_
        refine w_callV (As := []) (rest := []) (μ := m_X6_read) (pc := 53) dX6_read_53 cv_X6_32 rfl rfl k1 (by decide) rfl (Nat.le_of_ble_eq_true rfl) (d' := d - 1) (by omega) he_i (c_X7_ahead wt hl (d := d - 1) (by omega) k1) (fun r_11 => ?_)
        refine w_iconst (v := (-1)) (μ := m_X6_read) (pc := 56) dX6_read_56 (by decide) ?_
        refine w_icmp_eq 71 (μ := m_X6_read) (pc := 57) dX6_read_57 (by decide) (fun c_12 => ?_) (fun c_12 => ?_)
        · refine w_lv [] rfl ?_
          exact t_J_X6_read_71 wt hl (by omega) k0 k1 _
        · refine w_aload_n 0 0 (μ := m_X6_read) (pc := 60) dX6_read_60 rfl rfl ?_
          refine w_aload_n 1 1 (μ := m_X6_read) (pc := 61) dX6_read_61 rfl rfl ?_
          refine w_callV (As := [.ref a1]) (rest := []) (μ := m_X6_read) (pc := 62) dX6_read_62 cv_X6_36 rfl rfl k0 (by decide) rfl (Nat.le_of_ble_eq_true rfl) (d' := d - 1) (by omega) he_v (c_X6_readClause wt hl (d := d - 1) (by omega) k0 k1) (fun r_13 => ?_)
          refine w_inb (fun x_14 e_15 => ?_)
          refine w_iinc 2 [(2, .int x_14), (0, .ref a0), (1, .ref a1)] (μ := m_X6_read) (pc := 65) dX6_read_65 rfl (by rw [e_15]; rfl) (by decide) rfl ?_
          refine w_goto 38 (μ := m_X6_read) (pc := 68) dX6_read_68 (by decide) ?_
          refine w_lv [1, 2, 0] rfl ?_
          exact ih _ _
def L_X6_read_18 (N : Nat) (g : gp) (a0 : Nat) (a1 : Nat) : Nat → Int32 → dp → Option (dp)
  | 0, _, _ => none
  | n + 1, x2v, δ => if (3 : Int32) ≤ x2v then (L_X6_read_38 N g a0 a1 N 0 δ) else ((q_O g 6 3 a0).bind fun b_16 => if x2v < 0 ∨ q_N g b_16 ≤ x2v.toNatClampNeg then none else bd (s_R δ b_16 x2v.toNatClampNeg (vp_nar .boolean 0)) fun δ_18 => bi (x2v + 1) fun x_20 => L_X6_read_18 N g a0 a1 n x_20 δ_18)
set_option maxHeartbeats 4000000 in
set_option maxRecDepth 100000 in
theorem t_L_X6_read_18 {l : Launch} {D : va_G} {cy : Nat → ClassId} {N d : Nat} {g : gp} (wt : WT g) (hl : l.stackTraces = false) (hd : 8 ≤ d) {a0 : Nat} {a1 : Nat} (k0 : q_K g a0 = 6) (k1 : q_K g a1 = 7) : ∀ (n : Nat) (x2v : Int32) (δ : dp), AWD l D cy m_X6_read d 0 0 ev g 18 [(0, .ref a0), (1, .ref a1), (2, .int x2v)] [] δ (L_X6_read_18 N g a0 a1 n x2v δ) := by
  intro n
  induction n with
  | zero => intro x2v δ ; exact w_none
  | succ n ih =>
    intro x2v δ 
    unfold L_X6_read_18
    refine w_iload_n 2 2 (μ := m_X6_read) (pc := 18) dX6_read_18 rfl rfl ?_
    refine w_iconst (v := 3) (μ := m_X6_read) (pc := 19) dX6_read_19 (by decide) ?_
    refine w_icmp_ge 36 (μ := m_X6_read) (pc := 20) dX6_read_20 (by decide) (fun c_7 => ?_) (fun c_7 => ?_)
    · refine w_iconst (v := 0) (μ := m_X6_read) (pc := 36) dX6_read_36 (by decide) ?_
      refine w_istore_n [(2, .int 0), (0, .ref a0), (1, .ref a1)] (μ := m_X6_read) (pc := 37) dX6_read_37 rfl (by decide) rfl ?_
      refine w_lv [1, 2, 0] rfl ?_
      exact t_L_X6_read_38 wt hl (by omega) k0 k1 N _ _
    · refine w_aload_n 0 0 (μ := m_X6_read) (pc := 23) dX6_read_23 rfl rfl ?_
      refine w_getO (μ := m_X6_read) (pc := 24) dX6_read_24 fl_X6_11 ir_6_3 id_6_3 k0 (fun b_16 e_17 => ?_)
      refine w_iload_n 2 2 (μ := m_X6_read) (pc := 27) dX6_read_27 rfl rfl ?_
      refine w_iconst (v := 0) (μ := m_X6_read) (pc := 28) dX6_read_28 (by decide) ?_
      refine w_zast (μ := m_X6_read) (pc := 29) dX6_read_29 (wt_6_3 wt k0 e_17) ?_
      refine w_bd (fun δ_18 e_19 => ?_)
      refine w_inb (fun x_20 e_21 => ?_)
      refine w_iinc 2 [(2, .int x_20), (0, .ref a0), (1, .ref a1)] (μ := m_X6_read) (pc := 30) dX6_read_30 rfl (by rw [e_21]; rfl) (by decide) rfl ?_
      refine w_goto 18 (μ := m_X6_read) (pc := 33) dX6_read_33 (by decide) ?_
      refine w_lv [1, 2, 0] rfl ?_
      exact ih _ _
def D_X6_read (N : Nat) (g : gp) (a0 : Nat) (a1 : Nat) (δ : dp) : Option (dp) :=
  bd (s_I δ 6 0 a0 8) fun δ_1 => bd (s_I δ_1 6 1 a0 1) fun δ_3 => bd (s_I δ_3 6 2 a0 1) fun δ_5 => L_X6_read_18 N g a0 a1 N 0 δ_5
set_option maxHeartbeats 4000000 in
set_option maxRecDepth 100000 in
theorem c_X6_read {l : Launch} {D : va_G} {cy : Nat → ClassId} {N d : Nat} {g : gp} (wt : WT g) (hl : l.stackTraces = false) (hd : 8 ≤ d) {a0 : Nat} {a1 : Nat} {δ : dp} (k0 : q_K g a0 = 6) (k1 : q_K g a1 = 7) : CalD l D cy m_X6_read d 0 0 ev g [.ref a0, .ref a1] δ (D_X6_read N g a0 a1 δ) := by
  refine CalD.of (by decide +kernel) (Nat.le_of_ble_eq_true rfl) hl ?_
  unfold D_X6_read
  refine w_aload_n 0 0 (μ := m_X6_read) (pc := 0) dX6_read_0 rfl rfl ?_
  refine w_bipush (v := 8) (μ := m_X6_read) (pc := 1) dX6_read_1 (by decide) ?_
  refine w_putI (μ := m_X6_read) (pc := 3) dX6_read_3 fl_X6_15 flw_6_0 ir_6_0 k0 ?_
  refine w_bd (fun δ_1 e_2 => ?_)
  refine w_aload_n 0 0 (μ := m_X6_read) (pc := 6) dX6_read_6 rfl rfl ?_
  refine w_iconst (v := 1) (μ := m_X6_read) (pc := 7) dX6_read_7 (by decide) ?_
  refine w_putZ (μ := m_X6_read) (pc := 8) dX6_read_8 fl_X6_19 flw_6_1 ir_6_1 k0 (by decide) ?_
  refine w_bd (fun δ_3 e_4 => ?_)
  refine w_aload_n 0 0 (μ := m_X6_read) (pc := 11) dX6_read_11 rfl rfl ?_
  refine w_iconst (v := 1) (μ := m_X6_read) (pc := 12) dX6_read_12 (by decide) ?_
  refine w_putI (μ := m_X6_read) (pc := 13) dX6_read_13 fl_X6_23 flw_6_2 ir_6_2 k0 ?_
  refine w_bd (fun δ_5 e_6 => ?_)
  refine w_iconst (v := 0) (μ := m_X6_read) (pc := 16) dX6_read_16 (by decide) ?_
  refine w_istore_n [(2, .int 0), (0, .ref a0), (1, .ref a1)] (μ := m_X6_read) (pc := 17) dX6_read_17 rfl (by decide) rfl ?_
  refine w_lv [1, 2, 0] rfl ?_
  exact t_L_X6_read_18 wt hl (by omega) k0 k1 N _ _
