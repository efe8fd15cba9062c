theorem dX8_clear_0 : decode cX8_clear 0 = .ok (.aload_n 0, 1) := by decide +kernel
theorem dX8_clear_1 : decode cX8_clear 1 = .ok (.iconst 0, 1) := by decide +kernel
theorem dX8_clear_2 : decode cX8_clear 2 = .ok (.putfield 18, 3) := by decide +kernel
theorem dX8_clear_5 : decode cX8_clear 5 = .ok (.aload_n 0, 1) := by decide +kernel
theorem dX8_clear_6 : decode cX8_clear 6 = .ok (.iconst 0, 1) := by decide +kernel
theorem dX8_clear_7 : decode cX8_clear 7 = .ok (.putfield 22, 3) := by decide +kernel
theorem dX8_clear_10 : decode cX8_clear 10 = .ok (.return_, 1) := by decide +kernel
theorem dX8_add_0 : decode cX8_add 0 = .ok (.aload_n 0, 1) := by decide +kernel
theorem dX8_add_1 : decode cX8_add 1 = .ok (.getfield 18, 3) := by decide +kernel
theorem dX8_add_4 : decode cX8_add 4 = .ok (.sipush 500, 3) := by decide +kernel
theorem dX8_add_7 : decode cX8_add 7 = .ok (.if_icmp .ge 33, 3) := by decide +kernel
theorem dX8_add_10 : decode cX8_add 10 = .ok (.aload_n 0, 1) := by decide +kernel
theorem dX8_add_11 : decode cX8_add 11 = .ok (.getfield 9, 3) := by decide +kernel
theorem dX8_add_14 : decode cX8_add 14 = .ok (.aload_n 0, 1) := by decide +kernel
theorem dX8_add_15 : decode cX8_add 15 = .ok (.getfield 18, 3) := by decide +kernel
theorem dX8_add_18 : decode cX8_add 18 = .ok (.iload_n 1, 1) := by decide +kernel
theorem dX8_add_19 : decode cX8_add 19 = .ok (.iastore, 1) := by decide +kernel
theorem dX8_add_20 : decode cX8_add 20 = .ok (.aload_n 0, 1) := by decide +kernel
theorem dX8_add_21 : decode cX8_add 21 = .ok (.getfield 15, 3) := by decide +kernel
theorem dX8_add_24 : decode cX8_add 24 = .ok (.aload_n 0, 1) := by decide +kernel
theorem dX8_add_25 : decode cX8_add 25 = .ok (.getfield 18, 3) := by decide +kernel
theorem dX8_add_28 : decode cX8_add 28 = .ok (.iload_n 2, 1) := by decide +kernel
theorem dX8_add_29 : decode cX8_add 29 = .ok (.iastore, 1) := by decide +kernel
theorem dX8_add_30 : decode cX8_add 30 = .ok (.aload_n 0, 1) := by decide +kernel
theorem dX8_add_31 : decode cX8_add 31 = .ok (.dup, 1) := by decide +kernel
theorem dX8_add_32 : decode cX8_add 32 = .ok (.getfield 18, 3) := by decide +kernel
theorem dX8_add_35 : decode cX8_add 35 = .ok (.iconst 1, 1) := by decide +kernel
theorem dX8_add_36 : decode cX8_add 36 = .ok (.iadd, 1) := by decide +kernel
theorem dX8_add_37 : decode cX8_add 37 = .ok (.putfield 18, 3) := by decide +kernel
theorem dX8_add_40 : decode cX8_add 40 = .ok (.aload_n 0, 1) := by decide +kernel
theorem dX8_add_41 : decode cX8_add 41 = .ok (.aload_n 0, 1) := by decide +kernel
theorem dX8_add_42 : decode cX8_add 42 = .ok (.getfield 22, 3) := by decide +kernel
theorem dX8_add_45 : decode cX8_add 45 = .ok (.ifCond .ne 8, 3) := by decide +kernel
theorem dX8_add_48 : decode cX8_add 48 = .ok (.iload_n 1, 1) := by decide +kernel
theorem dX8_add_49 : decode cX8_add 49 = .ok (.iconst 4, 1) := by decide +kernel
theorem dX8_add_50 : decode cX8_add 50 = .ok (.if_icmp .ne 7, 3) := by decide +kernel
theorem dX8_add_53 : decode cX8_add 53 = .ok (.iconst 1, 1) := by decide +kernel
theorem dX8_add_54 : decode cX8_add 54 = .ok (.goto 4, 3) := by decide +kernel
theorem dX8_add_57 : decode cX8_add 57 = .ok (.iconst 0, 1) := by decide +kernel
theorem dX8_add_58 : decode cX8_add 58 = .ok (.putfield 22, 3) := by decide +kernel
theorem dX8_add_61 : decode cX8_add 61 = .ok (.return_, 1) := by decide +kernel
def D_X8_clear (N : Nat) (g : gp) (a0 : Nat) (δ : dp) : Option (dp) :=
  bd (s_I δ 8 2 a0 0) fun δ_1 => bd (s_I δ_1 8 3 a0 0) fun δ_3 => some δ_3
set_option maxHeartbeats 4000000 in
set_option maxRecDepth 100000 in
theorem c_X8_clear {l : Launch} {D : va_G} {cy : Nat → ClassId} {N d : Nat} {g : gp} (wt : WT g) (hl : l.stackTraces = false) (hd : 1 ≤ d) {a0 : Nat} {δ : dp} (k0 : q_K g a0 = 8) : CalD l D cy m_X8_clear d 0 0 ev g [.ref a0] δ (D_X8_clear N g a0 δ) := by
  refine CalD.of (by decide +kernel) (Nat.le_of_ble_eq_true rfl) hl ?_
  unfold D_X8_clear
  refine w_aload_n 0 0 (μ := m_X8_clear) (pc := 0) dX8_clear_0 rfl rfl ?_
  refine w_iconst (v := 0) (μ := m_X8_clear) (pc := 1) dX8_clear_1 (by decide) ?_
  refine w_putI (μ := m_X8_clear) (pc := 2) dX8_clear_2 fl_X8_18 flw_8_2 ir_8_2 k0 ?_
  refine w_bd (fun δ_1 e_2 => ?_)
  refine w_aload_n 0 0 (μ := m_X8_clear) (pc := 5) dX8_clear_5 rfl rfl ?_
  refine w_iconst (v := 0) (μ := m_X8_clear) (pc := 6) dX8_clear_6 (by decide) ?_
  refine w_putZ (μ := m_X8_clear) (pc := 7) dX8_clear_7 fl_X8_22 flw_8_3 ir_8_3 k0 (by decide) ?_
  refine w_bd (fun δ_3 e_4 => ?_)
  exact w_vret (μ := m_X8_clear) (pc := 10) dX8_clear_10 rfl rfl
def J_X8_add_58 (N : Nat) (g : gp) (a0 : Nat) (x1 : Int32) (x2 : Int32) (xs0 : Int32) (as1 : Nat) (δ : dp) : Option (dp) :=
  if xs0 = 0 ∨ xs0 = 1 then bd (s_I δ 8 3 as1 xs0) fun δ_3 => some δ_3 else none
set_option maxHeartbeats 4000000 in
set_option maxRecDepth 100000 in
theorem t_J_X8_add_58 {l : Launch} {D : va_G} {cy : Nat → ClassId} {N d : Nat} {g : gp} (wt : WT g) (hl : l.stackTraces = false) (hd : 1 ≤ d) {a0 : Nat} {x1 : Int32} {x2 : Int32} (k0 : q_K g a0 = 8) : ∀ (xs0 : Int32) (as1 : Nat) (δ : dp), q_K g as1 = 8 → AWD l D cy m_X8_add d 0 0 ev g 58 [] [.int xs0, .ref as1] δ (J_X8_add_58 N g a0 x1 x2 xs0 as1 δ) := by
    intro xs0 as1 δ has1
    unfold J_X8_add_58
    refine w_gd (fun z_5 => ?_)
    refine w_putZ (μ := m_X8_add) (pc := 58) dX8_add_58 fl_X8_22 flw_8_3 ir_8_3 has1 z_5 ?_
    refine w_bd (fun δ_3 e_4 => ?_)
    exact w_vret (μ := m_X8_add) (pc := 61) dX8_add_61 rfl rfl
def J_X8_add_53 (N : Nat) (g : gp) (a0 : Nat) (x1 : Int32) (x2 : Int32) (as0 : Nat) (δ : dp) : Option (dp) :=
  J_X8_add_58 N g a0 x1 x2 1 as0 δ
set_option maxHeartbeats 4000000 in
set_option maxRecDepth 100000 in
theorem t_J_X8_add_53 {l : Launch} {D : va_G} {cy : Nat → ClassId} {N d : Nat} {g : gp} (wt : WT g) (hl : l.stackTraces = false) (hd : 1 ≤ d) {a0 : Nat} {x1 : Int32} {x2 : Int32} (k0 : q_K g a0 = 8) : ∀ (as0 : Nat) (δ : dp), q_K g as0 = 8 → AWD l D cy m_X8_add d 0 0 ev g 53 [] [.ref as0] δ (J_X8_add_53 N g a0 x1 x2 as0 δ) := by
    intro as0 δ has0
    unfold J_X8_add_53
    refine w_iconst (v := 1) (μ := m_X8_add) (pc := 53) dX8_add_53 (by decide) ?_
    refine w_goto 58 (μ := m_X8_add) (pc := 54) dX8_add_54 (by decide) ?_
    exact t_J_X8_add_58 wt hl (by omega) k0 _ _ _ has0
def J_X8_add_40 (N : Nat) (g : gp) (a0 : Nat) (x1 : Int32) (x2 : Int32) (δ : dp) : Option (dp) :=
  if (q_I δ 8 3 a0) = 0 then (if x1 = (4 : Int32) then (J_X8_add_53 N g a0 x1 x2 a0 δ) else (J_X8_add_58 N g a0 x1 x2 0 a0 δ)) else (J_X8_add_53 N g a0 x1 x2 a0 δ)
set_option maxHeartbeats 4000000 in
set_option maxRecDepth 100000 in
theorem t_J_X8_add_40 {l : Launch} {D : va_G} {cy : Nat → ClassId} {N d : Nat} {g : gp} (wt : WT g) (hl : l.stackTraces = false) (hd : 1 ≤ d) {a0 : Nat} {x1 : Int32} {x2 : Int32} (k0 : q_K g a0 = 8) : ∀ (δ : dp), AWD l D cy m_X8_add d 0 0 ev g 40 [(0, .ref a0), (1, .int x1)] [] δ (J_X8_add_40 N g a0 x1 x2 δ) := by
    intro  δ 
    unfold J_X8_add_40
    refine w_aload_n 0 0 (μ := m_X8_add) (pc := 40) dX8_add_40 rfl rfl ?_
    refine w_aload_n 0 0 (μ := m_X8_add) (pc := 41) dX8_add_41 rfl rfl ?_
    refine w_getI (μ := m_X8_add) (pc := 42) dX8_add_42 fl_X8_22 ir_8_3 k0 ?_
    refine w_if_ne 53 (μ := m_X8_add) (pc := 45) dX8_add_45 (by decide) (fun c_2 => ?_) (fun c_2 => ?_)
    · refine w_lv [] rfl ?_
      exact t_J_X8_add_53 wt hl (by omega) k0 _ _ k0
    · refine w_iload_n 1 1 (μ := m_X8_add) (pc := 48) dX8_add_48 rfl rfl ?_
      refine w_iconst (v := 4) (μ := m_X8_add) (pc := 49) dX8_add_49 (by decide) ?_
      refine w_icmp_ne 57 (μ := m_X8_add) (pc := 50) dX8_add_50 (by decide) (fun c_6 => ?_) (fun c_6 => ?_)
      · refine w_iconst (v := 0) (μ := m_X8_add) (pc := 57) dX8_add_57 (by decide) ?_
        refine w_lv [] rfl ?_
        exact t_J_X8_add_58 wt hl (by omega) k0 _ _ _ k0
      · refine w_lv [] rfl ?_
        exact t_J_X8_add_53 wt hl (by omega) k0 _ _ k0
def D_X8_add (N : Nat) (g : gp) (a0 : Nat) (x1 : Int32) (x2 : Int32) (δ : dp) : Option (dp) :=
  if (500 : Int32) ≤ (q_I δ 8 2 a0) then (J_X8_add_40 N g a0 x1 x2 δ) else ((q_O g 8 0 a0).bind fun b_7 => if (q_I δ 8 2 a0) < 0 ∨ q_N g b_7 ≤ (q_I δ 8 2 a0).toNatClampNeg then none else bd (s_R δ b_7 (q_I δ 8 2 a0).toNatClampNeg x1) fun δ_9 => (q_O g 8 1 a0).bind fun b_11 => if (q_I δ_9 8 2 a0) < 0 ∨ q_N g b_11 ≤ (q_I δ_9 8 2 a0).toNatClampNeg then none else bd (s_R δ_9 b_11 (q_I δ_9 8 2 a0).toNatClampNeg x2) fun δ_13 => bd (s_I δ_13 8 2 a0 ((q_I δ_13 8 2 a0) + 1)) fun δ_15 => J_X8_add_40 N g a0 x1 x2 δ_15)
set_option maxHeartbeats 4000000 in
set_option maxRecDepth 100000 in
theorem c_X8_add {l : Launch} {D : va_G} {cy : Nat → ClassId} {N d : Nat} {g : gp} (wt : WT g) (hl : l.stackTraces = false) (hd : 1 ≤ d) {a0 : Nat} {x1 : Int32} {x2 : Int32} {δ : dp} (k0 : q_K g a0 = 8) : CalD l D cy m_X8_add d 0 0 ev g [.ref a0, .int x1, .int x2] δ (D_X8_add N g a0 x1 x2 δ) := by
  refine CalD.of (by decide +kernel) (Nat.le_of_ble_eq_true rfl) hl ?_
  unfold D_X8_add
  refine w_aload_n 0 0 (μ := m_X8_add) (pc := 0) dX8_add_0 rfl rfl ?_
  refine w_getI (μ := m_X8_add) (pc := 1) dX8_add_1 fl_X8_18 ir_8_2 k0 ?_
  refine w_sipush (v := 500) (μ := m_X8_add) (pc := 4) dX8_add_4 (by decide) ?_
  refine w_icmp_ge 40 (μ := m_X8_add) (pc := 7) dX8_add_7 (by decide) (fun c_1 => ?_) (fun c_1 => ?_)
  · refine w_lv [0, 1] rfl ?_
    exact t_J_X8_add_40 wt hl (by omega) k0 _
  · refine w_aload_n 0 0 (μ := m_X8_add) (pc := 10) dX8_add_10 rfl rfl ?_
    refine w_getO (μ := m_X8_add) (pc := 11) dX8_add_11 fl_X8_9 ir_8_0 id_8_0 k0 (fun b_7 e_8 => ?_)
    refine w_aload_n 0 0 (μ := m_X8_add) (pc := 14) dX8_add_14 rfl rfl ?_
    refine w_getI (μ := m_X8_add) (pc := 15) dX8_add_15 fl_X8_18 ir_8_2 k0 ?_
    refine w_iload_n 1 1 (μ := m_X8_add) (pc := 18) dX8_add_18 rfl rfl ?_
    refine w_ast (μ := m_X8_add) (pc := 19) dX8_add_19 (wt_8_0 wt k0 e_8) ?_
    refine w_bd (fun δ_9 e_10 => ?_)
    refine w_aload_n 0 0 (μ := m_X8_add) (pc := 20) dX8_add_20 rfl rfl ?_
    refine w_getO (μ := m_X8_add) (pc := 21) dX8_add_21 fl_X8_15 ir_8_1 id_8_1 k0 (fun b_11 e_12 => ?_)
    refine w_aload_n 0 0 (μ := m_X8_add) (pc := 24) dX8_add_24 rfl rfl ?_
    refine w_getI (μ := m_X8_add) (pc := 25) dX8_add_25 fl_X8_18 ir_8_2 k0 ?_
    refine w_iload_n 2 2 (μ := m_X8_add) (pc := 28) dX8_add_28 rfl rfl ?_
    refine w_ast (μ := m_X8_add) (pc := 29) dX8_add_29 (wt_8_1 wt k0 e_12) ?_
    refine w_bd (fun δ_13 e_14 => ?_)
    refine w_aload_n 0 0 (μ := m_X8_add) (pc := 30) dX8_add_30 rfl rfl ?_
    refine w_dup (μ := m_X8_add) (pc := 31) dX8_add_31 rfl ?_
    refine w_getI (μ := m_X8_add) (pc := 32) dX8_add_32 fl_X8_18 ir_8_2 k0 ?_
    refine w_iconst (v := 1) (μ := m_X8_add) (pc := 35) dX8_add_35 (by decide) ?_
    refine w_iadd (μ := m_X8_add) (pc := 36) dX8_add_36 ?_
    refine w_putI (μ := m_X8_add) (pc := 37) dX8_add_37 fl_X8_18 flw_8_2 ir_8_2 k0 ?_
    refine w_bd (fun δ_15 e_16 => ?_)
    refine w_lv [0, 1] rfl ?_
    exact t_J_X8_add_40 wt hl (by omega) k0 _
