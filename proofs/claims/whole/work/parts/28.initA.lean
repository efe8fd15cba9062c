theorem dX1_init_0 : decode cX1_init 0 = .ok (.aload_n 0, 1) := by decide +kernel
theorem dX1_init_1 : decode cX1_init 1 = .ok (.invokespecial 3, 3) := by decide +kernel
theorem dX1_init_4 : decode cX1_init 4 = .ok (.aload_n 0, 1) := by decide +kernel
theorem dX1_init_5 : decode cX1_init 5 = .ok (.aload_n 1, 1) := by decide +kernel
theorem dX1_init_6 : decode cX1_init 6 = .ok (.putfield 9, 3) := by decide +kernel
theorem dX1_init_9 : decode cX1_init 9 = .ok (.aload_n 0, 1) := by decide +kernel
theorem dX1_init_10 : decode cX1_init 10 = .ok (.aload_n 2, 1) := by decide +kernel
theorem dX1_init_11 : decode cX1_init 11 = .ok (.putfield 15, 3) := by decide +kernel
theorem dX1_init_14 : decode cX1_init 14 = .ok (.aload_n 0, 1) := by decide +kernel
theorem dX1_init_15 : decode cX1_init 15 = .ok (.aload_n 2, 1) := by decide +kernel
theorem dX1_init_16 : decode cX1_init 16 = .ok (.getfield 19, 3) := by decide +kernel
theorem dX1_init_19 : decode cX1_init 19 = .ok (.putfield 25, 3) := by decide +kernel
theorem dX1_init_22 : decode cX1_init 22 = .ok (.return_, 1) := by decide +kernel
theorem dX3_init_0 : decode cX3_init 0 = .ok (.aload_n 0, 1) := by decide +kernel
theorem dX3_init_1 : decode cX3_init 1 = .ok (.invokespecial 3, 3) := by decide +kernel
theorem dX3_init_4 : decode cX3_init 4 = .ok (.aload_n 0, 1) := by decide +kernel
theorem dX3_init_5 : decode cX3_init 5 = .ok (.iload_n 1, 1) := by decide +kernel
theorem dX3_init_6 : decode cX3_init 6 = .ok (.newarray .int, 2) := by decide +kernel
theorem dX3_init_8 : decode cX3_init 8 = .ok (.putfield 9, 3) := by decide +kernel
theorem dX3_init_11 : decode cX3_init 11 = .ok (.return_, 1) := by decide +kernel
theorem dX5_init_0 : decode cX5_init 0 = .ok (.aload_n 0, 1) := by decide +kernel
theorem dX5_init_1 : decode cX5_init 1 = .ok (.invokespecial 3, 3) := by decide +kernel
theorem dX5_init_4 : decode cX5_init 4 = .ok (.aload_n 0, 1) := by decide +kernel
theorem dX5_init_5 : decode cX5_init 5 = .ok (.bipush 8, 2) := by decide +kernel
theorem dX5_init_7 : decode cX5_init 7 = .ok (.putfield 11, 3) := by decide +kernel
theorem dX5_init_10 : decode cX5_init 10 = .ok (.aload_n 0, 1) := by decide +kernel
theorem dX5_init_11 : decode cX5_init 11 = .ok (.iconst 1, 1) := by decide +kernel
theorem dX5_init_12 : decode cX5_init 12 = .ok (.putfield 17, 3) := by decide +kernel
theorem dX5_init_15 : decode cX5_init 15 = .ok (.aload_n 0, 1) := by decide +kernel
theorem dX5_init_16 : decode cX5_init 16 = .ok (.iconst 1, 1) := by decide +kernel
theorem dX5_init_17 : decode cX5_init 17 = .ok (.putfield 21, 3) := by decide +kernel
theorem dX5_init_20 : decode cX5_init 20 = .ok (.return_, 1) := by decide +kernel
theorem dX6_init_0 : decode cX6_init 0 = .ok (.aload_n 0, 1) := by decide +kernel
theorem dX6_init_1 : decode cX6_init 1 = .ok (.invokespecial 3, 3) := by decide +kernel
theorem dX6_init_4 : decode cX6_init 4 = .ok (.aload_n 0, 1) := by decide +kernel
theorem dX6_init_5 : decode cX6_init 5 = .ok (.iconst 3, 1) := by decide +kernel
theorem dX6_init_6 : decode cX6_init 6 = .ok (.newarray .boolean, 2) := by decide +kernel
theorem dX6_init_8 : decode cX6_init 8 = .ok (.putfield 11, 3) := by decide +kernel
theorem dX6_init_11 : decode cX6_init 11 = .ok (.return_, 1) := by decide +kernel
theorem dX7_init_0 : decode cX7_init 0 = .ok (.aload_n 0, 1) := by decide +kernel
theorem dX7_init_1 : decode cX7_init 1 = .ok (.invokespecial 3, 3) := by decide +kernel
theorem dX7_init_4 : decode cX7_init 4 = .ok (.aload_n 0, 1) := by decide +kernel
theorem dX7_init_5 : decode cX7_init 5 = .ok (.sipush 500, 3) := by decide +kernel
theorem dX7_init_8 : decode cX7_init 8 = .ok (.newarray .int, 2) := by decide +kernel
theorem dX7_init_10 : decode cX7_init 10 = .ok (.putfield 9, 3) := by decide +kernel
theorem dX7_init_13 : decode cX7_init 13 = .ok (.return_, 1) := by decide +kernel
theorem dX8_init_0 : decode cX8_init 0 = .ok (.aload_n 0, 1) := by decide +kernel
theorem dX8_init_1 : decode cX8_init 1 = .ok (.invokespecial 3, 3) := by decide +kernel
theorem dX8_init_4 : decode cX8_init 4 = .ok (.aload_n 0, 1) := by decide +kernel
theorem dX8_init_5 : decode cX8_init 5 = .ok (.sipush 500, 3) := by decide +kernel
theorem dX8_init_8 : decode cX8_init 8 = .ok (.newarray .int, 2) := by decide +kernel
theorem dX8_init_10 : decode cX8_init 10 = .ok (.putfield 9, 3) := by decide +kernel
theorem dX8_init_13 : decode cX8_init 13 = .ok (.aload_n 0, 1) := by decide +kernel
theorem dX8_init_14 : decode cX8_init 14 = .ok (.sipush 500, 3) := by decide +kernel
theorem dX8_init_17 : decode cX8_init 17 = .ok (.newarray .int, 2) := by decide +kernel
theorem dX8_init_19 : decode cX8_init 19 = .ok (.putfield 15, 3) := by decide +kernel
theorem dX8_init_22 : decode cX8_init 22 = .ok (.return_, 1) := by decide +kernel
theorem dX9_init_0 : decode cX9_init 0 = .ok (.aload_n 0, 1) := by decide +kernel
theorem dX9_init_1 : decode cX9_init 1 = .ok (.invokespecial 3, 3) := by decide +kernel
theorem dX9_init_4 : decode cX9_init 4 = .ok (.aload_n 0, 1) := by decide +kernel
theorem dX9_init_5 : decode cX9_init 5 = .ok (.iconst 3, 1) := by decide +kernel
theorem dX9_init_6 : decode cX9_init 6 = .ok (.newarray .int, 2) := by decide +kernel
theorem dX9_init_8 : decode cX9_init 8 = .ok (.putfield 11, 3) := by decide +kernel
theorem dX9_init_11 : decode cX9_init 11 = .ok (.aload_n 0, 1) := by decide +kernel
theorem dX9_init_12 : decode cX9_init 12 = .ok (.iconst 3, 1) := by decide +kernel
theorem dX9_init_13 : decode cX9_init 13 = .ok (.newarray .int, 2) := by decide +kernel
theorem dX9_init_15 : decode cX9_init 15 = .ok (.putfield 17, 3) := by decide +kernel
theorem dX9_init_18 : decode cX9_init 18 = .ok (.return_, 1) := by decide +kernel
def H_X7_init (h : hp) (a0 : Nat) (q1 : Nat) : hp := pO (n_arr h 0 q1 500) 7 0 a0 (some q1)
def F_X7_init (h : hp) (a0 : Nat) (q1 : Nat) : Prop := q_K (h).1 q1 = 99
theorem hk_X7_init {h : hp} {a0 : Nat} {q1 : Nat} (hF : F_X7_init h a0 q1) {a9 c9 : Nat} (k9 : q_K h.1 a9 = c9) (hc : c9 ≠ 99) : q_K (H_X7_init h a0 q1).1 a9 = c9 := by
  have f2 := hF
  exact (nK_arr f2 k9 hc)
theorem ho_X7_init {h : hp} {a0 : Nat} {q1 : Nat} (hF : F_X7_init h a0 q1) {a9 c9 : Nat} (k9 : q_K h.1 a9 = c9) (hc : c9 ≠ 99) (hne : a9 ≠ a0) {c8 k8 : Nat} : q_O (H_X7_init h a0 q1).1 c8 k8 a9 = q_O h.1 c8 k8 a9 := by
  have f2 := hF
  exact (so_na hne).trans ((nO_arr).trans (rfl))
theorem hs_X7_init_0 {h : hp} {a0 : Nat} {q1 : Nat} (hF : F_X7_init h a0 q1) (k0 : q_K h.1 a0 = 7) : q_O (H_X7_init h a0 q1).1 7 0 a0 = some q1 := by
  have f2 := hF
  exact so_eq
set_option maxHeartbeats 4000000 in
set_option maxRecDepth 100000 in
theorem i_X7_init {l : Launch} {D : va_G} {cy : Nat → ClassId} {d : Nat} {h : hp} (wt : True) (hl : l.stackTraces = false) (hd : 1 ≤ d) {a0 : Nat} (k0 : q_K h.1 a0 = 7) : Cal l D cy m_X7_init d 1 500 [.ref a0] h (fun v h' => ∃ (q1 : Nat), F_X7_init h a0 q1 ∧ v = none ∧ h' = H_X7_init h a0 q1) (fun _ _ => False) := by
  refine Cal.of (by decide +kernel) (Nat.le_of_ble_eq_true rfl) hl ?_
  refine a_aload_n 0 0 (μ := m_X7_init) (pc := 0) dX7_init_0 rfl rfl ?_
  refine a_objI (μ := m_X7_init) (pc := 1) dX7_init_1 oi_X7_3 oi_i oi_c (Nat.le_of_ble_eq_true rfl) (by omega) ?_
  refine a_aload_n 0 0 (μ := m_X7_init) (pc := 4) dX7_init_4 rfl rfl ?_
  refine a_sipush (v := 500) (μ := m_X7_init) (pc := 5) dX7_init_5 (by decide) ?_
  refine a_newI 0 (ty := .int) (rc' := 0) (rs' := 0) (μ := m_X7_init) (pc := 8) dX7_init_8 rfl (by decide) ac_0 (by decide) (by decide) (by decide) (by decide) (fun q1 f2 => ?_)
  show AW _ _ _ _ _ _ _ _ _ _ _ _ (n_arr h 0 q1 500)
  have k_3 : q_K (n_arr h 0 q1 500).1 a0 = 7 := nK_arr f2 k0 (by decide)
  have k_4 : q_K (n_arr h 0 q1 500).1 q1 = 13 := nK_arn
  refine i_putF (μ := m_X7_init) (pc := 10) dX7_init_10 fl_X7_9 pf_X7_9 flF_7_0 rfl ir_7_0 id_7_0 rfl rfl k_3 ?_
  have k_5 : q_K (pO (n_arr h 0 q1 500) 7 0 a0 (some q1)).1 a0 = 7 := k_3
  exact a_vret (μ := m_X7_init) (pc := 13) dX7_init_13 rfl ⟨q1, f2, rfl, rfl⟩
def H_X8_init (h : hp) (a0 : Nat) (q1 : Nat) (q6 : Nat) : hp := pO (n_arr (pO (n_arr h 0 q1 500) 8 0 a0 (some q1)) 0 q6 500) 8 1 a0 (some q6)
def F_X8_init (h : hp) (a0 : Nat) (q1 : Nat) (q6 : Nat) : Prop := q_K (h).1 q1 = 99 ∧ q_K (pO (n_arr h 0 q1 500) 8 0 a0 (some q1)).1 q6 = 99
theorem hk_X8_init {h : hp} {a0 : Nat} {q1 : Nat} {q6 : Nat} (hF : F_X8_init h a0 q1 q6) {a9 c9 : Nat} (k9 : q_K h.1 a9 = c9) (hc : c9 ≠ 99) : q_K (H_X8_init h a0 q1 q6).1 a9 = c9 := by
  obtain ⟨f2, f7⟩ := hF
  exact (nK_arr f7 (nK_arr f2 k9 hc) hc)
theorem ho_X8_init {h : hp} {a0 : Nat} {q1 : Nat} {q6 : Nat} (hF : F_X8_init h a0 q1 q6) {a9 c9 : Nat} (k9 : q_K h.1 a9 = c9) (hc : c9 ≠ 99) (hne : a9 ≠ a0) {c8 k8 : Nat} : q_O (H_X8_init h a0 q1 q6).1 c8 k8 a9 = q_O h.1 c8 k8 a9 := by
  obtain ⟨f2, f7⟩ := hF
  exact (so_na hne).trans ((nO_arr).trans ((so_na hne).trans ((nO_arr).trans (rfl))))
theorem hs_X8_init_0 {h : hp} {a0 : Nat} {q1 : Nat} {q6 : Nat} (hF : F_X8_init h a0 q1 q6) (k0 : q_K h.1 a0 = 8) : q_O (H_X8_init h a0 q1 q6).1 8 0 a0 = some q1 := by
  obtain ⟨f2, f7⟩ := hF
  exact (so_ne (by decide)).trans ((nO_arr).trans (so_eq))
theorem hs_X8_init_1 {h : hp} {a0 : Nat} {q1 : Nat} {q6 : Nat} (hF : F_X8_init h a0 q1 q6) (k0 : q_K h.1 a0 = 8) : q_O (H_X8_init h a0 q1 q6).1 8 1 a0 = some q6 := by
  obtain ⟨f2, f7⟩ := hF
  exact so_eq
set_option maxHeartbeats 4000000 in
set_option maxRecDepth 100000 in
theorem i_X8_init {l : Launch} {D : va_G} {cy : Nat → ClassId} {d : Nat} {h : hp} (wt : True) (hl : l.stackTraces = false) (hd : 1 ≤ d) {a0 : Nat} (k0 : q_K h.1 a0 = 8) : Cal l D cy m_X8_init d 2 1000 [.ref a0] h (fun v h' => ∃ (q1 : Nat) (q6 : Nat), F_X8_init h a0 q1 q6 ∧ v = none ∧ h' = H_X8_init h a0 q1 q6) (fun _ _ => False) := by
  refine Cal.of (by decide +kernel) (Nat.le_of_ble_eq_true rfl) hl ?_
  refine a_aload_n 0 0 (μ := m_X8_init) (pc := 0) dX8_init_0 rfl rfl ?_
  refine a_objI (μ := m_X8_init) (pc := 1) dX8_init_1 oi_X8_3 oi_i oi_c (Nat.le_of_ble_eq_true rfl) (by omega) ?_
  refine a_aload_n 0 0 (μ := m_X8_init) (pc := 4) dX8_init_4 rfl rfl ?_
  refine a_sipush (v := 500) (μ := m_X8_init) (pc := 5) dX8_init_5 (by decide) ?_
  refine a_newI 0 (ty := .int) (rc' := 1) (rs' := 500) (μ := m_X8_init) (pc := 8) dX8_init_8 rfl (by decide) ac_0 (by decide) (by decide) (by decide) (by decide) (fun q1 f2 => ?_)
  show AW _ _ _ _ _ _ _ _ _ _ _ _ (n_arr h 0 q1 500)
  have k_3 : q_K (n_arr h 0 q1 500).1 a0 = 8 := nK_arr f2 k0 (by decide)
  have k_4 : q_K (n_arr h 0 q1 500).1 q1 = 13 := nK_arn
  refine i_putF (μ := m_X8_init) (pc := 10) dX8_init_10 fl_X8_9 pf_X8_9 flF_8_0 rfl ir_8_0 id_8_0 rfl rfl k_3 ?_
  have k_5 : q_K (pO (n_arr h 0 q1 500) 8 0 a0 (some q1)).1 a0 = 8 := k_3
  refine a_aload_n 0 0 (μ := m_X8_init) (pc := 13) dX8_init_13 rfl rfl ?_
  refine a_sipush (v := 500) (μ := m_X8_init) (pc := 14) dX8_init_14 (by decide) ?_
  refine a_newI 0 (ty := .int) (rc' := 0) (rs' := 0) (μ := m_X8_init) (pc := 17) dX8_init_17 rfl (by decide) ac_0 (by decide) (by decide) (by decide) (by decide) (fun q6 f7 => ?_)
  show AW _ _ _ _ _ _ _ _ _ _ _ _ (n_arr (pO (n_arr h 0 q1 500) 8 0 a0 (some q1)) 0 q6 500)
  have k_8 : q_K (n_arr (pO (n_arr h 0 q1 500) 8 0 a0 (some q1)) 0 q6 500).1 a0 = 8 := nK_arr f7 k_5 (by decide)
  have k_9 : q_K (n_arr (pO (n_arr h 0 q1 500) 8 0 a0 (some q1)) 0 q6 500).1 q6 = 13 := nK_arn
  refine i_putF (μ := m_X8_init) (pc := 19) dX8_init_19 fl_X8_15 pf_X8_15 flF_8_1 rfl ir_8_1 id_8_1 rfl rfl k_8 ?_
  have k_10 : q_K (pO (n_arr (pO (n_arr h 0 q1 500) 8 0 a0 (some q1)) 0 q6 500) 8 1 a0 (some q6)).1 a0 = 8 := k_8
  exact a_vret (μ := m_X8_init) (pc := 22) dX8_init_22 rfl ⟨q1, q6, ⟨f2, f7⟩, rfl, rfl⟩
def H_X5_init (h : hp) (a0 : Nat) : hp := pI (pI (pI h 5 0 a0 8) 5 1 a0 1) 5 2 a0 1
def F_X5_init (h : hp) (a0 : Nat) : Prop := True
theorem hk_X5_init {h : hp} {a0 : Nat} (hF : F_X5_init h a0 ) {a9 c9 : Nat} (k9 : q_K h.1 a9 = c9) (hc : c9 ≠ 99) : q_K (H_X5_init h a0 ).1 a9 = c9 := by
  exact k9
theorem ho_X5_init {h : hp} {a0 : Nat} (hF : F_X5_init h a0 ) {a9 c9 : Nat} (k9 : q_K h.1 a9 = c9) (hc : c9 ≠ 99) (hne : a9 ≠ a0) {c8 k8 : Nat} : q_O (H_X5_init h a0 ).1 c8 k8 a9 = q_O h.1 c8 k8 a9 := by
  exact (nO_pI).trans ((nO_pI).trans ((nO_pI).trans (rfl)))
set_option maxHeartbeats 4000000 in
set_option maxRecDepth 100000 in
theorem i_X5_init {l : Launch} {D : va_G} {cy : Nat → ClassId} {d : Nat} {h : hp} (wt : True) (hl : l.stackTraces = false) (hd : 1 ≤ d) {a0 : Nat} (k0 : q_K h.1 a0 = 5) : Cal l D cy m_X5_init d 0 0 [.ref a0] h (fun v h' => F_X5_init h a0  ∧ v = none ∧ h' = H_X5_init h a0 ) (fun _ _ => False) := by
  refine Cal.of (by decide +kernel) (Nat.le_of_ble_eq_true rfl) hl ?_
  refine a_aload_n 0 0 (μ := m_X5_init) (pc := 0) dX5_init_0 rfl rfl ?_
  refine a_objI (μ := m_X5_init) (pc := 1) dX5_init_1 oi_X5_3 oi_i oi_c (Nat.le_of_ble_eq_true rfl) (by omega) ?_
  refine a_aload_n 0 0 (μ := m_X5_init) (pc := 4) dX5_init_4 rfl rfl ?_
  refine a_bipush (v := 8) (μ := m_X5_init) (pc := 5) dX5_init_5 (by decide) ?_
  refine i_putI (μ := m_X5_init) (pc := 7) dX5_init_7 fl_X5_11 flw_5_0 (by decide) (by decide) ir_5_0 k0 ?_
  have k_1 : q_K (pI h 5 0 a0 8).1 a0 = 5 := k0
  refine a_aload_n 0 0 (μ := m_X5_init) (pc := 10) dX5_init_10 rfl rfl ?_
  refine a_iconst (v := 1) (μ := m_X5_init) (pc := 11) dX5_init_11 (by decide) ?_
  refine i_putI (μ := m_X5_init) (pc := 12) dX5_init_12 fl_X5_17 flw_5_1 (by decide) (by decide) ir_5_1 k_1 ?_
  have k_2 : q_K (pI (pI h 5 0 a0 8) 5 1 a0 1).1 a0 = 5 := k_1
  refine a_aload_n 0 0 (μ := m_X5_init) (pc := 15) dX5_init_15 rfl rfl ?_
  refine a_iconst (v := 1) (μ := m_X5_init) (pc := 16) dX5_init_16 (by decide) ?_
  refine i_putI (μ := m_X5_init) (pc := 17) dX5_init_17 fl_X5_21 flw_5_2 (by decide) (by decide) ir_5_2 k_2 ?_
  have k_3 : q_K (pI (pI (pI h 5 0 a0 8) 5 1 a0 1) 5 2 a0 1).1 a0 = 5 := k_2
  exact a_vret (μ := m_X5_init) (pc := 20) dX5_init_20 rfl ⟨trivial, rfl, rfl⟩
def H_X6_init (h : hp) (a0 : Nat) (q1 : Nat) : hp := pO (n_arr h 2 q1 3) 6 3 a0 (some q1)
def F_X6_init (h : hp) (a0 : Nat) (q1 : Nat) : Prop := q_K (h).1 q1 = 99
theorem hk_X6_init {h : hp} {a0 : Nat} {q1 : Nat} (hF : F_X6_init h a0 q1) {a9 c9 : Nat} (k9 : q_K h.1 a9 = c9) (hc : c9 ≠ 99) : q_K (H_X6_init h a0 q1).1 a9 = c9 := by
  have f2 := hF
  exact (nK_arr f2 k9 hc)
theorem ho_X6_init {h : hp} {a0 : Nat} {q1 : Nat} (hF : F_X6_init h a0 q1) {a9 c9 : Nat} (k9 : q_K h.1 a9 = c9) (hc : c9 ≠ 99) (hne : a9 ≠ a0) {c8 k8 : Nat} : q_O (H_X6_init h a0 q1).1 c8 k8 a9 = q_O h.1 c8 k8 a9 := by
  have f2 := hF
  exact (so_na hne).trans ((nO_arr).trans (rfl))
theorem hs_X6_init_3 {h : hp} {a0 : Nat} {q1 : Nat} (hF : F_X6_init h a0 q1) (k0 : q_K h.1 a0 = 6) : q_O (H_X6_init h a0 q1).1 6 3 a0 = some q1 := by
  have f2 := hF
  exact so_eq
set_option maxHeartbeats 4000000 in
set_option maxRecDepth 100000 in
theorem i_X6_init {l : Launch} {D : va_G} {cy : Nat → ClassId} {d : Nat} {h : hp} (wt : True) (hl : l.stackTraces = false) (hd : 1 ≤ d) {a0 : Nat} (k0 : q_K h.1 a0 = 6) : Cal l D cy m_X6_init d 1 3 [.ref a0] h (fun v h' => ∃ (q1 : Nat), F_X6_init h a0 q1 ∧ v = none ∧ h' = H_X6_init h a0 q1) (fun _ _ => False) := by
  refine Cal.of (by decide +kernel) (Nat.le_of_ble_eq_true rfl) hl ?_
  refine a_aload_n 0 0 (μ := m_X6_init) (pc := 0) dX6_init_0 rfl rfl ?_
  refine a_objI (μ := m_X6_init) (pc := 1) dX6_init_1 oi_X6_3 oi_i oi_c (Nat.le_of_ble_eq_true rfl) (by omega) ?_
  refine a_aload_n 0 0 (μ := m_X6_init) (pc := 4) dX6_init_4 rfl rfl ?_
  refine a_iconst (v := 3) (μ := m_X6_init) (pc := 5) dX6_init_5 (by decide) ?_
  refine a_newI 2 (ty := .boolean) (rc' := 0) (rs' := 0) (μ := m_X6_init) (pc := 6) dX6_init_6 rfl (by decide) ac_2 (by decide) (by decide) (by decide) (by decide) (fun q1 f2 => ?_)
  show AW _ _ _ _ _ _ _ _ _ _ _ _ (n_arr h 2 q1 3)
  have k_3 : q_K (n_arr h 2 q1 3).1 a0 = 6 := nK_arr f2 k0 (by decide)
  have k_4 : q_K (n_arr h 2 q1 3).1 q1 = 15 := nK_arn
  refine i_putF (μ := m_X6_init) (pc := 8) dX6_init_8 fl_X6_11 pf_X6_11 flF_6_3 rfl ir_6_3 id_6_3 rfl rfl k_3 ?_
  have k_5 : q_K (pO (n_arr h 2 q1 3) 6 3 a0 (some q1)).1 a0 = 6 := k_3
  exact a_vret (μ := m_X6_init) (pc := 11) dX6_init_11 rfl ⟨q1, f2, rfl, rfl⟩
def H_X9_init (h : hp) (a0 : Nat) (q1 : Nat) (q6 : Nat) : hp := pO (n_arr (pO (n_arr h 0 q1 3) 9 5 a0 (some q1)) 0 q6 3) 9 6 a0 (some q6)
def F_X9_init (h : hp) (a0 : Nat) (q1 : Nat) (q6 : Nat) : Prop := q_K (h).1 q1 = 99 ∧ q_K (pO (n_arr h 0 q1 3) 9 5 a0 (some q1)).1 q6 = 99
theorem hk_X9_init {h : hp} {a0 : Nat} {q1 : Nat} {q6 : Nat} (hF : F_X9_init h a0 q1 q6) {a9 c9 : Nat} (k9 : q_K h.1 a9 = c9) (hc : c9 ≠ 99) : q_K (H_X9_init h a0 q1 q6).1 a9 = c9 := by
  obtain ⟨f2, f7⟩ := hF
  exact (nK_arr f7 (nK_arr f2 k9 hc) hc)
theorem ho_X9_init {h : hp} {a0 : Nat} {q1 : Nat} {q6 : Nat} (hF : F_X9_init h a0 q1 q6) {a9 c9 : Nat} (k9 : q_K h.1 a9 = c9) (hc : c9 ≠ 99) (hne : a9 ≠ a0) {c8 k8 : Nat} : q_O (H_X9_init h a0 q1 q6).1 c8 k8 a9 = q_O h.1 c8 k8 a9 := by
  obtain ⟨f2, f7⟩ := hF
  exact (so_na hne).trans ((nO_arr).trans ((so_na hne).trans ((nO_arr).trans (rfl))))
theorem hs_X9_init_5 {h : hp} {a0 : Nat} {q1 : Nat} {q6 : Nat} (hF : F_X9_init h a0 q1 q6) (k0 : q_K h.1 a0 = 9) : q_O (H_X9_init h a0 q1 q6).1 9 5 a0 = some q1 := by
  obtain ⟨f2, f7⟩ := hF
  exact (so_ne (by decide)).trans ((nO_arr).trans (so_eq))
theorem hs_X9_init_6 {h : hp} {a0 : Nat} {q1 : Nat} {q6 : Nat} (hF : F_X9_init h a0 q1 q6) (k0 : q_K h.1 a0 = 9) : q_O (H_X9_init h a0 q1 q6).1 9 6 a0 = some q6 := by
  obtain ⟨f2, f7⟩ := hF
  exact so_eq
set_option maxHeartbeats 4000000 in
set_option maxRecDepth 100000 in
theorem i_X9_init {l : Launch} {D : va_G} {cy : Nat → ClassId} {d : Nat} {h : hp} (wt : True) (hl : l.stackTraces = false) (hd : 1 ≤ d) {a0 : Nat} (k0 : q_K h.1 a0 = 9) : Cal l D cy m_X9_init d 2 6 [.ref a0] h (fun v h' => ∃ (q1 : Nat) (q6 : Nat), F_X9_init h a0 q1 q6 ∧ v = none ∧ h' = H_X9_init h a0 q1 q6) (fun _ _ => False) := by
  refine Cal.of (by decide +kernel) (Nat.le_of_ble_eq_true rfl) hl ?_
  refine a_aload_n 0 0 (μ := m_X9_init) (pc := 0) dX9_init_0 rfl rfl ?_
  refine a_objI (μ := m_X9_init) (pc := 1) dX9_init_1 oi_X9_3 oi_i oi_c (Nat.le_of_ble_eq_true rfl) (by omega) ?_
  refine a_aload_n 0 0 (μ := m_X9_init) (pc := 4) dX9_init_4 rfl rfl ?_
  refine a_iconst (v := 3) (μ := m_X9_init) (pc := 5) dX9_init_5 (by decide) ?_
  refine a_newI 0 (ty := .int) (rc' := 1) (rs' := 3) (μ := m_X9_init) (pc := 6) dX9_init_6 rfl (by decide) ac_0 (by decide) (by decide) (by decide) (by decide) (fun q1 f2 => ?_)
  show AW _ _ _ _ _ _ _ _ _ _ _ _ (n_arr h 0 q1 3)
  have k_3 : q_K (n_arr h 0 q1 3).1 a0 = 9 := nK_arr f2 k0 (by decide)
  have k_4 : q_K (n_arr h 0 q1 3).1 q1 = 13 := nK_arn
  refine i_putF (μ := m_X9_init) (pc := 8) dX9_init_8 fl_X9_11 pf_X9_11 flF_9_5 rfl ir_9_5 id_9_5 rfl rfl k_3 ?_
  have k_5 : q_K (pO (n_arr h 0 q1 3) 9 5 a0 (some q1)).1 a0 = 9 := k_3
  refine a_aload_n 0 0 (μ := m_X9_init) (pc := 11) dX9_init_11 rfl rfl ?_
  refine a_iconst (v := 3) (μ := m_X9_init) (pc := 12) dX9_init_12 (by decide) ?_
  refine a_newI 0 (ty := .int) (rc' := 0) (rs' := 0) (μ := m_X9_init) (pc := 13) dX9_init_13 rfl (by decide) ac_0 (by decide) (by decide) (by decide) (by decide) (fun q6 f7 => ?_)
  show AW _ _ _ _ _ _ _ _ _ _ _ _ (n_arr (pO (n_arr h 0 q1 3) 9 5 a0 (some q1)) 0 q6 3)
  have k_8 : q_K (n_arr (pO (n_arr h 0 q1 3) 9 5 a0 (some q1)) 0 q6 3).1 a0 = 9 := nK_arr f7 k_5 (by decide)
  have k_9 : q_K (n_arr (pO (n_arr h 0 q1 3) 9 5 a0 (some q1)) 0 q6 3).1 q6 = 13 := nK_arn
  refine i_putF (μ := m_X9_init) (pc := 15) dX9_init_15 fl_X9_17 pf_X9_17 flF_9_6 rfl ir_9_6 id_9_6 rfl rfl k_8 ?_
  have k_10 : q_K (pO (n_arr (pO (n_arr h 0 q1 3) 9 5 a0 (some q1)) 0 q6 3) 9 6 a0 (some q6)).1 a0 = 9 := k_8
  exact a_vret (μ := m_X9_init) (pc := 18) dX9_init_18 rfl ⟨q1, q6, ⟨f2, f7⟩, rfl, rfl⟩
def H_X3_init (h : hp) (a0 : Nat) (x1 : Int32) (q1 : Nat) : hp := pO (n_arr h 0 q1 x1.toNatClampNeg) 3 0 a0 (some q1)
def F_X3_init (h : hp) (a0 : Nat) (x1 : Int32) (q1 : Nat) : Prop := q_K (h).1 q1 = 99
theorem hk_X3_init {h : hp} {a0 : Nat} {x1 : Int32} {q1 : Nat} (hF : F_X3_init h a0 x1 q1) {a9 c9 : Nat} (k9 : q_K h.1 a9 = c9) (hc : c9 ≠ 99) : q_K (H_X3_init h a0 x1 q1).1 a9 = c9 := by
  have f2 := hF
  exact (nK_arr f2 k9 hc)
theorem ho_X3_init {h : hp} {a0 : Nat} {x1 : Int32} {q1 : Nat} (hF : F_X3_init h a0 x1 q1) {a9 c9 : Nat} (k9 : q_K h.1 a9 = c9) (hc : c9 ≠ 99) (hne : a9 ≠ a0) {c8 k8 : Nat} : q_O (H_X3_init h a0 x1 q1).1 c8 k8 a9 = q_O h.1 c8 k8 a9 := by
  have f2 := hF
  exact (so_na hne).trans ((nO_arr).trans (rfl))
theorem hs_X3_init_0 {h : hp} {a0 : Nat} {x1 : Int32} {q1 : Nat} (hF : F_X3_init h a0 x1 q1) (k0 : q_K h.1 a0 = 3) : q_O (H_X3_init h a0 x1 q1).1 3 0 a0 = some q1 := by
  have f2 := hF
  exact so_eq
set_option maxHeartbeats 4000000 in
set_option maxRecDepth 100000 in
theorem i_X3_init {l : Launch} {D : va_G} {cy : Nat → ClassId} {d : Nat} {h : hp} (wt : True) (hl : l.stackTraces = false) (hd : 1 ≤ d) {a0 : Nat} {x1 : Int32} (k0 : q_K h.1 a0 = 3) (hn0 : ¬ x1 < 0) (hn1 : x1.toNatClampNeg ≤ 1000000) : Cal l D cy m_X3_init d 1 x1.toNatClampNeg [.ref a0, .int x1] h (fun v h' => ∃ (q1 : Nat), F_X3_init h a0 x1 q1 ∧ v = none ∧ h' = H_X3_init h a0 x1 q1) (fun _ _ => False) := by
  refine Cal.of (by decide +kernel) (Nat.le_of_ble_eq_true rfl) hl ?_
  refine a_aload_n 0 0 (μ := m_X3_init) (pc := 0) dX3_init_0 rfl rfl ?_
  refine a_objI (μ := m_X3_init) (pc := 1) dX3_init_1 oi_X3_3 oi_i oi_c (Nat.le_of_ble_eq_true rfl) (by omega) ?_
  refine a_aload_n 0 0 (μ := m_X3_init) (pc := 4) dX3_init_4 rfl rfl ?_
  refine a_iload_n 1 1 (μ := m_X3_init) (pc := 5) dX3_init_5 rfl rfl ?_
  refine a_newI 0 (ty := .int) (rc' := 0) (rs' := 0) (μ := m_X3_init) (pc := 6) dX3_init_6 rfl (by decide) ac_0 hn0 hn1 (by decide) (by omega) (fun q1 f2 => ?_)
  show AW _ _ _ _ _ _ _ _ _ _ _ _ (n_arr h 0 q1 x1.toNatClampNeg)
  have k_3 : q_K (n_arr h 0 q1 x1.toNatClampNeg).1 a0 = 3 := nK_arr f2 k0 (by decide)
  have k_4 : q_K (n_arr h 0 q1 x1.toNatClampNeg).1 q1 = 13 := nK_arn
  refine i_putF (μ := m_X3_init) (pc := 8) dX3_init_8 fl_X3_9 pf_X3_9 flF_3_0 rfl ir_3_0 id_3_0 rfl rfl k_3 ?_
  have k_5 : q_K (pO (n_arr h 0 q1 x1.toNatClampNeg) 3 0 a0 (some q1)).1 a0 = 3 := k_3
  exact a_vret (μ := m_X3_init) (pc := 11) dX3_init_11 rfl ⟨q1, f2, rfl, rfl⟩
def H_X1_init (h : hp) (a0 : Nat) (a1 : Nat) (a2 : Nat) (b2_0 : Nat) : hp := pO (pO (pO h 1 0 a0 (some a1)) 1 1 a0 (some a2)) 1 2 a0 (some b2_0)
def F_X1_init (h : hp) (a0 : Nat) (a1 : Nat) (a2 : Nat) (b2_0 : Nat) : Prop := True
theorem hk_X1_init {h : hp} {a0 : Nat} {a1 : Nat} {a2 : Nat} {b2_0 : Nat} (hF : F_X1_init h a0 a1 a2 b2_0 ) {a9 c9 : Nat} (k9 : q_K h.1 a9 = c9) (hc : c9 ≠ 99) : q_K (H_X1_init h a0 a1 a2 b2_0 ).1 a9 = c9 := by
  exact k9
theorem ho_X1_init {h : hp} {a0 : Nat} {a1 : Nat} {a2 : Nat} {b2_0 : Nat} (hF : F_X1_init h a0 a1 a2 b2_0 ) {a9 c9 : Nat} (k9 : q_K h.1 a9 = c9) (hc : c9 ≠ 99) (hne : a9 ≠ a0) {c8 k8 : Nat} : q_O (H_X1_init h a0 a1 a2 b2_0 ).1 c8 k8 a9 = q_O h.1 c8 k8 a9 := by
  exact (so_na hne).trans ((so_na hne).trans ((so_na hne).trans (rfl)))
theorem hs_X1_init_0 {h : hp} {a0 : Nat} {a1 : Nat} {a2 : Nat} {b2_0 : Nat} (hF : F_X1_init h a0 a1 a2 b2_0 ) (k0 : q_K h.1 a0 = 1) : q_O (H_X1_init h a0 a1 a2 b2_0 ).1 1 0 a0 = some a1 := by
  exact (so_ne (by decide)).trans ((so_ne (by decide)).trans (so_eq))
theorem hs_X1_init_1 {h : hp} {a0 : Nat} {a1 : Nat} {a2 : Nat} {b2_0 : Nat} (hF : F_X1_init h a0 a1 a2 b2_0 ) (k0 : q_K h.1 a0 = 1) : q_O (H_X1_init h a0 a1 a2 b2_0 ).1 1 1 a0 = some a2 := by
  exact (so_ne (by decide)).trans (so_eq)
theorem hs_X1_init_2 {h : hp} {a0 : Nat} {a1 : Nat} {a2 : Nat} {b2_0 : Nat} (hF : F_X1_init h a0 a1 a2 b2_0 ) (k0 : q_K h.1 a0 = 1) : q_O (H_X1_init h a0 a1 a2 b2_0 ).1 1 2 a0 = some b2_0 := by
  exact so_eq
set_option maxHeartbeats 4000000 in
set_option maxRecDepth 100000 in
theorem i_X1_init {l : Launch} {D : va_G} {cy : Nat → ClassId} {d : Nat} {h : hp} (wt : True) (hl : l.stackTraces = false) (hd : 1 ≤ d) {a0 : Nat} {a1 : Nat} {a2 : Nat} {b2_0 : Nat} (k0 : q_K h.1 a0 = 1) (k1 : q_K h.1 a1 = 5) (k2 : q_K h.1 a2 = 3) (ho_b2_0 : q_O h.1 3 0 a2 = some b2_0) : Cal l D cy m_X1_init d 0 0 [.ref a0, .ref a1, .ref a2] h (fun v h' => F_X1_init h a0 a1 a2 b2_0  ∧ v = none ∧ h' = H_X1_init h a0 a1 a2 b2_0 ) (fun _ _ => False) := by
  refine Cal.of (by decide +kernel) (Nat.le_of_ble_eq_true rfl) hl ?_
  refine a_aload_n 0 0 (μ := m_X1_init) (pc := 0) dX1_init_0 rfl rfl ?_
  refine a_objI (μ := m_X1_init) (pc := 1) dX1_init_1 oi_X1_3 oi_i oi_c (Nat.le_of_ble_eq_true rfl) (by omega) ?_
  refine a_aload_n 0 0 (μ := m_X1_init) (pc := 4) dX1_init_4 rfl rfl ?_
  refine a_aload_n 1 1 (μ := m_X1_init) (pc := 5) dX1_init_5 rfl rfl ?_
  refine i_putF (μ := m_X1_init) (pc := 6) dX1_init_6 fl_X1_9 pf_X1_9 flF_1_0 rfl ir_1_0 id_1_0 rfl rfl k0 ?_
  have k_1 : q_K (pO h 1 0 a0 (some a1)).1 a0 = 1 := k0
  have k_2 : q_K (pO h 1 0 a0 (some a1)).1 a1 = 5 := k1
  have k_3 : q_K (pO h 1 0 a0 (some a1)).1 a2 = 3 := k2
  have o_4 : q_O (pO h 1 0 a0 (some a1)).1 3 0 a2 = some b2_0 := (so_ne (by decide)).trans ho_b2_0
  refine a_aload_n 0 0 (μ := m_X1_init) (pc := 9) dX1_init_9 rfl rfl ?_
  refine a_aload_n 2 2 (μ := m_X1_init) (pc := 10) dX1_init_10 rfl rfl ?_
  refine i_putF (μ := m_X1_init) (pc := 11) dX1_init_11 fl_X1_15 pf_X1_15 flF_1_1 rfl ir_1_1 id_1_1 rfl rfl k_1 ?_
  have k_5 : q_K (pO (pO h 1 0 a0 (some a1)) 1 1 a0 (some a2)).1 a0 = 1 := k_1
  have k_6 : q_K (pO (pO h 1 0 a0 (some a1)) 1 1 a0 (some a2)).1 a1 = 5 := k_2
  have k_7 : q_K (pO (pO h 1 0 a0 (some a1)) 1 1 a0 (some a2)).1 a2 = 3 := k_3
  have o_8 : q_O (pO (pO h 1 0 a0 (some a1)) 1 1 a0 (some a2)).1 3 0 a2 = some b2_0 := (so_ne (by decide)).trans o_4
  refine a_aload_n 0 0 (μ := m_X1_init) (pc := 14) dX1_init_14 rfl rfl ?_
  refine a_aload_n 2 2 (μ := m_X1_init) (pc := 15) dX1_init_15 rfl rfl ?_
  refine i_get (μ := m_X1_init) (pc := 16) dX1_init_16 fl_X1_19 ir_3_0 id_3_0 k_7 o_8 ?_
  refine i_putF (μ := m_X1_init) (pc := 19) dX1_init_19 fl_X1_25 pf_X1_25 flF_1_2 rfl ir_1_2 id_1_2 rfl rfl k_5 ?_
  have k_9 : q_K (pO (pO (pO h 1 0 a0 (some a1)) 1 1 a0 (some a2)) 1 2 a0 (some b2_0)).1 a0 = 1 := k_5
  have k_10 : q_K (pO (pO (pO h 1 0 a0 (some a1)) 1 1 a0 (some a2)) 1 2 a0 (some b2_0)).1 a1 = 5 := k_6
  have k_11 : q_K (pO (pO (pO h 1 0 a0 (some a1)) 1 1 a0 (some a2)) 1 2 a0 (some b2_0)).1 a2 = 3 := k_7
  have o_12 : q_O (pO (pO (pO h 1 0 a0 (some a1)) 1 1 a0 (some a2)) 1 2 a0 (some b2_0)).1 3 0 a2 = some b2_0 := (so_ne (by decide)).trans o_8
  have o_13 : q_O (pO (pO (pO h 1 0 a0 (some a1)) 1 1 a0 (some a2)) 1 2 a0 (some b2_0)).1 1 2 a0 = some b2_0 := so_eq
  exact a_vret (μ := m_X1_init) (pc := 22) dX1_init_22 rfl ⟨trivial, rfl, rfl⟩
