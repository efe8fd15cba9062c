/-! 59.kX6 (by gen_safe.py) -/
set_option maxHeartbeats 4000000 in
theorem k_X6_readValue {ad : List Nat} {h : hp} (L : Lay TLx ad h) {δ0 : dp} {N : Nat} (hN : 10000000 ≤ N) {a0 : Nat} {a1 : Nat} {x2 : Int32} (k_a0 : q_K h.1 a0 = 6) (k_a1 : q_K h.1 a1 = 7) {δ : dp} (z0 : (q_I δ 7 5 a1).toInt = 0 → 2 ≤ (q_I δ 6 0 a0).toInt ∧ (q_I δ 6 0 a0).toInt ≤ 16 ∧ 1 ≤ (q_I δ 6 2 a0).toInt ∧ (q_I δ 6 2 a0).toInt ≤ 5) (I : CI ad h.1 δ0 δ) : ok (D_X6_readValue N h.1 a0 a1 x2 δ) (fun r => CI ad h.1 δ0 r ∧ (kp [(6, 0), (6, 1), (6, 2), (7, 3), (7, 4), (7, 5), (7, 6)] δ r ∧ q_V r = q_V δ) ∧ ((q_I r 7 5 a1).toInt = 0 → 2 ≤ (q_I r 6 0 a0).toInt ∧ (q_I r 6 0 a0).toInt ≤ 16 ∧ 1 ≤ (q_I r 6 2 a0).toInt ∧ (q_I r 6 2 a0).toInt ≤ 5)) := by
  unfold D_X6_readValue
  have f1 := ti_b (q_I δ 7 5 a1)
  have f2 := ti_b (q_I δ 6 0 a0)
  have f3 := ti_b (q_I δ 6 2 a0)
  have f4 := ti_b x2
  refine ok_ite (fun h5 => ?_) (fun h5 => ?_)
  · have c6 : x2.toInt = (0 : Int) := o_eq h5
    refine ok_bind (k_X7_readNumber L hN (a0 := a1) (x1 := (2 : Int32)) (x2 := (16 : Int32)) k_a1 I) (fun r7 hr8 => ?_)
    obtain ⟨i9, ⟨u14, v15⟩, p10, p11, p12, p13⟩ := hr8
    have u16 := kp_t kp_r u14
    have v17 := v15.trans rfl
    have f18 := ti_b r7.1
    have f19 := ti_b (q_I r7.2 7 5 a1)
    replace p13 : ((q_I r7.2 7 5 a1).toInt = 0 → (2 : Int) ≤ (r7.1).toInt ∧ (r7.1).toInt ≤ (16 : Int)) := p13
    have f20 := ti_b r7.1
    refine ok_bdv (fun d21 e22 => ?_)
    have i23 : CI ad h.1 δ0 d21 := by rw [e22]; exact cs_6_0 L i9
    have u24 := kp_I u16 e22
    have v25 : q_V d21 = q_V δ := (show q_V d21 = q_V r7.2 by rw [e22]; rfl).trans v17
    unfold J_X6_readValue_71
    have f26 := ti_b (q_I d21 7 5 a1)
    have f27 : (q_I d21 7 5 a1).toInt = (q_I r7.2 7 5 a1).toInt := congrArg Int32.toInt (by rw [e22]; exact rI_o (by decide))
    have f28 := ti_b (q_I d21 6 0 a0)
    have f29 : (q_I d21 6 0 a0).toInt = r7.1.toInt := congrArg Int32.toInt (show q_I d21 6 0 a0 = r7.1 by rw [e22]; exact rI_s)
    have f30 := ti_b (q_I d21 6 2 a0)
    have f31 : (q_I d21 6 2 a0).toInt = (q_I r7.2 6 2 a0).toInt := congrArg Int32.toInt (by rw [e22]; exact rI_o (by decide))
    have f32 := ti_b (q_I r7.2 6 2 a0)
    have f33 : (q_I r7.2 6 2 a0).toInt = (q_I δ 6 2 a0).toInt := congrArg Int32.toInt (u14 6 2 a0 (by decide))
    exact ok_some (show CI ad h.1 δ0 d21 ∧ (kp [(6, 0), (6, 1), (6, 2), (7, 3), (7, 4), (7, 5), (7, 6)] δ d21 ∧ q_V d21 = q_V δ) ∧ ((q_I d21 7 5 a1).toInt = 0 → 2 ≤ (q_I d21 6 0 a0).toInt ∧ (q_I d21 6 0 a0).toInt ≤ 16 ∧ 1 ≤ (q_I d21 6 2 a0).toInt ∧ (q_I d21 6 2 a0).toInt ≤ 5) from ⟨i23, ⟨kp_w (by decide) u24, v25⟩, by first | assumption | omega⟩)
  · have c34 : x2.toInt ≠ (0 : Int) := o_ne h5
    refine ok_ite (fun h35 => ?_) (fun h35 => ?_)
    · have c36 : x2.toInt = (2 : Int) := o_eq h35
      refine ok_bind (k_X7_readNumber L hN (a0 := a1) (x1 := (1 : Int32)) (x2 := (5 : Int32)) k_a1 I) (fun r37 hr38 => ?_)
      obtain ⟨i39, ⟨u44, v45⟩, p40, p41, p42, p43⟩ := hr38
      have u46 := kp_t kp_r u44
      have v47 := v45.trans rfl
      have f48 := ti_b r37.1
      have f49 := ti_b (q_I r37.2 7 5 a1)
      replace p43 : ((q_I r37.2 7 5 a1).toInt = 0 → (1 : Int) ≤ (r37.1).toInt ∧ (r37.1).toInt ≤ (5 : Int)) := p43
      have f50 := ti_b r37.1
      refine ok_bdv (fun d51 e52 => ?_)
      have i53 : CI ad h.1 δ0 d51 := by rw [e52]; exact cs_6_2 L i39
      have u54 := kp_I u46 e52
      have v55 : q_V d51 = q_V δ := (show q_V d51 = q_V r37.2 by rw [e52]; rfl).trans v47
      unfold J_X6_readValue_71
      have f56 := ti_b (q_I d51 7 5 a1)
      have f57 : (q_I d51 7 5 a1).toInt = (q_I r37.2 7 5 a1).toInt := congrArg Int32.toInt (by rw [e52]; exact rI_o (by decide))
      have f58 := ti_b (q_I d51 6 0 a0)
      have f59 : (q_I d51 6 0 a0).toInt = (q_I r37.2 6 0 a0).toInt := congrArg Int32.toInt (by rw [e52]; exact rI_o (by decide))
      have f60 := ti_b (q_I r37.2 6 0 a0)
      have f61 : (q_I r37.2 6 0 a0).toInt = (q_I δ 6 0 a0).toInt := congrArg Int32.toInt (u44 6 0 a0 (by decide))
      have f62 := ti_b (q_I d51 6 2 a0)
      have f63 : (q_I d51 6 2 a0).toInt = r37.1.toInt := congrArg Int32.toInt (show q_I d51 6 2 a0 = r37.1 by rw [e52]; exact rI_s)
      exact ok_some (show CI ad h.1 δ0 d51 ∧ (kp [(6, 0), (6, 1), (6, 2), (7, 3), (7, 4), (7, 5), (7, 6)] δ d51 ∧ q_V d51 = q_V δ) ∧ ((q_I d51 7 5 a1).toInt = 0 → 2 ≤ (q_I d51 6 0 a0).toInt ∧ (q_I d51 6 0 a0).toInt ≤ 16 ∧ 1 ≤ (q_I d51 6 2 a0).toInt ∧ (q_I d51 6 2 a0).toInt ≤ 5) from ⟨i53, ⟨kp_w (by decide) u54, v55⟩, by first | assumption | omega⟩)
    · have c64 : x2.toInt ≠ (2 : Int) := o_ne h35
      refine ok_bind (k_X7_readWord L hN (a0 := a1) k_a1 I) (fun r65 hr66 => ?_)
      obtain ⟨i67, ⟨u68, v69⟩⟩ := hr66
      have u70 := kp_t kp_r u68
      have v71 := v69.trans rfl
      refine ok_bind (k_X7_wordIs L hN (a0 := a1) (a1 := 3) k_a1 (show 3 < 16 by first | assumption | omega) i67) (fun r72 hr73 => ?_)
      obtain ⟨i74, p75⟩ := hr73
      try rw [i74]
      have f76 := bo_t p75
      have f77 := ti_b r72.1
      refine ok_gp (show bo r72.1 by first | assumption | exact bo_0 | exact bo_1) ?_
      refine ok_bdv (fun d78 e79 => ?_)
      have i80 : CI ad h.1 δ0 d78 := by rw [e79]; exact cs_6_1 L i67 k_a0 (show 0 ≤ r72.1.toInt by omega) (show r72.1.toInt ≤ 1 by omega)
      have u81 := kp_I u70 e79
      have v82 : q_V d78 = q_V δ := (show q_V d78 = q_V r65 by rw [e79]; rfl).trans v71
      have f83 := cb_6_1 i80 k_a0
      have f84 : (q_I d78 6 1 a0).toInt = r72.1.toInt := congrArg Int32.toInt (show q_I d78 6 1 a0 = r72.1 by rw [e79]; exact rI_s)
      refine ok_ite (fun h85 => ?_) (fun h85 => ?_)
      · have c86 : (q_I d78 6 1 a0).toInt = (0 : Int) := o_eq h85
        refine ok_bind (k_X7_wordIs L hN (a0 := a1) (a1 := 4) k_a1 (show 4 < 16 by first | assumption | omega) i80) (fun r87 hr88 => ?_)
        obtain ⟨i89, p90⟩ := hr88
        try rw [i89]
        have f91 := bo_t p90
        have f92 := ti_b r87.1
        refine ok_ite (fun h93 => ?_) (fun h93 => ?_)
        · have c94 : r87.1.toInt = (0 : Int) := o_eq h93
          refine ok_bind (k_X7_refuse L hN (a0 := a1) (x1 := (1 : Int32)) k_a1 (show (1 : Int) ≠ 0 by first | assumption | omega) i80) (fun r95 hr96 => ?_)
          obtain ⟨i97, ⟨u99, v100⟩, p98⟩ := hr96
          have u101 := kp_t u81 u99
          have v102 := v100.trans v82
          have f103 := ti_b (q_I r95 7 5 a1)
          unfold J_X6_readValue_71
          have f104 := ti_b (q_I r95 6 0 a0)
          have f105 : (q_I r95 6 0 a0).toInt = (q_I d78 6 0 a0).toInt := congrArg Int32.toInt (u99 6 0 a0 (by decide))
          have f106 := ti_b (q_I d78 6 0 a0)
          have f107 : (q_I d78 6 0 a0).toInt = (q_I r65 6 0 a0).toInt := congrArg Int32.toInt (by rw [e79]; exact rI_o (by decide))
          have f108 := ti_b (q_I r65 6 0 a0)
          have f109 : (q_I r65 6 0 a0).toInt = (q_I δ 6 0 a0).toInt := congrArg Int32.toInt (u68 6 0 a0 (by decide))
          have f110 := ti_b (q_I r95 6 2 a0)
          have f111 : (q_I r95 6 2 a0).toInt = (q_I d78 6 2 a0).toInt := congrArg Int32.toInt (u99 6 2 a0 (by decide))
          have f112 := ti_b (q_I d78 6 2 a0)
          have f113 : (q_I d78 6 2 a0).toInt = (q_I r65 6 2 a0).toInt := congrArg Int32.toInt (by rw [e79]; exact rI_o (by decide))
          have f114 := ti_b (q_I r65 6 2 a0)
          have f115 : (q_I r65 6 2 a0).toInt = (q_I δ 6 2 a0).toInt := congrArg Int32.toInt (u68 6 2 a0 (by decide))
          exact ok_some (show CI ad h.1 δ0 r95 ∧ (kp [(6, 0), (6, 1), (6, 2), (7, 3), (7, 4), (7, 5), (7, 6)] δ r95 ∧ q_V r95 = q_V δ) ∧ ((q_I r95 7 5 a1).toInt = 0 → 2 ≤ (q_I r95 6 0 a0).toInt ∧ (q_I r95 6 0 a0).toInt ≤ 16 ∧ 1 ≤ (q_I r95 6 2 a0).toInt ∧ (q_I r95 6 2 a0).toInt ≤ 5) from ⟨i97, ⟨kp_w (by decide) u101, v102⟩, by first | assumption | omega⟩)
        · have c116 : r87.1.toInt ≠ (0 : Int) := o_ne h93
          unfold J_X6_readValue_71
          have f117 := ti_b (q_I d78 7 5 a1)
          have f118 : (q_I d78 7 5 a1).toInt = (q_I r65 7 5 a1).toInt := congrArg Int32.toInt (by rw [e79]; exact rI_o (by decide))
          have f119 := ti_b (q_I r65 7 5 a1)
          have f120 : (q_I r65 7 5 a1).toInt = (q_I δ 7 5 a1).toInt := congrArg Int32.toInt (u68 7 5 a1 (by decide))
          have f121 := ti_b (q_I d78 6 0 a0)
          have f122 : (q_I d78 6 0 a0).toInt = (q_I r65 6 0 a0).toInt := congrArg Int32.toInt (by rw [e79]; exact rI_o (by decide))
          have f123 := ti_b (q_I r65 6 0 a0)
          have f124 : (q_I r65 6 0 a0).toInt = (q_I δ 6 0 a0).toInt := congrArg Int32.toInt (u68 6 0 a0 (by decide))
          have f125 := ti_b (q_I d78 6 2 a0)
          have f126 : (q_I d78 6 2 a0).toInt = (q_I r65 6 2 a0).toInt := congrArg Int32.toInt (by rw [e79]; exact rI_o (by decide))
          have f127 := ti_b (q_I r65 6 2 a0)
          have f128 : (q_I r65 6 2 a0).toInt = (q_I δ 6 2 a0).toInt := congrArg Int32.toInt (u68 6 2 a0 (by decide))
          exact ok_some (show CI ad h.1 δ0 d78 ∧ (kp [(6, 0), (6, 1), (6, 2), (7, 3), (7, 4), (7, 5), (7, 6)] δ d78 ∧ q_V d78 = q_V δ) ∧ ((q_I d78 7 5 a1).toInt = 0 → 2 ≤ (q_I d78 6 0 a0).toInt ∧ (q_I d78 6 0 a0).toInt ≤ 16 ∧ 1 ≤ (q_I d78 6 2 a0).toInt ∧ (q_I d78 6 2 a0).toInt ≤ 5) from ⟨i80, ⟨kp_w (by decide) u81, v82⟩, by first | assumption | omega⟩)
      · have c129 : (q_I d78 6 1 a0).toInt ≠ (0 : Int) := o_ne h85
        unfold J_X6_readValue_71
        have f130 := ti_b (q_I d78 7 5 a1)
        have f131 : (q_I d78 7 5 a1).toInt = (q_I r65 7 5 a1).toInt := congrArg Int32.toInt (by rw [e79]; exact rI_o (by decide))
        have f132 := ti_b (q_I r65 7 5 a1)
        have f133 : (q_I r65 7 5 a1).toInt = (q_I δ 7 5 a1).toInt := congrArg Int32.toInt (u68 7 5 a1 (by decide))
        have f134 := ti_b (q_I d78 6 0 a0)
        have f135 : (q_I d78 6 0 a0).toInt = (q_I r65 6 0 a0).toInt := congrArg Int32.toInt (by rw [e79]; exact rI_o (by decide))
        have f136 := ti_b (q_I r65 6 0 a0)
        have f137 : (q_I r65 6 0 a0).toInt = (q_I δ 6 0 a0).toInt := congrArg Int32.toInt (u68 6 0 a0 (by decide))
        have f138 := ti_b (q_I d78 6 2 a0)
        have f139 : (q_I d78 6 2 a0).toInt = (q_I r65 6 2 a0).toInt := congrArg Int32.toInt (by rw [e79]; exact rI_o (by decide))
        have f140 := ti_b (q_I r65 6 2 a0)
        have f141 : (q_I r65 6 2 a0).toInt = (q_I δ 6 2 a0).toInt := congrArg Int32.toInt (u68 6 2 a0 (by decide))
        exact ok_some (show CI ad h.1 δ0 d78 ∧ (kp [(6, 0), (6, 1), (6, 2), (7, 3), (7, 4), (7, 5), (7, 6)] δ d78 ∧ q_V d78 = q_V δ) ∧ ((q_I d78 7 5 a1).toInt = 0 → 2 ≤ (q_I d78 6 0 a0).toInt ∧ (q_I d78 6 0 a0).toInt ≤ 16 ∧ 1 ≤ (q_I d78 6 2 a0).toInt ∧ (q_I d78 6 2 a0).toInt ≤ 5) from ⟨i80, ⟨kp_w (by decide) u81, v82⟩, by first | assumption | omega⟩)
set_option maxHeartbeats 4000000 in
theorem k_X6_readClause {ad : List Nat} {h : hp} (L : Lay TLx ad h) {δ0 : dp} {N : Nat} (hN : 10000000 ≤ N) {a0 : Nat} {a1 : Nat} (k_a0 : q_K h.1 a0 = 6) (k_a1 : q_K h.1 a1 = 7) {δ : dp} (z0 : (q_I δ 7 5 a1).toInt = 0 → 2 ≤ (q_I δ 6 0 a0).toInt ∧ (q_I δ 6 0 a0).toInt ≤ 16 ∧ 1 ≤ (q_I δ 6 2 a0).toInt ∧ (q_I δ 6 2 a0).toInt ≤ 5) (I : CI ad h.1 δ0 δ) : ok (D_X6_readClause N h.1 a0 a1 δ) (fun r => CI ad h.1 δ0 r ∧ (kp [(6, 0), (6, 1), (6, 2), (7, 3), (7, 4), (7, 5), (7, 6)] δ r ∧ q_V r = q_V δ) ∧ ((q_I r 7 5 a1).toInt = 0 → 2 ≤ (q_I r 6 0 a0).toInt ∧ (q_I r 6 0 a0).toInt ≤ 16 ∧ 1 ≤ (q_I r 6 2 a0).toInt ∧ (q_I r 6 2 a0).toInt ≤ 5)) := by
  unfold D_X6_readClause
  have f1 := ti_b (q_I δ 7 5 a1)
  have f2 := ti_b (q_I δ 6 0 a0)
  have f3 := ti_b (q_I δ 6 2 a0)
  refine ok_bind (k_X7_readWord L hN (a0 := a1) k_a1 I) (fun r4 hr5 => ?_)
  obtain ⟨i6, ⟨u7, v8⟩⟩ := hr5
  have u9 := kp_t kp_r u7
  have v10 := v8.trans rfl
  refine ok_bind (k_X7_wordIs L hN (a0 := a1) (a1 := 0) k_a1 (show 0 < 16 by first | assumption | omega) i6) (fun r11 hr12 => ?_)
  obtain ⟨i13, p14⟩ := hr12
  try rw [i13]
  have f15 := bo_t p14
  have f16 := ti_b r11.1
  refine ok_ite (fun h17 => ?_) (fun h17 => ?_)
  · have c18 : r11.1.toInt = (0 : Int) := o_eq h17
    refine ok_bind (k_X7_wordIs L hN (a0 := a1) (a1 := 1) k_a1 (show 1 < 16 by first | assumption | omega) i6) (fun r19 hr20 => ?_)
    obtain ⟨i21, p22⟩ := hr20
    try rw [i21]
    have f23 := bo_t p22
    have f24 := ti_b r19.1
    refine ok_ite (fun h25 => ?_) (fun h25 => ?_)
    · have c26 : r19.1.toInt = (0 : Int) := o_eq h25
      refine ok_bind (k_X7_wordIs L hN (a0 := a1) (a1 := 2) k_a1 (show 2 < 16 by first | assumption | omega) i6) (fun r27 hr28 => ?_)
      obtain ⟨i29, p30⟩ := hr28
      try rw [i29]
      have f31 := bo_t p30
      have f32 := ti_b r27.1
      refine ok_ite (fun h33 => ?_) (fun h33 => ?_)
      · have c34 : r27.1.toInt = (0 : Int) := o_eq h33
        unfold J_X6_readClause_44
        refine ok_ite (fun h35 => ?_) (fun h35 => ?_)
        · have c36 : (-1 : Int) = (-1 : Int) := o_eq h35
          refine ok_bind (k_X7_refuse L hN (a0 := a1) (x1 := (1 : Int32)) k_a1 (show (1 : Int) ≠ 0 by first | assumption | omega) i6) (fun r37 hr38 => ?_)
          obtain ⟨i39, ⟨u41, v42⟩, p40⟩ := hr38
          have u43 := kp_t u9 u41
          have v44 := v42.trans v10
          have f45 := ti_b (q_I r37 7 5 a1)
          unfold J_X6_readClause_94
          have f46 := ti_b (q_I r37 6 0 a0)
          have f47 : (q_I r37 6 0 a0).toInt = (q_I r4 6 0 a0).toInt := congrArg Int32.toInt (u41 6 0 a0 (by decide))
          have f48 := ti_b (q_I r4 6 0 a0)
          have f49 : (q_I r4 6 0 a0).toInt = (q_I δ 6 0 a0).toInt := congrArg Int32.toInt (u7 6 0 a0 (by decide))
          have f50 := ti_b (q_I r37 6 2 a0)
          have f51 : (q_I r37 6 2 a0).toInt = (q_I r4 6 2 a0).toInt := congrArg Int32.toInt (u41 6 2 a0 (by decide))
          have f52 := ti_b (q_I r4 6 2 a0)
          have f53 : (q_I r4 6 2 a0).toInt = (q_I δ 6 2 a0).toInt := congrArg Int32.toInt (u7 6 2 a0 (by decide))
          exact ok_some (show CI ad h.1 δ0 r37 ∧ (kp [(6, 0), (6, 1), (6, 2), (7, 3), (7, 4), (7, 5), (7, 6)] δ r37 ∧ q_V r37 = q_V δ) ∧ ((q_I r37 7 5 a1).toInt = 0 → 2 ≤ (q_I r37 6 0 a0).toInt ∧ (q_I r37 6 0 a0).toInt ≤ 16 ∧ 1 ≤ (q_I r37 6 2 a0).toInt ∧ (q_I r37 6 2 a0).toInt ≤ 5) from ⟨i39, ⟨kp_w (by decide) u43, v44⟩, by first | assumption | omega⟩)
        · have c54 : (-1 : Int) ≠ (-1 : Int) := o_ne h35
          obtain ⟨b55, o56, k57, n58, w59⟩ := gO_6_3 L k_a0
          refine ok_at o56 ?_
          have t60 : (-1 : Int32).toNatClampNeg = 0 := rfl
          refine ok_gd (fun hc61 => ?_) ?_
          · rcases hc61 with hc61 | hc61
            · have c62 : (-1 : Int) < (0 : Int) := o_lt hc61
              omega
            · omega
          have f63 := ti_b (q_R r4 b55 (-1 : Int32).toNatClampNeg)
          refine ok_ite (fun h64 => ?_) (fun h64 => ?_)
          · have c65 : (q_R r4 b55 (-1 : Int32).toNatClampNeg).toInt = (0 : Int) := o_eq h64
            refine ok_at o56 ?_
            refine ok_gd (fun hc66 => ?_) ?_
            · rcases hc66 with hc66 | hc66
              · have c67 : (-1 : Int) < (0 : Int) := o_lt hc66
                omega
              · omega
            refine ok_bdv (fun d68 e69 => ?_)
            have i70 : CI ad h.1 δ0 d68 := by rw [e69]; exact CI.sR L i6 w59
            have u71 := kp_N u9 (show q_I d68 = q_I r4 by rw [e69]; rfl)
            have v72 : q_V d68 = q_V δ := (show q_V d68 = q_V r4 by rw [e69]; rfl).trans v10
            have f75 := ti_b (q_I d68 7 5 a1)
            have f76 : (q_I d68 7 5 a1).toInt = (q_I r4 7 5 a1).toInt := congrArg Int32.toInt (by rw [e69]; rfl)
            have f77 := ti_b (q_I r4 7 5 a1)
            have f78 : (q_I r4 7 5 a1).toInt = (q_I δ 7 5 a1).toInt := congrArg Int32.toInt (u7 7 5 a1 (by decide))
            have f79 := ti_b (q_I d68 6 0 a0)
            have f80 : (q_I d68 6 0 a0).toInt = (q_I r4 6 0 a0).toInt := congrArg Int32.toInt (by rw [e69]; rfl)
            have f81 := ti_b (q_I r4 6 0 a0)
            have f82 : (q_I r4 6 0 a0).toInt = (q_I δ 6 0 a0).toInt := congrArg Int32.toInt (u7 6 0 a0 (by decide))
            have f83 := ti_b (q_I d68 6 2 a0)
            have f84 : (q_I d68 6 2 a0).toInt = (q_I r4 6 2 a0).toInt := congrArg Int32.toInt (by rw [e69]; rfl)
            have f85 := ti_b (q_I r4 6 2 a0)
            have f86 : (q_I r4 6 2 a0).toInt = (q_I δ 6 2 a0).toInt := congrArg Int32.toInt (u7 6 2 a0 (by decide))
            refine ok_bind (k_X6_readValue L hN (a0 := a0) (a1 := a1) (x2 := (-1 : Int32)) k_a0 k_a1 (show (q_I d68 7 5 a1).toInt = 0 → 2 ≤ (q_I d68 6 0 a0).toInt ∧ (q_I d68 6 0 a0).toInt ≤ 16 ∧ 1 ≤ (q_I d68 6 2 a0).toInt ∧ (q_I d68 6 2 a0).toInt ≤ 5 by first | assumption | omega) i70) (fun r73 hr74 => ?_)
            obtain ⟨i87, ⟨u89, v90⟩, p88⟩ := hr74
            have u91 := kp_t u71 u89
            have v92 := v90.trans v72
            have f93 := ti_b (q_I r73 7 5 a1)
            have f94 := ti_b (q_I r73 6 0 a0)
            have f95 := ti_b (q_I r73 6 2 a0)
            refine ok_bind (k_X7_needSign L hN (a0 := a1) (x1 := (59 : Int32)) k_a1 (show (59 : Int) ≠ -1 by first | assumption | omega) i87) (fun r96 hr97 => ?_)
            obtain ⟨i98, ⟨u100, v101⟩, p99⟩ := hr97
            have u102 := kp_t u91 u100
            have v103 := v101.trans v92
            have f104 := ti_b (q_I r96 7 5 a1)
            unfold J_X6_readClause_94
            have f105 := ti_b (q_I r96 6 0 a0)
            have f106 : (q_I r96 6 0 a0).toInt = (q_I r73 6 0 a0).toInt := congrArg Int32.toInt (u100 6 0 a0 (by decide))
            have f107 := ti_b (q_I r96 6 2 a0)
            have f108 : (q_I r96 6 2 a0).toInt = (q_I r73 6 2 a0).toInt := congrArg Int32.toInt (u100 6 2 a0 (by decide))
            exact ok_some (show CI ad h.1 δ0 r96 ∧ (kp [(6, 0), (6, 1), (6, 2), (7, 3), (7, 4), (7, 5), (7, 6)] δ r96 ∧ q_V r96 = q_V δ) ∧ ((q_I r96 7 5 a1).toInt = 0 → 2 ≤ (q_I r96 6 0 a0).toInt ∧ (q_I r96 6 0 a0).toInt ≤ 16 ∧ 1 ≤ (q_I r96 6 2 a0).toInt ∧ (q_I r96 6 2 a0).toInt ≤ 5) from ⟨i98, ⟨kp_w (by decide) u102, v103⟩, by first | assumption | omega⟩)
          · have c109 : (q_R r4 b55 (-1 : Int32).toNatClampNeg).toInt ≠ (0 : Int) := o_ne h64
            refine ok_bind (k_X7_refuse L hN (a0 := a1) (x1 := (4 : Int32)) k_a1 (show (4 : Int) ≠ 0 by first | assumption | omega) i6) (fun r110 hr111 => ?_)
            obtain ⟨i112, ⟨u114, v115⟩, p113⟩ := hr111
            have u116 := kp_t u9 u114
            have v117 := v115.trans v10
            have f118 := ti_b (q_I r110 7 5 a1)
            unfold J_X6_readClause_94
            have f119 := ti_b (q_I r110 6 0 a0)
            have f120 : (q_I r110 6 0 a0).toInt = (q_I r4 6 0 a0).toInt := congrArg Int32.toInt (u114 6 0 a0 (by decide))
            have f121 := ti_b (q_I r4 6 0 a0)
            have f122 : (q_I r4 6 0 a0).toInt = (q_I δ 6 0 a0).toInt := congrArg Int32.toInt (u7 6 0 a0 (by decide))
            have f123 := ti_b (q_I r110 6 2 a0)
            have f124 : (q_I r110 6 2 a0).toInt = (q_I r4 6 2 a0).toInt := congrArg Int32.toInt (u114 6 2 a0 (by decide))
            have f125 := ti_b (q_I r4 6 2 a0)
            have f126 : (q_I r4 6 2 a0).toInt = (q_I δ 6 2 a0).toInt := congrArg Int32.toInt (u7 6 2 a0 (by decide))
            exact ok_some (show CI ad h.1 δ0 r110 ∧ (kp [(6, 0), (6, 1), (6, 2), (7, 3), (7, 4), (7, 5), (7, 6)] δ r110 ∧ q_V r110 = q_V δ) ∧ ((q_I r110 7 5 a1).toInt = 0 → 2 ≤ (q_I r110 6 0 a0).toInt ∧ (q_I r110 6 0 a0).toInt ≤ 16 ∧ 1 ≤ (q_I r110 6 2 a0).toInt ∧ (q_I r110 6 2 a0).toInt ≤ 5) from ⟨i112, ⟨kp_w (by decide) u116, v117⟩, by first | assumption | omega⟩)
      · have c127 : r27.1.toInt ≠ (0 : Int) := o_ne h33
        unfold J_X6_readClause_44
        refine ok_ite (fun h128 => ?_) (fun h128 => ?_)
        · have c129 : (2 : Int) = (-1 : Int) := o_eq h128
          refine ok_bind (k_X7_refuse L hN (a0 := a1) (x1 := (1 : Int32)) k_a1 (show (1 : Int) ≠ 0 by first | assumption | omega) i6) (fun r130 hr131 => ?_)
          obtain ⟨i132, ⟨u134, v135⟩, p133⟩ := hr131
          have u136 := kp_t u9 u134
          have v137 := v135.trans v10
          have f138 := ti_b (q_I r130 7 5 a1)
          unfold J_X6_readClause_94
          have f139 := ti_b (q_I r130 6 0 a0)
          have f140 : (q_I r130 6 0 a0).toInt = (q_I r4 6 0 a0).toInt := congrArg Int32.toInt (u134 6 0 a0 (by decide))
          have f141 := ti_b (q_I r4 6 0 a0)
          have f142 : (q_I r4 6 0 a0).toInt = (q_I δ 6 0 a0).toInt := congrArg Int32.toInt (u7 6 0 a0 (by decide))
          have f143 := ti_b (q_I r130 6 2 a0)
          have f144 : (q_I r130 6 2 a0).toInt = (q_I r4 6 2 a0).toInt := congrArg Int32.toInt (u134 6 2 a0 (by decide))
          have f145 := ti_b (q_I r4 6 2 a0)
          have f146 : (q_I r4 6 2 a0).toInt = (q_I δ 6 2 a0).toInt := congrArg Int32.toInt (u7 6 2 a0 (by decide))
          exact ok_some (show CI ad h.1 δ0 r130 ∧ (kp [(6, 0), (6, 1), (6, 2), (7, 3), (7, 4), (7, 5), (7, 6)] δ r130 ∧ q_V r130 = q_V δ) ∧ ((q_I r130 7 5 a1).toInt = 0 → 2 ≤ (q_I r130 6 0 a0).toInt ∧ (q_I r130 6 0 a0).toInt ≤ 16 ∧ 1 ≤ (q_I r130 6 2 a0).toInt ∧ (q_I r130 6 2 a0).toInt ≤ 5) from ⟨i132, ⟨kp_w (by decide) u136, v137⟩, by first | assumption | omega⟩)
        · have c147 : (2 : Int) ≠ (-1 : Int) := o_ne h128
          obtain ⟨b148, o149, k150, n151, w152⟩ := gO_6_3 L k_a0
          refine ok_at o149 ?_
          have t153 : (2 : Int32).toNatClampNeg = 2 := rfl
          refine ok_gd (fun hc154 => ?_) ?_
          · rcases hc154 with hc154 | hc154
            · have c155 : (2 : Int) < (0 : Int) := o_lt hc154
              omega
            · omega
          have f156 := ti_b (q_R r4 b148 (2 : Int32).toNatClampNeg)
          refine ok_ite (fun h157 => ?_) (fun h157 => ?_)
          · have c158 : (q_R r4 b148 (2 : Int32).toNatClampNeg).toInt = (0 : Int) := o_eq h157
            refine ok_at o149 ?_
            refine ok_gd (fun hc159 => ?_) ?_
            · rcases hc159 with hc159 | hc159
              · have c160 : (2 : Int) < (0 : Int) := o_lt hc159
                omega
              · omega
            refine ok_bdv (fun d161 e162 => ?_)
            have i163 : CI ad h.1 δ0 d161 := by rw [e162]; exact CI.sR L i6 w152
            have u164 := kp_N u9 (show q_I d161 = q_I r4 by rw [e162]; rfl)
            have v165 : q_V d161 = q_V δ := (show q_V d161 = q_V r4 by rw [e162]; rfl).trans v10
            have f168 := ti_b (q_I d161 7 5 a1)
            have f169 : (q_I d161 7 5 a1).toInt = (q_I r4 7 5 a1).toInt := congrArg Int32.toInt (by rw [e162]; rfl)
            have f170 := ti_b (q_I r4 7 5 a1)
            have f171 : (q_I r4 7 5 a1).toInt = (q_I δ 7 5 a1).toInt := congrArg Int32.toInt (u7 7 5 a1 (by decide))
            have f172 := ti_b (q_I d161 6 0 a0)
            have f173 : (q_I d161 6 0 a0).toInt = (q_I r4 6 0 a0).toInt := congrArg Int32.toInt (by rw [e162]; rfl)
            have f174 := ti_b (q_I r4 6 0 a0)
            have f175 : (q_I r4 6 0 a0).toInt = (q_I δ 6 0 a0).toInt := congrArg Int32.toInt (u7 6 0 a0 (by decide))
            have f176 := ti_b (q_I d161 6 2 a0)
            have f177 : (q_I d161 6 2 a0).toInt = (q_I r4 6 2 a0).toInt := congrArg Int32.toInt (by rw [e162]; rfl)
            have f178 := ti_b (q_I r4 6 2 a0)
            have f179 : (q_I r4 6 2 a0).toInt = (q_I δ 6 2 a0).toInt := congrArg Int32.toInt (u7 6 2 a0 (by decide))
            refine ok_bind (k_X6_readValue L hN (a0 := a0) (a1 := a1) (x2 := (2 : Int32)) k_a0 k_a1 (show (q_I d161 7 5 a1).toInt = 0 → 2 ≤ (q_I d161 6 0 a0).toInt ∧ (q_I d161 6 0 a0).toInt ≤ 16 ∧ 1 ≤ (q_I d161 6 2 a0).toInt ∧ (q_I d161 6 2 a0).toInt ≤ 5 by first | assumption | omega) i163) (fun r166 hr167 => ?_)
            obtain ⟨i180, ⟨u182, v183⟩, p181⟩ := hr167
            have u184 := kp_t u164 u182
            have v185 := v183.trans v165
            have f186 := ti_b (q_I r166 7 5 a1)
            have f187 := ti_b (q_I r166 6 0 a0)
            have f188 := ti_b (q_I r166 6 2 a0)
            refine ok_bind (k_X7_needSign L hN (a0 := a1) (x1 := (59 : Int32)) k_a1 (show (59 : Int) ≠ -1 by first | assumption | omega) i180) (fun r189 hr190 => ?_)
            obtain ⟨i191, ⟨u193, v194⟩, p192⟩ := hr190
            have u195 := kp_t u184 u193
            have v196 := v194.trans v185
            have f197 := ti_b (q_I r189 7 5 a1)
            unfold J_X6_readClause_94
            have f198 := ti_b (q_I r189 6 0 a0)
            have f199 : (q_I r189 6 0 a0).toInt = (q_I r166 6 0 a0).toInt := congrArg Int32.toInt (u193 6 0 a0 (by decide))
            have f200 := ti_b (q_I r189 6 2 a0)
            have f201 : (q_I r189 6 2 a0).toInt = (q_I r166 6 2 a0).toInt := congrArg Int32.toInt (u193 6 2 a0 (by decide))
            exact ok_some (show CI ad h.1 δ0 r189 ∧ (kp [(6, 0), (6, 1), (6, 2), (7, 3), (7, 4), (7, 5), (7, 6)] δ r189 ∧ q_V r189 = q_V δ) ∧ ((q_I r189 7 5 a1).toInt = 0 → 2 ≤ (q_I r189 6 0 a0).toInt ∧ (q_I r189 6 0 a0).toInt ≤ 16 ∧ 1 ≤ (q_I r189 6 2 a0).toInt ∧ (q_I r189 6 2 a0).toInt ≤ 5) from ⟨i191, ⟨kp_w (by decide) u195, v196⟩, by first | assumption | omega⟩)
          · have c202 : (q_R r4 b148 (2 : Int32).toNatClampNeg).toInt ≠ (0 : Int) := o_ne h157
            refine ok_bind (k_X7_refuse L hN (a0 := a1) (x1 := (4 : Int32)) k_a1 (show (4 : Int) ≠ 0 by first | assumption | omega) i6) (fun r203 hr204 => ?_)
            obtain ⟨i205, ⟨u207, v208⟩, p206⟩ := hr204
            have u209 := kp_t u9 u207
            have v210 := v208.trans v10
            have f211 := ti_b (q_I r203 7 5 a1)
            unfold J_X6_readClause_94
            have f212 := ti_b (q_I r203 6 0 a0)
            have f213 : (q_I r203 6 0 a0).toInt = (q_I r4 6 0 a0).toInt := congrArg Int32.toInt (u207 6 0 a0 (by decide))
            have f214 := ti_b (q_I r4 6 0 a0)
            have f215 : (q_I r4 6 0 a0).toInt = (q_I δ 6 0 a0).toInt := congrArg Int32.toInt (u7 6 0 a0 (by decide))
            have f216 := ti_b (q_I r203 6 2 a0)
            have f217 : (q_I r203 6 2 a0).toInt = (q_I r4 6 2 a0).toInt := congrArg Int32.toInt (u207 6 2 a0 (by decide))
            have f218 := ti_b (q_I r4 6 2 a0)
            have f219 : (q_I r4 6 2 a0).toInt = (q_I δ 6 2 a0).toInt := congrArg Int32.toInt (u7 6 2 a0 (by decide))
            exact ok_some (show CI ad h.1 δ0 r203 ∧ (kp [(6, 0), (6, 1), (6, 2), (7, 3), (7, 4), (7, 5), (7, 6)] δ r203 ∧ q_V r203 = q_V δ) ∧ ((q_I r203 7 5 a1).toInt = 0 → 2 ≤ (q_I r203 6 0 a0).toInt ∧ (q_I r203 6 0 a0).toInt ≤ 16 ∧ 1 ≤ (q_I r203 6 2 a0).toInt ∧ (q_I r203 6 2 a0).toInt ≤ 5) from ⟨i205, ⟨kp_w (by decide) u209, v210⟩, by first | assumption | omega⟩)
    · have c220 : r19.1.toInt ≠ (0 : Int) := o_ne h25
      unfold J_X6_readClause_44
      refine ok_ite (fun h221 => ?_) (fun h221 => ?_)
      · have c222 : (1 : Int) = (-1 : Int) := o_eq h221
        refine ok_bind (k_X7_refuse L hN (a0 := a1) (x1 := (1 : Int32)) k_a1 (show (1 : Int) ≠ 0 by first | assumption | omega) i6) (fun r223 hr224 => ?_)
        obtain ⟨i225, ⟨u227, v228⟩, p226⟩ := hr224
        have u229 := kp_t u9 u227
        have v230 := v228.trans v10
        have f231 := ti_b (q_I r223 7 5 a1)
        unfold J_X6_readClause_94
        have f232 := ti_b (q_I r223 6 0 a0)
        have f233 : (q_I r223 6 0 a0).toInt = (q_I r4 6 0 a0).toInt := congrArg Int32.toInt (u227 6 0 a0 (by decide))
        have f234 := ti_b (q_I r4 6 0 a0)
        have f235 : (q_I r4 6 0 a0).toInt = (q_I δ 6 0 a0).toInt := congrArg Int32.toInt (u7 6 0 a0 (by decide))
        have f236 := ti_b (q_I r223 6 2 a0)
        have f237 : (q_I r223 6 2 a0).toInt = (q_I r4 6 2 a0).toInt := congrArg Int32.toInt (u227 6 2 a0 (by decide))
        have f238 := ti_b (q_I r4 6 2 a0)
        have f239 : (q_I r4 6 2 a0).toInt = (q_I δ 6 2 a0).toInt := congrArg Int32.toInt (u7 6 2 a0 (by decide))
        exact ok_some (show CI ad h.1 δ0 r223 ∧ (kp [(6, 0), (6, 1), (6, 2), (7, 3), (7, 4), (7, 5), (7, 6)] δ r223 ∧ q_V r223 = q_V δ) ∧ ((q_I r223 7 5 a1).toInt = 0 → 2 ≤ (q_I r223 6 0 a0).toInt ∧ (q_I r223 6 0 a0).toInt ≤ 16 ∧ 1 ≤ (q_I r223 6 2 a0).toInt ∧ (q_I r223 6 2 a0).toInt ≤ 5) from ⟨i225, ⟨kp_w (by decide) u229, v230⟩, by first | assumption | omega⟩)
      · have c240 : (1 : Int) ≠ (-1 : Int) := o_ne h221
        obtain ⟨b241, o242, k243, n244, w245⟩ := gO_6_3 L k_a0
        refine ok_at o242 ?_
        have t246 : (1 : Int32).toNatClampNeg = 1 := rfl
        refine ok_gd (fun hc247 => ?_) ?_
        · rcases hc247 with hc247 | hc247
          · have c248 : (1 : Int) < (0 : Int) := o_lt hc247
            omega
          · omega
        have f249 := ti_b (q_R r4 b241 (1 : Int32).toNatClampNeg)
        refine ok_ite (fun h250 => ?_) (fun h250 => ?_)
        · have c251 : (q_R r4 b241 (1 : Int32).toNatClampNeg).toInt = (0 : Int) := o_eq h250
          refine ok_at o242 ?_
          refine ok_gd (fun hc252 => ?_) ?_
          · rcases hc252 with hc252 | hc252
            · have c253 : (1 : Int) < (0 : Int) := o_lt hc252
              omega
            · omega
          refine ok_bdv (fun d254 e255 => ?_)
          have i256 : CI ad h.1 δ0 d254 := by rw [e255]; exact CI.sR L i6 w245
          have u257 := kp_N u9 (show q_I d254 = q_I r4 by rw [e255]; rfl)
          have v258 : q_V d254 = q_V δ := (show q_V d254 = q_V r4 by rw [e255]; rfl).trans v10
          have f261 := ti_b (q_I d254 7 5 a1)
          have f262 : (q_I d254 7 5 a1).toInt = (q_I r4 7 5 a1).toInt := congrArg Int32.toInt (by rw [e255]; rfl)
          have f263 := ti_b (q_I r4 7 5 a1)
          have f264 : (q_I r4 7 5 a1).toInt = (q_I δ 7 5 a1).toInt := congrArg Int32.toInt (u7 7 5 a1 (by decide))
          have f265 := ti_b (q_I d254 6 0 a0)
          have f266 : (q_I d254 6 0 a0).toInt = (q_I r4 6 0 a0).toInt := congrArg Int32.toInt (by rw [e255]; rfl)
          have f267 := ti_b (q_I r4 6 0 a0)
          have f268 : (q_I r4 6 0 a0).toInt = (q_I δ 6 0 a0).toInt := congrArg Int32.toInt (u7 6 0 a0 (by decide))
          have f269 := ti_b (q_I d254 6 2 a0)
          have f270 : (q_I d254 6 2 a0).toInt = (q_I r4 6 2 a0).toInt := congrArg Int32.toInt (by rw [e255]; rfl)
          have f271 := ti_b (q_I r4 6 2 a0)
          have f272 : (q_I r4 6 2 a0).toInt = (q_I δ 6 2 a0).toInt := congrArg Int32.toInt (u7 6 2 a0 (by decide))
          refine ok_bind (k_X6_readValue L hN (a0 := a0) (a1 := a1) (x2 := (1 : Int32)) k_a0 k_a1 (show (q_I d254 7 5 a1).toInt = 0 → 2 ≤ (q_I d254 6 0 a0).toInt ∧ (q_I d254 6 0 a0).toInt ≤ 16 ∧ 1 ≤ (q_I d254 6 2 a0).toInt ∧ (q_I d254 6 2 a0).toInt ≤ 5 by first | assumption | omega) i256) (fun r259 hr260 => ?_)
          obtain ⟨i273, ⟨u275, v276⟩, p274⟩ := hr260
          have u277 := kp_t u257 u275
          have v278 := v276.trans v258
          have f279 := ti_b (q_I r259 7 5 a1)
          have f280 := ti_b (q_I r259 6 0 a0)
          have f281 := ti_b (q_I r259 6 2 a0)
          refine ok_bind (k_X7_needSign L hN (a0 := a1) (x1 := (59 : Int32)) k_a1 (show (59 : Int) ≠ -1 by first | assumption | omega) i273) (fun r282 hr283 => ?_)
          obtain ⟨i284, ⟨u286, v287⟩, p285⟩ := hr283
          have u288 := kp_t u277 u286
          have v289 := v287.trans v278
          have f290 := ti_b (q_I r282 7 5 a1)
          unfold J_X6_readClause_94
          have f291 := ti_b (q_I r282 6 0 a0)
          have f292 : (q_I r282 6 0 a0).toInt = (q_I r259 6 0 a0).toInt := congrArg Int32.toInt (u286 6 0 a0 (by decide))
          have f293 := ti_b (q_I r282 6 2 a0)
          have f294 : (q_I r282 6 2 a0).toInt = (q_I r259 6 2 a0).toInt := congrArg Int32.toInt (u286 6 2 a0 (by decide))
          exact ok_some (show CI ad h.1 δ0 r282 ∧ (kp [(6, 0), (6, 1), (6, 2), (7, 3), (7, 4), (7, 5), (7, 6)] δ r282 ∧ q_V r282 = q_V δ) ∧ ((q_I r282 7 5 a1).toInt = 0 → 2 ≤ (q_I r282 6 0 a0).toInt ∧ (q_I r282 6 0 a0).toInt ≤ 16 ∧ 1 ≤ (q_I r282 6 2 a0).toInt ∧ (q_I r282 6 2 a0).toInt ≤ 5) from ⟨i284, ⟨kp_w (by decide) u288, v289⟩, by first | assumption | omega⟩)
        · have c295 : (q_R r4 b241 (1 : Int32).toNatClampNeg).toInt ≠ (0 : Int) := o_ne h250
          refine ok_bind (k_X7_refuse L hN (a0 := a1) (x1 := (4 : Int32)) k_a1 (show (4 : Int) ≠ 0 by first | assumption | omega) i6) (fun r296 hr297 => ?_)
          obtain ⟨i298, ⟨u300, v301⟩, p299⟩ := hr297
          have u302 := kp_t u9 u300
          have v303 := v301.trans v10
          have f304 := ti_b (q_I r296 7 5 a1)
          unfold J_X6_readClause_94
          have f305 := ti_b (q_I r296 6 0 a0)
          have f306 : (q_I r296 6 0 a0).toInt = (q_I r4 6 0 a0).toInt := congrArg Int32.toInt (u300 6 0 a0 (by decide))
          have f307 := ti_b (q_I r4 6 0 a0)
          have f308 : (q_I r4 6 0 a0).toInt = (q_I δ 6 0 a0).toInt := congrArg Int32.toInt (u7 6 0 a0 (by decide))
          have f309 := ti_b (q_I r296 6 2 a0)
          have f310 : (q_I r296 6 2 a0).toInt = (q_I r4 6 2 a0).toInt := congrArg Int32.toInt (u300 6 2 a0 (by decide))
          have f311 := ti_b (q_I r4 6 2 a0)
          have f312 : (q_I r4 6 2 a0).toInt = (q_I δ 6 2 a0).toInt := congrArg Int32.toInt (u7 6 2 a0 (by decide))
          exact ok_some (show CI ad h.1 δ0 r296 ∧ (kp [(6, 0), (6, 1), (6, 2), (7, 3), (7, 4), (7, 5), (7, 6)] δ r296 ∧ q_V r296 = q_V δ) ∧ ((q_I r296 7 5 a1).toInt = 0 → 2 ≤ (q_I r296 6 0 a0).toInt ∧ (q_I r296 6 0 a0).toInt ≤ 16 ∧ 1 ≤ (q_I r296 6 2 a0).toInt ∧ (q_I r296 6 2 a0).toInt ≤ 5) from ⟨i298, ⟨kp_w (by decide) u302, v303⟩, by first | assumption | omega⟩)
  · have c313 : r11.1.toInt ≠ (0 : Int) := o_ne h17
    unfold J_X6_readClause_44
    refine ok_ite (fun h314 => ?_) (fun h314 => ?_)
    · have c315 : (0 : Int) = (-1 : Int) := o_eq h314
      refine ok_bind (k_X7_refuse L hN (a0 := a1) (x1 := (1 : Int32)) k_a1 (show (1 : Int) ≠ 0 by first | assumption | omega) i6) (fun r316 hr317 => ?_)
      obtain ⟨i318, ⟨u320, v321⟩, p319⟩ := hr317
      have u322 := kp_t u9 u320
      have v323 := v321.trans v10
      have f324 := ti_b (q_I r316 7 5 a1)
      unfold J_X6_readClause_94
      have f325 := ti_b (q_I r316 6 0 a0)
      have f326 : (q_I r316 6 0 a0).toInt = (q_I r4 6 0 a0).toInt := congrArg Int32.toInt (u320 6 0 a0 (by decide))
      have f327 := ti_b (q_I r4 6 0 a0)
      have f328 : (q_I r4 6 0 a0).toInt = (q_I δ 6 0 a0).toInt := congrArg Int32.toInt (u7 6 0 a0 (by decide))
      have f329 := ti_b (q_I r316 6 2 a0)
      have f330 : (q_I r316 6 2 a0).toInt = (q_I r4 6 2 a0).toInt := congrArg Int32.toInt (u320 6 2 a0 (by decide))
      have f331 := ti_b (q_I r4 6 2 a0)
      have f332 : (q_I r4 6 2 a0).toInt = (q_I δ 6 2 a0).toInt := congrArg Int32.toInt (u7 6 2 a0 (by decide))
      exact ok_some (show CI ad h.1 δ0 r316 ∧ (kp [(6, 0), (6, 1), (6, 2), (7, 3), (7, 4), (7, 5), (7, 6)] δ r316 ∧ q_V r316 = q_V δ) ∧ ((q_I r316 7 5 a1).toInt = 0 → 2 ≤ (q_I r316 6 0 a0).toInt ∧ (q_I r316 6 0 a0).toInt ≤ 16 ∧ 1 ≤ (q_I r316 6 2 a0).toInt ∧ (q_I r316 6 2 a0).toInt ≤ 5) from ⟨i318, ⟨kp_w (by decide) u322, v323⟩, by first | assumption | omega⟩)
    · have c333 : (0 : Int) ≠ (-1 : Int) := o_ne h314
      obtain ⟨b334, o335, k336, n337, w338⟩ := gO_6_3 L k_a0
      refine ok_at o335 ?_
      have t339 : (0 : Int32).toNatClampNeg = 0 := rfl
      refine ok_gd (fun hc340 => ?_) ?_
      · rcases hc340 with hc340 | hc340
        · have c341 : (0 : Int) < (0 : Int) := o_lt hc340
          omega
        · omega
      have f342 := ti_b (q_R r4 b334 (0 : Int32).toNatClampNeg)
      refine ok_ite (fun h343 => ?_) (fun h343 => ?_)
      · have c344 : (q_R r4 b334 (0 : Int32).toNatClampNeg).toInt = (0 : Int) := o_eq h343
        refine ok_at o335 ?_
        refine ok_gd (fun hc345 => ?_) ?_
        · rcases hc345 with hc345 | hc345
          · have c346 : (0 : Int) < (0 : Int) := o_lt hc345
            omega
          · omega
        refine ok_bdv (fun d347 e348 => ?_)
        have i349 : CI ad h.1 δ0 d347 := by rw [e348]; exact CI.sR L i6 w338
        have u350 := kp_N u9 (show q_I d347 = q_I r4 by rw [e348]; rfl)
        have v351 : q_V d347 = q_V δ := (show q_V d347 = q_V r4 by rw [e348]; rfl).trans v10
        have f354 := ti_b (q_I d347 7 5 a1)
        have f355 : (q_I d347 7 5 a1).toInt = (q_I r4 7 5 a1).toInt := congrArg Int32.toInt (by rw [e348]; rfl)
        have f356 := ti_b (q_I r4 7 5 a1)
        have f357 : (q_I r4 7 5 a1).toInt = (q_I δ 7 5 a1).toInt := congrArg Int32.toInt (u7 7 5 a1 (by decide))
        have f358 := ti_b (q_I d347 6 0 a0)
        have f359 : (q_I d347 6 0 a0).toInt = (q_I r4 6 0 a0).toInt := congrArg Int32.toInt (by rw [e348]; rfl)
        have f360 := ti_b (q_I r4 6 0 a0)
        have f361 : (q_I r4 6 0 a0).toInt = (q_I δ 6 0 a0).toInt := congrArg Int32.toInt (u7 6 0 a0 (by decide))
        have f362 := ti_b (q_I d347 6 2 a0)
        have f363 : (q_I d347 6 2 a0).toInt = (q_I r4 6 2 a0).toInt := congrArg Int32.toInt (by rw [e348]; rfl)
        have f364 := ti_b (q_I r4 6 2 a0)
        have f365 : (q_I r4 6 2 a0).toInt = (q_I δ 6 2 a0).toInt := congrArg Int32.toInt (u7 6 2 a0 (by decide))
        refine ok_bind (k_X6_readValue L hN (a0 := a0) (a1 := a1) (x2 := (0 : Int32)) k_a0 k_a1 (show (q_I d347 7 5 a1).toInt = 0 → 2 ≤ (q_I d347 6 0 a0).toInt ∧ (q_I d347 6 0 a0).toInt ≤ 16 ∧ 1 ≤ (q_I d347 6 2 a0).toInt ∧ (q_I d347 6 2 a0).toInt ≤ 5 by first | assumption | omega) i349) (fun r352 hr353 => ?_)
        obtain ⟨i366, ⟨u368, v369⟩, p367⟩ := hr353
        have u370 := kp_t u350 u368
        have v371 := v369.trans v351
        have f372 := ti_b (q_I r352 7 5 a1)
        have f373 := ti_b (q_I r352 6 0 a0)
        have f374 := ti_b (q_I r352 6 2 a0)
        refine ok_bind (k_X7_needSign L hN (a0 := a1) (x1 := (59 : Int32)) k_a1 (show (59 : Int) ≠ -1 by first | assumption | omega) i366) (fun r375 hr376 => ?_)
        obtain ⟨i377, ⟨u379, v380⟩, p378⟩ := hr376
        have u381 := kp_t u370 u379
        have v382 := v380.trans v371
        have f383 := ti_b (q_I r375 7 5 a1)
        unfold J_X6_readClause_94
        have f384 := ti_b (q_I r375 6 0 a0)
        have f385 : (q_I r375 6 0 a0).toInt = (q_I r352 6 0 a0).toInt := congrArg Int32.toInt (u379 6 0 a0 (by decide))
        have f386 := ti_b (q_I r375 6 2 a0)
        have f387 : (q_I r375 6 2 a0).toInt = (q_I r352 6 2 a0).toInt := congrArg Int32.toInt (u379 6 2 a0 (by decide))
        exact ok_some (show CI ad h.1 δ0 r375 ∧ (kp [(6, 0), (6, 1), (6, 2), (7, 3), (7, 4), (7, 5), (7, 6)] δ r375 ∧ q_V r375 = q_V δ) ∧ ((q_I r375 7 5 a1).toInt = 0 → 2 ≤ (q_I r375 6 0 a0).toInt ∧ (q_I r375 6 0 a0).toInt ≤ 16 ∧ 1 ≤ (q_I r375 6 2 a0).toInt ∧ (q_I r375 6 2 a0).toInt ≤ 5) from ⟨i377, ⟨kp_w (by decide) u381, v382⟩, by first | assumption | omega⟩)
      · have c388 : (q_R r4 b334 (0 : Int32).toNatClampNeg).toInt ≠ (0 : Int) := o_ne h343
        refine ok_bind (k_X7_refuse L hN (a0 := a1) (x1 := (4 : Int32)) k_a1 (show (4 : Int) ≠ 0 by first | assumption | omega) i6) (fun r389 hr390 => ?_)
        obtain ⟨i391, ⟨u393, v394⟩, p392⟩ := hr390
        have u395 := kp_t u9 u393
        have v396 := v394.trans v10
        have f397 := ti_b (q_I r389 7 5 a1)
        unfold J_X6_readClause_94
        have f398 := ti_b (q_I r389 6 0 a0)
        have f399 : (q_I r389 6 0 a0).toInt = (q_I r4 6 0 a0).toInt := congrArg Int32.toInt (u393 6 0 a0 (by decide))
        have f400 := ti_b (q_I r4 6 0 a0)
        have f401 : (q_I r4 6 0 a0).toInt = (q_I δ 6 0 a0).toInt := congrArg Int32.toInt (u7 6 0 a0 (by decide))
        have f402 := ti_b (q_I r389 6 2 a0)
        have f403 : (q_I r389 6 2 a0).toInt = (q_I r4 6 2 a0).toInt := congrArg Int32.toInt (u393 6 2 a0 (by decide))
        have f404 := ti_b (q_I r4 6 2 a0)
        have f405 : (q_I r4 6 2 a0).toInt = (q_I δ 6 2 a0).toInt := congrArg Int32.toInt (u7 6 2 a0 (by decide))
        exact ok_some (show CI ad h.1 δ0 r389 ∧ (kp [(6, 0), (6, 1), (6, 2), (7, 3), (7, 4), (7, 5), (7, 6)] δ r389 ∧ q_V r389 = q_V δ) ∧ ((q_I r389 7 5 a1).toInt = 0 → 2 ≤ (q_I r389 6 0 a0).toInt ∧ (q_I r389 6 0 a0).toInt ≤ 16 ∧ 1 ≤ (q_I r389 6 2 a0).toInt ∧ (q_I r389 6 2 a0).toInt ≤ 5) from ⟨i391, ⟨kp_w (by decide) u395, v396⟩, by first | assumption | omega⟩)
set_option maxHeartbeats 4000000 in
theorem kl_X6_read_38 {ad : List Nat} {h : hp} (L : Lay TLx ad h) {δ0 : dp} {N : Nat} (hN : 10000000 ≤ N) {a0 : Nat} {a1 : Nat} (k_a0 : q_K h.1 a0 = 6) (k_a1 : q_K h.1 a1 = 7) : ∀ (n : Nat) (x2v : Int32) (δ : dp), CI ad h.1 δ0 δ → ((q_I δ 7 5 a1).toInt = 0 → 2 ≤ (q_I δ 6 0 a0).toInt ∧ (q_I δ 6 0 a0).toInt ≤ 16 ∧ 1 ≤ (q_I δ 6 2 a0).toInt ∧ (q_I δ 6 2 a0).toInt ≤ 5) → 0 ≤ (x2v).toInt → (x2v).toInt ≤ 500 → 500 - (x2v).toInt < (n : Int) → ok (L_X6_read_38 N h.1 a0 a1 n x2v δ) (fun r => CI ad h.1 δ0 r ∧ (kp [(6, 0), (6, 1), (6, 2), (7, 3), (7, 4), (7, 5), (7, 6)] δ r ∧ q_V r = q_V δ) ∧ ((q_I r 7 5 a1).toInt = 0 → 2 ≤ (q_I r 6 0 a0).toInt ∧ (q_I r 6 0 a0).toInt ≤ 16 ∧ 1 ≤ (q_I r 6 2 a0).toInt ∧ (q_I r 6 2 a0).toInt ≤ 5)) := by
  intro n
  induction n with
  | zero =>
    intro x2v δ I j0 j1 j2 hm
    have f1 := ti_b (q_I δ 7 5 a1)
    have f2 := ti_b (q_I δ 6 0 a0)
    have f3 := ti_b (q_I δ 6 2 a0)
    have f4 := ti_b x2v
    exfalso; omega
  | succ n ih =>
    intro x2v δ I j0 j1 j2 hm
    unfold L_X6_read_38
    have f1 := ti_b (q_I δ 7 5 a1)
    have f2 := ti_b (q_I δ 6 0 a0)
    have f3 := ti_b (q_I δ 6 2 a0)
    have f4 := ti_b x2v
    refine ok_ite (fun h5 => ?_) (fun h5 => ?_)
    · have c6 : (500 : Int) ≤ x2v.toInt := o_le h5
      unfold J_X6_read_71
      exact ok_some (show CI ad h.1 δ0 δ ∧ (kp [(6, 0), (6, 1), (6, 2), (7, 3), (7, 4), (7, 5), (7, 6)] δ δ ∧ q_V δ = q_V δ) ∧ ((q_I δ 7 5 a1).toInt = 0 → 2 ≤ (q_I δ 6 0 a0).toInt ∧ (q_I δ 6 0 a0).toInt ≤ 16 ∧ 1 ≤ (q_I δ 6 2 a0).toInt ∧ (q_I δ 6 2 a0).toInt ≤ 5) from ⟨I, ⟨kp_w (by decide) kp_r, rfl⟩, by first | assumption | omega⟩)
    · have c7 : x2v.toInt < (500 : Int) := o_nle h5
      refine ok_bind (k_X7_isSound L hN (a0 := a1) k_a1 I) (fun r8 hr9 => ?_)
      obtain ⟨i10, p11, p12, p13⟩ := hr9
      try rw [i10]
      have f14 := bo_t p11
      have f15 := ti_b r8.1
      have f16 := ti_b r8.1
      refine ok_ite (fun h17 => ?_) (fun h17 => ?_)
      · have c18 : r8.1.toInt = (0 : Int) := o_eq h17
        unfold J_X6_read_71
        exact ok_some (show CI ad h.1 δ0 δ ∧ (kp [(6, 0), (6, 1), (6, 2), (7, 3), (7, 4), (7, 5), (7, 6)] δ δ ∧ q_V δ = q_V δ) ∧ ((q_I δ 7 5 a1).toInt = 0 → 2 ≤ (q_I δ 6 0 a0).toInt ∧ (q_I δ 6 0 a0).toInt ≤ 16 ∧ 1 ≤ (q_I δ 6 2 a0).toInt ∧ (q_I δ 6 2 a0).toInt ≤ 5) from ⟨I, ⟨kp_w (by decide) kp_r, rfl⟩, by first | assumption | omega⟩)
      · have c19 : r8.1.toInt ≠ (0 : Int) := o_ne h17
        refine ok_bind (k_X7_ahead L hN (a0 := a1) k_a1 I) (fun r20 hr21 => ?_)
        obtain ⟨i22, ⟨u24, v25⟩, p23⟩ := hr21
        have u26 := kp_t kp_r u24
        have v27 := v25.trans rfl
        have f28 := ti_b r20.1
        have f29 := cb_7_3 i22 k_a1
        have f30 := cb_7_2 i22 k_a1
        have f31 : (q_I r20.2 7 2 a1).toInt = (q_I δ 7 2 a1).toInt := congrArg Int32.toInt (u24 7 2 a1 (by decide))
        have f32 := cb_7_2 I k_a1
        have f33 := ti_b r20.1
        refine ok_ite (fun h34 => ?_) (fun h34 => ?_)
        · have c35 : r20.1.toInt = (-1 : Int) := o_eq h34
          unfold J_X6_read_71
          have f36 := ti_b (q_I r20.2 7 5 a1)
          have f37 : (q_I r20.2 7 5 a1).toInt = (q_I δ 7 5 a1).toInt := congrArg Int32.toInt (u24 7 5 a1 (by decide))
          have f38 := ti_b (q_I r20.2 6 0 a0)
          have f39 : (q_I r20.2 6 0 a0).toInt = (q_I δ 6 0 a0).toInt := congrArg Int32.toInt (u24 6 0 a0 (by decide))
          have f40 := ti_b (q_I r20.2 6 2 a0)
          have f41 : (q_I r20.2 6 2 a0).toInt = (q_I δ 6 2 a0).toInt := congrArg Int32.toInt (u24 6 2 a0 (by decide))
          exact ok_some (show CI ad h.1 δ0 r20.2 ∧ (kp [(6, 0), (6, 1), (6, 2), (7, 3), (7, 4), (7, 5), (7, 6)] δ r20.2 ∧ q_V r20.2 = q_V δ) ∧ ((q_I r20.2 7 5 a1).toInt = 0 → 2 ≤ (q_I r20.2 6 0 a0).toInt ∧ (q_I r20.2 6 0 a0).toInt ≤ 16 ∧ 1 ≤ (q_I r20.2 6 2 a0).toInt ∧ (q_I r20.2 6 2 a0).toInt ≤ 5) from ⟨i22, ⟨kp_w (by decide) u26, v27⟩, by first | assumption | omega⟩)
        · have c42 : r20.1.toInt ≠ (-1 : Int) := o_ne h34
          have f45 := ti_b (q_I r20.2 7 5 a1)
          have f46 : (q_I r20.2 7 5 a1).toInt = (q_I δ 7 5 a1).toInt := congrArg Int32.toInt (u24 7 5 a1 (by decide))
          have f47 := ti_b (q_I r20.2 6 0 a0)
          have f48 : (q_I r20.2 6 0 a0).toInt = (q_I δ 6 0 a0).toInt := congrArg Int32.toInt (u24 6 0 a0 (by decide))
          have f49 := ti_b (q_I r20.2 6 2 a0)
          have f50 : (q_I r20.2 6 2 a0).toInt = (q_I δ 6 2 a0).toInt := congrArg Int32.toInt (u24 6 2 a0 (by decide))
          refine ok_bind (k_X6_readClause L hN (a0 := a0) (a1 := a1) k_a0 k_a1 (show (q_I r20.2 7 5 a1).toInt = 0 → 2 ≤ (q_I r20.2 6 0 a0).toInt ∧ (q_I r20.2 6 0 a0).toInt ≤ 16 ∧ 1 ≤ (q_I r20.2 6 2 a0).toInt ∧ (q_I r20.2 6 2 a0).toInt ≤ 5 by first | assumption | omega) i22) (fun r43 hr44 => ?_)
          obtain ⟨i51, ⟨u53, v54⟩, p52⟩ := hr44
          have u55 := kp_t u26 u53
          have v56 := v54.trans v27
          have f57 := ti_b (q_I r43 7 5 a1)
          have f58 := ti_b (q_I r43 6 0 a0)
          have f59 := ti_b (q_I r43 6 2 a0)
          refine ok_biv (fun vx60 e61 => ?_)
          first | (have q62 := te_addc (c := 1) (n := 1) rfl x2v (by omega) (by omega); rw [← e61] at q62; obtain ⟨f63, f64, f65⟩ := q62) | (obtain ⟨q62, f63, f64, f65⟩ : ∃ q : Int, vx60.toInt = x2v.toInt + (1 : Int) + 4294967296 * q ∧ -2147483648 ≤ vx60.toInt ∧ vx60.toInt ≤ 2147483647 := by rw [e61]; exact ti_addc (c := 1) (n := 1) rfl x2v)
          refine ok_mono (ih vx60 r43 i51 (show (q_I r43 7 5 a1).toInt = 0 → 2 ≤ (q_I r43 6 0 a0).toInt ∧ (q_I r43 6 0 a0).toInt ≤ 16 ∧ 1 ≤ (q_I r43 6 2 a0).toInt ∧ (q_I r43 6 2 a0).toInt ≤ 5 by first | assumption | omega) (show 0 ≤ (vx60).toInt by first | assumption | omega) (show (vx60).toInt ≤ 500 by first | assumption | omega) (show 500 - (vx60).toInt < _ by omega)) (fun r66 hr67 => ?_)
          obtain ⟨i68, ⟨u70, v71⟩, p69⟩ := hr67
          have u72 := kp_t u55 u70
          have v73 := v71.trans v56
          have f74 := ti_b (q_I r66 7 5 a1)
          have f75 := ti_b (q_I r66 6 0 a0)
          have f76 := ti_b (q_I r66 6 2 a0)
          exact ⟨by assumption, ⟨kp_w (by decide) u72, v73⟩, by first | assumption | omega⟩
set_option maxHeartbeats 4000000 in
theorem kl_X6_read_18 {ad : List Nat} {h : hp} (L : Lay TLx ad h) {δ0 : dp} {N : Nat} (hN : 10000000 ≤ N) {a0 : Nat} {a1 : Nat} (k_a0 : q_K h.1 a0 = 6) (k_a1 : q_K h.1 a1 = 7) : ∀ (n : Nat) (x2v : Int32) (δ : dp), CI ad h.1 δ0 δ → ((q_I δ 7 5 a1).toInt = 0 → 2 ≤ (q_I δ 6 0 a0).toInt ∧ (q_I δ 6 0 a0).toInt ≤ 16 ∧ 1 ≤ (q_I δ 6 2 a0).toInt ∧ (q_I δ 6 2 a0).toInt ≤ 5) → 0 ≤ (x2v).toInt → (x2v).toInt ≤ 3 → 3 - (x2v).toInt < (n : Int) → ok (L_X6_read_18 N h.1 a0 a1 n x2v δ) (fun r => CI ad h.1 δ0 r ∧ (kp [(6, 0), (6, 1), (6, 2), (7, 3), (7, 4), (7, 5), (7, 6)] δ r ∧ q_V r = q_V δ) ∧ ((q_I r 7 5 a1).toInt = 0 → 2 ≤ (q_I r 6 0 a0).toInt ∧ (q_I r 6 0 a0).toInt ≤ 16 ∧ 1 ≤ (q_I r 6 2 a0).toInt ∧ (q_I r 6 2 a0).toInt ≤ 5)) := by
  intro n
  induction n with
  | zero =>
    intro x2v δ I j0 j1 j2 hm
    have f1 := ti_b (q_I δ 7 5 a1)
    have f2 := ti_b (q_I δ 6 0 a0)
    have f3 := ti_b (q_I δ 6 2 a0)
    have f4 := ti_b x2v
    exfalso; omega
  | succ n ih =>
    intro x2v δ I j0 j1 j2 hm
    unfold L_X6_read_18
    have f1 := ti_b (q_I δ 7 5 a1)
    have f2 := ti_b (q_I δ 6 0 a0)
    have f3 := ti_b (q_I δ 6 2 a0)
    have f4 := ti_b x2v
    refine ok_ite (fun h5 => ?_) (fun h5 => ?_)
    · have c6 : (3 : Int) ≤ x2v.toInt := o_le h5
      refine ok_mono (kl_X6_read_38 L hN k_a0 k_a1 _ (0 : Int32) δ I (show (q_I δ 7 5 a1).toInt = 0 → 2 ≤ (q_I δ 6 0 a0).toInt ∧ (q_I δ 6 0 a0).toInt ≤ 16 ∧ 1 ≤ (q_I δ 6 2 a0).toInt ∧ (q_I δ 6 2 a0).toInt ≤ 5 by first | assumption | omega) (show 0 ≤ (0 : Int) by first | assumption | omega) (show (0 : Int) ≤ 500 by first | assumption | omega) (show 500 - (0 : Int) < _ by omega)) (fun r7 hr8 => ?_)
      obtain ⟨i9, ⟨u11, v12⟩, p10⟩ := hr8
      have u13 := kp_t kp_r u11
      have v14 := v12.trans rfl
      have f15 := ti_b (q_I r7 7 5 a1)
      have f16 := ti_b (q_I r7 6 0 a0)
      have f17 := ti_b (q_I r7 6 2 a0)
      exact ⟨by assumption, ⟨kp_w (by decide) u13, v14⟩, by first | assumption | omega⟩
    · have c18 : x2v.toInt < (3 : Int) := o_nle h5
      obtain ⟨b19, o20, k21, n22, w23⟩ := gO_6_3 L k_a0
      refine ok_at o20 ?_
      have t24 := ti_tn x2v
      refine ok_gd (fun hc25 => ?_) ?_
      · rcases hc25 with hc25 | hc25
        · have c26 : x2v.toInt < (0 : Int) := o_lt hc25
          omega
        · omega
      refine ok_bdv (fun d27 e28 => ?_)
      have i29 : CI ad h.1 δ0 d27 := by rw [e28]; exact CI.sR L I w23
      have u30 := kp_N kp_r (show q_I d27 = q_I δ by rw [e28]; rfl)
      have v31 : q_V d27 = q_V δ := (show q_V d27 = q_V δ by rw [e28]; rfl).trans rfl
      refine ok_biv (fun vx32 e33 => ?_)
      first | (have q34 := te_addc (c := 1) (n := 1) rfl x2v (by omega) (by omega); rw [← e33] at q34; obtain ⟨f35, f36, f37⟩ := q34) | (obtain ⟨q34, f35, f36, f37⟩ : ∃ q : Int, vx32.toInt = x2v.toInt + (1 : Int) + 4294967296 * q ∧ -2147483648 ≤ vx32.toInt ∧ vx32.toInt ≤ 2147483647 := by rw [e33]; exact ti_addc (c := 1) (n := 1) rfl x2v)
      have f38 := ti_b (q_I d27 7 5 a1)
      have f39 : (q_I d27 7 5 a1).toInt = (q_I δ 7 5 a1).toInt := congrArg Int32.toInt (by rw [e28]; rfl)
      have f40 := ti_b (q_I d27 6 0 a0)
      have f41 : (q_I d27 6 0 a0).toInt = (q_I δ 6 0 a0).toInt := congrArg Int32.toInt (by rw [e28]; rfl)
      have f42 := ti_b (q_I d27 6 2 a0)
      have f43 : (q_I d27 6 2 a0).toInt = (q_I δ 6 2 a0).toInt := congrArg Int32.toInt (by rw [e28]; rfl)
      refine ok_mono (ih vx32 d27 i29 (show (q_I d27 7 5 a1).toInt = 0 → 2 ≤ (q_I d27 6 0 a0).toInt ∧ (q_I d27 6 0 a0).toInt ≤ 16 ∧ 1 ≤ (q_I d27 6 2 a0).toInt ∧ (q_I d27 6 2 a0).toInt ≤ 5 by first | assumption | omega) (show 0 ≤ (vx32).toInt by first | assumption | omega) (show (vx32).toInt ≤ 3 by first | assumption | omega) (show 3 - (vx32).toInt < _ by omega)) (fun r44 hr45 => ?_)
      obtain ⟨i46, ⟨u48, v49⟩, p47⟩ := hr45
      have u50 := kp_t u30 u48
      have v51 := v49.trans v31
      have f52 := ti_b (q_I r44 7 5 a1)
      have f53 := ti_b (q_I r44 6 0 a0)
      have f54 := ti_b (q_I r44 6 2 a0)
      exact ⟨by assumption, ⟨kp_w (by decide) u50, v51⟩, by first | assumption | omega⟩
set_option maxHeartbeats 4000000 in
theorem k_X6_read {ad : List Nat} {h : hp} (L : Lay TLx ad h) {δ0 : dp} {N : Nat} (hN : 10000000 ≤ N) {a0 : Nat} {a1 : Nat} (k_a0 : q_K h.1 a0 = 6) (k_a1 : q_K h.1 a1 = 7) {δ : dp} (I : CI ad h.1 δ0 δ) : ok (D_X6_read N h.1 a0 a1 δ) (fun r => CI ad h.1 δ0 r ∧ (kp [(6, 0), (6, 1), (6, 2), (7, 3), (7, 4), (7, 5), (7, 6)] δ r ∧ q_V r = q_V δ) ∧ ((q_I r 7 5 a1).toInt = 0 → 2 ≤ (q_I r 6 0 a0).toInt ∧ (q_I r 6 0 a0).toInt ≤ 16 ∧ 1 ≤ (q_I r 6 2 a0).toInt ∧ (q_I r 6 2 a0).toInt ≤ 5)) := by
  unfold D_X6_read
  refine ok_bdv (fun d1 e2 => ?_)
  have i3 : CI ad h.1 δ0 d1 := by rw [e2]; exact cs_6_0 L I
  have u4 := kp_I kp_r e2
  have v5 : q_V d1 = q_V δ := (show q_V d1 = q_V δ by rw [e2]; rfl).trans rfl
  refine ok_bdv (fun d6 e7 => ?_)
  have i8 : CI ad h.1 δ0 d6 := by rw [e7]; exact cs_6_1 L i3 k_a0 (show 0 ≤ (1 : Int) by omega) (show (1 : Int) ≤ 1 by omega)
  have u9 := kp_I u4 e7
  have v10 : q_V d6 = q_V δ := (show q_V d6 = q_V d1 by rw [e7]; rfl).trans v5
  refine ok_bdv (fun d11 e12 => ?_)
  have i13 : CI ad h.1 δ0 d11 := by rw [e12]; exact cs_6_2 L i8
  have u14 := kp_I u9 e12
  have v15 : q_V d11 = q_V δ := (show q_V d11 = q_V d6 by rw [e12]; rfl).trans v10
  have f16 := ti_b (q_I d11 7 5 a1)
  have f17 : (q_I d11 7 5 a1).toInt = (q_I d6 7 5 a1).toInt := congrArg Int32.toInt (by rw [e12]; exact rI_o (by decide))
  have f18 := ti_b (q_I d6 7 5 a1)
  have f19 : (q_I d6 7 5 a1).toInt = (q_I d1 7 5 a1).toInt := congrArg Int32.toInt (by rw [e7]; exact rI_o (by decide))
  have f20 := ti_b (q_I d1 7 5 a1)
  have f21 : (q_I d1 7 5 a1).toInt = (q_I δ 7 5 a1).toInt := congrArg Int32.toInt (by rw [e2]; exact rI_o (by decide))
  have f22 := ti_b (q_I δ 7 5 a1)
  have f23 := ti_b (q_I d11 6 0 a0)
  have f24 : (q_I d11 6 0 a0).toInt = (q_I d6 6 0 a0).toInt := congrArg Int32.toInt (by rw [e12]; exact rI_o (by decide))
  have f25 := ti_b (q_I d6 6 0 a0)
  have f26 : (q_I d6 6 0 a0).toInt = (q_I d1 6 0 a0).toInt := congrArg Int32.toInt (by rw [e7]; exact rI_o (by decide))
  have f27 := ti_b (q_I d1 6 0 a0)
  have f28 : (q_I d1 6 0 a0).toInt = (8 : Int) := congrArg Int32.toInt (show q_I d1 6 0 a0 = (8 : Int32) by rw [e2]; exact rI_s)
  have f29 := ti_b (q_I d11 6 2 a0)
  have f30 : (q_I d11 6 2 a0).toInt = (1 : Int) := congrArg Int32.toInt (show q_I d11 6 2 a0 = (1 : Int32) by rw [e12]; exact rI_s)
  refine ok_mono (kl_X6_read_18 L hN k_a0 k_a1 _ (0 : Int32) d11 i13 (show (q_I d11 7 5 a1).toInt = 0 → 2 ≤ (q_I d11 6 0 a0).toInt ∧ (q_I d11 6 0 a0).toInt ≤ 16 ∧ 1 ≤ (q_I d11 6 2 a0).toInt ∧ (q_I d11 6 2 a0).toInt ≤ 5 by first | assumption | omega) (show 0 ≤ (0 : Int) by first | assumption | omega) (show (0 : Int) ≤ 3 by first | assumption | omega) (show 3 - (0 : Int) < _ by omega)) (fun r31 hr32 => ?_)
  obtain ⟨i33, ⟨u35, v36⟩, p34⟩ := hr32
  have u37 := kp_t u14 u35
  have v38 := v36.trans v15
  have f39 := ti_b (q_I r31 7 5 a1)
  have f40 := ti_b (q_I r31 6 0 a0)
  have f41 := ti_b (q_I r31 6 2 a0)
  exact ⟨by assumption, ⟨kp_w (by decide) u37, v38⟩, by first | assumption | omega⟩
set_option maxHeartbeats 4000000 in
theorem k_X5_take {ad : List Nat} {h : hp} (L : Lay TLx ad h) {δ0 : dp} {N : Nat} (hN : 10000000 ≤ N) {a0 : Nat} {a1 : Nat} (k_a0 : q_K h.1 a0 = 5) (k_a1 : q_K h.1 a1 = 6) {δ : dp} (z0 : 2 ≤ (q_I δ 6 0 a1).toInt) (z1 : (q_I δ 6 0 a1).toInt ≤ 16) (z2 : 1 ≤ (q_I δ 6 2 a1).toInt) (z3 : (q_I δ 6 2 a1).toInt ≤ 5) (I : CI ad h.1 δ0 δ) : ok (D_X5_take N h.1 a0 a1 δ) (fun r => CI ad h.1 δ0 r ∧ (kp [(5, 0), (5, 1), (5, 2)] δ r ∧ q_V r = q_V δ)) := by
  unfold D_X5_take
  have f1 := ti_b (q_I δ 6 0 a1)
  have f2 := ti_b (q_I δ 6 2 a1)
  refine ok_bdv (fun d3 e4 => ?_)
  have i5 : CI ad h.1 δ0 d3 := by rw [e4]; exact cs_5_0 L I k_a0 (show 2 ≤ (q_I δ 6 0 a1).toInt by omega) (show (q_I δ 6 0 a1).toInt ≤ 16 by omega)
  have u6 := kp_I kp_r e4
  have v7 : q_V d3 = q_V δ := (show q_V d3 = q_V δ by rw [e4]; rfl).trans rfl
  have f8 := cb_6_1 i5 k_a1
  have f9 : (q_I d3 6 1 a1).toInt = (q_I δ 6 1 a1).toInt := congrArg Int32.toInt (by rw [e4]; exact rI_o (by decide))
  have f10 := cb_6_1 I k_a1
  refine ok_gp (bo_i (by omega) (by omega)) ?_
  refine ok_bdv (fun d11 e12 => ?_)
  have i13 : CI ad h.1 δ0 d11 := by rw [e12]; exact cs_5_1 L i5 k_a0 (show 0 ≤ (q_I d3 6 1 a1).toInt by omega) (show (q_I d3 6 1 a1).toInt ≤ 1 by omega)
  have u14 := kp_I u6 e12
  have v15 : q_V d11 = q_V δ := (show q_V d11 = q_V d3 by rw [e12]; rfl).trans v7
  have f19 := ti_b (q_I d11 6 2 a1)
  have f20 : (q_I d11 6 2 a1).toInt = (q_I d3 6 2 a1).toInt := congrArg Int32.toInt (by rw [e12]; exact rI_o (by decide))
  have f21 := ti_b (q_I d3 6 2 a1)
  have f22 : (q_I d3 6 2 a1).toInt = (q_I δ 6 2 a1).toInt := congrArg Int32.toInt (by rw [e4]; exact rI_o (by decide))
  refine ok_bdv (fun d16 e17 => ?_)
  have i18 : CI ad h.1 δ0 d16 := by rw [e17]; exact cs_5_2 L i13 k_a0 (show 1 ≤ (q_I d11 6 2 a1).toInt by omega) (show (q_I d11 6 2 a1).toInt ≤ 5 by omega)
  have u23 := kp_I u14 e17
  have v24 : q_V d16 = q_V δ := (show q_V d16 = q_V d11 by rw [e17]; rfl).trans v15
  exact ok_some (show CI ad h.1 δ0 d16 ∧ (kp [(5, 0), (5, 1), (5, 2)] δ d16 ∧ q_V d16 = q_V δ) from ⟨i18, ⟨kp_w (by decide) u23, v24⟩⟩)
