/-! 59.kX6 (by gen_safe.py) -/
set_option maxHeartbeats 4000000 in
theorem k_X6_readValue {ad : List Nat} {h : hp} (L : Lay TLx ad h) {δ0 : dp} {N : Nat} (hN : 10000000 ≤ N) {a0 : Nat} {a1 : Nat} {x2 : Int32} (k_a0 : q_K h.1 a0 = 6) (k_a1 : q_K h.1 a1 = 7) {δ : dp} (z0 : (q_I δ 7 5 a1).toInt = 0 → 2 ≤ (q_I δ 6 0 a0).toInt ∧ (q_I δ 6 0 a0).toInt ≤ 16 ∧ 1 ≤ (q_I δ 6 2 a0).toInt ∧ (q_I δ 6 2 a0).toInt ≤ 5) (I : CI ad h.1 δ0 δ) : ok (D_X6_readValue N h.1 a0 a1 x2 δ) (fun r => CI ad h.1 δ0 r ∧ (kp [(6, 0), (6, 1), (6, 2), (7, 3), (7, 4), (7, 5), (7, 6)] δ r ∧ q_V r = q_V δ ∧ q_R r = q_R δ) ∧ ((q_I r 7 5 a1).toInt = 0 → 2 ≤ (q_I r 6 0 a0).toInt ∧ (q_I r 6 0 a0).toInt ≤ 16 ∧ 1 ≤ (q_I r 6 2 a0).toInt ∧ (q_I r 6 2 a0).toInt ≤ 5)) := by
  unfold D_X6_readValue
  have f1 := ti_b (q_I δ 7 5 a1)
  have f2 := ti_b (q_I δ 6 0 a0)
  have f3 := ti_b (q_I δ 6 2 a0)
  have f4 := ti_b x2
  refine ok_ite (fun h5 => ?_) (fun h5 => ?_)
  · have c6 : x2.toInt = (0 : Int) := o_eq h5
    refine ok_bind (k_X7_readNumber L hN (a0 := a1) (x1 := (2 : Int32)) (x2 := (16 : Int32)) k_a1 I) (fun r7 hr8 => ?_)
    obtain ⟨i9, ⟨u14, u15, u16⟩, p10, p11, p12, p13⟩ := hr8
    have u17 := kp_t kp_r u14
    have v18 : q_V r7.2 = q_V δ := (u15).trans rfl
    have v19 : q_R r7.2 = q_R δ := (u16).trans rfl
    have f20 := ti_b r7.1
    have f21 := ti_b (q_I r7.2 7 5 a1)
    replace p13 : ((q_I r7.2 7 5 a1).toInt = 0 → (2 : Int) ≤ (r7.1).toInt ∧ (r7.1).toInt ≤ (16 : Int)) := p13
    have f22 := ti_b r7.1
    refine ok_bdv (fun d23 e24 => ?_)
    have i25 : CI ad h.1 δ0 d23 := by rw [e24]; exact cs_6_0 L i9
    have u26 := kp_I u17 e24
    have v27 : q_V d23 = q_V δ := ((show q_V d23 = q_V r7.2 by rw [e24]; rfl)).trans v18
    have v28 : q_R d23 = q_R δ := ((show q_R d23 = q_R r7.2 by rw [e24]; rfl)).trans v19
    unfold J_X6_readValue_71
    have f29 := ti_b (q_I d23 7 5 a1)
    have f30 : (q_I d23 7 5 a1).toInt = (q_I r7.2 7 5 a1).toInt := congrArg Int32.toInt (by rw [e24]; exact rI_o (by decide))
    have f31 := ti_b (q_I d23 6 0 a0)
    have f32 : (q_I d23 6 0 a0).toInt = r7.1.toInt := congrArg Int32.toInt (show q_I d23 6 0 a0 = r7.1 by rw [e24]; exact rI_s)
    have f33 := ti_b (q_I d23 6 2 a0)
    have f34 : (q_I d23 6 2 a0).toInt = (q_I r7.2 6 2 a0).toInt := congrArg Int32.toInt (by rw [e24]; exact rI_o (by decide))
    have f35 := ti_b (q_I r7.2 6 2 a0)
    have f36 : (q_I r7.2 6 2 a0).toInt = (q_I δ 6 2 a0).toInt := congrArg Int32.toInt (u14 6 2 a0 (by decide))
    exact ok_some (show CI ad h.1 δ0 d23 ∧ (kp [(6, 0), (6, 1), (6, 2), (7, 3), (7, 4), (7, 5), (7, 6)] δ d23 ∧ q_V d23 = q_V δ ∧ q_R d23 = q_R δ) ∧ ((q_I d23 7 5 a1).toInt = 0 → 2 ≤ (q_I d23 6 0 a0).toInt ∧ (q_I d23 6 0 a0).toInt ≤ 16 ∧ 1 ≤ (q_I d23 6 2 a0).toInt ∧ (q_I d23 6 2 a0).toInt ≤ 5) from ⟨i25, ⟨kp_w (by decide) u26, v27, v28⟩, by first | assumption | omega⟩)
  · have c37 : x2.toInt ≠ (0 : Int) := o_ne h5
    refine ok_ite (fun h38 => ?_) (fun h38 => ?_)
    · have c39 : x2.toInt = (2 : Int) := o_eq h38
      refine ok_bind (k_X7_readNumber L hN (a0 := a1) (x1 := (1 : Int32)) (x2 := (5 : Int32)) k_a1 I) (fun r40 hr41 => ?_)
      obtain ⟨i42, ⟨u47, u48, u49⟩, p43, p44, p45, p46⟩ := hr41
      have u50 := kp_t kp_r u47
      have v51 : q_V r40.2 = q_V δ := (u48).trans rfl
      have v52 : q_R r40.2 = q_R δ := (u49).trans rfl
      have f53 := ti_b r40.1
      have f54 := ti_b (q_I r40.2 7 5 a1)
      replace p46 : ((q_I r40.2 7 5 a1).toInt = 0 → (1 : Int) ≤ (r40.1).toInt ∧ (r40.1).toInt ≤ (5 : Int)) := p46
      have f55 := ti_b r40.1
      refine ok_bdv (fun d56 e57 => ?_)
      have i58 : CI ad h.1 δ0 d56 := by rw [e57]; exact cs_6_2 L i42
      have u59 := kp_I u50 e57
      have v60 : q_V d56 = q_V δ := ((show q_V d56 = q_V r40.2 by rw [e57]; rfl)).trans v51
      have v61 : q_R d56 = q_R δ := ((show q_R d56 = q_R r40.2 by rw [e57]; rfl)).trans v52
      unfold J_X6_readValue_71
      have f62 := ti_b (q_I d56 7 5 a1)
      have f63 : (q_I d56 7 5 a1).toInt = (q_I r40.2 7 5 a1).toInt := congrArg Int32.toInt (by rw [e57]; exact rI_o (by decide))
      have f64 := ti_b (q_I d56 6 0 a0)
      have f65 : (q_I d56 6 0 a0).toInt = (q_I r40.2 6 0 a0).toInt := congrArg Int32.toInt (by rw [e57]; exact rI_o (by decide))
      have f66 := ti_b (q_I r40.2 6 0 a0)
      have f67 : (q_I r40.2 6 0 a0).toInt = (q_I δ 6 0 a0).toInt := congrArg Int32.toInt (u47 6 0 a0 (by decide))
      have f68 := ti_b (q_I d56 6 2 a0)
      have f69 : (q_I d56 6 2 a0).toInt = r40.1.toInt := congrArg Int32.toInt (show q_I d56 6 2 a0 = r40.1 by rw [e57]; exact rI_s)
      exact ok_some (show CI ad h.1 δ0 d56 ∧ (kp [(6, 0), (6, 1), (6, 2), (7, 3), (7, 4), (7, 5), (7, 6)] δ d56 ∧ q_V d56 = q_V δ ∧ q_R d56 = q_R δ) ∧ ((q_I d56 7 5 a1).toInt = 0 → 2 ≤ (q_I d56 6 0 a0).toInt ∧ (q_I d56 6 0 a0).toInt ≤ 16 ∧ 1 ≤ (q_I d56 6 2 a0).toInt ∧ (q_I d56 6 2 a0).toInt ≤ 5) from ⟨i58, ⟨kp_w (by decide) u59, v60, v61⟩, by first | assumption | omega⟩)
    · have c70 : x2.toInt ≠ (2 : Int) := o_ne h38
      refine ok_bind (k_X7_readWord L hN (a0 := a1) k_a1 I) (fun r71 hr72 => ?_)
      obtain ⟨i73, ⟨u74, u75, u76⟩⟩ := hr72
      have u77 := kp_t kp_r u74
      have v78 : q_V r71 = q_V δ := (u75).trans rfl
      have v79 : q_R r71 = q_R δ := (u76).trans rfl
      refine ok_bind (k_X7_wordIs L hN (a0 := a1) (a1 := 3) k_a1 (show 3 < 16 by first | assumption | omega) i73) (fun r80 hr81 => ?_)
      obtain ⟨i82, p83⟩ := hr81
      try rw [i82]
      have f84 := bo_t p83
      have f85 := ti_b r80.1
      refine ok_gp (show bo r80.1 by first | assumption | exact bo_0 | exact bo_1) ?_
      refine ok_bdv (fun d86 e87 => ?_)
      have i88 : CI ad h.1 δ0 d86 := by rw [e87]; exact cs_6_1 L i73 k_a0 (show 0 ≤ r80.1.toInt by omega) (show r80.1.toInt ≤ 1 by omega)
      have u89 := kp_I u77 e87
      have v90 : q_V d86 = q_V δ := ((show q_V d86 = q_V r71 by rw [e87]; rfl)).trans v78
      have v91 : q_R d86 = q_R δ := ((show q_R d86 = q_R r71 by rw [e87]; rfl)).trans v79
      have f92 := cb_6_1 i88 k_a0
      have f93 : (q_I d86 6 1 a0).toInt = r80.1.toInt := congrArg Int32.toInt (show q_I d86 6 1 a0 = r80.1 by rw [e87]; exact rI_s)
      refine ok_ite (fun h94 => ?_) (fun h94 => ?_)
      · have c95 : (q_I d86 6 1 a0).toInt = (0 : Int) := o_eq h94
        refine ok_bind (k_X7_wordIs L hN (a0 := a1) (a1 := 4) k_a1 (show 4 < 16 by first | assumption | omega) i88) (fun r96 hr97 => ?_)
        obtain ⟨i98, p99⟩ := hr97
        try rw [i98]
        have f100 := bo_t p99
        have f101 := ti_b r96.1
        refine ok_ite (fun h102 => ?_) (fun h102 => ?_)
        · have c103 : r96.1.toInt = (0 : Int) := o_eq h102
          refine ok_bind (k_X7_refuse L hN (a0 := a1) (x1 := (1 : Int32)) k_a1 (show (1 : Int) ≠ 0 by first | assumption | omega) i88) (fun r104 hr105 => ?_)
          obtain ⟨i106, ⟨u108, u109, u110⟩, p107⟩ := hr105
          have u111 := kp_t u89 u108
          have v112 : q_V r104 = q_V δ := (u109).trans v90
          have v113 : q_R r104 = q_R δ := (u110).trans v91
          have f114 := ti_b (q_I r104 7 5 a1)
          unfold J_X6_readValue_71
          have f115 := ti_b (q_I r104 6 0 a0)
          have f116 : (q_I r104 6 0 a0).toInt = (q_I d86 6 0 a0).toInt := congrArg Int32.toInt (u108 6 0 a0 (by decide))
          have f117 := ti_b (q_I d86 6 0 a0)
          have f118 : (q_I d86 6 0 a0).toInt = (q_I r71 6 0 a0).toInt := congrArg Int32.toInt (by rw [e87]; exact rI_o (by decide))
          have f119 := ti_b (q_I r71 6 0 a0)
          have f120 : (q_I r71 6 0 a0).toInt = (q_I δ 6 0 a0).toInt := congrArg Int32.toInt (u74 6 0 a0 (by decide))
          have f121 := ti_b (q_I r104 6 2 a0)
          have f122 : (q_I r104 6 2 a0).toInt = (q_I d86 6 2 a0).toInt := congrArg Int32.toInt (u108 6 2 a0 (by decide))
          have f123 := ti_b (q_I d86 6 2 a0)
          have f124 : (q_I d86 6 2 a0).toInt = (q_I r71 6 2 a0).toInt := congrArg Int32.toInt (by rw [e87]; exact rI_o (by decide))
          have f125 := ti_b (q_I r71 6 2 a0)
          have f126 : (q_I r71 6 2 a0).toInt = (q_I δ 6 2 a0).toInt := congrArg Int32.toInt (u74 6 2 a0 (by decide))
          exact ok_some (show CI ad h.1 δ0 r104 ∧ (kp [(6, 0), (6, 1), (6, 2), (7, 3), (7, 4), (7, 5), (7, 6)] δ r104 ∧ q_V r104 = q_V δ ∧ q_R r104 = q_R δ) ∧ ((q_I r104 7 5 a1).toInt = 0 → 2 ≤ (q_I r104 6 0 a0).toInt ∧ (q_I r104 6 0 a0).toInt ≤ 16 ∧ 1 ≤ (q_I r104 6 2 a0).toInt ∧ (q_I r104 6 2 a0).toInt ≤ 5) from ⟨i106, ⟨kp_w (by decide) u111, v112, v113⟩, by first | assumption | omega⟩)
        · have c127 : r96.1.toInt ≠ (0 : Int) := o_ne h102
          unfold J_X6_readValue_71
          have f128 := ti_b (q_I d86 7 5 a1)
          have f129 : (q_I d86 7 5 a1).toInt = (q_I r71 7 5 a1).toInt := congrArg Int32.toInt (by rw [e87]; exact rI_o (by decide))
          have f130 := ti_b (q_I r71 7 5 a1)
          have f131 : (q_I r71 7 5 a1).toInt = (q_I δ 7 5 a1).toInt := congrArg Int32.toInt (u74 7 5 a1 (by decide))
          have f132 := ti_b (q_I d86 6 0 a0)
          have f133 : (q_I d86 6 0 a0).toInt = (q_I r71 6 0 a0).toInt := congrArg Int32.toInt (by rw [e87]; exact rI_o (by decide))
          have f134 := ti_b (q_I r71 6 0 a0)
          have f135 : (q_I r71 6 0 a0).toInt = (q_I δ 6 0 a0).toInt := congrArg Int32.toInt (u74 6 0 a0 (by decide))
          have f136 := ti_b (q_I d86 6 2 a0)
          have f137 : (q_I d86 6 2 a0).toInt = (q_I r71 6 2 a0).toInt := congrArg Int32.toInt (by rw [e87]; exact rI_o (by decide))
          have f138 := ti_b (q_I r71 6 2 a0)
          have f139 : (q_I r71 6 2 a0).toInt = (q_I δ 6 2 a0).toInt := congrArg Int32.toInt (u74 6 2 a0 (by decide))
          exact ok_some (show CI ad h.1 δ0 d86 ∧ (kp [(6, 0), (6, 1), (6, 2), (7, 3), (7, 4), (7, 5), (7, 6)] δ d86 ∧ q_V d86 = q_V δ ∧ q_R d86 = q_R δ) ∧ ((q_I d86 7 5 a1).toInt = 0 → 2 ≤ (q_I d86 6 0 a0).toInt ∧ (q_I d86 6 0 a0).toInt ≤ 16 ∧ 1 ≤ (q_I d86 6 2 a0).toInt ∧ (q_I d86 6 2 a0).toInt ≤ 5) from ⟨i88, ⟨kp_w (by decide) u89, v90, v91⟩, by first | assumption | omega⟩)
      · have c140 : (q_I d86 6 1 a0).toInt ≠ (0 : Int) := o_ne h94
        unfold J_X6_readValue_71
        have f141 := ti_b (q_I d86 7 5 a1)
        have f142 : (q_I d86 7 5 a1).toInt = (q_I r71 7 5 a1).toInt := congrArg Int32.toInt (by rw [e87]; exact rI_o (by decide))
        have f143 := ti_b (q_I r71 7 5 a1)
        have f144 : (q_I r71 7 5 a1).toInt = (q_I δ 7 5 a1).toInt := congrArg Int32.toInt (u74 7 5 a1 (by decide))
        have f145 := ti_b (q_I d86 6 0 a0)
        have f146 : (q_I d86 6 0 a0).toInt = (q_I r71 6 0 a0).toInt := congrArg Int32.toInt (by rw [e87]; exact rI_o (by decide))
        have f147 := ti_b (q_I r71 6 0 a0)
        have f148 : (q_I r71 6 0 a0).toInt = (q_I δ 6 0 a0).toInt := congrArg Int32.toInt (u74 6 0 a0 (by decide))
        have f149 := ti_b (q_I d86 6 2 a0)
        have f150 : (q_I d86 6 2 a0).toInt = (q_I r71 6 2 a0).toInt := congrArg Int32.toInt (by rw [e87]; exact rI_o (by decide))
        have f151 := ti_b (q_I r71 6 2 a0)
        have f152 : (q_I r71 6 2 a0).toInt = (q_I δ 6 2 a0).toInt := congrArg Int32.toInt (u74 6 2 a0 (by decide))
        exact ok_some (show CI ad h.1 δ0 d86 ∧ (kp [(6, 0), (6, 1), (6, 2), (7, 3), (7, 4), (7, 5), (7, 6)] δ d86 ∧ q_V d86 = q_V δ ∧ q_R d86 = q_R δ) ∧ ((q_I d86 7 5 a1).toInt = 0 → 2 ≤ (q_I d86 6 0 a0).toInt ∧ (q_I d86 6 0 a0).toInt ≤ 16 ∧ 1 ≤ (q_I d86 6 2 a0).toInt ∧ (q_I d86 6 2 a0).toInt ≤ 5) from ⟨i88, ⟨kp_w (by decide) u89, v90, v91⟩, by first | assumption | omega⟩)
set_option maxHeartbeats 4000000 in
theorem k_X6_readClause {ad : List Nat} {h : hp} (L : Lay TLx ad h) {δ0 : dp} {N : Nat} (hN : 10000000 ≤ N) {a0 : Nat} {a1 : Nat} (k_a0 : q_K h.1 a0 = 6) (k_a1 : q_K h.1 a1 = 7) {δ : dp} (z0 : (q_I δ 7 5 a1).toInt = 0 → 2 ≤ (q_I δ 6 0 a0).toInt ∧ (q_I δ 6 0 a0).toInt ≤ 16 ∧ 1 ≤ (q_I δ 6 2 a0).toInt ∧ (q_I δ 6 2 a0).toInt ≤ 5) (I : CI ad h.1 δ0 δ) : ok (D_X6_readClause N h.1 a0 a1 δ) (fun r => CI ad h.1 δ0 r ∧ (kp [(6, 0), (6, 1), (6, 2), (7, 3), (7, 4), (7, 5), (7, 6)] δ r ∧ q_V r = q_V δ) ∧ ((q_I r 7 5 a1).toInt = 0 → 2 ≤ (q_I r 6 0 a0).toInt ∧ (q_I r 6 0 a0).toInt ≤ 16 ∧ 1 ≤ (q_I r 6 2 a0).toInt ∧ (q_I r 6 2 a0).toInt ≤ 5)) := by
  unfold D_X6_readClause
  have f1 := ti_b (q_I δ 7 5 a1)
  have f2 := ti_b (q_I δ 6 0 a0)
  have f3 := ti_b (q_I δ 6 2 a0)
  refine ok_bind (k_X7_readWord L hN (a0 := a1) k_a1 I) (fun r4 hr5 => ?_)
  obtain ⟨i6, ⟨u7, u8, u9⟩⟩ := hr5
  have u10 := kp_t kp_r u7
  have v11 : q_V r4 = q_V δ := (u8).trans rfl
  refine ok_bind (k_X7_wordIs L hN (a0 := a1) (a1 := 0) k_a1 (show 0 < 16 by first | assumption | omega) i6) (fun r12 hr13 => ?_)
  obtain ⟨i14, p15⟩ := hr13
  try rw [i14]
  have f16 := bo_t p15
  have f17 := ti_b r12.1
  refine ok_ite (fun h18 => ?_) (fun h18 => ?_)
  · have c19 : r12.1.toInt = (0 : Int) := o_eq h18
    refine ok_bind (k_X7_wordIs L hN (a0 := a1) (a1 := 1) k_a1 (show 1 < 16 by first | assumption | omega) i6) (fun r20 hr21 => ?_)
    obtain ⟨i22, p23⟩ := hr21
    try rw [i22]
    have f24 := bo_t p23
    have f25 := ti_b r20.1
    refine ok_ite (fun h26 => ?_) (fun h26 => ?_)
    · have c27 : r20.1.toInt = (0 : Int) := o_eq h26
      refine ok_bind (k_X7_wordIs L hN (a0 := a1) (a1 := 2) k_a1 (show 2 < 16 by first | assumption | omega) i6) (fun r28 hr29 => ?_)
      obtain ⟨i30, p31⟩ := hr29
      try rw [i30]
      have f32 := bo_t p31
      have f33 := ti_b r28.1
      refine ok_ite (fun h34 => ?_) (fun h34 => ?_)
      · have c35 : r28.1.toInt = (0 : Int) := o_eq h34
        unfold J_X6_readClause_44
        refine ok_ite (fun h36 => ?_) (fun h36 => ?_)
        · have c37 : (-1 : Int) = (-1 : Int) := o_eq h36
          refine ok_bind (k_X7_refuse L hN (a0 := a1) (x1 := (1 : Int32)) k_a1 (show (1 : Int) ≠ 0 by first | assumption | omega) i6) (fun r38 hr39 => ?_)
          obtain ⟨i40, ⟨u42, u43, u44⟩, p41⟩ := hr39
          have u45 := kp_t u10 u42
          have v46 : q_V r38 = q_V δ := (u43).trans v11
          have f47 := ti_b (q_I r38 7 5 a1)
          unfold J_X6_readClause_94
          have f48 := ti_b (q_I r38 6 0 a0)
          have f49 : (q_I r38 6 0 a0).toInt = (q_I r4 6 0 a0).toInt := congrArg Int32.toInt (u42 6 0 a0 (by decide))
          have f50 := ti_b (q_I r4 6 0 a0)
          have f51 : (q_I r4 6 0 a0).toInt = (q_I δ 6 0 a0).toInt := congrArg Int32.toInt (u7 6 0 a0 (by decide))
          have f52 := ti_b (q_I r38 6 2 a0)
          have f53 : (q_I r38 6 2 a0).toInt = (q_I r4 6 2 a0).toInt := congrArg Int32.toInt (u42 6 2 a0 (by decide))
          have f54 := ti_b (q_I r4 6 2 a0)
          have f55 : (q_I r4 6 2 a0).toInt = (q_I δ 6 2 a0).toInt := congrArg Int32.toInt (u7 6 2 a0 (by decide))
          exact ok_some (show CI ad h.1 δ0 r38 ∧ (kp [(6, 0), (6, 1), (6, 2), (7, 3), (7, 4), (7, 5), (7, 6)] δ r38 ∧ q_V r38 = q_V δ) ∧ ((q_I r38 7 5 a1).toInt = 0 → 2 ≤ (q_I r38 6 0 a0).toInt ∧ (q_I r38 6 0 a0).toInt ≤ 16 ∧ 1 ≤ (q_I r38 6 2 a0).toInt ∧ (q_I r38 6 2 a0).toInt ≤ 5) from ⟨i40, ⟨kp_w (by decide) u45, v46⟩, by first | assumption | omega⟩)
        · have c56 : (-1 : Int) ≠ (-1 : Int) := o_ne h36
          obtain ⟨b57, o58, k59, n60, w61⟩ := gO_6_3 L k_a0
          refine ok_at o58 ?_
          have t62 : (-1 : Int32).toNatClampNeg = 0 := rfl
          refine ok_gd (fun hc63 => ?_) ?_
          · rcases hc63 with hc63 | hc63
            · have c64 : (-1 : Int) < (0 : Int) := o_lt hc63
              omega
            · omega
          have f65 := ti_b (q_R r4 b57 (-1 : Int32).toNatClampNeg)
          refine ok_ite (fun h66 => ?_) (fun h66 => ?_)
          · have c67 : (q_R r4 b57 (-1 : Int32).toNatClampNeg).toInt = (0 : Int) := o_eq h66
            refine ok_at o58 ?_
            refine ok_gd (fun hc68 => ?_) ?_
            · rcases hc68 with hc68 | hc68
              · have c69 : (-1 : Int) < (0 : Int) := o_lt hc68
                omega
              · omega
            refine ok_bdv (fun d70 e71 => ?_)
            have i72 : CI ad h.1 δ0 d70 := by rw [e71]; exact CI.sR L i6 w61
            have u73 := kp_N u10 (show q_I d70 = q_I r4 by rw [e71]; rfl)
            have v74 : q_V d70 = q_V δ := ((show q_V d70 = q_V r4 by rw [e71]; rfl)).trans v11
            have f77 := ti_b (q_I d70 7 5 a1)
            have f78 : (q_I d70 7 5 a1).toInt = (q_I r4 7 5 a1).toInt := congrArg Int32.toInt (by rw [e71]; rfl)
            have f79 := ti_b (q_I r4 7 5 a1)
            have f80 : (q_I r4 7 5 a1).toInt = (q_I δ 7 5 a1).toInt := congrArg Int32.toInt (u7 7 5 a1 (by decide))
            have f81 := ti_b (q_I d70 6 0 a0)
            have f82 : (q_I d70 6 0 a0).toInt = (q_I r4 6 0 a0).toInt := congrArg Int32.toInt (by rw [e71]; rfl)
            have f83 := ti_b (q_I r4 6 0 a0)
            have f84 : (q_I r4 6 0 a0).toInt = (q_I δ 6 0 a0).toInt := congrArg Int32.toInt (u7 6 0 a0 (by decide))
            have f85 := ti_b (q_I d70 6 2 a0)
            have f86 : (q_I d70 6 2 a0).toInt = (q_I r4 6 2 a0).toInt := congrArg Int32.toInt (by rw [e71]; rfl)
            have f87 := ti_b (q_I r4 6 2 a0)
            have f88 : (q_I r4 6 2 a0).toInt = (q_I δ 6 2 a0).toInt := congrArg Int32.toInt (u7 6 2 a0 (by decide))
            refine ok_bind (k_X6_readValue L hN (a0 := a0) (a1 := a1) (x2 := (-1 : Int32)) k_a0 k_a1 (show (q_I d70 7 5 a1).toInt = 0 → 2 ≤ (q_I d70 6 0 a0).toInt ∧ (q_I d70 6 0 a0).toInt ≤ 16 ∧ 1 ≤ (q_I d70 6 2 a0).toInt ∧ (q_I d70 6 2 a0).toInt ≤ 5 by first | assumption | omega) i72) (fun r75 hr76 => ?_)
            obtain ⟨i89, ⟨u91, u92, u93⟩, p90⟩ := hr76
            have u94 := kp_t u73 u91
            have v95 : q_V r75 = q_V δ := (u92).trans v74
            have f96 := ti_b (q_I r75 7 5 a1)
            have f97 := ti_b (q_I r75 6 0 a0)
            have f98 := ti_b (q_I r75 6 2 a0)
            refine ok_bind (k_X7_needSign L hN (a0 := a1) (x1 := (59 : Int32)) k_a1 (show (59 : Int) ≠ -1 by first | assumption | omega) i89) (fun r99 hr100 => ?_)
            obtain ⟨i101, ⟨u103, u104, u105⟩, p102⟩ := hr100
            have u106 := kp_t u94 u103
            have v107 : q_V r99 = q_V δ := (u104).trans v95
            have f108 := ti_b (q_I r99 7 5 a1)
            unfold J_X6_readClause_94
            have f109 := ti_b (q_I r99 6 0 a0)
            have f110 : (q_I r99 6 0 a0).toInt = (q_I r75 6 0 a0).toInt := congrArg Int32.toInt (u103 6 0 a0 (by decide))
            have f111 := ti_b (q_I r99 6 2 a0)
            have f112 : (q_I r99 6 2 a0).toInt = (q_I r75 6 2 a0).toInt := congrArg Int32.toInt (u103 6 2 a0 (by decide))
            exact ok_some (show CI ad h.1 δ0 r99 ∧ (kp [(6, 0), (6, 1), (6, 2), (7, 3), (7, 4), (7, 5), (7, 6)] δ r99 ∧ q_V r99 = q_V δ) ∧ ((q_I r99 7 5 a1).toInt = 0 → 2 ≤ (q_I r99 6 0 a0).toInt ∧ (q_I r99 6 0 a0).toInt ≤ 16 ∧ 1 ≤ (q_I r99 6 2 a0).toInt ∧ (q_I r99 6 2 a0).toInt ≤ 5) from ⟨i101, ⟨kp_w (by decide) u106, v107⟩, by first | assumption | omega⟩)
          · have c113 : (q_R r4 b57 (-1 : Int32).toNatClampNeg).toInt ≠ (0 : Int) := o_ne h66
            refine ok_bind (k_X7_refuse L hN (a0 := a1) (x1 := (4 : Int32)) k_a1 (show (4 : Int) ≠ 0 by first | assumption | omega) i6) (fun r114 hr115 => ?_)
            obtain ⟨i116, ⟨u118, u119, u120⟩, p117⟩ := hr115
            have u121 := kp_t u10 u118
            have v122 : q_V r114 = q_V δ := (u119).trans v11
            have f123 := ti_b (q_I r114 7 5 a1)
            unfold J_X6_readClause_94
            have f124 := ti_b (q_I r114 6 0 a0)
            have f125 : (q_I r114 6 0 a0).toInt = (q_I r4 6 0 a0).toInt := congrArg Int32.toInt (u118 6 0 a0 (by decide))
            have f126 := ti_b (q_I r4 6 0 a0)
            have f127 : (q_I r4 6 0 a0).toInt = (q_I δ 6 0 a0).toInt := congrArg Int32.toInt (u7 6 0 a0 (by decide))
            have f128 := ti_b (q_I r114 6 2 a0)
            have f129 : (q_I r114 6 2 a0).toInt = (q_I r4 6 2 a0).toInt := congrArg Int32.toInt (u118 6 2 a0 (by decide))
            have f130 := ti_b (q_I r4 6 2 a0)
            have f131 : (q_I r4 6 2 a0).toInt = (q_I δ 6 2 a0).toInt := congrArg Int32.toInt (u7 6 2 a0 (by decide))
            exact ok_some (show CI ad h.1 δ0 r114 ∧ (kp [(6, 0), (6, 1), (6, 2), (7, 3), (7, 4), (7, 5), (7, 6)] δ r114 ∧ q_V r114 = q_V δ) ∧ ((q_I r114 7 5 a1).toInt = 0 → 2 ≤ (q_I r114 6 0 a0).toInt ∧ (q_I r114 6 0 a0).toInt ≤ 16 ∧ 1 ≤ (q_I r114 6 2 a0).toInt ∧ (q_I r114 6 2 a0).toInt ≤ 5) from ⟨i116, ⟨kp_w (by decide) u121, v122⟩, by first | assumption | omega⟩)
      · have c132 : r28.1.toInt ≠ (0 : Int) := o_ne h34
        unfold J_X6_readClause_44
        refine ok_ite (fun h133 => ?_) (fun h133 => ?_)
        · have c134 : (2 : Int) = (-1 : Int) := o_eq h133
          refine ok_bind (k_X7_refuse L hN (a0 := a1) (x1 := (1 : Int32)) k_a1 (show (1 : Int) ≠ 0 by first | assumption | omega) i6) (fun r135 hr136 => ?_)
          obtain ⟨i137, ⟨u139, u140, u141⟩, p138⟩ := hr136
          have u142 := kp_t u10 u139
          have v143 : q_V r135 = q_V δ := (u140).trans v11
          have f144 := ti_b (q_I r135 7 5 a1)
          unfold J_X6_readClause_94
          have f145 := ti_b (q_I r135 6 0 a0)
          have f146 : (q_I r135 6 0 a0).toInt = (q_I r4 6 0 a0).toInt := congrArg Int32.toInt (u139 6 0 a0 (by decide))
          have f147 := ti_b (q_I r4 6 0 a0)
          have f148 : (q_I r4 6 0 a0).toInt = (q_I δ 6 0 a0).toInt := congrArg Int32.toInt (u7 6 0 a0 (by decide))
          have f149 := ti_b (q_I r135 6 2 a0)
          have f150 : (q_I r135 6 2 a0).toInt = (q_I r4 6 2 a0).toInt := congrArg Int32.toInt (u139 6 2 a0 (by decide))
          have f151 := ti_b (q_I r4 6 2 a0)
          have f152 : (q_I r4 6 2 a0).toInt = (q_I δ 6 2 a0).toInt := congrArg Int32.toInt (u7 6 2 a0 (by decide))
          exact ok_some (show CI ad h.1 δ0 r135 ∧ (kp [(6, 0), (6, 1), (6, 2), (7, 3), (7, 4), (7, 5), (7, 6)] δ r135 ∧ q_V r135 = q_V δ) ∧ ((q_I r135 7 5 a1).toInt = 0 → 2 ≤ (q_I r135 6 0 a0).toInt ∧ (q_I r135 6 0 a0).toInt ≤ 16 ∧ 1 ≤ (q_I r135 6 2 a0).toInt ∧ (q_I r135 6 2 a0).toInt ≤ 5) from ⟨i137, ⟨kp_w (by decide) u142, v143⟩, by first | assumption | omega⟩)
        · have c153 : (2 : Int) ≠ (-1 : Int) := o_ne h133
          obtain ⟨b154, o155, k156, n157, w158⟩ := gO_6_3 L k_a0
          refine ok_at o155 ?_
          have t159 : (2 : Int32).toNatClampNeg = 2 := rfl
          refine ok_gd (fun hc160 => ?_) ?_
          · rcases hc160 with hc160 | hc160
            · have c161 : (2 : Int) < (0 : Int) := o_lt hc160
              omega
            · omega
          have f162 := ti_b (q_R r4 b154 (2 : Int32).toNatClampNeg)
          refine ok_ite (fun h163 => ?_) (fun h163 => ?_)
          · have c164 : (q_R r4 b154 (2 : Int32).toNatClampNeg).toInt = (0 : Int) := o_eq h163
            refine ok_at o155 ?_
            refine ok_gd (fun hc165 => ?_) ?_
            · rcases hc165 with hc165 | hc165
              · have c166 : (2 : Int) < (0 : Int) := o_lt hc165
                omega
              · omega
            refine ok_bdv (fun d167 e168 => ?_)
            have i169 : CI ad h.1 δ0 d167 := by rw [e168]; exact CI.sR L i6 w158
            have u170 := kp_N u10 (show q_I d167 = q_I r4 by rw [e168]; rfl)
            have v171 : q_V d167 = q_V δ := ((show q_V d167 = q_V r4 by rw [e168]; rfl)).trans v11
            have f174 := ti_b (q_I d167 7 5 a1)
            have f175 : (q_I d167 7 5 a1).toInt = (q_I r4 7 5 a1).toInt := congrArg Int32.toInt (by rw [e168]; rfl)
            have f176 := ti_b (q_I r4 7 5 a1)
            have f177 : (q_I r4 7 5 a1).toInt = (q_I δ 7 5 a1).toInt := congrArg Int32.toInt (u7 7 5 a1 (by decide))
            have f178 := ti_b (q_I d167 6 0 a0)
            have f179 : (q_I d167 6 0 a0).toInt = (q_I r4 6 0 a0).toInt := congrArg Int32.toInt (by rw [e168]; rfl)
            have f180 := ti_b (q_I r4 6 0 a0)
            have f181 : (q_I r4 6 0 a0).toInt = (q_I δ 6 0 a0).toInt := congrArg Int32.toInt (u7 6 0 a0 (by decide))
            have f182 := ti_b (q_I d167 6 2 a0)
            have f183 : (q_I d167 6 2 a0).toInt = (q_I r4 6 2 a0).toInt := congrArg Int32.toInt (by rw [e168]; rfl)
            have f184 := ti_b (q_I r4 6 2 a0)
            have f185 : (q_I r4 6 2 a0).toInt = (q_I δ 6 2 a0).toInt := congrArg Int32.toInt (u7 6 2 a0 (by decide))
            refine ok_bind (k_X6_readValue L hN (a0 := a0) (a1 := a1) (x2 := (2 : Int32)) k_a0 k_a1 (show (q_I d167 7 5 a1).toInt = 0 → 2 ≤ (q_I d167 6 0 a0).toInt ∧ (q_I d167 6 0 a0).toInt ≤ 16 ∧ 1 ≤ (q_I d167 6 2 a0).toInt ∧ (q_I d167 6 2 a0).toInt ≤ 5 by first | assumption | omega) i169) (fun r172 hr173 => ?_)
            obtain ⟨i186, ⟨u188, u189, u190⟩, p187⟩ := hr173
            have u191 := kp_t u170 u188
            have v192 : q_V r172 = q_V δ := (u189).trans v171
            have f193 := ti_b (q_I r172 7 5 a1)
            have f194 := ti_b (q_I r172 6 0 a0)
            have f195 := ti_b (q_I r172 6 2 a0)
            refine ok_bind (k_X7_needSign L hN (a0 := a1) (x1 := (59 : Int32)) k_a1 (show (59 : Int) ≠ -1 by first | assumption | omega) i186) (fun r196 hr197 => ?_)
            obtain ⟨i198, ⟨u200, u201, u202⟩, p199⟩ := hr197
            have u203 := kp_t u191 u200
            have v204 : q_V r196 = q_V δ := (u201).trans v192
            have f205 := ti_b (q_I r196 7 5 a1)
            unfold J_X6_readClause_94
            have f206 := ti_b (q_I r196 6 0 a0)
            have f207 : (q_I r196 6 0 a0).toInt = (q_I r172 6 0 a0).toInt := congrArg Int32.toInt (u200 6 0 a0 (by decide))
            have f208 := ti_b (q_I r196 6 2 a0)
            have f209 : (q_I r196 6 2 a0).toInt = (q_I r172 6 2 a0).toInt := congrArg Int32.toInt (u200 6 2 a0 (by decide))
            exact ok_some (show CI ad h.1 δ0 r196 ∧ (kp [(6, 0), (6, 1), (6, 2), (7, 3), (7, 4), (7, 5), (7, 6)] δ r196 ∧ q_V r196 = q_V δ) ∧ ((q_I r196 7 5 a1).toInt = 0 → 2 ≤ (q_I r196 6 0 a0).toInt ∧ (q_I r196 6 0 a0).toInt ≤ 16 ∧ 1 ≤ (q_I r196 6 2 a0).toInt ∧ (q_I r196 6 2 a0).toInt ≤ 5) from ⟨i198, ⟨kp_w (by decide) u203, v204⟩, by first | assumption | omega⟩)
          · have c210 : (q_R r4 b154 (2 : Int32).toNatClampNeg).toInt ≠ (0 : Int) := o_ne h163
            refine ok_bind (k_X7_refuse L hN (a0 := a1) (x1 := (4 : Int32)) k_a1 (show (4 : Int) ≠ 0 by first | assumption | omega) i6) (fun r211 hr212 => ?_)
            obtain ⟨i213, ⟨u215, u216, u217⟩, p214⟩ := hr212
            have u218 := kp_t u10 u215
            have v219 : q_V r211 = q_V δ := (u216).trans v11
            have f220 := ti_b (q_I r211 7 5 a1)
            unfold J_X6_readClause_94
            have f221 := ti_b (q_I r211 6 0 a0)
            have f222 : (q_I r211 6 0 a0).toInt = (q_I r4 6 0 a0).toInt := congrArg Int32.toInt (u215 6 0 a0 (by decide))
            have f223 := ti_b (q_I r4 6 0 a0)
            have f224 : (q_I r4 6 0 a0).toInt = (q_I δ 6 0 a0).toInt := congrArg Int32.toInt (u7 6 0 a0 (by decide))
            have f225 := ti_b (q_I r211 6 2 a0)
            have f226 : (q_I r211 6 2 a0).toInt = (q_I r4 6 2 a0).toInt := congrArg Int32.toInt (u215 6 2 a0 (by decide))
            have f227 := ti_b (q_I r4 6 2 a0)
            have f228 : (q_I r4 6 2 a0).toInt = (q_I δ 6 2 a0).toInt := congrArg Int32.toInt (u7 6 2 a0 (by decide))
            exact ok_some (show CI ad h.1 δ0 r211 ∧ (kp [(6, 0), (6, 1), (6, 2), (7, 3), (7, 4), (7, 5), (7, 6)] δ r211 ∧ q_V r211 = q_V δ) ∧ ((q_I r211 7 5 a1).toInt = 0 → 2 ≤ (q_I r211 6 0 a0).toInt ∧ (q_I r211 6 0 a0).toInt ≤ 16 ∧ 1 ≤ (q_I r211 6 2 a0).toInt ∧ (q_I r211 6 2 a0).toInt ≤ 5) from ⟨i213, ⟨kp_w (by decide) u218, v219⟩, by first | assumption | omega⟩)
    · have c229 : r20.1.toInt ≠ (0 : Int) := o_ne h26
      unfold J_X6_readClause_44
      refine ok_ite (fun h230 => ?_) (fun h230 => ?_)
      · have c231 : (1 : Int) = (-1 : Int) := o_eq h230
        refine ok_bind (k_X7_refuse L hN (a0 := a1) (x1 := (1 : Int32)) k_a1 (show (1 : Int) ≠ 0 by first | assumption | omega) i6) (fun r232 hr233 => ?_)
        obtain ⟨i234, ⟨u236, u237, u238⟩, p235⟩ := hr233
        have u239 := kp_t u10 u236
        have v240 : q_V r232 = q_V δ := (u237).trans v11
        have f241 := ti_b (q_I r232 7 5 a1)
        unfold J_X6_readClause_94
        have f242 := ti_b (q_I r232 6 0 a0)
        have f243 : (q_I r232 6 0 a0).toInt = (q_I r4 6 0 a0).toInt := congrArg Int32.toInt (u236 6 0 a0 (by decide))
        have f244 := ti_b (q_I r4 6 0 a0)
        have f245 : (q_I r4 6 0 a0).toInt = (q_I δ 6 0 a0).toInt := congrArg Int32.toInt (u7 6 0 a0 (by decide))
        have f246 := ti_b (q_I r232 6 2 a0)
        have f247 : (q_I r232 6 2 a0).toInt = (q_I r4 6 2 a0).toInt := congrArg Int32.toInt (u236 6 2 a0 (by decide))
        have f248 := ti_b (q_I r4 6 2 a0)
        have f249 : (q_I r4 6 2 a0).toInt = (q_I δ 6 2 a0).toInt := congrArg Int32.toInt (u7 6 2 a0 (by decide))
        exact ok_some (show CI ad h.1 δ0 r232 ∧ (kp [(6, 0), (6, 1), (6, 2), (7, 3), (7, 4), (7, 5), (7, 6)] δ r232 ∧ q_V r232 = q_V δ) ∧ ((q_I r232 7 5 a1).toInt = 0 → 2 ≤ (q_I r232 6 0 a0).toInt ∧ (q_I r232 6 0 a0).toInt ≤ 16 ∧ 1 ≤ (q_I r232 6 2 a0).toInt ∧ (q_I r232 6 2 a0).toInt ≤ 5) from ⟨i234, ⟨kp_w (by decide) u239, v240⟩, by first | assumption | omega⟩)
      · have c250 : (1 : Int) ≠ (-1 : Int) := o_ne h230
        obtain ⟨b251, o252, k253, n254, w255⟩ := gO_6_3 L k_a0
        refine ok_at o252 ?_
        have t256 : (1 : Int32).toNatClampNeg = 1 := rfl
        refine ok_gd (fun hc257 => ?_) ?_
        · rcases hc257 with hc257 | hc257
          · have c258 : (1 : Int) < (0 : Int) := o_lt hc257
            omega
          · omega
        have f259 := ti_b (q_R r4 b251 (1 : Int32).toNatClampNeg)
        refine ok_ite (fun h260 => ?_) (fun h260 => ?_)
        · have c261 : (q_R r4 b251 (1 : Int32).toNatClampNeg).toInt = (0 : Int) := o_eq h260
          refine ok_at o252 ?_
          refine ok_gd (fun hc262 => ?_) ?_
          · rcases hc262 with hc262 | hc262
            · have c263 : (1 : Int) < (0 : Int) := o_lt hc262
              omega
            · omega
          refine ok_bdv (fun d264 e265 => ?_)
          have i266 : CI ad h.1 δ0 d264 := by rw [e265]; exact CI.sR L i6 w255
          have u267 := kp_N u10 (show q_I d264 = q_I r4 by rw [e265]; rfl)
          have v268 : q_V d264 = q_V δ := ((show q_V d264 = q_V r4 by rw [e265]; rfl)).trans v11
          have f271 := ti_b (q_I d264 7 5 a1)
          have f272 : (q_I d264 7 5 a1).toInt = (q_I r4 7 5 a1).toInt := congrArg Int32.toInt (by rw [e265]; rfl)
          have f273 := ti_b (q_I r4 7 5 a1)
          have f274 : (q_I r4 7 5 a1).toInt = (q_I δ 7 5 a1).toInt := congrArg Int32.toInt (u7 7 5 a1 (by decide))
          have f275 := ti_b (q_I d264 6 0 a0)
          have f276 : (q_I d264 6 0 a0).toInt = (q_I r4 6 0 a0).toInt := congrArg Int32.toInt (by rw [e265]; rfl)
          have f277 := ti_b (q_I r4 6 0 a0)
          have f278 : (q_I r4 6 0 a0).toInt = (q_I δ 6 0 a0).toInt := congrArg Int32.toInt (u7 6 0 a0 (by decide))
          have f279 := ti_b (q_I d264 6 2 a0)
          have f280 : (q_I d264 6 2 a0).toInt = (q_I r4 6 2 a0).toInt := congrArg Int32.toInt (by rw [e265]; rfl)
          have f281 := ti_b (q_I r4 6 2 a0)
          have f282 : (q_I r4 6 2 a0).toInt = (q_I δ 6 2 a0).toInt := congrArg Int32.toInt (u7 6 2 a0 (by decide))
          refine ok_bind (k_X6_readValue L hN (a0 := a0) (a1 := a1) (x2 := (1 : Int32)) k_a0 k_a1 (show (q_I d264 7 5 a1).toInt = 0 → 2 ≤ (q_I d264 6 0 a0).toInt ∧ (q_I d264 6 0 a0).toInt ≤ 16 ∧ 1 ≤ (q_I d264 6 2 a0).toInt ∧ (q_I d264 6 2 a0).toInt ≤ 5 by first | assumption | omega) i266) (fun r269 hr270 => ?_)
          obtain ⟨i283, ⟨u285, u286, u287⟩, p284⟩ := hr270
          have u288 := kp_t u267 u285
          have v289 : q_V r269 = q_V δ := (u286).trans v268
          have f290 := ti_b (q_I r269 7 5 a1)
          have f291 := ti_b (q_I r269 6 0 a0)
          have f292 := ti_b (q_I r269 6 2 a0)
          refine ok_bind (k_X7_needSign L hN (a0 := a1) (x1 := (59 : Int32)) k_a1 (show (59 : Int) ≠ -1 by first | assumption | omega) i283) (fun r293 hr294 => ?_)
          obtain ⟨i295, ⟨u297, u298, u299⟩, p296⟩ := hr294
          have u300 := kp_t u288 u297
          have v301 : q_V r293 = q_V δ := (u298).trans v289
          have f302 := ti_b (q_I r293 7 5 a1)
          unfold J_X6_readClause_94
          have f303 := ti_b (q_I r293 6 0 a0)
          have f304 : (q_I r293 6 0 a0).toInt = (q_I r269 6 0 a0).toInt := congrArg Int32.toInt (u297 6 0 a0 (by decide))
          have f305 := ti_b (q_I r293 6 2 a0)
          have f306 : (q_I r293 6 2 a0).toInt = (q_I r269 6 2 a0).toInt := congrArg Int32.toInt (u297 6 2 a0 (by decide))
          exact ok_some (show CI ad h.1 δ0 r293 ∧ (kp [(6, 0), (6, 1), (6, 2), (7, 3), (7, 4), (7, 5), (7, 6)] δ r293 ∧ q_V r293 = q_V δ) ∧ ((q_I r293 7 5 a1).toInt = 0 → 2 ≤ (q_I r293 6 0 a0).toInt ∧ (q_I r293 6 0 a0).toInt ≤ 16 ∧ 1 ≤ (q_I r293 6 2 a0).toInt ∧ (q_I r293 6 2 a0).toInt ≤ 5) from ⟨i295, ⟨kp_w (by decide) u300, v301⟩, by first | assumption | omega⟩)
        · have c307 : (q_R r4 b251 (1 : Int32).toNatClampNeg).toInt ≠ (0 : Int) := o_ne h260
          refine ok_bind (k_X7_refuse L hN (a0 := a1) (x1 := (4 : Int32)) k_a1 (show (4 : Int) ≠ 0 by first | assumption | omega) i6) (fun r308 hr309 => ?_)
          obtain ⟨i310, ⟨u312, u313, u314⟩, p311⟩ := hr309
          have u315 := kp_t u10 u312
          have v316 : q_V r308 = q_V δ := (u313).trans v11
          have f317 := ti_b (q_I r308 7 5 a1)
          unfold J_X6_readClause_94
          have f318 := ti_b (q_I r308 6 0 a0)
          have f319 : (q_I r308 6 0 a0).toInt = (q_I r4 6 0 a0).toInt := congrArg Int32.toInt (u312 6 0 a0 (by decide))
          have f320 := ti_b (q_I r4 6 0 a0)
          have f321 : (q_I r4 6 0 a0).toInt = (q_I δ 6 0 a0).toInt := congrArg Int32.toInt (u7 6 0 a0 (by decide))
          have f322 := ti_b (q_I r308 6 2 a0)
          have f323 : (q_I r308 6 2 a0).toInt = (q_I r4 6 2 a0).toInt := congrArg Int32.toInt (u312 6 2 a0 (by decide))
          have f324 := ti_b (q_I r4 6 2 a0)
          have f325 : (q_I r4 6 2 a0).toInt = (q_I δ 6 2 a0).toInt := congrArg Int32.toInt (u7 6 2 a0 (by decide))
          exact ok_some (show CI ad h.1 δ0 r308 ∧ (kp [(6, 0), (6, 1), (6, 2), (7, 3), (7, 4), (7, 5), (7, 6)] δ r308 ∧ q_V r308 = q_V δ) ∧ ((q_I r308 7 5 a1).toInt = 0 → 2 ≤ (q_I r308 6 0 a0).toInt ∧ (q_I r308 6 0 a0).toInt ≤ 16 ∧ 1 ≤ (q_I r308 6 2 a0).toInt ∧ (q_I r308 6 2 a0).toInt ≤ 5) from ⟨i310, ⟨kp_w (by decide) u315, v316⟩, by first | assumption | omega⟩)
  · have c326 : r12.1.toInt ≠ (0 : Int) := o_ne h18
    unfold J_X6_readClause_44
    refine ok_ite (fun h327 => ?_) (fun h327 => ?_)
    · have c328 : (0 : Int) = (-1 : Int) := o_eq h327
      refine ok_bind (k_X7_refuse L hN (a0 := a1) (x1 := (1 : Int32)) k_a1 (show (1 : Int) ≠ 0 by first | assumption | omega) i6) (fun r329 hr330 => ?_)
      obtain ⟨i331, ⟨u333, u334, u335⟩, p332⟩ := hr330
      have u336 := kp_t u10 u333
      have v337 : q_V r329 = q_V δ := (u334).trans v11
      have f338 := ti_b (q_I r329 7 5 a1)
      unfold J_X6_readClause_94
      have f339 := ti_b (q_I r329 6 0 a0)
      have f340 : (q_I r329 6 0 a0).toInt = (q_I r4 6 0 a0).toInt := congrArg Int32.toInt (u333 6 0 a0 (by decide))
      have f341 := ti_b (q_I r4 6 0 a0)
      have f342 : (q_I r4 6 0 a0).toInt = (q_I δ 6 0 a0).toInt := congrArg Int32.toInt (u7 6 0 a0 (by decide))
      have f343 := ti_b (q_I r329 6 2 a0)
      have f344 : (q_I r329 6 2 a0).toInt = (q_I r4 6 2 a0).toInt := congrArg Int32.toInt (u333 6 2 a0 (by decide))
      have f345 := ti_b (q_I r4 6 2 a0)
      have f346 : (q_I r4 6 2 a0).toInt = (q_I δ 6 2 a0).toInt := congrArg Int32.toInt (u7 6 2 a0 (by decide))
      exact ok_some (show CI ad h.1 δ0 r329 ∧ (kp [(6, 0), (6, 1), (6, 2), (7, 3), (7, 4), (7, 5), (7, 6)] δ r329 ∧ q_V r329 = q_V δ) ∧ ((q_I r329 7 5 a1).toInt = 0 → 2 ≤ (q_I r329 6 0 a0).toInt ∧ (q_I r329 6 0 a0).toInt ≤ 16 ∧ 1 ≤ (q_I r329 6 2 a0).toInt ∧ (q_I r329 6 2 a0).toInt ≤ 5) from ⟨i331, ⟨kp_w (by decide) u336, v337⟩, by first | assumption | omega⟩)
    · have c347 : (0 : Int) ≠ (-1 : Int) := o_ne h327
      obtain ⟨b348, o349, k350, n351, w352⟩ := gO_6_3 L k_a0
      refine ok_at o349 ?_
      have t353 : (0 : Int32).toNatClampNeg = 0 := rfl
      refine ok_gd (fun hc354 => ?_) ?_
      · rcases hc354 with hc354 | hc354
        · have c355 : (0 : Int) < (0 : Int) := o_lt hc354
          omega
        · omega
      have f356 := ti_b (q_R r4 b348 (0 : Int32).toNatClampNeg)
      refine ok_ite (fun h357 => ?_) (fun h357 => ?_)
      · have c358 : (q_R r4 b348 (0 : Int32).toNatClampNeg).toInt = (0 : Int) := o_eq h357
        refine ok_at o349 ?_
        refine ok_gd (fun hc359 => ?_) ?_
        · rcases hc359 with hc359 | hc359
          · have c360 : (0 : Int) < (0 : Int) := o_lt hc359
            omega
          · omega
        refine ok_bdv (fun d361 e362 => ?_)
        have i363 : CI ad h.1 δ0 d361 := by rw [e362]; exact CI.sR L i6 w352
        have u364 := kp_N u10 (show q_I d361 = q_I r4 by rw [e362]; rfl)
        have v365 : q_V d361 = q_V δ := ((show q_V d361 = q_V r4 by rw [e362]; rfl)).trans v11
        have f368 := ti_b (q_I d361 7 5 a1)
        have f369 : (q_I d361 7 5 a1).toInt = (q_I r4 7 5 a1).toInt := congrArg Int32.toInt (by rw [e362]; rfl)
        have f370 := ti_b (q_I r4 7 5 a1)
        have f371 : (q_I r4 7 5 a1).toInt = (q_I δ 7 5 a1).toInt := congrArg Int32.toInt (u7 7 5 a1 (by decide))
        have f372 := ti_b (q_I d361 6 0 a0)
        have f373 : (q_I d361 6 0 a0).toInt = (q_I r4 6 0 a0).toInt := congrArg Int32.toInt (by rw [e362]; rfl)
        have f374 := ti_b (q_I r4 6 0 a0)
        have f375 : (q_I r4 6 0 a0).toInt = (q_I δ 6 0 a0).toInt := congrArg Int32.toInt (u7 6 0 a0 (by decide))
        have f376 := ti_b (q_I d361 6 2 a0)
        have f377 : (q_I d361 6 2 a0).toInt = (q_I r4 6 2 a0).toInt := congrArg Int32.toInt (by rw [e362]; rfl)
        have f378 := ti_b (q_I r4 6 2 a0)
        have f379 : (q_I r4 6 2 a0).toInt = (q_I δ 6 2 a0).toInt := congrArg Int32.toInt (u7 6 2 a0 (by decide))
        refine ok_bind (k_X6_readValue L hN (a0 := a0) (a1 := a1) (x2 := (0 : Int32)) k_a0 k_a1 (show (q_I d361 7 5 a1).toInt = 0 → 2 ≤ (q_I d361 6 0 a0).toInt ∧ (q_I d361 6 0 a0).toInt ≤ 16 ∧ 1 ≤ (q_I d361 6 2 a0).toInt ∧ (q_I d361 6 2 a0).toInt ≤ 5 by first | assumption | omega) i363) (fun r366 hr367 => ?_)
        obtain ⟨i380, ⟨u382, u383, u384⟩, p381⟩ := hr367
        have u385 := kp_t u364 u382
        have v386 : q_V r366 = q_V δ := (u383).trans v365
        have f387 := ti_b (q_I r366 7 5 a1)
        have f388 := ti_b (q_I r366 6 0 a0)
        have f389 := ti_b (q_I r366 6 2 a0)
        refine ok_bind (k_X7_needSign L hN (a0 := a1) (x1 := (59 : Int32)) k_a1 (show (59 : Int) ≠ -1 by first | assumption | omega) i380) (fun r390 hr391 => ?_)
        obtain ⟨i392, ⟨u394, u395, u396⟩, p393⟩ := hr391
        have u397 := kp_t u385 u394
        have v398 : q_V r390 = q_V δ := (u395).trans v386
        have f399 := ti_b (q_I r390 7 5 a1)
        unfold J_X6_readClause_94
        have f400 := ti_b (q_I r390 6 0 a0)
        have f401 : (q_I r390 6 0 a0).toInt = (q_I r366 6 0 a0).toInt := congrArg Int32.toInt (u394 6 0 a0 (by decide))
        have f402 := ti_b (q_I r390 6 2 a0)
        have f403 : (q_I r390 6 2 a0).toInt = (q_I r366 6 2 a0).toInt := congrArg Int32.toInt (u394 6 2 a0 (by decide))
        exact ok_some (show CI ad h.1 δ0 r390 ∧ (kp [(6, 0), (6, 1), (6, 2), (7, 3), (7, 4), (7, 5), (7, 6)] δ r390 ∧ q_V r390 = q_V δ) ∧ ((q_I r390 7 5 a1).toInt = 0 → 2 ≤ (q_I r390 6 0 a0).toInt ∧ (q_I r390 6 0 a0).toInt ≤ 16 ∧ 1 ≤ (q_I r390 6 2 a0).toInt ∧ (q_I r390 6 2 a0).toInt ≤ 5) from ⟨i392, ⟨kp_w (by decide) u397, v398⟩, by first | assumption | omega⟩)
      · have c404 : (q_R r4 b348 (0 : Int32).toNatClampNeg).toInt ≠ (0 : Int) := o_ne h357
        refine ok_bind (k_X7_refuse L hN (a0 := a1) (x1 := (4 : Int32)) k_a1 (show (4 : Int) ≠ 0 by first | assumption | omega) i6) (fun r405 hr406 => ?_)
        obtain ⟨i407, ⟨u409, u410, u411⟩, p408⟩ := hr406
        have u412 := kp_t u10 u409
        have v413 : q_V r405 = q_V δ := (u410).trans v11
        have f414 := ti_b (q_I r405 7 5 a1)
        unfold J_X6_readClause_94
        have f415 := ti_b (q_I r405 6 0 a0)
        have f416 : (q_I r405 6 0 a0).toInt = (q_I r4 6 0 a0).toInt := congrArg Int32.toInt (u409 6 0 a0 (by decide))
        have f417 := ti_b (q_I r4 6 0 a0)
        have f418 : (q_I r4 6 0 a0).toInt = (q_I δ 6 0 a0).toInt := congrArg Int32.toInt (u7 6 0 a0 (by decide))
        have f419 := ti_b (q_I r405 6 2 a0)
        have f420 : (q_I r405 6 2 a0).toInt = (q_I r4 6 2 a0).toInt := congrArg Int32.toInt (u409 6 2 a0 (by decide))
        have f421 := ti_b (q_I r4 6 2 a0)
        have f422 : (q_I r4 6 2 a0).toInt = (q_I δ 6 2 a0).toInt := congrArg Int32.toInt (u7 6 2 a0 (by decide))
        exact ok_some (show CI ad h.1 δ0 r405 ∧ (kp [(6, 0), (6, 1), (6, 2), (7, 3), (7, 4), (7, 5), (7, 6)] δ r405 ∧ q_V r405 = q_V δ) ∧ ((q_I r405 7 5 a1).toInt = 0 → 2 ≤ (q_I r405 6 0 a0).toInt ∧ (q_I r405 6 0 a0).toInt ≤ 16 ∧ 1 ≤ (q_I r405 6 2 a0).toInt ∧ (q_I r405 6 2 a0).toInt ≤ 5) from ⟨i407, ⟨kp_w (by decide) u412, v413⟩, by first | assumption | omega⟩)
set_option maxHeartbeats 4000000 in
theorem kl_X6_read_38 {ad : List Nat} {h : hp} (L : Lay TLx ad h) {δ0 : dp} {N : Nat} (hN : 10000000 ≤ N) {a0 : Nat} {a1 : Nat} (k_a0 : q_K h.1 a0 = 6) (k_a1 : q_K h.1 a1 = 7) : ∀ (n : Nat) (x2v : Int32) (δ : dp), CI ad h.1 δ0 δ → ((q_I δ 7 5 a1).toInt = 0 → 2 ≤ (q_I δ 6 0 a0).toInt ∧ (q_I δ 6 0 a0).toInt ≤ 16 ∧ 1 ≤ (q_I δ 6 2 a0).toInt ∧ (q_I δ 6 2 a0).toInt ≤ 5) → 0 ≤ (x2v).toInt → (x2v).toInt ≤ 500 → 500 - (x2v).toInt < (n : Int) → ok (L_X6_read_38 N h.1 a0 a1 n x2v δ) (fun r => CI ad h.1 δ0 r ∧ (kp [(6, 0), (6, 1), (6, 2), (7, 3), (7, 4), (7, 5), (7, 6)] δ r ∧ q_V r = q_V δ) ∧ ((q_I r 7 5 a1).toInt = 0 → 2 ≤ (q_I r 6 0 a0).toInt ∧ (q_I r 6 0 a0).toInt ≤ 16 ∧ 1 ≤ (q_I r 6 2 a0).toInt ∧ (q_I r 6 2 a0).toInt ≤ 5)) := by
  intro n
  induction n with
  | zero =>
    intro x2v δ I j0 j1 j2 hm
    have f1 := ti_b (q_I δ 7 5 a1)
    have f2 := ti_b (q_I δ 6 0 a0)
    have f3 := ti_b (q_I δ 6 2 a0)
    have f4 := ti_b x2v
    exfalso; omega
  | succ n ih =>
    intro x2v δ I j0 j1 j2 hm
    unfold L_X6_read_38
    have f1 := ti_b (q_I δ 7 5 a1)
    have f2 := ti_b (q_I δ 6 0 a0)
    have f3 := ti_b (q_I δ 6 2 a0)
    have f4 := ti_b x2v
    refine ok_ite (fun h5 => ?_) (fun h5 => ?_)
    · have c6 : (500 : Int) ≤ x2v.toInt := o_le h5
      unfold J_X6_read_71
      exact ok_some (show CI ad h.1 δ0 δ ∧ (kp [(6, 0), (6, 1), (6, 2), (7, 3), (7, 4), (7, 5), (7, 6)] δ δ ∧ q_V δ = q_V δ) ∧ ((q_I δ 7 5 a1).toInt = 0 → 2 ≤ (q_I δ 6 0 a0).toInt ∧ (q_I δ 6 0 a0).toInt ≤ 16 ∧ 1 ≤ (q_I δ 6 2 a0).toInt ∧ (q_I δ 6 2 a0).toInt ≤ 5) from ⟨I, ⟨kp_w (by decide) kp_r, rfl⟩, by first | assumption | omega⟩)
    · have c7 : x2v.toInt < (500 : Int) := o_nle h5
      refine ok_bind (k_X7_isSound L hN (a0 := a1) k_a1 I) (fun r8 hr9 => ?_)
      obtain ⟨i10, p11, p12, p13⟩ := hr9
      try rw [i10]
      have f14 := bo_t p11
      have f15 := ti_b r8.1
      have f16 := ti_b r8.1
      refine ok_ite (fun h17 => ?_) (fun h17 => ?_)
      · have c18 : r8.1.toInt = (0 : Int) := o_eq h17
        unfold J_X6_read_71
        exact ok_some (show CI ad h.1 δ0 δ ∧ (kp [(6, 0), (6, 1), (6, 2), (7, 3), (7, 4), (7, 5), (7, 6)] δ δ ∧ q_V δ = q_V δ) ∧ ((q_I δ 7 5 a1).toInt = 0 → 2 ≤ (q_I δ 6 0 a0).toInt ∧ (q_I δ 6 0 a0).toInt ≤ 16 ∧ 1 ≤ (q_I δ 6 2 a0).toInt ∧ (q_I δ 6 2 a0).toInt ≤ 5) from ⟨I, ⟨kp_w (by decide) kp_r, rfl⟩, by first | assumption | omega⟩)
      · have c19 : r8.1.toInt ≠ (0 : Int) := o_ne h17
        refine ok_bind (k_X7_ahead L hN (a0 := a1) k_a1 I) (fun r20 hr21 => ?_)
        obtain ⟨i22, ⟨u24, u25, u26⟩, p23⟩ := hr21
        have u27 := kp_t kp_r u24
        have v28 : q_V r20.2 = q_V δ := (u25).trans rfl
        have f29 := ti_b r20.1
        have f30 := cb_7_3 i22 k_a1
        have f31 := cb_7_2 i22 k_a1
        have f32 : (q_I r20.2 7 2 a1).toInt = (q_I δ 7 2 a1).toInt := congrArg Int32.toInt (u24 7 2 a1 (by decide))
        have f33 := cb_7_2 I k_a1
        have f34 := ti_b r20.1
        refine ok_ite (fun h35 => ?_) (fun h35 => ?_)
        · have c36 : r20.1.toInt = (-1 : Int) := o_eq h35
          unfold J_X6_read_71
          have f37 := ti_b (q_I r20.2 7 5 a1)
          have f38 : (q_I r20.2 7 5 a1).toInt = (q_I δ 7 5 a1).toInt := congrArg Int32.toInt (u24 7 5 a1 (by decide))
          have f39 := ti_b (q_I r20.2 6 0 a0)
          have f40 : (q_I r20.2 6 0 a0).toInt = (q_I δ 6 0 a0).toInt := congrArg Int32.toInt (u24 6 0 a0 (by decide))
          have f41 := ti_b (q_I r20.2 6 2 a0)
          have f42 : (q_I r20.2 6 2 a0).toInt = (q_I δ 6 2 a0).toInt := congrArg Int32.toInt (u24 6 2 a0 (by decide))
          exact ok_some (show CI ad h.1 δ0 r20.2 ∧ (kp [(6, 0), (6, 1), (6, 2), (7, 3), (7, 4), (7, 5), (7, 6)] δ r20.2 ∧ q_V r20.2 = q_V δ) ∧ ((q_I r20.2 7 5 a1).toInt = 0 → 2 ≤ (q_I r20.2 6 0 a0).toInt ∧ (q_I r20.2 6 0 a0).toInt ≤ 16 ∧ 1 ≤ (q_I r20.2 6 2 a0).toInt ∧ (q_I r20.2 6 2 a0).toInt ≤ 5) from ⟨i22, ⟨kp_w (by decide) u27, v28⟩, by first | assumption | omega⟩)
        · have c43 : r20.1.toInt ≠ (-1 : Int) := o_ne h35
          have f46 := ti_b (q_I r20.2 7 5 a1)
          have f47 : (q_I r20.2 7 5 a1).toInt = (q_I δ 7 5 a1).toInt := congrArg Int32.toInt (u24 7 5 a1 (by decide))
          have f48 := ti_b (q_I r20.2 6 0 a0)
          have f49 : (q_I r20.2 6 0 a0).toInt = (q_I δ 6 0 a0).toInt := congrArg Int32.toInt (u24 6 0 a0 (by decide))
          have f50 := ti_b (q_I r20.2 6 2 a0)
          have f51 : (q_I r20.2 6 2 a0).toInt = (q_I δ 6 2 a0).toInt := congrArg Int32.toInt (u24 6 2 a0 (by decide))
          refine ok_bind (k_X6_readClause L hN (a0 := a0) (a1 := a1) k_a0 k_a1 (show (q_I r20.2 7 5 a1).toInt = 0 → 2 ≤ (q_I r20.2 6 0 a0).toInt ∧ (q_I r20.2 6 0 a0).toInt ≤ 16 ∧ 1 ≤ (q_I r20.2 6 2 a0).toInt ∧ (q_I r20.2 6 2 a0).toInt ≤ 5 by first | assumption | omega) i22) (fun r44 hr45 => ?_)
          obtain ⟨i52, ⟨u54, u55⟩, p53⟩ := hr45
          have u56 := kp_t u27 u54
          have v57 : q_V r44 = q_V δ := (u55).trans v28
          have f58 := ti_b (q_I r44 7 5 a1)
          have f59 := ti_b (q_I r44 6 0 a0)
          have f60 := ti_b (q_I r44 6 2 a0)
          refine ok_biv (fun vx61 e62 => ?_)
          first | (have q63 := te_addc (c := 1) (n := 1) rfl x2v (by omega) (by omega); rw [← e62] at q63; obtain ⟨f64, f65, f66⟩ := q63) | (obtain ⟨q63, f64, f65, f66⟩ : ∃ q : Int, vx61.toInt = x2v.toInt + (1 : Int) + 4294967296 * q ∧ -2147483648 ≤ vx61.toInt ∧ vx61.toInt ≤ 2147483647 := by rw [e62]; exact ti_addc (c := 1) (n := 1) rfl x2v)
          refine ok_mono (ih vx61 r44 i52 (show (q_I r44 7 5 a1).toInt = 0 → 2 ≤ (q_I r44 6 0 a0).toInt ∧ (q_I r44 6 0 a0).toInt ≤ 16 ∧ 1 ≤ (q_I r44 6 2 a0).toInt ∧ (q_I r44 6 2 a0).toInt ≤ 5 by first | assumption | omega) (show 0 ≤ (vx61).toInt by first | assumption | omega) (show (vx61).toInt ≤ 500 by first | assumption | omega) (show 500 - (vx61).toInt < _ by omega)) (fun r67 hr68 => ?_)
          obtain ⟨i69, ⟨u71, u72⟩, p70⟩ := hr68
          have u73 := kp_t u56 u71
          have v74 : q_V r67 = q_V δ := (u72).trans v57
          have f75 := ti_b (q_I r67 7 5 a1)
          have f76 := ti_b (q_I r67 6 0 a0)
          have f77 := ti_b (q_I r67 6 2 a0)
          exact ⟨by assumption, ⟨kp_w (by decide) u73, v74⟩, by first | assumption | omega⟩
set_option maxHeartbeats 4000000 in
theorem kl_X6_read_18 {ad : List Nat} {h : hp} (L : Lay TLx ad h) {δ0 : dp} {N : Nat} (hN : 10000000 ≤ N) {a0 : Nat} {a1 : Nat} (k_a0 : q_K h.1 a0 = 6) (k_a1 : q_K h.1 a1 = 7) : ∀ (n : Nat) (x2v : Int32) (δ : dp), CI ad h.1 δ0 δ → ((q_I δ 7 5 a1).toInt = 0 → 2 ≤ (q_I δ 6 0 a0).toInt ∧ (q_I δ 6 0 a0).toInt ≤ 16 ∧ 1 ≤ (q_I δ 6 2 a0).toInt ∧ (q_I δ 6 2 a0).toInt ≤ 5) → 0 ≤ (x2v).toInt → (x2v).toInt ≤ 3 → 3 - (x2v).toInt < (n : Int) → ok (L_X6_read_18 N h.1 a0 a1 n x2v δ) (fun r => CI ad h.1 δ0 r ∧ (kp [(6, 0), (6, 1), (6, 2), (7, 3), (7, 4), (7, 5), (7, 6)] δ r ∧ q_V r = q_V δ) ∧ ((q_I r 7 5 a1).toInt = 0 → 2 ≤ (q_I r 6 0 a0).toInt ∧ (q_I r 6 0 a0).toInt ≤ 16 ∧ 1 ≤ (q_I r 6 2 a0).toInt ∧ (q_I r 6 2 a0).toInt ≤ 5)) := by
  intro n
  induction n with
  | zero =>
    intro x2v δ I j0 j1 j2 hm
    have f1 := ti_b (q_I δ 7 5 a1)
    have f2 := ti_b (q_I δ 6 0 a0)
    have f3 := ti_b (q_I δ 6 2 a0)
    have f4 := ti_b x2v
    exfalso; omega
  | succ n ih =>
    intro x2v δ I j0 j1 j2 hm
    unfold L_X6_read_18
    have f1 := ti_b (q_I δ 7 5 a1)
    have f2 := ti_b (q_I δ 6 0 a0)
    have f3 := ti_b (q_I δ 6 2 a0)
    have f4 := ti_b x2v
    refine ok_ite (fun h5 => ?_) (fun h5 => ?_)
    · have c6 : (3 : Int) ≤ x2v.toInt := o_le h5
      refine ok_mono (kl_X6_read_38 L hN   k_a0 k_a1 _ (0 : Int32) δ I (show (q_I δ 7 5 a1).toInt = 0 → 2 ≤ (q_I δ 6 0 a0).toInt ∧ (q_I δ 6 0 a0).toInt ≤ 16 ∧ 1 ≤ (q_I δ 6 2 a0).toInt ∧ (q_I δ 6 2 a0).toInt ≤ 5 by first | assumption | omega) (show 0 ≤ (0 : Int) by first | assumption | omega) (show (0 : Int) ≤ 500 by first | assumption | omega) (show 500 - (0 : Int) < _ by omega)) (fun r7 hr8 => ?_)
      obtain ⟨i9, ⟨u11, u12⟩, p10⟩ := hr8
      have u13 := kp_t kp_r u11
      have v14 : q_V r7 = q_V δ := (u12).trans rfl
      have f15 := ti_b (q_I r7 7 5 a1)
      have f16 := ti_b (q_I r7 6 0 a0)
      have f17 := ti_b (q_I r7 6 2 a0)
      exact ⟨by assumption, ⟨kp_w (by decide) u13, v14⟩, by first | assumption | omega⟩
    · have c18 : x2v.toInt < (3 : Int) := o_nle h5
      obtain ⟨b19, o20, k21, n22, w23⟩ := gO_6_3 L k_a0
      refine ok_at o20 ?_
      have t24 := ti_tn x2v
      refine ok_gd (fun hc25 => ?_) ?_
      · rcases hc25 with hc25 | hc25
        · have c26 : x2v.toInt < (0 : Int) := o_lt hc25
          omega
        · omega
      refine ok_bdv (fun d27 e28 => ?_)
      have i29 : CI ad h.1 δ0 d27 := by rw [e28]; exact CI.sR L I w23
      have u30 := kp_N kp_r (show q_I d27 = q_I δ by rw [e28]; rfl)
      have v31 : q_V d27 = q_V δ := ((show q_V d27 = q_V δ by rw [e28]; rfl)).trans rfl
      refine ok_biv (fun vx32 e33 => ?_)
      first | (have q34 := te_addc (c := 1) (n := 1) rfl x2v (by omega) (by omega); rw [← e33] at q34; obtain ⟨f35, f36, f37⟩ := q34) | (obtain ⟨q34, f35, f36, f37⟩ : ∃ q : Int, vx32.toInt = x2v.toInt + (1 : Int) + 4294967296 * q ∧ -2147483648 ≤ vx32.toInt ∧ vx32.toInt ≤ 2147483647 := by rw [e33]; exact ti_addc (c := 1) (n := 1) rfl x2v)
      have f38 := ti_b (q_I d27 7 5 a1)
      have f39 : (q_I d27 7 5 a1).toInt = (q_I δ 7 5 a1).toInt := congrArg Int32.toInt (by rw [e28]; rfl)
      have f40 := ti_b (q_I d27 6 0 a0)
      have f41 : (q_I d27 6 0 a0).toInt = (q_I δ 6 0 a0).toInt := congrArg Int32.toInt (by rw [e28]; rfl)
      have f42 := ti_b (q_I d27 6 2 a0)
      have f43 : (q_I d27 6 2 a0).toInt = (q_I δ 6 2 a0).toInt := congrArg Int32.toInt (by rw [e28]; rfl)
      refine ok_mono (ih vx32 d27 i29 (show (q_I d27 7 5 a1).toInt = 0 → 2 ≤ (q_I d27 6 0 a0).toInt ∧ (q_I d27 6 0 a0).toInt ≤ 16 ∧ 1 ≤ (q_I d27 6 2 a0).toInt ∧ (q_I d27 6 2 a0).toInt ≤ 5 by first | assumption | omega) (show 0 ≤ (vx32).toInt by first | assumption | omega) (show (vx32).toInt ≤ 3 by first | assumption | omega) (show 3 - (vx32).toInt < _ by omega)) (fun r44 hr45 => ?_)
      obtain ⟨i46, ⟨u48, u49⟩, p47⟩ := hr45
      have u50 := kp_t u30 u48
      have v51 : q_V r44 = q_V δ := (u49).trans v31
      have f52 := ti_b (q_I r44 7 5 a1)
      have f53 := ti_b (q_I r44 6 0 a0)
      have f54 := ti_b (q_I r44 6 2 a0)
      exact ⟨by assumption, ⟨kp_w (by decide) u50, v51⟩, by first | assumption | omega⟩
set_option maxHeartbeats 4000000 in
theorem k_X6_read {ad : List Nat} {h : hp} (L : Lay TLx ad h) {δ0 : dp} {N : Nat} (hN : 10000000 ≤ N) {a0 : Nat} {a1 : Nat} (k_a0 : q_K h.1 a0 = 6) (k_a1 : q_K h.1 a1 = 7) {δ : dp} (I : CI ad h.1 δ0 δ) : ok (D_X6_read N h.1 a0 a1 δ) (fun r => CI ad h.1 δ0 r ∧ (kp [(6, 0), (6, 1), (6, 2), (7, 3), (7, 4), (7, 5), (7, 6)] δ r ∧ q_V r = q_V δ) ∧ ((q_I r 7 5 a1).toInt = 0 → 2 ≤ (q_I r 6 0 a0).toInt ∧ (q_I r 6 0 a0).toInt ≤ 16 ∧ 1 ≤ (q_I r 6 2 a0).toInt ∧ (q_I r 6 2 a0).toInt ≤ 5)) := by
  unfold D_X6_read
  refine ok_bdv (fun d1 e2 => ?_)
  have i3 : CI ad h.1 δ0 d1 := by rw [e2]; exact cs_6_0 L I
  have u4 := kp_I kp_r e2
  have v5 : q_V d1 = q_V δ := ((show q_V d1 = q_V δ by rw [e2]; rfl)).trans rfl
  refine ok_bdv (fun d6 e7 => ?_)
  have i8 : CI ad h.1 δ0 d6 := by rw [e7]; exact cs_6_1 L i3 k_a0 (show 0 ≤ (1 : Int) by omega) (show (1 : Int) ≤ 1 by omega)
  have u9 := kp_I u4 e7
  have v10 : q_V d6 = q_V δ := ((show q_V d6 = q_V d1 by rw [e7]; rfl)).trans v5
  refine ok_bdv (fun d11 e12 => ?_)
  have i13 : CI ad h.1 δ0 d11 := by rw [e12]; exact cs_6_2 L i8
  have u14 := kp_I u9 e12
  have v15 : q_V d11 = q_V δ := ((show q_V d11 = q_V d6 by rw [e12]; rfl)).trans v10
  have f16 := ti_b (q_I d11 7 5 a1)
  have f17 : (q_I d11 7 5 a1).toInt = (q_I d6 7 5 a1).toInt := congrArg Int32.toInt (by rw [e12]; exact rI_o (by decide))
  have f18 := ti_b (q_I d6 7 5 a1)
  have f19 : (q_I d6 7 5 a1).toInt = (q_I d1 7 5 a1).toInt := congrArg Int32.toInt (by rw [e7]; exact rI_o (by decide))
  have f20 := ti_b (q_I d1 7 5 a1)
  have f21 : (q_I d1 7 5 a1).toInt = (q_I δ 7 5 a1).toInt := congrArg Int32.toInt (by rw [e2]; exact rI_o (by decide))
  have f22 := ti_b (q_I δ 7 5 a1)
  have f23 := ti_b (q_I d11 6 0 a0)
  have f24 : (q_I d11 6 0 a0).toInt = (q_I d6 6 0 a0).toInt := congrArg Int32.toInt (by rw [e12]; exact rI_o (by decide))
  have f25 := ti_b (q_I d6 6 0 a0)
  have f26 : (q_I d6 6 0 a0).toInt = (q_I d1 6 0 a0).toInt := congrArg Int32.toInt (by rw [e7]; exact rI_o (by decide))
  have f27 := ti_b (q_I d1 6 0 a0)
  have f28 : (q_I d1 6 0 a0).toInt = (8 : Int) := congrArg Int32.toInt (show q_I d1 6 0 a0 = (8 : Int32) by rw [e2]; exact rI_s)
  have f29 := ti_b (q_I d11 6 2 a0)
  have f30 : (q_I d11 6 2 a0).toInt = (1 : Int) := congrArg Int32.toInt (show q_I d11 6 2 a0 = (1 : Int32) by rw [e12]; exact rI_s)
  refine ok_mono (kl_X6_read_18 L hN   k_a0 k_a1 _ (0 : Int32) d11 i13 (show (q_I d11 7 5 a1).toInt = 0 → 2 ≤ (q_I d11 6 0 a0).toInt ∧ (q_I d11 6 0 a0).toInt ≤ 16 ∧ 1 ≤ (q_I d11 6 2 a0).toInt ∧ (q_I d11 6 2 a0).toInt ≤ 5 by first | assumption | omega) (show 0 ≤ (0 : Int) by first | assumption | omega) (show (0 : Int) ≤ 3 by first | assumption | omega) (show 3 - (0 : Int) < _ by omega)) (fun r31 hr32 => ?_)
  obtain ⟨i33, ⟨u35, u36⟩, p34⟩ := hr32
  have u37 := kp_t u14 u35
  have v38 : q_V r31 = q_V δ := (u36).trans v15
  have f39 := ti_b (q_I r31 7 5 a1)
  have f40 := ti_b (q_I r31 6 0 a0)
  have f41 := ti_b (q_I r31 6 2 a0)
  exact ⟨by assumption, ⟨kp_w (by decide) u37, v38⟩, by first | assumption | omega⟩
set_option maxHeartbeats 4000000 in
theorem k_X5_take {ad : List Nat} {h : hp} (L : Lay TLx ad h) {δ0 : dp} {N : Nat} (hN : 10000000 ≤ N) {a0 : Nat} {a1 : Nat} (k_a0 : q_K h.1 a0 = 5) (k_a1 : q_K h.1 a1 = 6) {δ : dp} (z0 : 2 ≤ (q_I δ 6 0 a1).toInt) (z1 : (q_I δ 6 0 a1).toInt ≤ 16) (z2 : 1 ≤ (q_I δ 6 2 a1).toInt) (z3 : (q_I δ 6 2 a1).toInt ≤ 5) (I : CI ad h.1 δ0 δ) : ok (D_X5_take N h.1 a0 a1 δ) (fun r => CI ad h.1 δ0 r ∧ (kp [(5, 0), (5, 1), (5, 2)] δ r ∧ q_V r = q_V δ ∧ q_R r = q_R δ)) := by
  unfold D_X5_take
  have f1 := ti_b (q_I δ 6 0 a1)
  have f2 := ti_b (q_I δ 6 2 a1)
  refine ok_bdv (fun d3 e4 => ?_)
  have i5 : CI ad h.1 δ0 d3 := by rw [e4]; exact cs_5_0 L I k_a0 (show 2 ≤ (q_I δ 6 0 a1).toInt by omega) (show (q_I δ 6 0 a1).toInt ≤ 16 by omega)
  have u6 := kp_I kp_r e4
  have v7 : q_V d3 = q_V δ := ((show q_V d3 = q_V δ by rw [e4]; rfl)).trans rfl
  have v8 : q_R d3 = q_R δ := ((show q_R d3 = q_R δ by rw [e4]; rfl)).trans rfl
  have f9 := cb_6_1 i5 k_a1
  have f10 : (q_I d3 6 1 a1).toInt = (q_I δ 6 1 a1).toInt := congrArg Int32.toInt (by rw [e4]; exact rI_o (by decide))
  have f11 := cb_6_1 I k_a1
  refine ok_gp (bo_i (by omega) (by omega)) ?_
  refine ok_bdv (fun d12 e13 => ?_)
  have i14 : CI ad h.1 δ0 d12 := by rw [e13]; exact cs_5_1 L i5 k_a0 (show 0 ≤ (q_I d3 6 1 a1).toInt by omega) (show (q_I d3 6 1 a1).toInt ≤ 1 by omega)
  have u15 := kp_I u6 e13
  have v16 : q_V d12 = q_V δ := ((show q_V d12 = q_V d3 by rw [e13]; rfl)).trans v7
  have v17 : q_R d12 = q_R δ := ((show q_R d12 = q_R d3 by rw [e13]; rfl)).trans v8
  have f21 := ti_b (q_I d12 6 2 a1)
  have f22 : (q_I d12 6 2 a1).toInt = (q_I d3 6 2 a1).toInt := congrArg Int32.toInt (by rw [e13]; exact rI_o (by decide))
  have f23 := ti_b (q_I d3 6 2 a1)
  have f24 : (q_I d3 6 2 a1).toInt = (q_I δ 6 2 a1).toInt := congrArg Int32.toInt (by rw [e4]; exact rI_o (by decide))
  refine ok_bdv (fun d18 e19 => ?_)
  have i20 : CI ad h.1 δ0 d18 := by rw [e19]; exact cs_5_2 L i14 k_a0 (show 1 ≤ (q_I d12 6 2 a1).toInt by omega) (show (q_I d12 6 2 a1).toInt ≤ 5 by omega)
  have u25 := kp_I u15 e19
  have v26 : q_V d18 = q_V δ := ((show q_V d18 = q_V d12 by rw [e19]; rfl)).trans v16
  have v27 : q_R d18 = q_R δ := ((show q_R d18 = q_R d12 by rw [e19]; rfl)).trans v17
  exact ok_some (show CI ad h.1 δ0 d18 ∧ (kp [(5, 0), (5, 1), (5, 2)] δ d18 ∧ q_V d18 = q_V δ ∧ q_R d18 = q_R δ) from ⟨i20, ⟨kp_w (by decide) u25, v26, v27⟩⟩)
