/-! 60.kX2 (by gen_safe.py) -/
set_option maxHeartbeats 4000000 in
theorem k_X2_clear {ad : List Nat} {h : hp} (L : Lay TLx ad h) {δ0 : dp} {N : Nat} (hN : 10000000 ≤ N) {a0 : Nat} (k_a0 : q_K h.1 a0 = 2) {δ : dp} (I : CI ad h.1 δ0 δ) : ok (D_X2_clear N h.1 a0 δ) (fun r => CI ad h.1 δ0 r ∧ (kp [(2, 4), (3, 1)] δ r ∧ q_V r = q_V δ)) := by
  unfold D_X2_clear
  obtain ⟨b1, o2, k3⟩ := gO_2_0 L k_a0
  refine ok_at o2 ?_
  refine ok_bind (k_X3_clear L hN (a0 := b1) k3 I) (fun r4 hr5 => ?_)
  obtain ⟨i6, ⟨u7, v8⟩⟩ := hr5
  have u9 := kp_t kp_r u7
  have v10 := v8.trans rfl
  refine ok_bdv (fun d11 e12 => ?_)
  have i13 : CI ad h.1 δ0 d11 := by rw [e12]; exact cs_2_4 L i6 k_a0 (show 0 ≤ (0 : Int) by omega) (show (0 : Int) ≤ 1000 by omega)
  have u14 := kp_I u9 e12
  have v15 : q_V d11 = q_V δ := (show q_V d11 = q_V r4 by rw [e12]; rfl).trans v10
  exact ok_some (show CI ad h.1 δ0 d11 ∧ (kp [(2, 4), (3, 1)] δ d11 ∧ q_V d11 = q_V δ) from ⟨i13, ⟨kp_w (by decide) u14, v15⟩⟩)
set_option maxHeartbeats 4000000 in
theorem k_X2_refusal {ad : List Nat} {h : hp} (L : Lay TLx ad h) {δ0 : dp} {N : Nat} (hN : 10000000 ≤ N) {a0 : Nat} {x1 : Int32} {x2 : Int32} (k_a0 : q_K h.1 a0 = 2) {δ : dp} (I : CI ad h.1 δ0 δ) : ok (D_X2_refusal N h.1 a0 x1 x2 δ) (fun r => r.2 = δ) := by
  unfold D_X2_refusal
  obtain ⟨b1, o2, k3⟩ := gO_2_0 L k_a0
  refine ok_at o2 ?_
  obtain ⟨b4, o5, k6, ⟨n7, n8⟩, w9⟩ := gO_3_0 L k3
  have f10 := cb_3_1 I k3 o5
  have f11 := ti_b x1
  first | (have q13 := te_add (q_I δ 3 1 b1) x1 (by omega) (by omega); obtain ⟨f14, f15, f16⟩ := q13) | (obtain ⟨q13, f14, f15, f16⟩ := ti_add (q_I δ 3 1 b1) x1)
  refine ok_ite (fun h17 => ?_) (fun h17 => ?_)
  · have c18 : ((q_I δ 3 1 b1) + x1).toInt ≤ (2000 : Int) := o_le h17
    have f19 := cb_2_4 I k_a0
    first | (have q21 := te_add (q_I δ 2 4 a0) x1 (by omega) (by omega); obtain ⟨f22, f23, f24⟩ := q21) | (obtain ⟨q21, f22, f23, f24⟩ := ti_add (q_I δ 2 4 a0) x1)
    have f25 := ti_b x2
    first | (have q27 := te_add ((q_I δ 2 4 a0) + x1) x2 (by omega) (by omega); obtain ⟨f28, f29, f30⟩ := q27) | (obtain ⟨q27, f28, f29, f30⟩ := ti_add ((q_I δ 2 4 a0) + x1) x2)
    refine ok_ite (fun h31 => ?_) (fun h31 => ?_)
    · have c32 : (((q_I δ 2 4 a0) + x1) + x2).toInt ≤ (1000 : Int) := o_le h31
      unfold J_X2_refusal_37
      exact ok_some (show δ = δ from rfl)
    · have c33 : (1000 : Int) < (((q_I δ 2 4 a0) + x1) + x2).toInt := o_nle h31
      unfold J_X2_refusal_37
      exact ok_some (show δ = δ from rfl)
  · have c34 : (2000 : Int) < ((q_I δ 3 1 b1) + x1).toInt := o_nle h17
    exact ok_some (show δ = δ from rfl)
set_option maxHeartbeats 4000000 in
theorem k_X2_make {ad : List Nat} {h : hp} (L : Lay TLx ad h) {δ0 : dp} {N : Nat} (hN : 10000000 ≤ N) {a0 : Nat} {x1 : Int32} {x2 : Int32} (k_a0 : q_K h.1 a0 = 2) {δ : dp} (I : CI ad h.1 δ0 δ) : ok (D_X2_make N h.1 a0 x1 x2 δ) (fun r => CI ad h.1 δ0 r.2 ∧ (kp [(1, 3), (1, 4), (1, 5), (1, 6), (1, 7), (1, 8), (1, 9), (1, 10), (1, 11), (1, 12), (1, 13), (1, 14), (1, 15), (2, 4), (3, 1)] δ r.2 ∧ q_V r.2 = q_V δ)) := by
  unfold D_X2_make
  obtain ⟨b1, o2, k3⟩ := gO_2_1 L k_a0
  refine ok_at o2 ?_
  obtain ⟨b6, o7, k8⟩ := gO_1_1 L k3
  refine ok_bind (k_X1_touchesOf L hN (a0 := b1) (x1 := x1) (x2 := x2) k3 o7 k8 I) (fun r4 hr5 => ?_)
  obtain ⟨i9, ⟨u10, v11⟩⟩ := hr5
  have u12 := kp_t kp_r u10
  have v13 := v11.trans rfl
  have f14 := ti_b r4.1
  have f15 := ti_b x1
  refine ok_ite (fun h16 => ?_) (fun h16 => ?_)
  · have c17 : x1.toInt = (0 : Int) := o_eq h16
    obtain ⟨b18, o19, k20⟩ := gO_2_0 L k_a0
    refine ok_at o19 ?_
    refine ok_bind (k_X3_add L hN (a0 := b18) (x1 := x2) k20 i9) (fun r21 hr22 => ?_)
    obtain ⟨i23, ⟨u25, v26⟩, p24⟩ := hr22
    have u27 := kp_t u12 u25
    have v28 := v26.trans v13
    have f29 := bo_t p24
    have f30 := ti_b r21.1
    unfold J_X2_make_33
    refine ok_ite (fun h31 => ?_) (fun h31 => ?_)
    · have c32 : r21.1.toInt = (0 : Int) := o_eq h31
      unfold J_X2_make_84
      exact ok_some (show CI ad h.1 δ0 r21.2 ∧ (kp [(1, 3), (1, 4), (1, 5), (1, 6), (1, 7), (1, 8), (1, 9), (1, 10), (1, 11), (1, 12), (1, 13), (1, 14), (1, 15), (2, 4), (3, 1)] δ r21.2 ∧ q_V r21.2 = q_V δ) from ⟨i23, ⟨kp_w (by decide) u27, v28⟩⟩)
    · have c33 : r21.1.toInt ≠ (0 : Int) := o_ne h31
      have f34 := cb_2_4 i23 k_a0
      have f35 : (q_I r21.2 2 4 a0).toInt = (q_I r4.2 2 4 a0).toInt := congrArg Int32.toInt (u25 2 4 a0 (by decide))
      have f36 := cb_2_4 i9 k_a0
      have f37 : (q_I r4.2 2 4 a0).toInt = (q_I δ 2 4 a0).toInt := congrArg Int32.toInt (u10 2 4 a0 (by decide))
      have f38 := cb_2_4 I k_a0
      refine ok_ite (fun h39 => ?_) (fun h39 => ?_)
      · have c40 : (1000 : Int) ≤ (q_I r21.2 2 4 a0).toInt := o_le h39
        unfold J_X2_make_84
        exact ok_some (show CI ad h.1 δ0 r21.2 ∧ (kp [(1, 3), (1, 4), (1, 5), (1, 6), (1, 7), (1, 8), (1, 9), (1, 10), (1, 11), (1, 12), (1, 13), (1, 14), (1, 15), (2, 4), (3, 1)] δ r21.2 ∧ q_V r21.2 = q_V δ) from ⟨i23, ⟨kp_w (by decide) u27, v28⟩⟩)
      · have c41 : (q_I r21.2 2 4 a0).toInt < (1000 : Int) := o_nle h39
        obtain ⟨b42, o43, k44, n45, w46⟩ := gO_2_2 L k_a0
        refine ok_at o43 ?_
        have t47 := ti_tn (q_I r21.2 2 4 a0)
        refine ok_gd (fun hc48 => ?_) ?_
        · rcases hc48 with hc48 | hc48
          · have c49 : (q_I r21.2 2 4 a0).toInt < (0 : Int) := o_lt hc48
            omega
          · omega
        refine ok_bdv (fun d50 e51 => ?_)
        have i52 : CI ad h.1 δ0 d50 := by rw [e51]; exact CI.sR L i23 w46
        have u53 := kp_N u27 (show q_I d50 = q_I r21.2 by rw [e51]; rfl)
        have v54 : q_V d50 = q_V δ := (show q_V d50 = q_V r21.2 by rw [e51]; rfl).trans v28
        obtain ⟨b55, o56, k57, n58, w59⟩ := gO_2_3 L k_a0
        refine ok_at o56 ?_
        have f60 := cb_2_4 i52 k_a0
        have f61 : (q_I d50 2 4 a0).toInt = (q_I r21.2 2 4 a0).toInt := congrArg Int32.toInt (by rw [e51]; rfl)
        have t62 := ti_tn (q_I d50 2 4 a0)
        refine ok_gd (fun hc63 => ?_) ?_
        · rcases hc63 with hc63 | hc63
          · have c64 : (q_I d50 2 4 a0).toInt < (0 : Int) := o_lt hc63
            omega
          · omega
        refine ok_bdv (fun d65 e66 => ?_)
        have i67 : CI ad h.1 δ0 d65 := by rw [e66]; exact CI.sR L i52 w59
        have u68 := kp_N u53 (show q_I d65 = q_I d50 by rw [e66]; rfl)
        have v69 : q_V d65 = q_V δ := (show q_V d65 = q_V d50 by rw [e66]; rfl).trans v54
        have f73 := cb_2_4 i67 k_a0
        have f74 : (q_I d65 2 4 a0).toInt = (q_I d50 2 4 a0).toInt := congrArg Int32.toInt (by rw [e66]; rfl)
        first | (have q76 := te_addc (c := 1) (n := 1) rfl (q_I d65 2 4 a0) (by omega) (by omega); obtain ⟨f77, f78, f79⟩ := q76) | (obtain ⟨q76, f77, f78, f79⟩ := ti_addc (c := 1) (n := 1) rfl (q_I d65 2 4 a0))
        refine ok_bdv (fun d70 e71 => ?_)
        have i72 : CI ad h.1 δ0 d70 := by rw [e71]; exact cs_2_4 L i67 k_a0 (show 0 ≤ ((q_I d65 2 4 a0) + (1 : Int32)).toInt by omega) (show ((q_I d65 2 4 a0) + (1 : Int32)).toInt ≤ 1000 by omega)
        have u80 := kp_I u68 e71
        have v81 : q_V d70 = q_V δ := (show q_V d70 = q_V d65 by rw [e71]; rfl).trans v69
        unfold J_X2_make_84
        exact ok_some (show CI ad h.1 δ0 d70 ∧ (kp [(1, 3), (1, 4), (1, 5), (1, 6), (1, 7), (1, 8), (1, 9), (1, 10), (1, 11), (1, 12), (1, 13), (1, 14), (1, 15), (2, 4), (3, 1)] δ d70 ∧ q_V d70 = q_V δ) from ⟨i72, ⟨kp_w (by decide) u80, v81⟩⟩)
  · have c82 : x1.toInt ≠ (0 : Int) := o_ne h16
    obtain ⟨b83, o84, k85⟩ := gO_2_0 L k_a0
    refine ok_at o84 ?_
    refine ok_bind (k_X3_remove L hN (a0 := b83) (x1 := x2) k85 i9) (fun r86 hr87 => ?_)
    obtain ⟨i88, ⟨u90, v91⟩, p89⟩ := hr87
    have u92 := kp_t u12 u90
    have v93 := v91.trans v13
    have f94 := bo_t p89
    have f95 := ti_b r86.1
    unfold J_X2_make_33
    refine ok_ite (fun h96 => ?_) (fun h96 => ?_)
    · have c97 : r86.1.toInt = (0 : Int) := o_eq h96
      unfold J_X2_make_84
      exact ok_some (show CI ad h.1 δ0 r86.2 ∧ (kp [(1, 3), (1, 4), (1, 5), (1, 6), (1, 7), (1, 8), (1, 9), (1, 10), (1, 11), (1, 12), (1, 13), (1, 14), (1, 15), (2, 4), (3, 1)] δ r86.2 ∧ q_V r86.2 = q_V δ) from ⟨i88, ⟨kp_w (by decide) u92, v93⟩⟩)
    · have c98 : r86.1.toInt ≠ (0 : Int) := o_ne h96
      have f99 := cb_2_4 i88 k_a0
      have f100 : (q_I r86.2 2 4 a0).toInt = (q_I r4.2 2 4 a0).toInt := congrArg Int32.toInt (u90 2 4 a0 (by decide))
      have f101 := cb_2_4 i9 k_a0
      have f102 : (q_I r4.2 2 4 a0).toInt = (q_I δ 2 4 a0).toInt := congrArg Int32.toInt (u10 2 4 a0 (by decide))
      have f103 := cb_2_4 I k_a0
      refine ok_ite (fun h104 => ?_) (fun h104 => ?_)
      · have c105 : (1000 : Int) ≤ (q_I r86.2 2 4 a0).toInt := o_le h104
        unfold J_X2_make_84
        exact ok_some (show CI ad h.1 δ0 r86.2 ∧ (kp [(1, 3), (1, 4), (1, 5), (1, 6), (1, 7), (1, 8), (1, 9), (1, 10), (1, 11), (1, 12), (1, 13), (1, 14), (1, 15), (2, 4), (3, 1)] δ r86.2 ∧ q_V r86.2 = q_V δ) from ⟨i88, ⟨kp_w (by decide) u92, v93⟩⟩)
      · have c106 : (q_I r86.2 2 4 a0).toInt < (1000 : Int) := o_nle h104
        obtain ⟨b107, o108, k109, n110, w111⟩ := gO_2_2 L k_a0
        refine ok_at o108 ?_
        have t112 := ti_tn (q_I r86.2 2 4 a0)
        refine ok_gd (fun hc113 => ?_) ?_
        · rcases hc113 with hc113 | hc113
          · have c114 : (q_I r86.2 2 4 a0).toInt < (0 : Int) := o_lt hc113
            omega
          · omega
        refine ok_bdv (fun d115 e116 => ?_)
        have i117 : CI ad h.1 δ0 d115 := by rw [e116]; exact CI.sR L i88 w111
        have u118 := kp_N u92 (show q_I d115 = q_I r86.2 by rw [e116]; rfl)
        have v119 : q_V d115 = q_V δ := (show q_V d115 = q_V r86.2 by rw [e116]; rfl).trans v93
        obtain ⟨b120, o121, k122, n123, w124⟩ := gO_2_3 L k_a0
        refine ok_at o121 ?_
        have f125 := cb_2_4 i117 k_a0
        have f126 : (q_I d115 2 4 a0).toInt = (q_I r86.2 2 4 a0).toInt := congrArg Int32.toInt (by rw [e116]; rfl)
        have t127 := ti_tn (q_I d115 2 4 a0)
        refine ok_gd (fun hc128 => ?_) ?_
        · rcases hc128 with hc128 | hc128
          · have c129 : (q_I d115 2 4 a0).toInt < (0 : Int) := o_lt hc128
            omega
          · omega
        refine ok_bdv (fun d130 e131 => ?_)
        have i132 : CI ad h.1 δ0 d130 := by rw [e131]; exact CI.sR L i117 w124
        have u133 := kp_N u118 (show q_I d130 = q_I d115 by rw [e131]; rfl)
        have v134 : q_V d130 = q_V δ := (show q_V d130 = q_V d115 by rw [e131]; rfl).trans v119
        have f138 := cb_2_4 i132 k_a0
        have f139 : (q_I d130 2 4 a0).toInt = (q_I d115 2 4 a0).toInt := congrArg Int32.toInt (by rw [e131]; rfl)
        first | (have q141 := te_addc (c := 1) (n := 1) rfl (q_I d130 2 4 a0) (by omega) (by omega); obtain ⟨f142, f143, f144⟩ := q141) | (obtain ⟨q141, f142, f143, f144⟩ := ti_addc (c := 1) (n := 1) rfl (q_I d130 2 4 a0))
        refine ok_bdv (fun d135 e136 => ?_)
        have i137 : CI ad h.1 δ0 d135 := by rw [e136]; exact cs_2_4 L i132 k_a0 (show 0 ≤ ((q_I d130 2 4 a0) + (1 : Int32)).toInt by omega) (show ((q_I d130 2 4 a0) + (1 : Int32)).toInt ≤ 1000 by omega)
        have u145 := kp_I u133 e136
        have v146 : q_V d135 = q_V δ := (show q_V d135 = q_V d130 by rw [e136]; rfl).trans v134
        unfold J_X2_make_84
        exact ok_some (show CI ad h.1 δ0 d135 ∧ (kp [(1, 3), (1, 4), (1, 5), (1, 6), (1, 7), (1, 8), (1, 9), (1, 10), (1, 11), (1, 12), (1, 13), (1, 14), (1, 15), (2, 4), (3, 1)] δ d135 ∧ q_V d135 = q_V δ) from ⟨i137, ⟨kp_w (by decide) u145, v146⟩⟩)
set_option maxHeartbeats 4000000 in
theorem k_X2_change {ad : List Nat} {h : hp} (L : Lay TLx ad h) {δ0 : dp} {N : Nat} (hN : 10000000 ≤ N) {a0 : Nat} {x1 : Int32} {x2 : Int32} (k_a0 : q_K h.1 a0 = 2) {δ : dp} (I : CI ad h.1 δ0 δ) : ok (D_X2_change N h.1 a0 x1 x2 δ) (fun r => CI ad h.1 δ0 r.2 ∧ (kp [(1, 3), (1, 4), (1, 5), (1, 6), (1, 7), (1, 8), (1, 9), (1, 10), (1, 11), (1, 12), (1, 13), (1, 14), (1, 15), (2, 4), (3, 1)] δ r.2 ∧ q_V r.2 = q_V δ)) := by
  unfold D_X2_change
  have f1 := ti_b x1
  refine ok_ite (fun h2 => ?_) (fun h2 => ?_)
  · have c3 : x1.toInt = (0 : Int) := o_eq h2
    unfold J_X2_change_9
    obtain ⟨b4, o5, k6⟩ := gO_2_0 L k_a0
    refine ok_at o5 ?_
    refine ok_bind (k_X3_holds L hN (a0 := b4) (x1 := x2) k6 I) (fun r7 hr8 => ?_)
    obtain ⟨i9, p10⟩ := hr8
    try rw [i9]
    have f11 := bo_t p10
    have f12 := ti_b r7.1
    refine ok_ite (fun h13 => ?_) (fun h13 => ?_)
    · have c14 : r7.1.toInt = (1 : Int) := o_eq h13
      exact ok_some (show CI ad h.1 δ0 δ ∧ (kp [(1, 3), (1, 4), (1, 5), (1, 6), (1, 7), (1, 8), (1, 9), (1, 10), (1, 11), (1, 12), (1, 13), (1, 14), (1, 15), (2, 4), (3, 1)] δ δ ∧ q_V δ = q_V δ) from ⟨I, ⟨kp_w (by decide) kp_r, rfl⟩⟩)
    · have c15 : r7.1.toInt ≠ (1 : Int) := o_ne h13
      refine ok_ite (fun h16 => ?_) (fun h16 => ?_)
      · have c17 : (1 : Int) = (0 : Int) := o_eq h16
        unfold J_X2_change_34
        refine ok_ite (fun h18 => ?_) (fun h18 => ?_)
        · have c19 : (1 : Int) = (0 : Int) := o_eq h18
          unfold J_X2_change_43
          refine ok_bind (k_X2_refusal L hN (a0 := a0) (x1 := (0 : Int32)) (x2 := (1 : Int32)) k_a0 I) (fun r20 hr21 => ?_)
          have i22 := hr21
          try rw [i22]
          have f23 := ti_b r20.1
          refine ok_ite (fun h24 => ?_) (fun h24 => ?_)
          · have c25 : (0 : Int) ≤ r20.1.toInt := o_le h24
            refine ok_bind (k_X2_make L hN (a0 := a0) (x1 := x1) (x2 := x2) k_a0 I) (fun r26 hr27 => ?_)
            obtain ⟨i28, ⟨u29, v30⟩⟩ := hr27
            have u31 := kp_t kp_r u29
            have v32 := v30.trans rfl
            have f33 := ti_b r26.1
            exact ok_some (show CI ad h.1 δ0 r26.2 ∧ (kp [(1, 3), (1, 4), (1, 5), (1, 6), (1, 7), (1, 8), (1, 9), (1, 10), (1, 11), (1, 12), (1, 13), (1, 14), (1, 15), (2, 4), (3, 1)] δ r26.2 ∧ q_V r26.2 = q_V δ) from ⟨i28, ⟨kp_w (by decide) u31, v32⟩⟩)
          · have c34 : r20.1.toInt < (0 : Int) := o_nle h24
            exact ok_some (show CI ad h.1 δ0 δ ∧ (kp [(1, 3), (1, 4), (1, 5), (1, 6), (1, 7), (1, 8), (1, 9), (1, 10), (1, 11), (1, 12), (1, 13), (1, 14), (1, 15), (2, 4), (3, 1)] δ δ ∧ q_V δ = q_V δ) from ⟨I, ⟨kp_w (by decide) kp_r, rfl⟩⟩)
        · have c35 : (1 : Int) ≠ (0 : Int) := o_ne h18
          unfold J_X2_change_43
          refine ok_bind (k_X2_refusal L hN (a0 := a0) (x1 := (0 : Int32)) (x2 := (0 : Int32)) k_a0 I) (fun r36 hr37 => ?_)
          have i38 := hr37
          try rw [i38]
          have f39 := ti_b r36.1
          refine ok_ite (fun h40 => ?_) (fun h40 => ?_)
          · have c41 : (0 : Int) ≤ r36.1.toInt := o_le h40
            refine ok_bind (k_X2_make L hN (a0 := a0) (x1 := x1) (x2 := x2) k_a0 I) (fun r42 hr43 => ?_)
            obtain ⟨i44, ⟨u45, v46⟩⟩ := hr43
            have u47 := kp_t kp_r u45
            have v48 := v46.trans rfl
            have f49 := ti_b r42.1
            exact ok_some (show CI ad h.1 δ0 r42.2 ∧ (kp [(1, 3), (1, 4), (1, 5), (1, 6), (1, 7), (1, 8), (1, 9), (1, 10), (1, 11), (1, 12), (1, 13), (1, 14), (1, 15), (2, 4), (3, 1)] δ r42.2 ∧ q_V r42.2 = q_V δ) from ⟨i44, ⟨kp_w (by decide) u47, v48⟩⟩)
          · have c50 : r36.1.toInt < (0 : Int) := o_nle h40
            exact ok_some (show CI ad h.1 δ0 δ ∧ (kp [(1, 3), (1, 4), (1, 5), (1, 6), (1, 7), (1, 8), (1, 9), (1, 10), (1, 11), (1, 12), (1, 13), (1, 14), (1, 15), (2, 4), (3, 1)] δ δ ∧ q_V δ = q_V δ) from ⟨I, ⟨kp_w (by decide) kp_r, rfl⟩⟩)
      · have c51 : (1 : Int) ≠ (0 : Int) := o_ne h16
        unfold J_X2_change_34
        refine ok_ite (fun h52 => ?_) (fun h52 => ?_)
        · have c53 : (1 : Int) = (0 : Int) := o_eq h52
          unfold J_X2_change_43
          refine ok_bind (k_X2_refusal L hN (a0 := a0) (x1 := (1 : Int32)) (x2 := (1 : Int32)) k_a0 I) (fun r54 hr55 => ?_)
          have i56 := hr55
          try rw [i56]
          have f57 := ti_b r54.1
          refine ok_ite (fun h58 => ?_) (fun h58 => ?_)
          · have c59 : (0 : Int) ≤ r54.1.toInt := o_le h58
            refine ok_bind (k_X2_make L hN (a0 := a0) (x1 := x1) (x2 := x2) k_a0 I) (fun r60 hr61 => ?_)
            obtain ⟨i62, ⟨u63, v64⟩⟩ := hr61
            have u65 := kp_t kp_r u63
            have v66 := v64.trans rfl
            have f67 := ti_b r60.1
            exact ok_some (show CI ad h.1 δ0 r60.2 ∧ (kp [(1, 3), (1, 4), (1, 5), (1, 6), (1, 7), (1, 8), (1, 9), (1, 10), (1, 11), (1, 12), (1, 13), (1, 14), (1, 15), (2, 4), (3, 1)] δ r60.2 ∧ q_V r60.2 = q_V δ) from ⟨i62, ⟨kp_w (by decide) u65, v66⟩⟩)
          · have c68 : r54.1.toInt < (0 : Int) := o_nle h58
            exact ok_some (show CI ad h.1 δ0 δ ∧ (kp [(1, 3), (1, 4), (1, 5), (1, 6), (1, 7), (1, 8), (1, 9), (1, 10), (1, 11), (1, 12), (1, 13), (1, 14), (1, 15), (2, 4), (3, 1)] δ δ ∧ q_V δ = q_V δ) from ⟨I, ⟨kp_w (by decide) kp_r, rfl⟩⟩)
        · have c69 : (1 : Int) ≠ (0 : Int) := o_ne h52
          unfold J_X2_change_43
          refine ok_bind (k_X2_refusal L hN (a0 := a0) (x1 := (1 : Int32)) (x2 := (0 : Int32)) k_a0 I) (fun r70 hr71 => ?_)
          have i72 := hr71
          try rw [i72]
          have f73 := ti_b r70.1
          refine ok_ite (fun h74 => ?_) (fun h74 => ?_)
          · have c75 : (0 : Int) ≤ r70.1.toInt := o_le h74
            refine ok_bind (k_X2_make L hN (a0 := a0) (x1 := x1) (x2 := x2) k_a0 I) (fun r76 hr77 => ?_)
            obtain ⟨i78, ⟨u79, v80⟩⟩ := hr77
            have u81 := kp_t kp_r u79
            have v82 := v80.trans rfl
            have f83 := ti_b r76.1
            exact ok_some (show CI ad h.1 δ0 r76.2 ∧ (kp [(1, 3), (1, 4), (1, 5), (1, 6), (1, 7), (1, 8), (1, 9), (1, 10), (1, 11), (1, 12), (1, 13), (1, 14), (1, 15), (2, 4), (3, 1)] δ r76.2 ∧ q_V r76.2 = q_V δ) from ⟨i78, ⟨kp_w (by decide) u81, v82⟩⟩)
          · have c84 : r70.1.toInt < (0 : Int) := o_nle h74
            exact ok_some (show CI ad h.1 δ0 δ ∧ (kp [(1, 3), (1, 4), (1, 5), (1, 6), (1, 7), (1, 8), (1, 9), (1, 10), (1, 11), (1, 12), (1, 13), (1, 14), (1, 15), (2, 4), (3, 1)] δ δ ∧ q_V δ = q_V δ) from ⟨I, ⟨kp_w (by decide) kp_r, rfl⟩⟩)
  · have c85 : x1.toInt ≠ (0 : Int) := o_ne h2
    unfold J_X2_change_9
    obtain ⟨b86, o87, k88⟩ := gO_2_0 L k_a0
    refine ok_at o87 ?_
    refine ok_bind (k_X3_holds L hN (a0 := b86) (x1 := x2) k88 I) (fun r89 hr90 => ?_)
    obtain ⟨i91, p92⟩ := hr90
    try rw [i91]
    have f93 := bo_t p92
    have f94 := ti_b r89.1
    refine ok_ite (fun h95 => ?_) (fun h95 => ?_)
    · have c96 : r89.1.toInt = (0 : Int) := o_eq h95
      exact ok_some (show CI ad h.1 δ0 δ ∧ (kp [(1, 3), (1, 4), (1, 5), (1, 6), (1, 7), (1, 8), (1, 9), (1, 10), (1, 11), (1, 12), (1, 13), (1, 14), (1, 15), (2, 4), (3, 1)] δ δ ∧ q_V δ = q_V δ) from ⟨I, ⟨kp_w (by decide) kp_r, rfl⟩⟩)
    · have c97 : r89.1.toInt ≠ (0 : Int) := o_ne h95
      refine ok_ite (fun h98 => ?_) (fun h98 => ?_)
      · have c99 : (0 : Int) = (0 : Int) := o_eq h98
        unfold J_X2_change_34
        refine ok_ite (fun h100 => ?_) (fun h100 => ?_)
        · have c101 : (0 : Int) = (0 : Int) := o_eq h100
          unfold J_X2_change_43
          refine ok_bind (k_X2_refusal L hN (a0 := a0) (x1 := (0 : Int32)) (x2 := (1 : Int32)) k_a0 I) (fun r102 hr103 => ?_)
          have i104 := hr103
          try rw [i104]
          have f105 := ti_b r102.1
          refine ok_ite (fun h106 => ?_) (fun h106 => ?_)
          · have c107 : (0 : Int) ≤ r102.1.toInt := o_le h106
            refine ok_bind (k_X2_make L hN (a0 := a0) (x1 := x1) (x2 := x2) k_a0 I) (fun r108 hr109 => ?_)
            obtain ⟨i110, ⟨u111, v112⟩⟩ := hr109
            have u113 := kp_t kp_r u111
            have v114 := v112.trans rfl
            have f115 := ti_b r108.1
            exact ok_some (show CI ad h.1 δ0 r108.2 ∧ (kp [(1, 3), (1, 4), (1, 5), (1, 6), (1, 7), (1, 8), (1, 9), (1, 10), (1, 11), (1, 12), (1, 13), (1, 14), (1, 15), (2, 4), (3, 1)] δ r108.2 ∧ q_V r108.2 = q_V δ) from ⟨i110, ⟨kp_w (by decide) u113, v114⟩⟩)
          · have c116 : r102.1.toInt < (0 : Int) := o_nle h106
            exact ok_some (show CI ad h.1 δ0 δ ∧ (kp [(1, 3), (1, 4), (1, 5), (1, 6), (1, 7), (1, 8), (1, 9), (1, 10), (1, 11), (1, 12), (1, 13), (1, 14), (1, 15), (2, 4), (3, 1)] δ δ ∧ q_V δ = q_V δ) from ⟨I, ⟨kp_w (by decide) kp_r, rfl⟩⟩)
        · have c117 : (0 : Int) ≠ (0 : Int) := o_ne h100
          unfold J_X2_change_43
          refine ok_bind (k_X2_refusal L hN (a0 := a0) (x1 := (0 : Int32)) (x2 := (0 : Int32)) k_a0 I) (fun r118 hr119 => ?_)
          have i120 := hr119
          try rw [i120]
          have f121 := ti_b r118.1
          refine ok_ite (fun h122 => ?_) (fun h122 => ?_)
          · have c123 : (0 : Int) ≤ r118.1.toInt := o_le h122
            refine ok_bind (k_X2_make L hN (a0 := a0) (x1 := x1) (x2 := x2) k_a0 I) (fun r124 hr125 => ?_)
            obtain ⟨i126, ⟨u127, v128⟩⟩ := hr125
            have u129 := kp_t kp_r u127
            have v130 := v128.trans rfl
            have f131 := ti_b r124.1
            exact ok_some (show CI ad h.1 δ0 r124.2 ∧ (kp [(1, 3), (1, 4), (1, 5), (1, 6), (1, 7), (1, 8), (1, 9), (1, 10), (1, 11), (1, 12), (1, 13), (1, 14), (1, 15), (2, 4), (3, 1)] δ r124.2 ∧ q_V r124.2 = q_V δ) from ⟨i126, ⟨kp_w (by decide) u129, v130⟩⟩)
          · have c132 : r118.1.toInt < (0 : Int) := o_nle h122
            exact ok_some (show CI ad h.1 δ0 δ ∧ (kp [(1, 3), (1, 4), (1, 5), (1, 6), (1, 7), (1, 8), (1, 9), (1, 10), (1, 11), (1, 12), (1, 13), (1, 14), (1, 15), (2, 4), (3, 1)] δ δ ∧ q_V δ = q_V δ) from ⟨I, ⟨kp_w (by decide) kp_r, rfl⟩⟩)
      · have c133 : (0 : Int) ≠ (0 : Int) := o_ne h98
        unfold J_X2_change_34
        refine ok_ite (fun h134 => ?_) (fun h134 => ?_)
        · have c135 : (0 : Int) = (0 : Int) := o_eq h134
          unfold J_X2_change_43
          refine ok_bind (k_X2_refusal L hN (a0 := a0) (x1 := (1 : Int32)) (x2 := (1 : Int32)) k_a0 I) (fun r136 hr137 => ?_)
          have i138 := hr137
          try rw [i138]
          have f139 := ti_b r136.1
          refine ok_ite (fun h140 => ?_) (fun h140 => ?_)
          · have c141 : (0 : Int) ≤ r136.1.toInt := o_le h140
            refine ok_bind (k_X2_make L hN (a0 := a0) (x1 := x1) (x2 := x2) k_a0 I) (fun r142 hr143 => ?_)
            obtain ⟨i144, ⟨u145, v146⟩⟩ := hr143
            have u147 := kp_t kp_r u145
            have v148 := v146.trans rfl
            have f149 := ti_b r142.1
            exact ok_some (show CI ad h.1 δ0 r142.2 ∧ (kp [(1, 3), (1, 4), (1, 5), (1, 6), (1, 7), (1, 8), (1, 9), (1, 10), (1, 11), (1, 12), (1, 13), (1, 14), (1, 15), (2, 4), (3, 1)] δ r142.2 ∧ q_V r142.2 = q_V δ) from ⟨i144, ⟨kp_w (by decide) u147, v148⟩⟩)
          · have c150 : r136.1.toInt < (0 : Int) := o_nle h140
            exact ok_some (show CI ad h.1 δ0 δ ∧ (kp [(1, 3), (1, 4), (1, 5), (1, 6), (1, 7), (1, 8), (1, 9), (1, 10), (1, 11), (1, 12), (1, 13), (1, 14), (1, 15), (2, 4), (3, 1)] δ δ ∧ q_V δ = q_V δ) from ⟨I, ⟨kp_w (by decide) kp_r, rfl⟩⟩)
        · have c151 : (0 : Int) ≠ (0 : Int) := o_ne h134
          unfold J_X2_change_43
          refine ok_bind (k_X2_refusal L hN (a0 := a0) (x1 := (1 : Int32)) (x2 := (0 : Int32)) k_a0 I) (fun r152 hr153 => ?_)
          have i154 := hr153
          try rw [i154]
          have f155 := ti_b r152.1
          refine ok_ite (fun h156 => ?_) (fun h156 => ?_)
          · have c157 : (0 : Int) ≤ r152.1.toInt := o_le h156
            refine ok_bind (k_X2_make L hN (a0 := a0) (x1 := x1) (x2 := x2) k_a0 I) (fun r158 hr159 => ?_)
            obtain ⟨i160, ⟨u161, v162⟩⟩ := hr159
            have u163 := kp_t kp_r u161
            have v164 := v162.trans rfl
            have f165 := ti_b r158.1
            exact ok_some (show CI ad h.1 δ0 r158.2 ∧ (kp [(1, 3), (1, 4), (1, 5), (1, 6), (1, 7), (1, 8), (1, 9), (1, 10), (1, 11), (1, 12), (1, 13), (1, 14), (1, 15), (2, 4), (3, 1)] δ r158.2 ∧ q_V r158.2 = q_V δ) from ⟨i160, ⟨kp_w (by decide) u163, v164⟩⟩)
          · have c166 : r152.1.toInt < (0 : Int) := o_nle h156
            exact ok_some (show CI ad h.1 δ0 δ ∧ (kp [(1, 3), (1, 4), (1, 5), (1, 6), (1, 7), (1, 8), (1, 9), (1, 10), (1, 11), (1, 12), (1, 13), (1, 14), (1, 15), (2, 4), (3, 1)] δ δ ∧ q_V δ = q_V δ) from ⟨I, ⟨kp_w (by decide) kp_r, rfl⟩⟩)
set_option maxHeartbeats 4000000 in
theorem k_X2_replay {ad : List Nat} {h : hp} (L : Lay TLx ad h) {δ0 : dp} {N : Nat} (hN : 10000000 ≤ N) {a0 : Nat} {a1 : Nat} {x2 : Int32} {x3 : Int32} (k_a0 : q_K h.1 a0 = 2) (k_a1 : q_K h.1 a1 = 3) {δ : dp} (z0 : 0 ≤ (x2).toInt) (z1 : (x2).toInt < 1000) (I : CI ad h.1 δ0 δ) : ok (D_X2_replay N h.1 a0 a1 x2 x3 δ) (fun r => CI ad h.1 δ0 r ∧ (kp [(3, 1)] δ r ∧ q_V r = q_V δ)) := by
  unfold D_X2_replay
  have f1 := ti_b x2
  obtain ⟨b2, o3, k4, n5, w6⟩ := gO_2_2 L k_a0
  refine ok_at o3 ?_
  have t7 := ti_tn x2
  refine ok_gd (fun hc8 => ?_) ?_
  · rcases hc8 with hc8 | hc8
    · have c9 : x2.toInt < (0 : Int) := o_lt hc8
      omega
    · omega
  have f10 := ti_b (q_R δ b2 x2.toNatClampNeg)
  have f12 := ti_div (c := 2) (n := 2) rfl (by decide) (q_R δ b2 x2.toNatClampNeg)
  have f13 := ti_b ((q_R δ b2 x2.toNatClampNeg) / (2 : Int32))
  first | (have q14 := te_mulr (c := 2) (n := 2) rfl ((q_R δ b2 x2.toNatClampNeg) / (2 : Int32)) (by omega) (by omega); obtain ⟨f15, f16, f17⟩ := q14) | (obtain ⟨q14, f15, f16, f17⟩ := ti_mulr (c := 2) (n := 2) rfl ((q_R δ b2 x2.toNatClampNeg) / (2 : Int32)))
  first | (have q19 := te_sub (q_R δ b2 x2.toNatClampNeg) ((q_R δ b2 x2.toNatClampNeg) / (2 : Int32) * (2 : Int32)) (by omega) (by omega); obtain ⟨f20, f21, f22⟩ := q19) | (obtain ⟨q19, f20, f21, f22⟩ := ti_sub (q_R δ b2 x2.toNatClampNeg) ((q_R δ b2 x2.toNatClampNeg) / (2 : Int32) * (2 : Int32)))
  refine ok_ite (fun h23 => ?_) (fun h23 => ?_)
  · have c24 : ((q_R δ b2 x2.toNatClampNeg) - (q_R δ b2 x2.toNatClampNeg) / (2 : Int32) * (2 : Int32)).toInt = (0 : Int) := o_eq h23
    unfold J_X2_replay_16
    have f25 := ti_b x3
    refine ok_ite (fun h26 => ?_) (fun h26 => ?_)
    · have c27 : (1 : Int) = x3.toInt := o_eq h26
      refine ok_at o3 ?_
      refine ok_gd (fun hc28 => ?_) ?_
      · rcases hc28 with hc28 | hc28
        · have c29 : x2.toInt < (0 : Int) := o_lt hc28
          omega
        · omega
      refine ok_bind (k_X3_remove L hN (a0 := a1) (x1 := ((q_R δ b2 x2.toNatClampNeg) / (2 : Int32))) k_a1 I) (fun r30 hr31 => ?_)
      obtain ⟨i32, ⟨u34, v35⟩, p33⟩ := hr31
      have u36 := kp_t kp_r u34
      have v37 := v35.trans rfl
      have f38 := bo_t p33
      have f39 := ti_b r30.1
      unfold J_X2_replay_53
      exact ok_some (show CI ad h.1 δ0 r30.2 ∧ (kp [(3, 1)] δ r30.2 ∧ q_V r30.2 = q_V δ) from ⟨i32, ⟨kp_w (by decide) u36, v37⟩⟩)
    · have c40 : (1 : Int) ≠ x3.toInt := o_ne h26
      refine ok_at o3 ?_
      refine ok_gd (fun hc41 => ?_) ?_
      · rcases hc41 with hc41 | hc41
        · have c42 : x2.toInt < (0 : Int) := o_lt hc41
          omega
        · omega
      refine ok_bind (k_X3_add L hN (a0 := a1) (x1 := ((q_R δ b2 x2.toNatClampNeg) / (2 : Int32))) k_a1 I) (fun r43 hr44 => ?_)
      obtain ⟨i45, ⟨u47, v48⟩, p46⟩ := hr44
      have u49 := kp_t kp_r u47
      have v50 := v48.trans rfl
      have f51 := bo_t p46
      have f52 := ti_b r43.1
      unfold J_X2_replay_53
      exact ok_some (show CI ad h.1 δ0 r43.2 ∧ (kp [(3, 1)] δ r43.2 ∧ q_V r43.2 = q_V δ) from ⟨i45, ⟨kp_w (by decide) u49, v50⟩⟩)
  · have c53 : ((q_R δ b2 x2.toNatClampNeg) - (q_R δ b2 x2.toNatClampNeg) / (2 : Int32) * (2 : Int32)).toInt ≠ (0 : Int) := o_ne h23
    unfold J_X2_replay_16
    have f54 := ti_b x3
    refine ok_ite (fun h55 => ?_) (fun h55 => ?_)
    · have c56 : (0 : Int) = x3.toInt := o_eq h55
      refine ok_at o3 ?_
      refine ok_gd (fun hc57 => ?_) ?_
      · rcases hc57 with hc57 | hc57
        · have c58 : x2.toInt < (0 : Int) := o_lt hc57
          omega
        · omega
      refine ok_bind (k_X3_remove L hN (a0 := a1) (x1 := ((q_R δ b2 x2.toNatClampNeg) / (2 : Int32))) k_a1 I) (fun r59 hr60 => ?_)
      obtain ⟨i61, ⟨u63, v64⟩, p62⟩ := hr60
      have u65 := kp_t kp_r u63
      have v66 := v64.trans rfl
      have f67 := bo_t p62
      have f68 := ti_b r59.1
      unfold J_X2_replay_53
      exact ok_some (show CI ad h.1 δ0 r59.2 ∧ (kp [(3, 1)] δ r59.2 ∧ q_V r59.2 = q_V δ) from ⟨i61, ⟨kp_w (by decide) u65, v66⟩⟩)
    · have c69 : (0 : Int) ≠ x3.toInt := o_ne h55
      refine ok_at o3 ?_
      refine ok_gd (fun hc70 => ?_) ?_
      · rcases hc70 with hc70 | hc70
        · have c71 : x2.toInt < (0 : Int) := o_lt hc70
          omega
        · omega
      refine ok_bind (k_X3_add L hN (a0 := a1) (x1 := ((q_R δ b2 x2.toNatClampNeg) / (2 : Int32))) k_a1 I) (fun r72 hr73 => ?_)
      obtain ⟨i74, ⟨u76, v77⟩, p75⟩ := hr73
      have u78 := kp_t kp_r u76
      have v79 := v77.trans rfl
      have f80 := bo_t p75
      have f81 := ti_b r72.1
      unfold J_X2_replay_53
      exact ok_some (show CI ad h.1 δ0 r72.2 ∧ (kp [(3, 1)] δ r72.2 ∧ q_V r72.2 = q_V δ) from ⟨i74, ⟨kp_w (by decide) u78, v79⟩⟩)
set_option maxHeartbeats 4000000 in
theorem kl_X2_lastChange_7 {ad : List Nat} {h : hp} (L : Lay TLx ad h) {δ0 : dp} {N : Nat} (hN : 10000000 ≤ N) {a0 : Nat} {x1 : Int32} {x2 : Int32} (k_a0 : q_K h.1 a0 = 2) : ∀ (n : Nat) (x3v : Int32) (δ : dp), CI ad h.1 δ0 δ → -1 ≤ (x3v).toInt → (x3v).toInt < 1000 → (x3v).toInt + 1 < (n : Int) → ok (L_X2_lastChange_7 N h.1 a0 x1 x2 n x3v δ) (fun r => r.2 = δ) := by
  intro n
  induction n with
  | zero =>
    intro x3v δ I j0 j1 hm
    have f1 := ti_b x3v
    exfalso; omega
  | succ n ih =>
    intro x3v δ I j0 j1 hm
    unfold L_X2_lastChange_7
    have f1 := ti_b x3v
    refine ok_ite (fun h2 => ?_) (fun h2 => ?_)
    · have c3 : x3v.toInt < (0 : Int) := o_lt h2
      exact ok_some (show δ = δ from rfl)
    · have c4 : (0 : Int) ≤ x3v.toInt := o_nlt h2
      obtain ⟨b5, o6, k7, n8, w9⟩ := gO_2_2 L k_a0
      refine ok_at o6 ?_
      have t10 := ti_tn x3v
      refine ok_gd (fun hc11 => ?_) ?_
      · rcases hc11 with hc11 | hc11
        · have c12 : x3v.toInt < (0 : Int) := o_lt hc11
          omega
        · omega
      have f13 := ti_b (q_R δ b5 x3v.toNatClampNeg)
      have f15 := ti_b x2
      first | (have q16 := te_mulr (c := 2) (n := 2) rfl x2 (by omega) (by omega); obtain ⟨f17, f18, f19⟩ := q16) | (obtain ⟨q16, f17, f18, f19⟩ := ti_mulr (c := 2) (n := 2) rfl x2)
      have f20 := ti_b x1
      first | (have q22 := te_add (x2 * (2 : Int32)) x1 (by omega) (by omega); obtain ⟨f23, f24, f25⟩ := q22) | (obtain ⟨q22, f23, f24, f25⟩ := ti_add (x2 * (2 : Int32)) x1)
      refine ok_ite (fun h26 => ?_) (fun h26 => ?_)
      · have c27 : (q_R δ b5 x3v.toNatClampNeg).toInt = ((x2 * (2 : Int32)) + x1).toInt := o_eq h26
        exact ok_some (show δ = δ from rfl)
      · have c28 : (q_R δ b5 x3v.toNatClampNeg).toInt ≠ ((x2 * (2 : Int32)) + x1).toInt := o_ne h26
        refine ok_biv (fun vx29 e30 => ?_)
        first | (have q31 := te_addc (c := -1) (n := -1) (by decide) x3v (by omega) (by omega); rw [← e30] at q31; obtain ⟨f32, f33, f34⟩ := q31) | (obtain ⟨q31, f32, f33, f34⟩ : ∃ q : Int, vx29.toInt = x3v.toInt + (-1 : Int) + 4294967296 * q ∧ -2147483648 ≤ vx29.toInt ∧ vx29.toInt ≤ 2147483647 := by rw [e30]; exact ti_addc (c := -1) (n := -1) (by decide) x3v)
        refine ok_mono (ih vx29 δ I (show -1 ≤ (vx29).toInt by first | assumption | omega) (show (vx29).toInt < 1000 by first | assumption | omega) (show (vx29).toInt + 1 < _ by omega)) (fun r35 hr36 => ?_)
        have i37 := hr36
        have f38 := ti_b r35.1
        exact by assumption
set_option maxHeartbeats 4000000 in
theorem k_X2_lastChange {ad : List Nat} {h : hp} (L : Lay TLx ad h) {δ0 : dp} {N : Nat} (hN : 10000000 ≤ N) {a0 : Nat} {x1 : Int32} {x2 : Int32} (k_a0 : q_K h.1 a0 = 2) {δ : dp} (I : CI ad h.1 δ0 δ) : ok (D_X2_lastChange N h.1 a0 x1 x2 δ) (fun r => r.2 = δ) := by
  unfold D_X2_lastChange
  have f3 := cb_2_4 I k_a0
  refine ok_biv (fun vx1 e2 => ?_)
  first | (have q4 := te_subc (c := 1) (n := 1) rfl (q_I δ 2 4 a0) (by omega) (by omega); rw [← e2] at q4; obtain ⟨f5, f6, f7⟩ := q4) | (obtain ⟨q4, f5, f6, f7⟩ : ∃ q : Int, vx1.toInt = (q_I δ 2 4 a0).toInt - (1 : Int) + 4294967296 * q ∧ -2147483648 ≤ vx1.toInt ∧ vx1.toInt ≤ 2147483647 := by rw [e2]; exact ti_subc (c := 1) (n := 1) rfl (q_I δ 2 4 a0))
  refine ok_mono (kl_X2_lastChange_7 L hN k_a0 _ vx1 δ I (show -1 ≤ (vx1).toInt by first | assumption | omega) (show (vx1).toInt < 1000 by first | assumption | omega) (show (vx1).toInt + 1 < _ by omega)) (fun r8 hr9 => ?_)
  have i10 := hr9
  have f11 := ti_b r8.1
  exact by assumption
set_option maxHeartbeats 4000000 in
theorem kl_X2_copying_4 {ad : List Nat} {h : hp} (L : Lay TLx ad h) {δ0 : dp} {N : Nat} (hN : 10000000 ≤ N) {a0 : Nat} (k_a0 : q_K h.1 a0 = 2) : ∀ (n : Nat) (x1v : Int32) (x2v : Int32) (δ : dp), CI ad h.1 δ0 δ → 0 ≤ (x2v).toInt → (x2v).toInt ≤ (q_I δ 2 4 a0).toInt → (q_I δ 2 4 a0).toInt - (x2v).toInt < (n : Int) → ok (L_X2_copying_4 N h.1 a0 n x1v x2v δ) (fun r => r.2 = δ) := by
  intro n
  induction n with
  | zero =>
    intro x1v x2v δ I j0 j1 hm
    have f1 := ti_b x2v
    have f2 := cb_2_4 I k_a0
    exfalso; omega
  | succ n ih =>
    intro x1v x2v δ I j0 j1 hm
    unfold L_X2_copying_4
    have f1 := ti_b x2v
    have f2 := cb_2_4 I k_a0
    refine ok_ite (fun h3 => ?_) (fun h3 => ?_)
    · have c4 : (q_I δ 2 4 a0).toInt ≤ x2v.toInt := o_le h3
      exact ok_some (show δ = δ from rfl)
    · have c5 : x2v.toInt < (q_I δ 2 4 a0).toInt := o_nle h3
      obtain ⟨b6, o7, k8, n9, w10⟩ := gO_2_3 L k_a0
      refine ok_at o7 ?_
      have t11 := ti_tn x2v
      refine ok_gd (fun hc12 => ?_) ?_
      · rcases hc12 with hc12 | hc12
        · have c13 : x2v.toInt < (0 : Int) := o_lt hc12
          omega
        · omega
      have f16 := ti_b x1v
      have f17 := ti_b (q_R δ b6 x2v.toNatClampNeg)
      refine ok_biv (fun vx14 e15 => ?_)
      first | (have q18 := te_add x1v (q_R δ b6 x2v.toNatClampNeg) (by omega) (by omega); rw [← e15] at q18; obtain ⟨f19, f20, f21⟩ := q18) | (obtain ⟨q18, f19, f20, f21⟩ : ∃ q : Int, vx14.toInt = x1v.toInt + (q_R δ b6 x2v.toNatClampNeg).toInt + 4294967296 * q ∧ -2147483648 ≤ vx14.toInt ∧ vx14.toInt ≤ 2147483647 := by rw [e15]; exact ti_add x1v (q_R δ b6 x2v.toNatClampNeg))
      refine ok_biv (fun vx22 e23 => ?_)
      first | (have q24 := te_addc (c := 1) (n := 1) rfl x2v (by omega) (by omega); rw [← e23] at q24; obtain ⟨f25, f26, f27⟩ := q24) | (obtain ⟨q24, f25, f26, f27⟩ : ∃ q : Int, vx22.toInt = x2v.toInt + (1 : Int) + 4294967296 * q ∧ -2147483648 ≤ vx22.toInt ∧ vx22.toInt ≤ 2147483647 := by rw [e23]; exact ti_addc (c := 1) (n := 1) rfl x2v)
      refine ok_mono (ih vx14 vx22 δ I (show 0 ≤ (vx22).toInt by first | assumption | omega) (show (vx22).toInt ≤ (q_I δ 2 4 a0).toInt by first | assumption | omega) (show (q_I δ 2 4 a0).toInt - (vx22).toInt < _ by omega)) (fun r28 hr29 => ?_)
      have i30 := hr29
      have f31 := ti_b r28.1
      exact by assumption
set_option maxHeartbeats 4000000 in
theorem k_X2_copying {ad : List Nat} {h : hp} (L : Lay TLx ad h) {δ0 : dp} {N : Nat} (hN : 10000000 ≤ N) {a0 : Nat} (k_a0 : q_K h.1 a0 = 2) {δ : dp} (I : CI ad h.1 δ0 δ) : ok (D_X2_copying N h.1 a0 δ) (fun r => r.2 = δ) := by
  unfold D_X2_copying
  have f1 := cb_2_4 I k_a0
  refine ok_mono (kl_X2_copying_4 L hN k_a0 _ (0 : Int32) (0 : Int32) δ I (show 0 ≤ (0 : Int) by first | assumption | omega) (show (0 : Int) ≤ (q_I δ 2 4 a0).toInt by first | assumption | omega) (show (q_I δ 2 4 a0).toInt - (0 : Int) < _ by omega)) (fun r2 hr3 => ?_)
  have i4 := hr3
  have f5 := ti_b r2.1
  exact by assumption
set_option maxHeartbeats 4000000 in
theorem kl_X2_goBack_0 {ad : List Nat} {h : hp} (L : Lay TLx ad h) {δ0 : dp} {N : Nat} (hN : 10000000 ≤ N) {a0 : Nat} {x1 : Int32} (k_a0 : q_K h.1 a0 = 2) : ∀ (n : Nat) (δ : dp), CI ad h.1 δ0 δ → 0 ≤ (x1).toInt → (q_I δ 2 4 a0).toInt < (n : Int) → ok (L_X2_goBack_0 N h.1 a0 x1 n δ) (fun r => CI ad h.1 δ0 r ∧ (kp [(2, 4), (3, 1)] δ r ∧ q_V r = q_V δ)) := by
  intro n
  induction n with
  | zero =>
    intro δ I j0 hm
    have f1 := ti_b x1
    have f2 := cb_2_4 I k_a0
    exfalso; omega
  | succ n ih =>
    intro δ I j0 hm
    unfold L_X2_goBack_0
    have f1 := ti_b x1
    have f2 := cb_2_4 I k_a0
    refine ok_ite (fun h3 => ?_) (fun h3 => ?_)
    · have c4 : (q_I δ 2 4 a0).toInt ≤ x1.toInt := o_le h3
      exact ok_some (show CI ad h.1 δ0 δ ∧ (kp [(2, 4), (3, 1)] δ δ ∧ q_V δ = q_V δ) from ⟨I, ⟨kp_w (by decide) kp_r, rfl⟩⟩)
    · have c5 : x1.toInt < (q_I δ 2 4 a0).toInt := o_nle h3
      first | (have q10 := te_subc (c := 1) (n := 1) rfl (q_I δ 2 4 a0) (by omega) (by omega); obtain ⟨f11, f12, f13⟩ := q10) | (obtain ⟨q10, f11, f12, f13⟩ := ti_subc (c := 1) (n := 1) rfl (q_I δ 2 4 a0))
      refine ok_bdv (fun d6 e7 => ?_)
      have i8 : CI ad h.1 δ0 d6 := by rw [e7]; exact cs_2_4 L I k_a0 (show 0 ≤ ((q_I δ 2 4 a0) - (1 : Int32)).toInt by omega) (show ((q_I δ 2 4 a0) - (1 : Int32)).toInt ≤ 1000 by omega)
      have u14 := kp_I kp_r e7
      have v15 : q_V d6 = q_V δ := (show q_V d6 = q_V δ by rw [e7]; rfl).trans rfl
      obtain ⟨b16, o17, k18⟩ := gO_2_0 L k_a0
      refine ok_at o17 ?_
      have f21 := cb_2_4 i8 k_a0
      have f22 : (q_I d6 2 4 a0).toInt = ((q_I δ 2 4 a0) - (1 : Int32)).toInt := congrArg Int32.toInt (show q_I d6 2 4 a0 = ((q_I δ 2 4 a0) - (1 : Int32)) by rw [e7]; exact rI_s)
      refine ok_bind (k_X2_replay L hN (a0 := a0) (a1 := b16) (x2 := (q_I d6 2 4 a0)) (x3 := (1 : Int32)) k_a0 k18 (show 0 ≤ ((q_I d6 2 4 a0)).toInt by first | assumption | omega) (show ((q_I d6 2 4 a0)).toInt < 1000 by first | assumption | omega) i8) (fun r19 hr20 => ?_)
      obtain ⟨i23, ⟨u24, v25⟩⟩ := hr20
      have u26 := kp_t u14 u24
      have v27 := v25.trans v15
      have f28 := cb_2_4 i23 k_a0
      have f29 : (q_I r19 2 4 a0).toInt = (q_I d6 2 4 a0).toInt := congrArg Int32.toInt (u24 2 4 a0 (by decide))
      refine ok_mono (ih r19 i23 (show 0 ≤ (x1).toInt by first | assumption | omega) (show (q_I r19 2 4 a0).toInt < _ by omega)) (fun r30 hr31 => ?_)
      obtain ⟨i32, ⟨u33, v34⟩⟩ := hr31
      have u35 := kp_t u26 u33
      have v36 := v34.trans v27
      exact ⟨by assumption, ⟨kp_w (by decide) u35, v36⟩⟩
set_option maxHeartbeats 4000000 in
theorem k_X2_goBack {ad : List Nat} {h : hp} (L : Lay TLx ad h) {δ0 : dp} {N : Nat} (hN : 10000000 ≤ N) {a0 : Nat} {x1 : Int32} (k_a0 : q_K h.1 a0 = 2) {δ : dp} (z0 : 0 ≤ (x1).toInt) (I : CI ad h.1 δ0 δ) : ok (D_X2_goBack N h.1 a0 x1 δ) (fun r => CI ad h.1 δ0 r ∧ (kp [(2, 4), (3, 1)] δ r ∧ q_V r = q_V δ)) := by
  unfold D_X2_goBack
  have f1 := ti_b x1
  have f2 := cb_2_4 I k_a0
  refine ok_mono (kl_X2_goBack_0 L hN k_a0 _ δ I (show 0 ≤ (x1).toInt by first | assumption | omega) (show (q_I δ 2 4 a0).toInt < _ by omega)) (fun r3 hr4 => ?_)
  obtain ⟨i5, ⟨u6, v7⟩⟩ := hr4
  have u8 := kp_t kp_r u6
  have v9 := v7.trans rfl
  exact ⟨by assumption, ⟨kp_w (by decide) u8, v9⟩⟩
set_option maxHeartbeats 4000000 in
theorem kl_X2_fillPast_6 {ad : List Nat} {h : hp} (L : Lay TLx ad h) {δ0 : dp} {N : Nat} (hN : 10000000 ≤ N) {a0 : Nat} {a1 : Nat} {x2 : Int32} (k_a0 : q_K h.1 a0 = 2) (k_a1 : q_K h.1 a1 = 3) : ∀ (n : Nat) (x3v : Int32) (δ : dp), CI ad h.1 δ0 δ → 0 ≤ (x3v).toInt → (x3v).toInt ≤ (x2).toInt → (x2).toInt ≤ 1000 → (x2).toInt - (x3v).toInt < (n : Int) → ok (L_X2_fillPast_6 N h.1 a0 a1 x2 n x3v δ) (fun r => CI ad h.1 δ0 r ∧ (kp [(3, 1)] δ r ∧ q_V r = q_V δ)) := by
  intro n
  induction n with
  | zero =>
    intro x3v δ I j0 j1 j2 hm
    have f1 := ti_b x3v
    have f2 := ti_b x2
    exfalso; omega
  | succ n ih =>
    intro x3v δ I j0 j1 j2 hm
    unfold L_X2_fillPast_6
    have f1 := ti_b x3v
    have f2 := ti_b x2
    refine ok_ite (fun h3 => ?_) (fun h3 => ?_)
    · have c4 : x2.toInt ≤ x3v.toInt := o_le h3
      exact ok_some (show CI ad h.1 δ0 δ ∧ (kp [(3, 1)] δ δ ∧ q_V δ = q_V δ) from ⟨I, ⟨kp_w (by decide) kp_r, rfl⟩⟩)
    · have c5 : x3v.toInt < x2.toInt := o_nle h3
      refine ok_bind (k_X2_replay L hN (a0 := a0) (a1 := a1) (x2 := x3v) (x3 := (0 : Int32)) k_a0 k_a1 (show 0 ≤ (x3v).toInt by first | assumption | omega) (show (x3v).toInt < 1000 by first | assumption | omega) I) (fun r6 hr7 => ?_)
      obtain ⟨i8, ⟨u9, v10⟩⟩ := hr7
      have u11 := kp_t kp_r u9
      have v12 := v10.trans rfl
      refine ok_biv (fun vx13 e14 => ?_)
      first | (have q15 := te_addc (c := 1) (n := 1) rfl x3v (by omega) (by omega); rw [← e14] at q15; obtain ⟨f16, f17, f18⟩ := q15) | (obtain ⟨q15, f16, f17, f18⟩ : ∃ q : Int, vx13.toInt = x3v.toInt + (1 : Int) + 4294967296 * q ∧ -2147483648 ≤ vx13.toInt ∧ vx13.toInt ≤ 2147483647 := by rw [e14]; exact ti_addc (c := 1) (n := 1) rfl x3v)
      refine ok_mono (ih vx13 r6 i8 (show 0 ≤ (vx13).toInt by first | assumption | omega) (show (vx13).toInt ≤ (x2).toInt by first | assumption | omega) (show (x2).toInt ≤ 1000 by first | assumption | omega) (show (x2).toInt - (vx13).toInt < _ by omega)) (fun r19 hr20 => ?_)
      obtain ⟨i21, ⟨u22, v23⟩⟩ := hr20
      have u24 := kp_t u11 u22
      have v25 := v23.trans v12
      exact ⟨by assumption, ⟨kp_w (by decide) u24, v25⟩⟩
set_option maxHeartbeats 4000000 in
theorem k_X2_fillPast {ad : List Nat} {h : hp} (L : Lay TLx ad h) {δ0 : dp} {N : Nat} (hN : 10000000 ≤ N) {a0 : Nat} {a1 : Nat} {x2 : Int32} (k_a0 : q_K h.1 a0 = 2) (k_a1 : q_K h.1 a1 = 3) {δ : dp} (z0 : 0 ≤ (x2).toInt) (z1 : (x2).toInt ≤ 1000) (I : CI ad h.1 δ0 δ) : ok (D_X2_fillPast N h.1 a0 a1 x2 δ) (fun r => CI ad h.1 δ0 r ∧ (kp [(3, 1)] δ r ∧ q_V r = q_V δ)) := by
  unfold D_X2_fillPast
  have f1 := ti_b x2
  refine ok_bind (k_X3_clear L hN (a0 := a1) k_a1 I) (fun r2 hr3 => ?_)
  obtain ⟨i4, ⟨u5, v6⟩⟩ := hr3
  have u7 := kp_t kp_r u5
  have v8 := v6.trans rfl
  refine ok_mono (kl_X2_fillPast_6 L hN k_a0 k_a1 _ (0 : Int32) r2 i4 (show 0 ≤ (0 : Int) by first | assumption | omega) (show (0 : Int) ≤ (x2).toInt by first | assumption | omega) (show (x2).toInt ≤ 1000 by first | assumption | omega) (show (x2).toInt - (0 : Int) < _ by omega)) (fun r9 hr10 => ?_)
  obtain ⟨i11, ⟨u12, v13⟩⟩ := hr10
  have u14 := kp_t u7 u12
  have v15 := v13.trans v8
  exact ⟨by assumption, ⟨kp_w (by decide) u14, v15⟩⟩
set_option maxHeartbeats 4000000 in
theorem kl_X2_makeAll_5 {ad : List Nat} {h : hp} (L : Lay TLx ad h) {δ0 : dp} {N : Nat} (hN : 10000000 ≤ N) {a0 : Nat} {x1 : Int32} {a2 : Nat} (k_a0 : q_K h.1 a0 = 2) (k_a2 : q_K h.1 a2 = 3) : ∀ (n : Nat) (x3v : Int32) (x4v : Int32) (δ : dp), CI ad h.1 δ0 δ → 0 ≤ (x4v).toInt → (x4v).toInt ≤ 2000 → 2000 - (x4v).toInt < (n : Int) → ok (L_X2_makeAll_5 N h.1 a0 x1 a2 n x3v x4v δ) (fun r => CI ad h.1 δ0 r.2 ∧ (kp [(1, 3), (1, 4), (1, 5), (1, 6), (1, 7), (1, 8), (1, 9), (1, 10), (1, 11), (1, 12), (1, 13), (1, 14), (1, 15), (2, 4), (3, 1)] δ r.2 ∧ q_V r.2 = q_V δ)) := by
  intro n
  induction n with
  | zero =>
    intro x3v x4v δ I j0 j1 hm
    have f1 := ti_b x4v
    exfalso; omega
  | succ n ih =>
    intro x3v x4v δ I j0 j1 hm
    unfold L_X2_makeAll_5
    have f1 := ti_b x4v
    obtain ⟨b2, o3, k4, ⟨n5, n6⟩, w7⟩ := gO_3_0 L k_a2
    have f8 := cb_3_1 I k_a2 o3
    refine ok_ite (fun h9 => ?_) (fun h9 => ?_)
    · have c10 : (q_I δ 3 1 a2).toInt ≤ x4v.toInt := o_le h9
      exact ok_some (show CI ad h.1 δ0 δ ∧ (kp [(1, 3), (1, 4), (1, 5), (1, 6), (1, 7), (1, 8), (1, 9), (1, 10), (1, 11), (1, 12), (1, 13), (1, 14), (1, 15), (2, 4), (3, 1)] δ δ ∧ q_V δ = q_V δ) from ⟨I, ⟨kp_w (by decide) kp_r, rfl⟩⟩)
    · have c11 : x4v.toInt < (q_I δ 3 1 a2).toInt := o_nle h9
      refine ok_bind (k_X3_at L hN (a0 := a2) (x1 := x4v) k_a2 I) (fun r12 hr13 => ?_)
      have i14 := hr13
      try rw [i14]
      have f15 := ti_b r12.1
      refine ok_bind (k_X2_make L hN (a0 := a0) (x1 := x1) (x2 := r12.1) k_a0 I) (fun r16 hr17 => ?_)
      obtain ⟨i18, ⟨u19, v20⟩⟩ := hr17
      have u21 := kp_t kp_r u19
      have v22 := v20.trans rfl
      have f23 := ti_b r16.1
      have f26 := ti_b x3v
      refine ok_biv (fun vx24 e25 => ?_)
      first | (have q27 := te_add x3v r16.1 (by omega) (by omega); rw [← e25] at q27; obtain ⟨f28, f29, f30⟩ := q27) | (obtain ⟨q27, f28, f29, f30⟩ : ∃ q : Int, vx24.toInt = x3v.toInt + r16.1.toInt + 4294967296 * q ∧ -2147483648 ≤ vx24.toInt ∧ vx24.toInt ≤ 2147483647 := by rw [e25]; exact ti_add x3v r16.1)
      refine ok_biv (fun vx31 e32 => ?_)
      first | (have q33 := te_addc (c := 1) (n := 1) rfl x4v (by omega) (by omega); rw [← e32] at q33; obtain ⟨f34, f35, f36⟩ := q33) | (obtain ⟨q33, f34, f35, f36⟩ : ∃ q : Int, vx31.toInt = x4v.toInt + (1 : Int) + 4294967296 * q ∧ -2147483648 ≤ vx31.toInt ∧ vx31.toInt ≤ 2147483647 := by rw [e32]; exact ti_addc (c := 1) (n := 1) rfl x4v)
      refine ok_mono (ih vx24 vx31 r16.2 i18 (show 0 ≤ (vx31).toInt by first | assumption | omega) (show (vx31).toInt ≤ 2000 by first | assumption | omega) (show 2000 - (vx31).toInt < _ by omega)) (fun r37 hr38 => ?_)
      obtain ⟨i39, ⟨u40, v41⟩⟩ := hr38
      have u42 := kp_t u21 u40
      have v43 := v41.trans v22
      have f44 := ti_b r37.1
      exact ⟨by assumption, ⟨kp_w (by decide) u42, v43⟩⟩
set_option maxHeartbeats 4000000 in
theorem k_X2_makeAll {ad : List Nat} {h : hp} (L : Lay TLx ad h) {δ0 : dp} {N : Nat} (hN : 10000000 ≤ N) {a0 : Nat} {x1 : Int32} {a2 : Nat} (k_a0 : q_K h.1 a0 = 2) (k_a2 : q_K h.1 a2 = 3) {δ : dp} (I : CI ad h.1 δ0 δ) : ok (D_X2_makeAll N h.1 a0 x1 a2 δ) (fun r => CI ad h.1 δ0 r.2 ∧ (kp [(1, 3), (1, 4), (1, 5), (1, 6), (1, 7), (1, 8), (1, 9), (1, 10), (1, 11), (1, 12), (1, 13), (1, 14), (1, 15), (2, 4), (3, 1)] δ r.2 ∧ q_V r.2 = q_V δ)) := by
  unfold D_X2_makeAll
  refine ok_mono (kl_X2_makeAll_5 L hN k_a0 k_a2 _ (0 : Int32) (0 : Int32) δ I (show 0 ≤ (0 : Int) by first | assumption | omega) (show (0 : Int) ≤ 2000 by first | assumption | omega) (show 2000 - (0 : Int) < _ by omega)) (fun r1 hr2 => ?_)
  obtain ⟨i3, ⟨u4, v5⟩⟩ := hr2
  have u6 := kp_t kp_r u4
  have v7 := v5.trans rfl
  have f8 := ti_b r1.1
  exact ⟨by assumption, ⟨kp_w (by decide) u6, v7⟩⟩
set_option maxHeartbeats 4000000 in
theorem kl_X2_dropAllBut_16 {ad : List Nat} {h : hp} (L : Lay TLx ad h) {δ0 : dp} {N : Nat} (hN : 10000000 ≤ N) {a0 : Nat} {a1 : Nat} (k_a0 : q_K h.1 a0 = 2) (k_a1 : q_K h.1 a1 = 3) : ∀ (n : Nat) (x2v : Int32) (x3v : Int32) (x4v : Int32) (x5v : Int32) (δ : dp), CI ad h.1 δ0 δ → 0 ≤ (x5v).toInt → (x5v).toInt ≤ (x4v).toInt → (x4v).toInt ≤ 2000 → (x4v).toInt - (x5v).toInt < (n : Int) → ok (L_X2_dropAllBut_16 N h.1 a0 a1 n x2v x3v x4v x5v δ) (fun r => CI ad h.1 δ0 r.2 ∧ (kp [(1, 3), (1, 4), (1, 5), (1, 6), (1, 7), (1, 8), (1, 9), (1, 10), (1, 11), (1, 12), (1, 13), (1, 14), (1, 15), (2, 4), (3, 1)] δ r.2 ∧ q_V r.2 = q_V δ)) := by
  intro n
  induction n with
  | zero =>
    intro x2v x3v x4v x5v δ I j0 j1 j2 hm
    have f1 := ti_b x5v
    have f2 := ti_b x4v
    exfalso; omega
  | succ n ih =>
    intro x2v x3v x4v x5v δ I j0 j1 j2 hm
    unfold L_X2_dropAllBut_16
    have f1 := ti_b x5v
    have f2 := ti_b x4v
    refine ok_ite (fun h3 => ?_) (fun h3 => ?_)
    · have c4 : x4v.toInt ≤ x5v.toInt := o_le h3
      exact ok_some (show CI ad h.1 δ0 δ ∧ (kp [(1, 3), (1, 4), (1, 5), (1, 6), (1, 7), (1, 8), (1, 9), (1, 10), (1, 11), (1, 12), (1, 13), (1, 14), (1, 15), (2, 4), (3, 1)] δ δ ∧ q_V δ = q_V δ) from ⟨I, ⟨kp_w (by decide) kp_r, rfl⟩⟩)
    · have c5 : x5v.toInt < x4v.toInt := o_nle h3
      obtain ⟨b6, o7, k8⟩ := gO_2_0 L k_a0
      refine ok_at o7 ?_
      refine ok_bind (k_X3_at L hN (a0 := b6) (x1 := x3v) k8 I) (fun r9 hr10 => ?_)
      have i11 := hr10
      try rw [i11]
      have f12 := ti_b r9.1
      refine ok_bind (k_X3_holds L hN (a0 := a1) (x1 := r9.1) k_a1 I) (fun r13 hr14 => ?_)
      obtain ⟨i15, p16⟩ := hr14
      try rw [i15]
      have f17 := bo_t p16
      have f18 := ti_b r13.1
      refine ok_ite (fun h19 => ?_) (fun h19 => ?_)
      · have c20 : r13.1.toInt = (0 : Int) := o_eq h19
        refine ok_bind (k_X2_make L hN (a0 := a0) (x1 := (1 : Int32)) (x2 := r9.1) k_a0 I) (fun r21 hr22 => ?_)
        obtain ⟨i23, ⟨u24, v25⟩⟩ := hr22
        have u26 := kp_t kp_r u24
        have v27 := v25.trans rfl
        have f28 := ti_b r21.1
        have f31 := ti_b x2v
        refine ok_biv (fun vx29 e30 => ?_)
        first | (have q32 := te_add x2v r21.1 (by omega) (by omega); rw [← e30] at q32; obtain ⟨f33, f34, f35⟩ := q32) | (obtain ⟨q32, f33, f34, f35⟩ : ∃ q : Int, vx29.toInt = x2v.toInt + r21.1.toInt + 4294967296 * q ∧ -2147483648 ≤ vx29.toInt ∧ vx29.toInt ≤ 2147483647 := by rw [e30]; exact ti_add x2v r21.1)
        unfold J_X2_dropAllBut_58
        refine ok_biv (fun vx36 e37 => ?_)
        first | (have q38 := te_addc (c := 1) (n := 1) rfl x5v (by omega) (by omega); rw [← e37] at q38; obtain ⟨f39, f40, f41⟩ := q38) | (obtain ⟨q38, f39, f40, f41⟩ : ∃ q : Int, vx36.toInt = x5v.toInt + (1 : Int) + 4294967296 * q ∧ -2147483648 ≤ vx36.toInt ∧ vx36.toInt ≤ 2147483647 := by rw [e37]; exact ti_addc (c := 1) (n := 1) rfl x5v)
        refine ok_mono (ih vx29 x3v x4v vx36 r21.2 i23 (show 0 ≤ (vx36).toInt by first | assumption | omega) (show (vx36).toInt ≤ (x4v).toInt by first | assumption | omega) (show (x4v).toInt ≤ 2000 by first | assumption | omega) (show (x4v).toInt - (vx36).toInt < _ by omega)) (fun r42 hr43 => ?_)
        obtain ⟨i44, ⟨u45, v46⟩⟩ := hr43
        have u47 := kp_t u26 u45
        have v48 := v46.trans v27
        have f49 := ti_b r42.1
        exact ⟨by assumption, ⟨kp_w (by decide) u47, v48⟩⟩
      · have c50 : r13.1.toInt ≠ (0 : Int) := o_ne h19
        have f53 := ti_b x3v
        refine ok_biv (fun vx51 e52 => ?_)
        first | (have q54 := te_addc (c := 1) (n := 1) rfl x3v (by omega) (by omega); rw [← e52] at q54; obtain ⟨f55, f56, f57⟩ := q54) | (obtain ⟨q54, f55, f56, f57⟩ : ∃ q : Int, vx51.toInt = x3v.toInt + (1 : Int) + 4294967296 * q ∧ -2147483648 ≤ vx51.toInt ∧ vx51.toInt ≤ 2147483647 := by rw [e52]; exact ti_addc (c := 1) (n := 1) rfl x3v)
        unfold J_X2_dropAllBut_58
        refine ok_biv (fun vx58 e59 => ?_)
        first | (have q60 := te_addc (c := 1) (n := 1) rfl x5v (by omega) (by omega); rw [← e59] at q60; obtain ⟨f61, f62, f63⟩ := q60) | (obtain ⟨q60, f61, f62, f63⟩ : ∃ q : Int, vx58.toInt = x5v.toInt + (1 : Int) + 4294967296 * q ∧ -2147483648 ≤ vx58.toInt ∧ vx58.toInt ≤ 2147483647 := by rw [e59]; exact ti_addc (c := 1) (n := 1) rfl x5v)
        refine ok_mono (ih x2v vx51 x4v vx58 δ I (show 0 ≤ (vx58).toInt by first | assumption | omega) (show (vx58).toInt ≤ (x4v).toInt by first | assumption | omega) (show (x4v).toInt ≤ 2000 by first | assumption | omega) (show (x4v).toInt - (vx58).toInt < _ by omega)) (fun r64 hr65 => ?_)
        obtain ⟨i66, ⟨u67, v68⟩⟩ := hr65
        have u69 := kp_t kp_r u67
        have v70 := v68.trans rfl
        have f71 := ti_b r64.1
        exact ⟨by assumption, ⟨kp_w (by decide) u69, v70⟩⟩
set_option maxHeartbeats 4000000 in
theorem k_X2_dropAllBut {ad : List Nat} {h : hp} (L : Lay TLx ad h) {δ0 : dp} {N : Nat} (hN : 10000000 ≤ N) {a0 : Nat} {a1 : Nat} (k_a0 : q_K h.1 a0 = 2) (k_a1 : q_K h.1 a1 = 3) {δ : dp} (I : CI ad h.1 δ0 δ) : ok (D_X2_dropAllBut N h.1 a0 a1 δ) (fun r => CI ad h.1 δ0 r.2 ∧ (kp [(1, 3), (1, 4), (1, 5), (1, 6), (1, 7), (1, 8), (1, 9), (1, 10), (1, 11), (1, 12), (1, 13), (1, 14), (1, 15), (2, 4), (3, 1)] δ r.2 ∧ q_V r.2 = q_V δ)) := by
  unfold D_X2_dropAllBut
  obtain ⟨b1, o2, k3⟩ := gO_2_0 L k_a0
  refine ok_at o2 ?_
  obtain ⟨b6, o7, k8, ⟨n9, n10⟩, w11⟩ := gO_3_0 L k3
  have f12 := cb_3_1 I k3 o7
  refine ok_biv (fun vx4 e5 => ?_)
  have f13 : vx4.toInt = (q_I δ 3 1 b1).toInt := congrArg Int32.toInt e5
  refine ok_mono (kl_X2_dropAllBut_16 L hN k_a0 k_a1 _ (0 : Int32) (0 : Int32) vx4 (0 : Int32) δ I (show 0 ≤ (0 : Int) by first | assumption | omega) (show (0 : Int) ≤ (vx4).toInt by first | assumption | omega) (show (vx4).toInt ≤ 2000 by first | assumption | omega) (show (vx4).toInt - (0 : Int) < _ by omega)) (fun r14 hr15 => ?_)
  obtain ⟨i16, ⟨u17, v18⟩⟩ := hr15
  have u19 := kp_t kp_r u17
  have v20 := v18.trans rfl
  have f21 := ti_b r14.1
  exact ⟨by assumption, ⟨kp_w (by decide) u19, v20⟩⟩
