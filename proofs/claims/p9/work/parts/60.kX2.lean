/-! 60.kX2 (by gen_safe.py) -/
set_option maxHeartbeats 4000000 in
theorem k_X2_clear {ad : List Nat} {h : hp} (L : Lay TLx ad h) {δ0 : dp} {N : Nat} (hN : 10000000 ≤ N) {a0 : Nat} (k_a0 : q_K h.1 a0 = 2) {δ : dp} (I : CI ad h.1 δ0 δ) : ok (D_X2_clear N h.1 a0 δ) (fun r => CI ad h.1 δ0 r ∧ (kp [(2, 4), (3, 1)] δ r ∧ q_V r = q_V δ ∧ q_R r = q_R δ)) := by
  unfold D_X2_clear
  obtain ⟨b1, o2, k3⟩ := gO_2_0 L k_a0
  refine ok_at o2 ?_
  refine ok_bind (k_X3_clear L hN (a0 := b1) k3 I) (fun r4 hr5 => ?_)
  obtain ⟨i6, ⟨u8, u9, u10⟩, p7⟩ := hr5
  have u11 := kp_t kp_r u8
  have v12 : q_V r4 = q_V δ := (u9).trans rfl
  have v13 : q_R r4 = q_R δ := (u10).trans rfl
  obtain ⟨b14, o15, k16, ⟨n17, n18⟩, w19⟩ := gO_3_0 L k3
  have f20 := cb_3_1 i6 k3 o15
  refine ok_bdv (fun d21 e22 => ?_)
  have i23 : CI ad h.1 δ0 d21 := by rw [e22]; exact cs_2_4 L i6 k_a0 (show 0 ≤ (0 : Int) by omega) (show (0 : Int) ≤ 1000 by omega)
  have u24 := kp_I u11 e22
  have v25 : q_V d21 = q_V δ := ((show q_V d21 = q_V r4 by rw [e22]; rfl)).trans v12
  have v26 : q_R d21 = q_R δ := ((show q_R d21 = q_R r4 by rw [e22]; rfl)).trans v13
  exact ok_some (show CI ad h.1 δ0 d21 ∧ (kp [(2, 4), (3, 1)] δ d21 ∧ q_V d21 = q_V δ ∧ q_R d21 = q_R δ) from ⟨i23, ⟨kp_w (by decide) u24, v25, v26⟩⟩)
set_option maxHeartbeats 4000000 in
theorem k_X2_refusal {ad : List Nat} {h : hp} (L : Lay TLx ad h) {δ0 : dp} {N : Nat} (hN : 10000000 ≤ N) {a0 : Nat} {x1 : Int32} {x2 : Int32} (k_a0 : q_K h.1 a0 = 2) {δ : dp} (I : CI ad h.1 δ0 δ) : ok (D_X2_refusal N h.1 a0 x1 x2 δ) (fun r => r.2 = δ) := by
  unfold D_X2_refusal
  obtain ⟨b1, o2, k3⟩ := gO_2_0 L k_a0
  refine ok_at o2 ?_
  obtain ⟨b4, o5, k6, ⟨n7, n8⟩, w9⟩ := gO_3_0 L k3
  have f10 := cb_3_1 I k3 o5
  have f11 := ti_b x1
  first | (have q13 := te_add (q_I δ 3 1 b1) x1 (by omega) (by omega); obtain ⟨f14, f15, f16⟩ := q13) | (obtain ⟨q13, f14, f15, f16⟩ := ti_add (q_I δ 3 1 b1) x1)
  refine ok_ite (fun h17 => ?_) (fun h17 => ?_)
  · have c18 : ((q_I δ 3 1 b1) + x1).toInt ≤ (2000 : Int) := o_le h17
    have f19 := cb_2_4 I k_a0
    first | (have q21 := te_add (q_I δ 2 4 a0) x1 (by omega) (by omega); obtain ⟨f22, f23, f24⟩ := q21) | (obtain ⟨q21, f22, f23, f24⟩ := ti_add (q_I δ 2 4 a0) x1)
    have f25 := ti_b x2
    first | (have q27 := te_add ((q_I δ 2 4 a0) + x1) x2 (by omega) (by omega); obtain ⟨f28, f29, f30⟩ := q27) | (obtain ⟨q27, f28, f29, f30⟩ := ti_add ((q_I δ 2 4 a0) + x1) x2)
    refine ok_ite (fun h31 => ?_) (fun h31 => ?_)
    · have c32 : (((q_I δ 2 4 a0) + x1) + x2).toInt ≤ (1000 : Int) := o_le h31
      unfold J_X2_refusal_37
      exact ok_some (show δ = δ from rfl)
    · have c33 : (1000 : Int) < (((q_I δ 2 4 a0) + x1) + x2).toInt := o_nle h31
      unfold J_X2_refusal_37
      exact ok_some (show δ = δ from rfl)
  · have c34 : (2000 : Int) < ((q_I δ 3 1 b1) + x1).toInt := o_nle h17
    exact ok_some (show δ = δ from rfl)
set_option maxHeartbeats 4000000 in
theorem k_X2_make {ad : List Nat} {h : hp} (L : Lay TLx ad h) {δ0 : dp} {N : Nat} (hN : 10000000 ≤ N) {a0 : Nat} {x1 : Int32} {x2 : Int32} (k_a0 : q_K h.1 a0 = 2) {δ : dp} (I : CI ad h.1 δ0 δ) : ok (D_X2_make N h.1 a0 x1 x2 δ) (fun r => CI ad h.1 δ0 r.2 ∧ (kp [(1, 3), (1, 4), (1, 5), (1, 6), (1, 7), (1, 8), (1, 9), (1, 10), (1, 11), (1, 12), (1, 13), (1, 14), (1, 15), (2, 4), (3, 1)] δ r.2 ∧ q_V r.2 = q_V δ)) := by
  unfold D_X2_make
  obtain ⟨b1, o2, k3⟩ := gO_2_1 L k_a0
  refine ok_at o2 ?_
  obtain ⟨b6, o7, k8⟩ := gO_1_1 L k3
  refine ok_bind (k_X1_touchesOf L hN (a0 := b1) (x1 := x1) (x2 := x2) k3 o7 k8 I) (fun r4 hr5 => ?_)
  obtain ⟨i9, ⟨u10, u11, u12⟩⟩ := hr5
  have u13 := kp_t kp_r u10
  have v14 : q_V r4.2 = q_V δ := (u11).trans rfl
  have f15 := ti_b r4.1
  have f16 := ti_b x1
  refine ok_ite (fun h17 => ?_) (fun h17 => ?_)
  · have c18 : x1.toInt = (0 : Int) := o_eq h17
    obtain ⟨b19, o20, k21⟩ := gO_2_0 L k_a0
    refine ok_at o20 ?_
    refine ok_bind (k_X3_add L hN (a0 := b19) (x1 := x2) k21 i9) (fun r22 hr23 => ?_)
    obtain ⟨i24, ⟨u26, u27⟩, p25⟩ := hr23
    have u28 := kp_t u13 u26
    have v29 : q_V r22.2 = q_V δ := (u27).trans v14
    have f30 := bo_t p25
    have f31 := ti_b r22.1
    unfold J_X2_make_33
    refine ok_ite (fun h32 => ?_) (fun h32 => ?_)
    · have c33 : r22.1.toInt = (0 : Int) := o_eq h32
      unfold J_X2_make_84
      exact ok_some (show CI ad h.1 δ0 r22.2 ∧ (kp [(1, 3), (1, 4), (1, 5), (1, 6), (1, 7), (1, 8), (1, 9), (1, 10), (1, 11), (1, 12), (1, 13), (1, 14), (1, 15), (2, 4), (3, 1)] δ r22.2 ∧ q_V r22.2 = q_V δ) from ⟨i24, ⟨kp_w (by decide) u28, v29⟩⟩)
    · have c34 : r22.1.toInt ≠ (0 : Int) := o_ne h32
      have f35 := cb_2_4 i24 k_a0
      have f36 : (q_I r22.2 2 4 a0).toInt = (q_I r4.2 2 4 a0).toInt := congrArg Int32.toInt (u26 2 4 a0 (by decide))
      have f37 := cb_2_4 i9 k_a0
      have f38 : (q_I r4.2 2 4 a0).toInt = (q_I δ 2 4 a0).toInt := congrArg Int32.toInt (u10 2 4 a0 (by decide))
      have f39 := cb_2_4 I k_a0
      refine ok_ite (fun h40 => ?_) (fun h40 => ?_)
      · have c41 : (1000 : Int) ≤ (q_I r22.2 2 4 a0).toInt := o_le h40
        unfold J_X2_make_84
        exact ok_some (show CI ad h.1 δ0 r22.2 ∧ (kp [(1, 3), (1, 4), (1, 5), (1, 6), (1, 7), (1, 8), (1, 9), (1, 10), (1, 11), (1, 12), (1, 13), (1, 14), (1, 15), (2, 4), (3, 1)] δ r22.2 ∧ q_V r22.2 = q_V δ) from ⟨i24, ⟨kp_w (by decide) u28, v29⟩⟩)
      · have c42 : (q_I r22.2 2 4 a0).toInt < (1000 : Int) := o_nle h40
        obtain ⟨b43, o44, k45, n46, w47⟩ := gO_2_2 L k_a0
        refine ok_at o44 ?_
        have t48 := ti_tn (q_I r22.2 2 4 a0)
        refine ok_gd (fun hc49 => ?_) ?_
        · rcases hc49 with hc49 | hc49
          · have c50 : (q_I r22.2 2 4 a0).toInt < (0 : Int) := o_lt hc49
            omega
          · omega
        refine ok_bdv (fun d51 e52 => ?_)
        have i53 : CI ad h.1 δ0 d51 := by rw [e52]; exact CI.sR L i24 w47
        have u54 := kp_N u28 (show q_I d51 = q_I r22.2 by rw [e52]; rfl)
        have v55 : q_V d51 = q_V δ := ((show q_V d51 = q_V r22.2 by rw [e52]; rfl)).trans v29
        obtain ⟨b56, o57, k58, n59, w60⟩ := gO_2_3 L k_a0
        refine ok_at o57 ?_
        have f61 := cb_2_4 i53 k_a0
        have f62 : (q_I d51 2 4 a0).toInt = (q_I r22.2 2 4 a0).toInt := congrArg Int32.toInt (by rw [e52]; rfl)
        have t63 := ti_tn (q_I d51 2 4 a0)
        refine ok_gd (fun hc64 => ?_) ?_
        · rcases hc64 with hc64 | hc64
          · have c65 : (q_I d51 2 4 a0).toInt < (0 : Int) := o_lt hc64
            omega
          · omega
        refine ok_bdv (fun d66 e67 => ?_)
        have i68 : CI ad h.1 δ0 d66 := by rw [e67]; exact CI.sR L i53 w60
        have u69 := kp_N u54 (show q_I d66 = q_I d51 by rw [e67]; rfl)
        have v70 : q_V d66 = q_V δ := ((show q_V d66 = q_V d51 by rw [e67]; rfl)).trans v55
        have f74 := cb_2_4 i68 k_a0
        have f75 : (q_I d66 2 4 a0).toInt = (q_I d51 2 4 a0).toInt := congrArg Int32.toInt (by rw [e67]; rfl)
        first | (have q77 := te_addc (c := 1) (n := 1) rfl (q_I d66 2 4 a0) (by omega) (by omega); obtain ⟨f78, f79, f80⟩ := q77) | (obtain ⟨q77, f78, f79, f80⟩ := ti_addc (c := 1) (n := 1) rfl (q_I d66 2 4 a0))
        refine ok_bdv (fun d71 e72 => ?_)
        have i73 : CI ad h.1 δ0 d71 := by rw [e72]; exact cs_2_4 L i68 k_a0 (show 0 ≤ ((q_I d66 2 4 a0) + (1 : Int32)).toInt by omega) (show ((q_I d66 2 4 a0) + (1 : Int32)).toInt ≤ 1000 by omega)
        have u81 := kp_I u69 e72
        have v82 : q_V d71 = q_V δ := ((show q_V d71 = q_V d66 by rw [e72]; rfl)).trans v70
        unfold J_X2_make_84
        exact ok_some (show CI ad h.1 δ0 d71 ∧ (kp [(1, 3), (1, 4), (1, 5), (1, 6), (1, 7), (1, 8), (1, 9), (1, 10), (1, 11), (1, 12), (1, 13), (1, 14), (1, 15), (2, 4), (3, 1)] δ d71 ∧ q_V d71 = q_V δ) from ⟨i73, ⟨kp_w (by decide) u81, v82⟩⟩)
  · have c83 : x1.toInt ≠ (0 : Int) := o_ne h17
    obtain ⟨b84, o85, k86⟩ := gO_2_0 L k_a0
    refine ok_at o85 ?_
    refine ok_bind (k_X3_remove L hN (a0 := b84) (x1 := x2) k86 i9) (fun r87 hr88 => ?_)
    obtain ⟨i89, ⟨u91, u92⟩, p90⟩ := hr88
    have u93 := kp_t u13 u91
    have v94 : q_V r87.2 = q_V δ := (u92).trans v14
    have f95 := bo_t p90
    have f96 := ti_b r87.1
    unfold J_X2_make_33
    refine ok_ite (fun h97 => ?_) (fun h97 => ?_)
    · have c98 : r87.1.toInt = (0 : Int) := o_eq h97
      unfold J_X2_make_84
      exact ok_some (show CI ad h.1 δ0 r87.2 ∧ (kp [(1, 3), (1, 4), (1, 5), (1, 6), (1, 7), (1, 8), (1, 9), (1, 10), (1, 11), (1, 12), (1, 13), (1, 14), (1, 15), (2, 4), (3, 1)] δ r87.2 ∧ q_V r87.2 = q_V δ) from ⟨i89, ⟨kp_w (by decide) u93, v94⟩⟩)
    · have c99 : r87.1.toInt ≠ (0 : Int) := o_ne h97
      have f100 := cb_2_4 i89 k_a0
      have f101 : (q_I r87.2 2 4 a0).toInt = (q_I r4.2 2 4 a0).toInt := congrArg Int32.toInt (u91 2 4 a0 (by decide))
      have f102 := cb_2_4 i9 k_a0
      have f103 : (q_I r4.2 2 4 a0).toInt = (q_I δ 2 4 a0).toInt := congrArg Int32.toInt (u10 2 4 a0 (by decide))
      have f104 := cb_2_4 I k_a0
      refine ok_ite (fun h105 => ?_) (fun h105 => ?_)
      · have c106 : (1000 : Int) ≤ (q_I r87.2 2 4 a0).toInt := o_le h105
        unfold J_X2_make_84
        exact ok_some (show CI ad h.1 δ0 r87.2 ∧ (kp [(1, 3), (1, 4), (1, 5), (1, 6), (1, 7), (1, 8), (1, 9), (1, 10), (1, 11), (1, 12), (1, 13), (1, 14), (1, 15), (2, 4), (3, 1)] δ r87.2 ∧ q_V r87.2 = q_V δ) from ⟨i89, ⟨kp_w (by decide) u93, v94⟩⟩)
      · have c107 : (q_I r87.2 2 4 a0).toInt < (1000 : Int) := o_nle h105
        obtain ⟨b108, o109, k110, n111, w112⟩ := gO_2_2 L k_a0
        refine ok_at o109 ?_
        have t113 := ti_tn (q_I r87.2 2 4 a0)
        refine ok_gd (fun hc114 => ?_) ?_
        · rcases hc114 with hc114 | hc114
          · have c115 : (q_I r87.2 2 4 a0).toInt < (0 : Int) := o_lt hc114
            omega
          · omega
        refine ok_bdv (fun d116 e117 => ?_)
        have i118 : CI ad h.1 δ0 d116 := by rw [e117]; exact CI.sR L i89 w112
        have u119 := kp_N u93 (show q_I d116 = q_I r87.2 by rw [e117]; rfl)
        have v120 : q_V d116 = q_V δ := ((show q_V d116 = q_V r87.2 by rw [e117]; rfl)).trans v94
        obtain ⟨b121, o122, k123, n124, w125⟩ := gO_2_3 L k_a0
        refine ok_at o122 ?_
        have f126 := cb_2_4 i118 k_a0
        have f127 : (q_I d116 2 4 a0).toInt = (q_I r87.2 2 4 a0).toInt := congrArg Int32.toInt (by rw [e117]; rfl)
        have t128 := ti_tn (q_I d116 2 4 a0)
        refine ok_gd (fun hc129 => ?_) ?_
        · rcases hc129 with hc129 | hc129
          · have c130 : (q_I d116 2 4 a0).toInt < (0 : Int) := o_lt hc129
            omega
          · omega
        refine ok_bdv (fun d131 e132 => ?_)
        have i133 : CI ad h.1 δ0 d131 := by rw [e132]; exact CI.sR L i118 w125
        have u134 := kp_N u119 (show q_I d131 = q_I d116 by rw [e132]; rfl)
        have v135 : q_V d131 = q_V δ := ((show q_V d131 = q_V d116 by rw [e132]; rfl)).trans v120
        have f139 := cb_2_4 i133 k_a0
        have f140 : (q_I d131 2 4 a0).toInt = (q_I d116 2 4 a0).toInt := congrArg Int32.toInt (by rw [e132]; rfl)
        first | (have q142 := te_addc (c := 1) (n := 1) rfl (q_I d131 2 4 a0) (by omega) (by omega); obtain ⟨f143, f144, f145⟩ := q142) | (obtain ⟨q142, f143, f144, f145⟩ := ti_addc (c := 1) (n := 1) rfl (q_I d131 2 4 a0))
        refine ok_bdv (fun d136 e137 => ?_)
        have i138 : CI ad h.1 δ0 d136 := by rw [e137]; exact cs_2_4 L i133 k_a0 (show 0 ≤ ((q_I d131 2 4 a0) + (1 : Int32)).toInt by omega) (show ((q_I d131 2 4 a0) + (1 : Int32)).toInt ≤ 1000 by omega)
        have u146 := kp_I u134 e137
        have v147 : q_V d136 = q_V δ := ((show q_V d136 = q_V d131 by rw [e137]; rfl)).trans v135
        unfold J_X2_make_84
        exact ok_some (show CI ad h.1 δ0 d136 ∧ (kp [(1, 3), (1, 4), (1, 5), (1, 6), (1, 7), (1, 8), (1, 9), (1, 10), (1, 11), (1, 12), (1, 13), (1, 14), (1, 15), (2, 4), (3, 1)] δ d136 ∧ q_V d136 = q_V δ) from ⟨i138, ⟨kp_w (by decide) u146, v147⟩⟩)
set_option maxHeartbeats 4000000 in
theorem k_X2_change {ad : List Nat} {h : hp} (L : Lay TLx ad h) {δ0 : dp} {N : Nat} (hN : 10000000 ≤ N) {a0 : Nat} {x1 : Int32} {x2 : Int32} (k_a0 : q_K h.1 a0 = 2) {δ : dp} (I : CI ad h.1 δ0 δ) : ok (D_X2_change N h.1 a0 x1 x2 δ) (fun r => CI ad h.1 δ0 r.2 ∧ (kp [(1, 3), (1, 4), (1, 5), (1, 6), (1, 7), (1, 8), (1, 9), (1, 10), (1, 11), (1, 12), (1, 13), (1, 14), (1, 15), (2, 4), (3, 1)] δ r.2 ∧ q_V r.2 = q_V δ)) := by
  unfold D_X2_change
  have f1 := ti_b x1
  refine ok_ite (fun h2 => ?_) (fun h2 => ?_)
  · have c3 : x1.toInt = (0 : Int) := o_eq h2
    unfold J_X2_change_9
    obtain ⟨b4, o5, k6⟩ := gO_2_0 L k_a0
    refine ok_at o5 ?_
    refine ok_bind (k_X3_holds L hN (a0 := b4) (x1 := x2) k6 I) (fun r7 hr8 => ?_)
    obtain ⟨i9, p10⟩ := hr8
    try rw [i9]
    have f11 := bo_t p10
    have f12 := ti_b r7.1
    refine ok_ite (fun h13 => ?_) (fun h13 => ?_)
    · have c14 : r7.1.toInt = (1 : Int) := o_eq h13
      exact ok_some (show CI ad h.1 δ0 δ ∧ (kp [(1, 3), (1, 4), (1, 5), (1, 6), (1, 7), (1, 8), (1, 9), (1, 10), (1, 11), (1, 12), (1, 13), (1, 14), (1, 15), (2, 4), (3, 1)] δ δ ∧ q_V δ = q_V δ) from ⟨I, ⟨kp_w (by decide) kp_r, rfl⟩⟩)
    · have c15 : r7.1.toInt ≠ (1 : Int) := o_ne h13
      refine ok_ite (fun h16 => ?_) (fun h16 => ?_)
      · have c17 : (1 : Int) = (0 : Int) := o_eq h16
        unfold J_X2_change_34
        refine ok_ite (fun h18 => ?_) (fun h18 => ?_)
        · have c19 : (1 : Int) = (0 : Int) := o_eq h18
          unfold J_X2_change_43
          refine ok_bind (k_X2_refusal L hN (a0 := a0) (x1 := (0 : Int32)) (x2 := (1 : Int32)) k_a0 I) (fun r20 hr21 => ?_)
          have i22 := hr21
          try rw [i22]
          have f23 := ti_b r20.1
          refine ok_ite (fun h24 => ?_) (fun h24 => ?_)
          · have c25 : (0 : Int) ≤ r20.1.toInt := o_le h24
            refine ok_bind (k_X2_make L hN (a0 := a0) (x1 := x1) (x2 := x2) k_a0 I) (fun r26 hr27 => ?_)
            obtain ⟨i28, ⟨u29, u30⟩⟩ := hr27
            have u31 := kp_t kp_r u29
            have v32 : q_V r26.2 = q_V δ := (u30).trans rfl
            have f33 := ti_b r26.1
            exact ok_some (show CI ad h.1 δ0 r26.2 ∧ (kp [(1, 3), (1, 4), (1, 5), (1, 6), (1, 7), (1, 8), (1, 9), (1, 10), (1, 11), (1, 12), (1, 13), (1, 14), (1, 15), (2, 4), (3, 1)] δ r26.2 ∧ q_V r26.2 = q_V δ) from ⟨i28, ⟨kp_w (by decide) u31, v32⟩⟩)
          · have c34 : r20.1.toInt < (0 : Int) := o_nle h24
            exact ok_some (show CI ad h.1 δ0 δ ∧ (kp [(1, 3), (1, 4), (1, 5), (1, 6), (1, 7), (1, 8), (1, 9), (1, 10), (1, 11), (1, 12), (1, 13), (1, 14), (1, 15), (2, 4), (3, 1)] δ δ ∧ q_V δ = q_V δ) from ⟨I, ⟨kp_w (by decide) kp_r, rfl⟩⟩)
        · have c35 : (1 : Int) ≠ (0 : Int) := o_ne h18
          unfold J_X2_change_43
          refine ok_bind (k_X2_refusal L hN (a0 := a0) (x1 := (0 : Int32)) (x2 := (0 : Int32)) k_a0 I) (fun r36 hr37 => ?_)
          have i38 := hr37
          try rw [i38]
          have f39 := ti_b r36.1
          refine ok_ite (fun h40 => ?_) (fun h40 => ?_)
          · have c41 : (0 : Int) ≤ r36.1.toInt := o_le h40
            refine ok_bind (k_X2_make L hN (a0 := a0) (x1 := x1) (x2 := x2) k_a0 I) (fun r42 hr43 => ?_)
            obtain ⟨i44, ⟨u45, u46⟩⟩ := hr43
            have u47 := kp_t kp_r u45
            have v48 : q_V r42.2 = q_V δ := (u46).trans rfl
            have f49 := ti_b r42.1
            exact ok_some (show CI ad h.1 δ0 r42.2 ∧ (kp [(1, 3), (1, 4), (1, 5), (1, 6), (1, 7), (1, 8), (1, 9), (1, 10), (1, 11), (1, 12), (1, 13), (1, 14), (1, 15), (2, 4), (3, 1)] δ r42.2 ∧ q_V r42.2 = q_V δ) from ⟨i44, ⟨kp_w (by decide) u47, v48⟩⟩)
          · have c50 : r36.1.toInt < (0 : Int) := o_nle h40
            exact ok_some (show CI ad h.1 δ0 δ ∧ (kp [(1, 3), (1, 4), (1, 5), (1, 6), (1, 7), (1, 8), (1, 9), (1, 10), (1, 11), (1, 12), (1, 13), (1, 14), (1, 15), (2, 4), (3, 1)] δ δ ∧ q_V δ = q_V δ) from ⟨I, ⟨kp_w (by decide) kp_r, rfl⟩⟩)
      · have c51 : (1 : Int) ≠ (0 : Int) := o_ne h16
        unfold J_X2_change_34
        refine ok_ite (fun h52 => ?_) (fun h52 => ?_)
        · have c53 : (1 : Int) = (0 : Int) := o_eq h52
          unfold J_X2_change_43
          refine ok_bind (k_X2_refusal L hN (a0 := a0) (x1 := (1 : Int32)) (x2 := (1 : Int32)) k_a0 I) (fun r54 hr55 => ?_)
          have i56 := hr55
          try rw [i56]
          have f57 := ti_b r54.1
          refine ok_ite (fun h58 => ?_) (fun h58 => ?_)
          · have c59 : (0 : Int) ≤ r54.1.toInt := o_le h58
            refine ok_bind (k_X2_make L hN (a0 := a0) (x1 := x1) (x2 := x2) k_a0 I) (fun r60 hr61 => ?_)
            obtain ⟨i62, ⟨u63, u64⟩⟩ := hr61
            have u65 := kp_t kp_r u63
            have v66 : q_V r60.2 = q_V δ := (u64).trans rfl
            have f67 := ti_b r60.1
            exact ok_some (show CI ad h.1 δ0 r60.2 ∧ (kp [(1, 3), (1, 4), (1, 5), (1, 6), (1, 7), (1, 8), (1, 9), (1, 10), (1, 11), (1, 12), (1, 13), (1, 14), (1, 15), (2, 4), (3, 1)] δ r60.2 ∧ q_V r60.2 = q_V δ) from ⟨i62, ⟨kp_w (by decide) u65, v66⟩⟩)
          · have c68 : r54.1.toInt < (0 : Int) := o_nle h58
            exact ok_some (show CI ad h.1 δ0 δ ∧ (kp [(1, 3), (1, 4), (1, 5), (1, 6), (1, 7), (1, 8), (1, 9), (1, 10), (1, 11), (1, 12), (1, 13), (1, 14), (1, 15), (2, 4), (3, 1)] δ δ ∧ q_V δ = q_V δ) from ⟨I, ⟨kp_w (by decide) kp_r, rfl⟩⟩)
        · have c69 : (1 : Int) ≠ (0 : Int) := o_ne h52
          unfold J_X2_change_43
          refine ok_bind (k_X2_refusal L hN (a0 := a0) (x1 := (1 : Int32)) (x2 := (0 : Int32)) k_a0 I) (fun r70 hr71 => ?_)
          have i72 := hr71
          try rw [i72]
          have f73 := ti_b r70.1
          refine ok_ite (fun h74 => ?_) (fun h74 => ?_)
          · have c75 : (0 : Int) ≤ r70.1.toInt := o_le h74
            refine ok_bind (k_X2_make L hN (a0 := a0) (x1 := x1) (x2 := x2) k_a0 I) (fun r76 hr77 => ?_)
            obtain ⟨i78, ⟨u79, u80⟩⟩ := hr77
            have u81 := kp_t kp_r u79
            have v82 : q_V r76.2 = q_V δ := (u80).trans rfl
            have f83 := ti_b r76.1
            exact ok_some (show CI ad h.1 δ0 r76.2 ∧ (kp [(1, 3), (1, 4), (1, 5), (1, 6), (1, 7), (1, 8), (1, 9), (1, 10), (1, 11), (1, 12), (1, 13), (1, 14), (1, 15), (2, 4), (3, 1)] δ r76.2 ∧ q_V r76.2 = q_V δ) from ⟨i78, ⟨kp_w (by decide) u81, v82⟩⟩)
          · have c84 : r70.1.toInt < (0 : Int) := o_nle h74
            exact ok_some (show CI ad h.1 δ0 δ ∧ (kp [(1, 3), (1, 4), (1, 5), (1, 6), (1, 7), (1, 8), (1, 9), (1, 10), (1, 11), (1, 12), (1, 13), (1, 14), (1, 15), (2, 4), (3, 1)] δ δ ∧ q_V δ = q_V δ) from ⟨I, ⟨kp_w (by decide) kp_r, rfl⟩⟩)
  · have c85 : x1.toInt ≠ (0 : Int) := o_ne h2
    unfold J_X2_change_9
    obtain ⟨b86, o87, k88⟩ := gO_2_0 L k_a0
    refine ok_at o87 ?_
    refine ok_bind (k_X3_holds L hN (a0 := b86) (x1 := x2) k88 I) (fun r89 hr90 => ?_)
    obtain ⟨i91, p92⟩ := hr90
    try rw [i91]
    have f93 := bo_t p92
    have f94 := ti_b r89.1
    refine ok_ite (fun h95 => ?_) (fun h95 => ?_)
    · have c96 : r89.1.toInt = (0 : Int) := o_eq h95
      exact ok_some (show CI ad h.1 δ0 δ ∧ (kp [(1, 3), (1, 4), (1, 5), (1, 6), (1, 7), (1, 8), (1, 9), (1, 10), (1, 11), (1, 12), (1, 13), (1, 14), (1, 15), (2, 4), (3, 1)] δ δ ∧ q_V δ = q_V δ) from ⟨I, ⟨kp_w (by decide) kp_r, rfl⟩⟩)
    · have c97 : r89.1.toInt ≠ (0 : Int) := o_ne h95
      refine ok_ite (fun h98 => ?_) (fun h98 => ?_)
      · have c99 : (0 : Int) = (0 : Int) := o_eq h98
        unfold J_X2_change_34
        refine ok_ite (fun h100 => ?_) (fun h100 => ?_)
        · have c101 : (0 : Int) = (0 : Int) := o_eq h100
          unfold J_X2_change_43
          refine ok_bind (k_X2_refusal L hN (a0 := a0) (x1 := (0 : Int32)) (x2 := (1 : Int32)) k_a0 I) (fun r102 hr103 => ?_)
          have i104 := hr103
          try rw [i104]
          have f105 := ti_b r102.1
          refine ok_ite (fun h106 => ?_) (fun h106 => ?_)
          · have c107 : (0 : Int) ≤ r102.1.toInt := o_le h106
            refine ok_bind (k_X2_make L hN (a0 := a0) (x1 := x1) (x2 := x2) k_a0 I) (fun r108 hr109 => ?_)
            obtain ⟨i110, ⟨u111, u112⟩⟩ := hr109
            have u113 := kp_t kp_r u111
            have v114 : q_V r108.2 = q_V δ := (u112).trans rfl
            have f115 := ti_b r108.1
            exact ok_some (show CI ad h.1 δ0 r108.2 ∧ (kp [(1, 3), (1, 4), (1, 5), (1, 6), (1, 7), (1, 8), (1, 9), (1, 10), (1, 11), (1, 12), (1, 13), (1, 14), (1, 15), (2, 4), (3, 1)] δ r108.2 ∧ q_V r108.2 = q_V δ) from ⟨i110, ⟨kp_w (by decide) u113, v114⟩⟩)
          · have c116 : r102.1.toInt < (0 : Int) := o_nle h106
            exact ok_some (show CI ad h.1 δ0 δ ∧ (kp [(1, 3), (1, 4), (1, 5), (1, 6), (1, 7), (1, 8), (1, 9), (1, 10), (1, 11), (1, 12), (1, 13), (1, 14), (1, 15), (2, 4), (3, 1)] δ δ ∧ q_V δ = q_V δ) from ⟨I, ⟨kp_w (by decide) kp_r, rfl⟩⟩)
        · have c117 : (0 : Int) ≠ (0 : Int) := o_ne h100
          unfold J_X2_change_43
          refine ok_bind (k_X2_refusal L hN (a0 := a0) (x1 := (0 : Int32)) (x2 := (0 : Int32)) k_a0 I) (fun r118 hr119 => ?_)
          have i120 := hr119
          try rw [i120]
          have f121 := ti_b r118.1
          refine ok_ite (fun h122 => ?_) (fun h122 => ?_)
          · have c123 : (0 : Int) ≤ r118.1.toInt := o_le h122
            refine ok_bind (k_X2_make L hN (a0 := a0) (x1 := x1) (x2 := x2) k_a0 I) (fun r124 hr125 => ?_)
            obtain ⟨i126, ⟨u127, u128⟩⟩ := hr125
            have u129 := kp_t kp_r u127
            have v130 : q_V r124.2 = q_V δ := (u128).trans rfl
            have f131 := ti_b r124.1
            exact ok_some (show CI ad h.1 δ0 r124.2 ∧ (kp [(1, 3), (1, 4), (1, 5), (1, 6), (1, 7), (1, 8), (1, 9), (1, 10), (1, 11), (1, 12), (1, 13), (1, 14), (1, 15), (2, 4), (3, 1)] δ r124.2 ∧ q_V r124.2 = q_V δ) from ⟨i126, ⟨kp_w (by decide) u129, v130⟩⟩)
          · have c132 : r118.1.toInt < (0 : Int) := o_nle h122
            exact ok_some (show CI ad h.1 δ0 δ ∧ (kp [(1, 3), (1, 4), (1, 5), (1, 6), (1, 7), (1, 8), (1, 9), (1, 10), (1, 11), (1, 12), (1, 13), (1, 14), (1, 15), (2, 4), (3, 1)] δ δ ∧ q_V δ = q_V δ) from ⟨I, ⟨kp_w (by decide) kp_r, rfl⟩⟩)
      · have c133 : (0 : Int) ≠ (0 : Int) := o_ne h98
        unfold J_X2_change_34
        refine ok_ite (fun h134 => ?_) (fun h134 => ?_)
        · have c135 : (0 : Int) = (0 : Int) := o_eq h134
          unfold J_X2_change_43
          refine ok_bind (k_X2_refusal L hN (a0 := a0) (x1 := (1 : Int32)) (x2 := (1 : Int32)) k_a0 I) (fun r136 hr137 => ?_)
          have i138 := hr137
          try rw [i138]
          have f139 := ti_b r136.1
          refine ok_ite (fun h140 => ?_) (fun h140 => ?_)
          · have c141 : (0 : Int) ≤ r136.1.toInt := o_le h140
            refine ok_bind (k_X2_make L hN (a0 := a0) (x1 := x1) (x2 := x2) k_a0 I) (fun r142 hr143 => ?_)
            obtain ⟨i144, ⟨u145, u146⟩⟩ := hr143
            have u147 := kp_t kp_r u145
            have v148 : q_V r142.2 = q_V δ := (u146).trans rfl
            have f149 := ti_b r142.1
            exact ok_some (show CI ad h.1 δ0 r142.2 ∧ (kp [(1, 3), (1, 4), (1, 5), (1, 6), (1, 7), (1, 8), (1, 9), (1, 10), (1, 11), (1, 12), (1, 13), (1, 14), (1, 15), (2, 4), (3, 1)] δ r142.2 ∧ q_V r142.2 = q_V δ) from ⟨i144, ⟨kp_w (by decide) u147, v148⟩⟩)
          · have c150 : r136.1.toInt < (0 : Int) := o_nle h140
            exact ok_some (show CI ad h.1 δ0 δ ∧ (kp [(1, 3), (1, 4), (1, 5), (1, 6), (1, 7), (1, 8), (1, 9), (1, 10), (1, 11), (1, 12), (1, 13), (1, 14), (1, 15), (2, 4), (3, 1)] δ δ ∧ q_V δ = q_V δ) from ⟨I, ⟨kp_w (by decide) kp_r, rfl⟩⟩)
        · have c151 : (0 : Int) ≠ (0 : Int) := o_ne h134
          unfold J_X2_change_43
          refine ok_bind (k_X2_refusal L hN (a0 := a0) (x1 := (1 : Int32)) (x2 := (0 : Int32)) k_a0 I) (fun r152 hr153 => ?_)
          have i154 := hr153
          try rw [i154]
          have f155 := ti_b r152.1
          refine ok_ite (fun h156 => ?_) (fun h156 => ?_)
          · have c157 : (0 : Int) ≤ r152.1.toInt := o_le h156
            refine ok_bind (k_X2_make L hN (a0 := a0) (x1 := x1) (x2 := x2) k_a0 I) (fun r158 hr159 => ?_)
            obtain ⟨i160, ⟨u161, u162⟩⟩ := hr159
            have u163 := kp_t kp_r u161
            have v164 : q_V r158.2 = q_V δ := (u162).trans rfl
            have f165 := ti_b r158.1
            exact ok_some (show CI ad h.1 δ0 r158.2 ∧ (kp [(1, 3), (1, 4), (1, 5), (1, 6), (1, 7), (1, 8), (1, 9), (1, 10), (1, 11), (1, 12), (1, 13), (1, 14), (1, 15), (2, 4), (3, 1)] δ r158.2 ∧ q_V r158.2 = q_V δ) from ⟨i160, ⟨kp_w (by decide) u163, v164⟩⟩)
          · have c166 : r152.1.toInt < (0 : Int) := o_nle h156
            exact ok_some (show CI ad h.1 δ0 δ ∧ (kp [(1, 3), (1, 4), (1, 5), (1, 6), (1, 7), (1, 8), (1, 9), (1, 10), (1, 11), (1, 12), (1, 13), (1, 14), (1, 15), (2, 4), (3, 1)] δ δ ∧ q_V δ = q_V δ) from ⟨I, ⟨kp_w (by decide) kp_r, rfl⟩⟩)
set_option maxHeartbeats 4000000 in
theorem k_X2_replay {ad : List Nat} {h : hp} (L : Lay TLx ad h) {δ0 : dp} {N : Nat} (hN : 10000000 ≤ N) {a0 : Nat} {a1 : Nat} {x2 : Int32} {x3 : Int32} (k_a0 : q_K h.1 a0 = 2) (k_a1 : q_K h.1 a1 = 3) {δ : dp} (z0 : 0 ≤ (x2).toInt) (z1 : (x2).toInt < 1000) (I : CI ad h.1 δ0 δ) : ok (D_X2_replay N h.1 a0 a1 x2 x3 δ) (fun r => CI ad h.1 δ0 r ∧ (kp [(3, 1)] δ r ∧ q_V r = q_V δ)) := by
  unfold D_X2_replay
  have f1 := ti_b x2
  obtain ⟨b2, o3, k4, n5, w6⟩ := gO_2_2 L k_a0
  refine ok_at o3 ?_
  have t7 := ti_tn x2
  refine ok_gd (fun hc8 => ?_) ?_
  · rcases hc8 with hc8 | hc8
    · have c9 : x2.toInt < (0 : Int) := o_lt hc8
      omega
    · omega
  have f10 := ti_b (q_R δ b2 x2.toNatClampNeg)
  have f12 := ti_div (c := 2) (n := 2) rfl (by decide) (q_R δ b2 x2.toNatClampNeg)
  have f13 := ti_b ((q_R δ b2 x2.toNatClampNeg) / (2 : Int32))
  first | (have q14 := te_mulr (c := 2) (n := 2) rfl ((q_R δ b2 x2.toNatClampNeg) / (2 : Int32)) (by omega) (by omega); obtain ⟨f15, f16, f17⟩ := q14) | (obtain ⟨q14, f15, f16, f17⟩ := ti_mulr (c := 2) (n := 2) rfl ((q_R δ b2 x2.toNatClampNeg) / (2 : Int32)))
  first | (have q19 := te_sub (q_R δ b2 x2.toNatClampNeg) ((q_R δ b2 x2.toNatClampNeg) / (2 : Int32) * (2 : Int32)) (by omega) (by omega); obtain ⟨f20, f21, f22⟩ := q19) | (obtain ⟨q19, f20, f21, f22⟩ := ti_sub (q_R δ b2 x2.toNatClampNeg) ((q_R δ b2 x2.toNatClampNeg) / (2 : Int32) * (2 : Int32)))
  refine ok_ite (fun h23 => ?_) (fun h23 => ?_)
  · have c24 : ((q_R δ b2 x2.toNatClampNeg) - (q_R δ b2 x2.toNatClampNeg) / (2 : Int32) * (2 : Int32)).toInt = (0 : Int) := o_eq h23
    unfold J_X2_replay_16
    have f25 := ti_b x3
    refine ok_ite (fun h26 => ?_) (fun h26 => ?_)
    · have c27 : (1 : Int) = x3.toInt := o_eq h26
      refine ok_at o3 ?_
      refine ok_gd (fun hc28 => ?_) ?_
      · rcases hc28 with hc28 | hc28
        · have c29 : x2.toInt < (0 : Int) := o_lt hc28
          omega
        · omega
      refine ok_bind (k_X3_remove L hN (a0 := a1) (x1 := ((q_R δ b2 x2.toNatClampNeg) / (2 : Int32))) k_a1 I) (fun r30 hr31 => ?_)
      obtain ⟨i32, ⟨u34, u35⟩, p33⟩ := hr31
      have u36 := kp_t kp_r u34
      have v37 : q_V r30.2 = q_V δ := (u35).trans rfl
      have f38 := bo_t p33
      have f39 := ti_b r30.1
      unfold J_X2_replay_53
      exact ok_some (show CI ad h.1 δ0 r30.2 ∧ (kp [(3, 1)] δ r30.2 ∧ q_V r30.2 = q_V δ) from ⟨i32, ⟨kp_w (by decide) u36, v37⟩⟩)
    · have c40 : (1 : Int) ≠ x3.toInt := o_ne h26
      refine ok_at o3 ?_
      refine ok_gd (fun hc41 => ?_) ?_
      · rcases hc41 with hc41 | hc41
        · have c42 : x2.toInt < (0 : Int) := o_lt hc41
          omega
        · omega
      refine ok_bind (k_X3_add L hN (a0 := a1) (x1 := ((q_R δ b2 x2.toNatClampNeg) / (2 : Int32))) k_a1 I) (fun r43 hr44 => ?_)
      obtain ⟨i45, ⟨u47, u48⟩, p46⟩ := hr44
      have u49 := kp_t kp_r u47
      have v50 : q_V r43.2 = q_V δ := (u48).trans rfl
      have f51 := bo_t p46
      have f52 := ti_b r43.1
      unfold J_X2_replay_53
      exact ok_some (show CI ad h.1 δ0 r43.2 ∧ (kp [(3, 1)] δ r43.2 ∧ q_V r43.2 = q_V δ) from ⟨i45, ⟨kp_w (by decide) u49, v50⟩⟩)
  · have c53 : ((q_R δ b2 x2.toNatClampNeg) - (q_R δ b2 x2.toNatClampNeg) / (2 : Int32) * (2 : Int32)).toInt ≠ (0 : Int) := o_ne h23
    unfold J_X2_replay_16
    have f54 := ti_b x3
    refine ok_ite (fun h55 => ?_) (fun h55 => ?_)
    · have c56 : (0 : Int) = x3.toInt := o_eq h55
      refine ok_at o3 ?_
      refine ok_gd (fun hc57 => ?_) ?_
      · rcases hc57 with hc57 | hc57
        · have c58 : x2.toInt < (0 : Int) := o_lt hc57
          omega
        · omega
      refine ok_bind (k_X3_remove L hN (a0 := a1) (x1 := ((q_R δ b2 x2.toNatClampNeg) / (2 : Int32))) k_a1 I) (fun r59 hr60 => ?_)
      obtain ⟨i61, ⟨u63, u64⟩, p62⟩ := hr60
      have u65 := kp_t kp_r u63
      have v66 : q_V r59.2 = q_V δ := (u64).trans rfl
      have f67 := bo_t p62
      have f68 := ti_b r59.1
      unfold J_X2_replay_53
      exact ok_some (show CI ad h.1 δ0 r59.2 ∧ (kp [(3, 1)] δ r59.2 ∧ q_V r59.2 = q_V δ) from ⟨i61, ⟨kp_w (by decide) u65, v66⟩⟩)
    · have c69 : (0 : Int) ≠ x3.toInt := o_ne h55
      refine ok_at o3 ?_
      refine ok_gd (fun hc70 => ?_) ?_
      · rcases hc70 with hc70 | hc70
        · have c71 : x2.toInt < (0 : Int) := o_lt hc70
          omega
        · omega
      refine ok_bind (k_X3_add L hN (a0 := a1) (x1 := ((q_R δ b2 x2.toNatClampNeg) / (2 : Int32))) k_a1 I) (fun r72 hr73 => ?_)
      obtain ⟨i74, ⟨u76, u77⟩, p75⟩ := hr73
      have u78 := kp_t kp_r u76
      have v79 : q_V r72.2 = q_V δ := (u77).trans rfl
      have f80 := bo_t p75
      have f81 := ti_b r72.1
      unfold J_X2_replay_53
      exact ok_some (show CI ad h.1 δ0 r72.2 ∧ (kp [(3, 1)] δ r72.2 ∧ q_V r72.2 = q_V δ) from ⟨i74, ⟨kp_w (by decide) u78, v79⟩⟩)
set_option maxHeartbeats 4000000 in
theorem kl_X2_lastChange_7 {ad : List Nat} {h : hp} (L : Lay TLx ad h) {δ0 : dp} {N : Nat} (hN : 10000000 ≤ N) {a0 : Nat} {x1 : Int32} {x2 : Int32} (k_a0 : q_K h.1 a0 = 2) : ∀ (n : Nat) (x3v : Int32) (δ : dp), CI ad h.1 δ0 δ → -1 ≤ (x3v).toInt → (x3v).toInt < 1000 → (x3v).toInt + 1 < (n : Int) → ok (L_X2_lastChange_7 N h.1 a0 x1 x2 n x3v δ) (fun r => r.2 = δ) := by
  intro n
  induction n with
  | zero =>
    intro x3v δ I j0 j1 hm
    have f1 := ti_b x3v
    exfalso; omega
  | succ n ih =>
    intro x3v δ I j0 j1 hm
    unfold L_X2_lastChange_7
    have f1 := ti_b x3v
    refine ok_ite (fun h2 => ?_) (fun h2 => ?_)
    · have c3 : x3v.toInt < (0 : Int) := o_lt h2
      exact ok_some (show δ = δ from rfl)
    · have c4 : (0 : Int) ≤ x3v.toInt := o_nlt h2
      obtain ⟨b5, o6, k7, n8, w9⟩ := gO_2_2 L k_a0
      refine ok_at o6 ?_
      have t10 := ti_tn x3v
      refine ok_gd (fun hc11 => ?_) ?_
      · rcases hc11 with hc11 | hc11
        · have c12 : x3v.toInt < (0 : Int) := o_lt hc11
          omega
        · omega
      have f13 := ti_b (q_R δ b5 x3v.toNatClampNeg)
      have f15 := ti_b x2
      first | (have q16 := te_mulr (c := 2) (n := 2) rfl x2 (by omega) (by omega); obtain ⟨f17, f18, f19⟩ := q16) | (obtain ⟨q16, f17, f18, f19⟩ := ti_mulr (c := 2) (n := 2) rfl x2)
      have f20 := ti_b x1
      first | (have q22 := te_add (x2 * (2 : Int32)) x1 (by omega) (by omega); obtain ⟨f23, f24, f25⟩ := q22) | (obtain ⟨q22, f23, f24, f25⟩ := ti_add (x2 * (2 : Int32)) x1)
      refine ok_ite (fun h26 => ?_) (fun h26 => ?_)
      · have c27 : (q_R δ b5 x3v.toNatClampNeg).toInt = ((x2 * (2 : Int32)) + x1).toInt := o_eq h26
        exact ok_some (show δ = δ from rfl)
      · have c28 : (q_R δ b5 x3v.toNatClampNeg).toInt ≠ ((x2 * (2 : Int32)) + x1).toInt := o_ne h26
        refine ok_biv (fun vx29 e30 => ?_)
        first | (have q31 := te_addc (c := -1) (n := -1) (by decide) x3v (by omega) (by omega); rw [← e30] at q31; obtain ⟨f32, f33, f34⟩ := q31) | (obtain ⟨q31, f32, f33, f34⟩ : ∃ q : Int, vx29.toInt = x3v.toInt + (-1 : Int) + 4294967296 * q ∧ -2147483648 ≤ vx29.toInt ∧ vx29.toInt ≤ 2147483647 := by rw [e30]; exact ti_addc (c := -1) (n := -1) (by decide) x3v)
        refine ok_mono (ih vx29 δ I (show -1 ≤ (vx29).toInt by first | assumption | omega) (show (vx29).toInt < 1000 by first | assumption | omega) (show (vx29).toInt + 1 < _ by omega)) (fun r35 hr36 => ?_)
        have i37 := hr36
        have f38 := ti_b r35.1
        exact by assumption
set_option maxHeartbeats 4000000 in
theorem k_X2_lastChange {ad : List Nat} {h : hp} (L : Lay TLx ad h) {δ0 : dp} {N : Nat} (hN : 10000000 ≤ N) {a0 : Nat} {x1 : Int32} {x2 : Int32} (k_a0 : q_K h.1 a0 = 2) {δ : dp} (I : CI ad h.1 δ0 δ) : ok (D_X2_lastChange N h.1 a0 x1 x2 δ) (fun r => r.2 = δ) := by
  unfold D_X2_lastChange
  have f3 := cb_2_4 I k_a0
  refine ok_biv (fun vx1 e2 => ?_)
  first | (have q4 := te_subc (c := 1) (n := 1) rfl (q_I δ 2 4 a0) (by omega) (by omega); rw [← e2] at q4; obtain ⟨f5, f6, f7⟩ := q4) | (obtain ⟨q4, f5, f6, f7⟩ : ∃ q : Int, vx1.toInt = (q_I δ 2 4 a0).toInt - (1 : Int) + 4294967296 * q ∧ -2147483648 ≤ vx1.toInt ∧ vx1.toInt ≤ 2147483647 := by rw [e2]; exact ti_subc (c := 1) (n := 1) rfl (q_I δ 2 4 a0))
  refine ok_mono (kl_X2_lastChange_7 L hN   k_a0 _ vx1 δ I (show -1 ≤ (vx1).toInt by first | assumption | omega) (show (vx1).toInt < 1000 by first | assumption | omega) (show (vx1).toInt + 1 < _ by omega)) (fun r8 hr9 => ?_)
  have i10 := hr9
  have f11 := ti_b r8.1
  exact by assumption
set_option maxHeartbeats 4000000 in
theorem kl_X2_copying_4 {ad : List Nat} {h : hp} (L : Lay TLx ad h) {δ0 : dp} {N : Nat} (hN : 10000000 ≤ N) {a0 : Nat} (k_a0 : q_K h.1 a0 = 2) : ∀ (n : Nat) (x1v : Int32) (x2v : Int32) (δ : dp), CI ad h.1 δ0 δ → 0 ≤ (x2v).toInt → (x2v).toInt ≤ (q_I δ 2 4 a0).toInt → (q_I δ 2 4 a0).toInt - (x2v).toInt < (n : Int) → ok (L_X2_copying_4 N h.1 a0 n x1v x2v δ) (fun r => r.2 = δ) := by
  intro n
  induction n with
  | zero =>
    intro x1v x2v δ I j0 j1 hm
    have f1 := ti_b x2v
    have f2 := cb_2_4 I k_a0
    exfalso; omega
  | succ n ih =>
    intro x1v x2v δ I j0 j1 hm
    unfold L_X2_copying_4
    have f1 := ti_b x2v
    have f2 := cb_2_4 I k_a0
    refine ok_ite (fun h3 => ?_) (fun h3 => ?_)
    · have c4 : (q_I δ 2 4 a0).toInt ≤ x2v.toInt := o_le h3
      exact ok_some (show δ = δ from rfl)
    · have c5 : x2v.toInt < (q_I δ 2 4 a0).toInt := o_nle h3
      obtain ⟨b6, o7, k8, n9, w10⟩ := gO_2_3 L k_a0
      refine ok_at o7 ?_
      have t11 := ti_tn x2v
      refine ok_gd (fun hc12 => ?_) ?_
      · rcases hc12 with hc12 | hc12
        · have c13 : x2v.toInt < (0 : Int) := o_lt hc12
          omega
        · omega
      have f16 := ti_b x1v
      have f17 := ti_b (q_R δ b6 x2v.toNatClampNeg)
      refine ok_biv (fun vx14 e15 => ?_)
      first | (have q18 := te_add x1v (q_R δ b6 x2v.toNatClampNeg) (by omega) (by omega); rw [← e15] at q18; obtain ⟨f19, f20, f21⟩ := q18) | (obtain ⟨q18, f19, f20, f21⟩ : ∃ q : Int, vx14.toInt = x1v.toInt + (q_R δ b6 x2v.toNatClampNeg).toInt + 4294967296 * q ∧ -2147483648 ≤ vx14.toInt ∧ vx14.toInt ≤ 2147483647 := by rw [e15]; exact ti_add x1v (q_R δ b6 x2v.toNatClampNeg))
      refine ok_biv (fun vx22 e23 => ?_)
      first | (have q24 := te_addc (c := 1) (n := 1) rfl x2v (by omega) (by omega); rw [← e23] at q24; obtain ⟨f25, f26, f27⟩ := q24) | (obtain ⟨q24, f25, f26, f27⟩ : ∃ q : Int, vx22.toInt = x2v.toInt + (1 : Int) + 4294967296 * q ∧ -2147483648 ≤ vx22.toInt ∧ vx22.toInt ≤ 2147483647 := by rw [e23]; exact ti_addc (c := 1) (n := 1) rfl x2v)
      refine ok_mono (ih vx14 vx22 δ I (show 0 ≤ (vx22).toInt by first | assumption | omega) (show (vx22).toInt ≤ (q_I δ 2 4 a0).toInt by first | assumption | omega) (show (q_I δ 2 4 a0).toInt - (vx22).toInt < _ by omega)) (fun r28 hr29 => ?_)
      have i30 := hr29
      have f31 := ti_b r28.1
      exact by assumption
set_option maxHeartbeats 4000000 in
theorem k_X2_copying {ad : List Nat} {h : hp} (L : Lay TLx ad h) {δ0 : dp} {N : Nat} (hN : 10000000 ≤ N) {a0 : Nat} (k_a0 : q_K h.1 a0 = 2) {δ : dp} (I : CI ad h.1 δ0 δ) : ok (D_X2_copying N h.1 a0 δ) (fun r => r.2 = δ) := by
  unfold D_X2_copying
  have f1 := cb_2_4 I k_a0
  refine ok_mono (kl_X2_copying_4 L hN   k_a0 _ (0 : Int32) (0 : Int32) δ I (show 0 ≤ (0 : Int) by first | assumption | omega) (show (0 : Int) ≤ (q_I δ 2 4 a0).toInt by first | assumption | omega) (show (q_I δ 2 4 a0).toInt - (0 : Int) < _ by omega)) (fun r2 hr3 => ?_)
  have i4 := hr3
  have f5 := ti_b r2.1
  exact by assumption
set_option maxHeartbeats 4000000 in
theorem kl_X2_goBack_0 {ad : List Nat} {h : hp} (L : Lay TLx ad h) {δ0 : dp} {N : Nat} (hN : 10000000 ≤ N) {a0 : Nat} {x1 : Int32} (k_a0 : q_K h.1 a0 = 2) : ∀ (n : Nat) (δ : dp), CI ad h.1 δ0 δ → 0 ≤ (x1).toInt → (q_I δ 2 4 a0).toInt < (n : Int) → ok (L_X2_goBack_0 N h.1 a0 x1 n δ) (fun r => CI ad h.1 δ0 r ∧ (kp [(2, 4), (3, 1)] δ r ∧ q_V r = q_V δ)) := by
  intro n
  induction n with
  | zero =>
    intro δ I j0 hm
    have f1 := ti_b x1
    have f2 := cb_2_4 I k_a0
    exfalso; omega
  | succ n ih =>
    intro δ I j0 hm
    unfold L_X2_goBack_0
    have f1 := ti_b x1
    have f2 := cb_2_4 I k_a0
    refine ok_ite (fun h3 => ?_) (fun h3 => ?_)
    · have c4 : (q_I δ 2 4 a0).toInt ≤ x1.toInt := o_le h3
      exact ok_some (show CI ad h.1 δ0 δ ∧ (kp [(2, 4), (3, 1)] δ δ ∧ q_V δ = q_V δ) from ⟨I, ⟨kp_w (by decide) kp_r, rfl⟩⟩)
    · have c5 : x1.toInt < (q_I δ 2 4 a0).toInt := o_nle h3
      first | (have q10 := te_subc (c := 1) (n := 1) rfl (q_I δ 2 4 a0) (by omega) (by omega); obtain ⟨f11, f12, f13⟩ := q10) | (obtain ⟨q10, f11, f12, f13⟩ := ti_subc (c := 1) (n := 1) rfl (q_I δ 2 4 a0))
      refine ok_bdv (fun d6 e7 => ?_)
      have i8 : CI ad h.1 δ0 d6 := by rw [e7]; exact cs_2_4 L I k_a0 (show 0 ≤ ((q_I δ 2 4 a0) - (1 : Int32)).toInt by omega) (show ((q_I δ 2 4 a0) - (1 : Int32)).toInt ≤ 1000 by omega)
      have u14 := kp_I kp_r e7
      have v15 : q_V d6 = q_V δ := ((show q_V d6 = q_V δ by rw [e7]; rfl)).trans rfl
      obtain ⟨b16, o17, k18⟩ := gO_2_0 L k_a0
      refine ok_at o17 ?_
      have f21 := cb_2_4 i8 k_a0
      have f22 : (q_I d6 2 4 a0).toInt = ((q_I δ 2 4 a0) - (1 : Int32)).toInt := congrArg Int32.toInt (show q_I d6 2 4 a0 = ((q_I δ 2 4 a0) - (1 : Int32)) by rw [e7]; exact rI_s)
      refine ok_bind (k_X2_replay L hN (a0 := a0) (a1 := b16) (x2 := (q_I d6 2 4 a0)) (x3 := (1 : Int32)) k_a0 k18 (show 0 ≤ ((q_I d6 2 4 a0)).toInt by first | assumption | omega) (show ((q_I d6 2 4 a0)).toInt < 1000 by first | assumption | omega) i8) (fun r19 hr20 => ?_)
      obtain ⟨i23, ⟨u24, u25⟩⟩ := hr20
      have u26 := kp_t u14 u24
      have v27 : q_V r19 = q_V δ := (u25).trans v15
      have f28 := cb_2_4 i23 k_a0
      have f29 : (q_I r19 2 4 a0).toInt = (q_I d6 2 4 a0).toInt := congrArg Int32.toInt (u24 2 4 a0 (by decide))
      refine ok_mono (ih r19 i23 (show 0 ≤ (x1).toInt by first | assumption | omega) (show (q_I r19 2 4 a0).toInt < _ by omega)) (fun r30 hr31 => ?_)
      obtain ⟨i32, ⟨u33, u34⟩⟩ := hr31
      have u35 := kp_t u26 u33
      have v36 : q_V r30 = q_V δ := (u34).trans v27
      exact ⟨by assumption, ⟨kp_w (by decide) u35, v36⟩⟩
set_option maxHeartbeats 4000000 in
theorem k_X2_goBack {ad : List Nat} {h : hp} (L : Lay TLx ad h) {δ0 : dp} {N : Nat} (hN : 10000000 ≤ N) {a0 : Nat} {x1 : Int32} (k_a0 : q_K h.1 a0 = 2) {δ : dp} (z0 : 0 ≤ (x1).toInt) (I : CI ad h.1 δ0 δ) : ok (D_X2_goBack N h.1 a0 x1 δ) (fun r => CI ad h.1 δ0 r ∧ (kp [(2, 4), (3, 1)] δ r ∧ q_V r = q_V δ)) := by
  unfold D_X2_goBack
  have f1 := ti_b x1
  have f2 := cb_2_4 I k_a0
  refine ok_mono (kl_X2_goBack_0 L hN   k_a0 _ δ I (show 0 ≤ (x1).toInt by first | assumption | omega) (show (q_I δ 2 4 a0).toInt < _ by omega)) (fun r3 hr4 => ?_)
  obtain ⟨i5, ⟨u6, u7⟩⟩ := hr4
  have u8 := kp_t kp_r u6
  have v9 : q_V r3 = q_V δ := (u7).trans rfl
  exact ⟨by assumption, ⟨kp_w (by decide) u8, v9⟩⟩
set_option maxHeartbeats 4000000 in
theorem kl_X2_fillPast_6 {ad : List Nat} {h : hp} (L : Lay TLx ad h) {δ0 : dp} {N : Nat} (hN : 10000000 ≤ N) {a0 : Nat} {a1 : Nat} {x2 : Int32} (k_a0 : q_K h.1 a0 = 2) (k_a1 : q_K h.1 a1 = 3) : ∀ (n : Nat) (x3v : Int32) (δ : dp), CI ad h.1 δ0 δ → 0 ≤ (x3v).toInt → (x3v).toInt ≤ (x2).toInt → (x2).toInt ≤ 1000 → (x2).toInt - (x3v).toInt < (n : Int) → ok (L_X2_fillPast_6 N h.1 a0 a1 x2 n x3v δ) (fun r => CI ad h.1 δ0 r ∧ (kp [(3, 1)] δ r ∧ q_V r = q_V δ)) := by
  intro n
  induction n with
  | zero =>
    intro x3v δ I j0 j1 j2 hm
    have f1 := ti_b x3v
    have f2 := ti_b x2
    exfalso; omega
  | succ n ih =>
    intro x3v δ I j0 j1 j2 hm
    unfold L_X2_fillPast_6
    have f1 := ti_b x3v
    have f2 := ti_b x2
    refine ok_ite (fun h3 => ?_) (fun h3 => ?_)
    · have c4 : x2.toInt ≤ x3v.toInt := o_le h3
      exact ok_some (show CI ad h.1 δ0 δ ∧ (kp [(3, 1)] δ δ ∧ q_V δ = q_V δ) from ⟨I, ⟨kp_w (by decide) kp_r, rfl⟩⟩)
    · have c5 : x3v.toInt < x2.toInt := o_nle h3
      refine ok_bind (k_X2_replay L hN (a0 := a0) (a1 := a1) (x2 := x3v) (x3 := (0 : Int32)) k_a0 k_a1 (show 0 ≤ (x3v).toInt by first | assumption | omega) (show (x3v).toInt < 1000 by first | assumption | omega) I) (fun r6 hr7 => ?_)
      obtain ⟨i8, ⟨u9, u10⟩⟩ := hr7
      have u11 := kp_t kp_r u9
      have v12 : q_V r6 = q_V δ := (u10).trans rfl
      refine ok_biv (fun vx13 e14 => ?_)
      first | (have q15 := te_addc (c := 1) (n := 1) rfl x3v (by omega) (by omega); rw [← e14] at q15; obtain ⟨f16, f17, f18⟩ := q15) | (obtain ⟨q15, f16, f17, f18⟩ : ∃ q : Int, vx13.toInt = x3v.toInt + (1 : Int) + 4294967296 * q ∧ -2147483648 ≤ vx13.toInt ∧ vx13.toInt ≤ 2147483647 := by rw [e14]; exact ti_addc (c := 1) (n := 1) rfl x3v)
      refine ok_mono (ih vx13 r6 i8 (show 0 ≤ (vx13).toInt by first | assumption | omega) (show (vx13).toInt ≤ (x2).toInt by first | assumption | omega) (show (x2).toInt ≤ 1000 by first | assumption | omega) (show (x2).toInt - (vx13).toInt < _ by omega)) (fun r19 hr20 => ?_)
      obtain ⟨i21, ⟨u22, u23⟩⟩ := hr20
      have u24 := kp_t u11 u22
      have v25 : q_V r19 = q_V δ := (u23).trans v12
      exact ⟨by assumption, ⟨kp_w (by decide) u24, v25⟩⟩
set_option maxHeartbeats 4000000 in
theorem k_X2_fillPast {ad : List Nat} {h : hp} (L : Lay TLx ad h) {δ0 : dp} {N : Nat} (hN : 10000000 ≤ N) {a0 : Nat} {a1 : Nat} {x2 : Int32} (k_a0 : q_K h.1 a0 = 2) (k_a1 : q_K h.1 a1 = 3) {δ : dp} (z0 : 0 ≤ (x2).toInt) (z1 : (x2).toInt ≤ 1000) (I : CI ad h.1 δ0 δ) : ok (D_X2_fillPast N h.1 a0 a1 x2 δ) (fun r => CI ad h.1 δ0 r ∧ (kp [(3, 1)] δ r ∧ q_V r = q_V δ)) := by
  unfold D_X2_fillPast
  have f1 := ti_b x2
  refine ok_bind (k_X3_clear L hN (a0 := a1) k_a1 I) (fun r2 hr3 => ?_)
  obtain ⟨i4, ⟨u6, u7, u8⟩, p5⟩ := hr3
  have u9 := kp_t kp_r u6
  have v10 : q_V r2 = q_V δ := (u7).trans rfl
  obtain ⟨b11, o12, k13, ⟨n14, n15⟩, w16⟩ := gO_3_0 L k_a1
  have f17 := cb_3_1 i4 k_a1 o12
  refine ok_mono (kl_X2_fillPast_6 L hN   k_a0 k_a1 _ (0 : Int32) r2 i4 (show 0 ≤ (0 : Int) by first | assumption | omega) (show (0 : Int) ≤ (x2).toInt by first | assumption | omega) (show (x2).toInt ≤ 1000 by first | assumption | omega) (show (x2).toInt - (0 : Int) < _ by omega)) (fun r18 hr19 => ?_)
  obtain ⟨i20, ⟨u21, u22⟩⟩ := hr19
  have u23 := kp_t u9 u21
  have v24 : q_V r18 = q_V δ := (u22).trans v10
  exact ⟨by assumption, ⟨kp_w (by decide) u23, v24⟩⟩
set_option maxHeartbeats 4000000 in
theorem kl_X2_makeAll_5 {ad : List Nat} {h : hp} (L : Lay TLx ad h) {δ0 : dp} {N : Nat} (hN : 10000000 ≤ N) {a0 : Nat} {x1 : Int32} {a2 : Nat} (k_a0 : q_K h.1 a0 = 2) (k_a2 : q_K h.1 a2 = 3) : ∀ (n : Nat) (x3v : Int32) (x4v : Int32) (δ : dp), CI ad h.1 δ0 δ → 0 ≤ (x4v).toInt → (x4v).toInt ≤ 2000 → 2000 - (x4v).toInt < (n : Int) → ok (L_X2_makeAll_5 N h.1 a0 x1 a2 n x3v x4v δ) (fun r => CI ad h.1 δ0 r.2 ∧ (kp [(1, 3), (1, 4), (1, 5), (1, 6), (1, 7), (1, 8), (1, 9), (1, 10), (1, 11), (1, 12), (1, 13), (1, 14), (1, 15), (2, 4), (3, 1)] δ r.2 ∧ q_V r.2 = q_V δ)) := by
  intro n
  induction n with
  | zero =>
    intro x3v x4v δ I j0 j1 hm
    have f1 := ti_b x4v
    exfalso; omega
  | succ n ih =>
    intro x3v x4v δ I j0 j1 hm
    unfold L_X2_makeAll_5
    have f1 := ti_b x4v
    obtain ⟨b2, o3, k4, ⟨n5, n6⟩, w7⟩ := gO_3_0 L k_a2
    have f8 := cb_3_1 I k_a2 o3
    refine ok_ite (fun h9 => ?_) (fun h9 => ?_)
    · have c10 : (q_I δ 3 1 a2).toInt ≤ x4v.toInt := o_le h9
      exact ok_some (show CI ad h.1 δ0 δ ∧ (kp [(1, 3), (1, 4), (1, 5), (1, 6), (1, 7), (1, 8), (1, 9), (1, 10), (1, 11), (1, 12), (1, 13), (1, 14), (1, 15), (2, 4), (3, 1)] δ δ ∧ q_V δ = q_V δ) from ⟨I, ⟨kp_w (by decide) kp_r, rfl⟩⟩)
    · have c11 : x4v.toInt < (q_I δ 3 1 a2).toInt := o_nle h9
      refine ok_bind (k_X3_at L hN (a0 := a2) (x1 := x4v) k_a2 I) (fun r12 hr13 => ?_)
      have i14 := hr13
      try rw [i14]
      have f15 := ti_b r12.1
      refine ok_bind (k_X2_make L hN (a0 := a0) (x1 := x1) (x2 := r12.1) k_a0 I) (fun r16 hr17 => ?_)
      obtain ⟨i18, ⟨u19, u20⟩⟩ := hr17
      have u21 := kp_t kp_r u19
      have v22 : q_V r16.2 = q_V δ := (u20).trans rfl
      have f23 := ti_b r16.1
      have f26 := ti_b x3v
      refine ok_biv (fun vx24 e25 => ?_)
      first | (have q27 := te_add x3v r16.1 (by omega) (by omega); rw [← e25] at q27; obtain ⟨f28, f29, f30⟩ := q27) | (obtain ⟨q27, f28, f29, f30⟩ : ∃ q : Int, vx24.toInt = x3v.toInt + r16.1.toInt + 4294967296 * q ∧ -2147483648 ≤ vx24.toInt ∧ vx24.toInt ≤ 2147483647 := by rw [e25]; exact ti_add x3v r16.1)
      refine ok_biv (fun vx31 e32 => ?_)
      first | (have q33 := te_addc (c := 1) (n := 1) rfl x4v (by omega) (by omega); rw [← e32] at q33; obtain ⟨f34, f35, f36⟩ := q33) | (obtain ⟨q33, f34, f35, f36⟩ : ∃ q : Int, vx31.toInt = x4v.toInt + (1 : Int) + 4294967296 * q ∧ -2147483648 ≤ vx31.toInt ∧ vx31.toInt ≤ 2147483647 := by rw [e32]; exact ti_addc (c := 1) (n := 1) rfl x4v)
      refine ok_mono (ih vx24 vx31 r16.2 i18 (show 0 ≤ (vx31).toInt by first | assumption | omega) (show (vx31).toInt ≤ 2000 by first | assumption | omega) (show 2000 - (vx31).toInt < _ by omega)) (fun r37 hr38 => ?_)
      obtain ⟨i39, ⟨u40, u41⟩⟩ := hr38
      have u42 := kp_t u21 u40
      have v43 : q_V r37.2 = q_V δ := (u41).trans v22
      have f44 := ti_b r37.1
      exact ⟨by assumption, ⟨kp_w (by decide) u42, v43⟩⟩
set_option maxHeartbeats 4000000 in
theorem k_X2_makeAll {ad : List Nat} {h : hp} (L : Lay TLx ad h) {δ0 : dp} {N : Nat} (hN : 10000000 ≤ N) {a0 : Nat} {x1 : Int32} {a2 : Nat} (k_a0 : q_K h.1 a0 = 2) (k_a2 : q_K h.1 a2 = 3) {δ : dp} (I : CI ad h.1 δ0 δ) : ok (D_X2_makeAll N h.1 a0 x1 a2 δ) (fun r => CI ad h.1 δ0 r.2 ∧ (kp [(1, 3), (1, 4), (1, 5), (1, 6), (1, 7), (1, 8), (1, 9), (1, 10), (1, 11), (1, 12), (1, 13), (1, 14), (1, 15), (2, 4), (3, 1)] δ r.2 ∧ q_V r.2 = q_V δ)) := by
  unfold D_X2_makeAll
  refine ok_mono (kl_X2_makeAll_5 L hN   k_a0 k_a2 _ (0 : Int32) (0 : Int32) δ I (show 0 ≤ (0 : Int) by first | assumption | omega) (show (0 : Int) ≤ 2000 by first | assumption | omega) (show 2000 - (0 : Int) < _ by omega)) (fun r1 hr2 => ?_)
  obtain ⟨i3, ⟨u4, u5⟩⟩ := hr2
  have u6 := kp_t kp_r u4
  have v7 : q_V r1.2 = q_V δ := (u5).trans rfl
  have f8 := ti_b r1.1
  exact ⟨by assumption, ⟨kp_w (by decide) u6, v7⟩⟩
set_option maxHeartbeats 4000000 in
theorem kl_X2_dropAllBut_16 {ad : List Nat} {h : hp} (L : Lay TLx ad h) {δ0 : dp} {N : Nat} (hN : 10000000 ≤ N) {a0 : Nat} {a1 : Nat} (k_a0 : q_K h.1 a0 = 2) (k_a1 : q_K h.1 a1 = 3) : ∀ (n : Nat) (x2v : Int32) (x3v : Int32) (x4v : Int32) (x5v : Int32) (δ : dp), CI ad h.1 δ0 δ → 0 ≤ (x5v).toInt → (x5v).toInt ≤ (x4v).toInt → (x4v).toInt ≤ 2000 → (x4v).toInt - (x5v).toInt < (n : Int) → ok (L_X2_dropAllBut_16 N h.1 a0 a1 n x2v x3v x4v x5v δ) (fun r => CI ad h.1 δ0 r.2 ∧ (kp [(1, 3), (1, 4), (1, 5), (1, 6), (1, 7), (1, 8), (1, 9), (1, 10), (1, 11), (1, 12), (1, 13), (1, 14), (1, 15), (2, 4), (3, 1)] δ r.2 ∧ q_V r.2 = q_V δ)) := by
  intro n
  induction n with
  | zero =>
    intro x2v x3v x4v x5v δ I j0 j1 j2 hm
    have f1 := ti_b x5v
    have f2 := ti_b x4v
    exfalso; omega
  | succ n ih =>
    intro x2v x3v x4v x5v δ I j0 j1 j2 hm
    unfold L_X2_dropAllBut_16
    have f1 := ti_b x5v
    have f2 := ti_b x4v
    refine ok_ite (fun h3 => ?_) (fun h3 => ?_)
    · have c4 : x4v.toInt ≤ x5v.toInt := o_le h3
      exact ok_some (show CI ad h.1 δ0 δ ∧ (kp [(1, 3), (1, 4), (1, 5), (1, 6), (1, 7), (1, 8), (1, 9), (1, 10), (1, 11), (1, 12), (1, 13), (1, 14), (1, 15), (2, 4), (3, 1)] δ δ ∧ q_V δ = q_V δ) from ⟨I, ⟨kp_w (by decide) kp_r, rfl⟩⟩)
    · have c5 : x5v.toInt < x4v.toInt := o_nle h3
      obtain ⟨b6, o7, k8⟩ := gO_2_0 L k_a0
      refine ok_at o7 ?_
      refine ok_bind (k_X3_at L hN (a0 := b6) (x1 := x3v) k8 I) (fun r9 hr10 => ?_)
      have i11 := hr10
      try rw [i11]
      have f12 := ti_b r9.1
      refine ok_bind (k_X3_holds L hN (a0 := a1) (x1 := r9.1) k_a1 I) (fun r13 hr14 => ?_)
      obtain ⟨i15, p16⟩ := hr14
      try rw [i15]
      have f17 := bo_t p16
      have f18 := ti_b r13.1
      refine ok_ite (fun h19 => ?_) (fun h19 => ?_)
      · have c20 : r13.1.toInt = (0 : Int) := o_eq h19
        refine ok_bind (k_X2_make L hN (a0 := a0) (x1 := (1 : Int32)) (x2 := r9.1) k_a0 I) (fun r21 hr22 => ?_)
        obtain ⟨i23, ⟨u24, u25⟩⟩ := hr22
        have u26 := kp_t kp_r u24
        have v27 : q_V r21.2 = q_V δ := (u25).trans rfl
        have f28 := ti_b r21.1
        have f31 := ti_b x2v
        refine ok_biv (fun vx29 e30 => ?_)
        first | (have q32 := te_add x2v r21.1 (by omega) (by omega); rw [← e30] at q32; obtain ⟨f33, f34, f35⟩ := q32) | (obtain ⟨q32, f33, f34, f35⟩ : ∃ q : Int, vx29.toInt = x2v.toInt + r21.1.toInt + 4294967296 * q ∧ -2147483648 ≤ vx29.toInt ∧ vx29.toInt ≤ 2147483647 := by rw [e30]; exact ti_add x2v r21.1)
        unfold J_X2_dropAllBut_58
        refine ok_biv (fun vx36 e37 => ?_)
        first | (have q38 := te_addc (c := 1) (n := 1) rfl x5v (by omega) (by omega); rw [← e37] at q38; obtain ⟨f39, f40, f41⟩ := q38) | (obtain ⟨q38, f39, f40, f41⟩ : ∃ q : Int, vx36.toInt = x5v.toInt + (1 : Int) + 4294967296 * q ∧ -2147483648 ≤ vx36.toInt ∧ vx36.toInt ≤ 2147483647 := by rw [e37]; exact ti_addc (c := 1) (n := 1) rfl x5v)
        refine ok_mono (ih vx29 x3v x4v vx36 r21.2 i23 (show 0 ≤ (vx36).toInt by first | assumption | omega) (show (vx36).toInt ≤ (x4v).toInt by first | assumption | omega) (show (x4v).toInt ≤ 2000 by first | assumption | omega) (show (x4v).toInt - (vx36).toInt < _ by omega)) (fun r42 hr43 => ?_)
        obtain ⟨i44, ⟨u45, u46⟩⟩ := hr43
        have u47 := kp_t u26 u45
        have v48 : q_V r42.2 = q_V δ := (u46).trans v27
        have f49 := ti_b r42.1
        exact ⟨by assumption, ⟨kp_w (by decide) u47, v48⟩⟩
      · have c50 : r13.1.toInt ≠ (0 : Int) := o_ne h19
        have f53 := ti_b x3v
        refine ok_biv (fun vx51 e52 => ?_)
        first | (have q54 := te_addc (c := 1) (n := 1) rfl x3v (by omega) (by omega); rw [← e52] at q54; obtain ⟨f55, f56, f57⟩ := q54) | (obtain ⟨q54, f55, f56, f57⟩ : ∃ q : Int, vx51.toInt = x3v.toInt + (1 : Int) + 4294967296 * q ∧ -2147483648 ≤ vx51.toInt ∧ vx51.toInt ≤ 2147483647 := by rw [e52]; exact ti_addc (c := 1) (n := 1) rfl x3v)
        unfold J_X2_dropAllBut_58
        refine ok_biv (fun vx58 e59 => ?_)
        first | (have q60 := te_addc (c := 1) (n := 1) rfl x5v (by omega) (by omega); rw [← e59] at q60; obtain ⟨f61, f62, f63⟩ := q60) | (obtain ⟨q60, f61, f62, f63⟩ : ∃ q : Int, vx58.toInt = x5v.toInt + (1 : Int) + 4294967296 * q ∧ -2147483648 ≤ vx58.toInt ∧ vx58.toInt ≤ 2147483647 := by rw [e59]; exact ti_addc (c := 1) (n := 1) rfl x5v)
        refine ok_mono (ih x2v vx51 x4v vx58 δ I (show 0 ≤ (vx58).toInt by first | assumption | omega) (show (vx58).toInt ≤ (x4v).toInt by first | assumption | omega) (show (x4v).toInt ≤ 2000 by first | assumption | omega) (show (x4v).toInt - (vx58).toInt < _ by omega)) (fun r64 hr65 => ?_)
        obtain ⟨i66, ⟨u67, u68⟩⟩ := hr65
        have u69 := kp_t kp_r u67
        have v70 : q_V r64.2 = q_V δ := (u68).trans rfl
        have f71 := ti_b r64.1
        exact ⟨by assumption, ⟨kp_w (by decide) u69, v70⟩⟩
set_option maxHeartbeats 4000000 in
theorem k_X2_dropAllBut {ad : List Nat} {h : hp} (L : Lay TLx ad h) {δ0 : dp} {N : Nat} (hN : 10000000 ≤ N) {a0 : Nat} {a1 : Nat} (k_a0 : q_K h.1 a0 = 2) (k_a1 : q_K h.1 a1 = 3) {δ : dp} (I : CI ad h.1 δ0 δ) : ok (D_X2_dropAllBut N h.1 a0 a1 δ) (fun r => CI ad h.1 δ0 r.2 ∧ (kp [(1, 3), (1, 4), (1, 5), (1, 6), (1, 7), (1, 8), (1, 9), (1, 10), (1, 11), (1, 12), (1, 13), (1, 14), (1, 15), (2, 4), (3, 1)] δ r.2 ∧ q_V r.2 = q_V δ)) := by
  unfold D_X2_dropAllBut
  obtain ⟨b1, o2, k3⟩ := gO_2_0 L k_a0
  refine ok_at o2 ?_
  obtain ⟨b6, o7, k8, ⟨n9, n10⟩, w11⟩ := gO_3_0 L k3
  have f12 := cb_3_1 I k3 o7
  refine ok_biv (fun vx4 e5 => ?_)
  have f13 : vx4.toInt = (q_I δ 3 1 b1).toInt := congrArg Int32.toInt e5
  refine ok_mono (kl_X2_dropAllBut_16 L hN   k_a0 k_a1 _ (0 : Int32) (0 : Int32) vx4 (0 : Int32) δ I (show 0 ≤ (0 : Int) by first | assumption | omega) (show (0 : Int) ≤ (vx4).toInt by first | assumption | omega) (show (vx4).toInt ≤ 2000 by first | assumption | omega) (show (vx4).toInt - (0 : Int) < _ by omega)) (fun r14 hr15 => ?_)
  obtain ⟨i16, ⟨u17, u18⟩⟩ := hr15
  have u19 := kp_t kp_r u17
  have v20 : q_V r14.2 = q_V δ := (u18).trans rfl
  have f21 := ti_b r14.1
  exact ⟨by assumption, ⟨kp_w (by decide) u19, v20⟩⟩
