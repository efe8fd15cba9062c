/-! 64.kX4 (by gen_safe.py) -/
set_option maxHeartbeats 4000000 in
theorem k_X4_forget {ad : List Nat} {h : hp} (L : Lay TLx ad h) {δ0 : dp} {N : Nat} (hN : 10000000 ≤ N) {a0 : Nat} (k_a0 : q_K h.1 a0 = 4) {δ : dp} (I : CI ad h.1 δ0 δ) : ok (D_X4_forget N h.1 a0 δ) (fun r => CI ad h.1 δ0 r ∧ (kp [(4, 16)] δ r ∧ q_V r = q_V δ ∧ q_R r = q_R δ)) := by
  unfold D_X4_forget
  refine ok_bdv (fun d1 e2 => ?_)
  have i3 : CI ad h.1 δ0 d1 := by rw [e2]; exact cs_4_16 L I k_a0 (show 0 ≤ (0 : Int) by omega) (show (0 : Int) ≤ 1 by omega)
  have u4 := kp_I kp_r e2
  have v5 : q_V d1 = q_V δ := ((show q_V d1 = q_V δ by rw [e2]; rfl)).trans rfl
  have v6 : q_R d1 = q_R δ := ((show q_R d1 = q_R δ by rw [e2]; rfl)).trans rfl
  exact ok_some (show CI ad h.1 δ0 d1 ∧ (kp [(4, 16)] δ d1 ∧ q_V d1 = q_V δ ∧ q_R d1 = q_R δ) from ⟨i3, ⟨kp_w (by decide) u4, v5, v6⟩⟩)
set_option maxHeartbeats 4000000 in
theorem k_X4_tell {ad : List Nat} {h : hp} (L : Lay TLx ad h) {δ0 : dp} {N : Nat} (hN : 10000000 ≤ N) {a0 : Nat} {x1 : Int32} (k_a0 : q_K h.1 a0 = 4) {δ : dp} (I : CI ad h.1 δ0 δ) : ok (D_X4_tell N h.1 a0 x1 δ) (fun r => r.2 = δ) := by
  unfold D_X4_tell
  have f1 := ti_b x1
  refine ok_ite (fun h2 => ?_) (fun h2 => ?_)
  · have c3 : x1.toInt = (0 : Int) := o_eq h2
    exact ok_some (show δ = δ from rfl)
  · have c4 : x1.toInt ≠ (0 : Int) := o_ne h2
    refine ok_ite (fun h5 => ?_) (fun h5 => ?_)
    · have c6 : x1.toInt = (1 : Int) := o_eq h5
      exact ok_some (show δ = δ from rfl)
    · have c7 : x1.toInt ≠ (1 : Int) := o_ne h5
      refine ok_ite (fun h8 => ?_) (fun h8 => ?_)
      · have c9 : x1.toInt = (2 : Int) := o_eq h8
        exact ok_some (show δ = δ from rfl)
      · have c10 : x1.toInt ≠ (2 : Int) := o_ne h8
        refine ok_ite (fun h11 => ?_) (fun h11 => ?_)
        · have c12 : x1.toInt = (3 : Int) := o_eq h11
          exact ok_some (show δ = δ from rfl)
        · have c13 : x1.toInt ≠ (3 : Int) := o_ne h11
          refine ok_ite (fun h14 => ?_) (fun h14 => ?_)
          · have c15 : x1.toInt = (4 : Int) := o_eq h14
            exact ok_some (show δ = δ from rfl)
          · have c16 : x1.toInt ≠ (4 : Int) := o_ne h14
            refine ok_ite (fun h17 => ?_) (fun h17 => ?_)
            · have c18 : x1.toInt = (5 : Int) := o_eq h17
              exact ok_some (show δ = δ from rfl)
            · have c19 : x1.toInt ≠ (5 : Int) := o_ne h17
              obtain ⟨b20, o21, k22⟩ := gO_4_1 L k_a0
              refine ok_at o21 ?_
              exact ok_some (show δ = δ from rfl)
set_option maxHeartbeats 4000000 in
theorem k_X4_begin {ad : List Nat} {h : hp} (L : Lay TLx ad h) {δ0 : dp} {N : Nat} (hN : 10000000 ≤ N) {a0 : Nat} {a1 : Nat} {x2 : Int32} (k_a0 : q_K h.1 a0 = 4) (k_a1 : q_K h.1 a1 = 3) {δ : dp} (I : CI ad h.1 δ0 δ) : ok (D_X4_begin N h.1 a0 a1 x2 δ) (fun r => CI ad h.1 δ0 r ∧ (kp [(3, 1), (4, 5), (4, 6), (4, 7), (4, 8), (4, 9), (4, 10), (4, 11), (4, 12), (4, 13), (4, 14), (4, 15)] δ r ∧ q_V r = q_V δ)) := by
  unfold D_X4_begin
  obtain ⟨b1, o2, k3⟩ := gO_4_1 L k_a0
  refine ok_at o2 ?_
  refine ok_bind (k_X3_copyFrom L hN (a0 := b1) (a1 := a1) k3 k_a1 I) (fun r4 hr5 => ?_)
  obtain ⟨i6, ⟨u7, u8⟩⟩ := hr5
  have u9 := kp_t kp_r u7
  have v10 : q_V r4 = q_V δ := (u8).trans rfl
  refine ok_bdv (fun d11 e12 => ?_)
  have i13 : CI ad h.1 δ0 d11 := by rw [e12]; exact cs_4_5 L i6 k_a0 (show 0 ≤ (0 : Int) by omega) (show (0 : Int) ≤ 32 by omega)
  have u14 := kp_I u9 e12
  have v15 : q_V d11 = q_V δ := ((show q_V d11 = q_V r4 by rw [e12]; rfl)).trans v10
  refine ok_bdv (fun d16 e17 => ?_)
  have i18 : CI ad h.1 δ0 d16 := by rw [e17]; exact cs_4_6 L i13 k_a0 (show 0 ≤ (0 : Int) by omega) (show (0 : Int) ≤ 500 by omega)
  have u19 := kp_I u14 e17
  have v20 : q_V d16 = q_V δ := ((show q_V d16 = q_V d11 by rw [e17]; rfl)).trans v15
  have f24 := ti_b x2
  refine ok_bdv (fun d21 e22 => ?_)
  have i23 : CI ad h.1 δ0 d21 := by rw [e22]; exact cs_4_7 L i18
  have u25 := kp_I u19 e22
  have v26 : q_V d21 = q_V δ := ((show q_V d21 = q_V d16 by rw [e22]; rfl)).trans v20
  refine ok_bdv (fun d27 e28 => ?_)
  have i29 : CI ad h.1 δ0 d27 := by rw [e28]; exact cs_4_8 L i23
  have u30 := kp_I u25 e28
  have v31 : q_V d27 = q_V δ := ((show q_V d27 = q_V d21 by rw [e28]; rfl)).trans v26
  refine ok_bdv (fun d32 e33 => ?_)
  have i34 : CI ad h.1 δ0 d32 := by rw [e33]; exact cs_4_9 L i29 k_a0 (show 0 ≤ (0 : Int) by omega) (show (0 : Int) ≤ 1 by omega)
  have u35 := kp_I u30 e33
  have v36 : q_V d32 = q_V δ := ((show q_V d32 = q_V d27 by rw [e33]; rfl)).trans v31
  refine ok_bdv (fun d37 e38 => ?_)
  have i39 : CI ad h.1 δ0 d37 := by rw [e38]; exact cs_4_10 L i34
  have u40 := kp_I u35 e38
  have v41 : q_V d37 = q_V δ := ((show q_V d37 = q_V d32 by rw [e38]; rfl)).trans v36
  refine ok_bdv (fun d42 e43 => ?_)
  have i44 : CI ad h.1 δ0 d42 := by rw [e43]; exact cs_4_11 L i39
  have u45 := kp_I u40 e43
  have v46 : q_V d42 = q_V δ := ((show q_V d42 = q_V d37 by rw [e43]; rfl)).trans v41
  refine ok_bdv (fun d47 e48 => ?_)
  have i49 : CI ad h.1 δ0 d47 := by rw [e48]; exact cs_4_12 L i44
  have u50 := kp_I u45 e48
  have v51 : q_V d47 = q_V δ := ((show q_V d47 = q_V d42 by rw [e48]; rfl)).trans v46
  refine ok_bdv (fun d52 e53 => ?_)
  have i54 : CI ad h.1 δ0 d52 := by rw [e53]; exact cs_4_13 L i49
  have u55 := kp_I u50 e53
  have v56 : q_V d52 = q_V δ := ((show q_V d52 = q_V d47 by rw [e53]; rfl)).trans v51
  refine ok_bdv (fun d57 e58 => ?_)
  have i59 : CI ad h.1 δ0 d57 := by rw [e58]; exact cs_4_14 L i54
  have u60 := kp_I u55 e58
  have v61 : q_V d57 = q_V δ := ((show q_V d57 = q_V d52 by rw [e58]; rfl)).trans v56
  refine ok_bdv (fun d62 e63 => ?_)
  have i64 : CI ad h.1 δ0 d62 := by rw [e63]; exact cs_4_15 L i59
  have u65 := kp_I u60 e63
  have v66 : q_V d62 = q_V δ := ((show q_V d62 = q_V d57 by rw [e63]; rfl)).trans v61
  exact ok_some (show CI ad h.1 δ0 d62 ∧ (kp [(3, 1), (4, 5), (4, 6), (4, 7), (4, 8), (4, 9), (4, 10), (4, 11), (4, 12), (4, 13), (4, 14), (4, 15)] δ d62 ∧ q_V d62 = q_V δ) from ⟨i64, ⟨kp_w (by decide) u65, v66⟩⟩)
set_option maxHeartbeats 4000000 in
theorem k_X4_hold {ad : List Nat} {h : hp} (L : Lay TLx ad h) {δ0 : dp} {N : Nat} (hN : 10000000 ≤ N) {a0 : Nat} {x1 : Int32} (k_a0 : q_K h.1 a0 = 4) {δ : dp} (I : CI ad h.1 δ0 δ) : ok (D_X4_hold N h.1 a0 x1 δ) (fun r => CI ad h.1 δ0 r ∧ (kp [(4, 5)] δ r ∧ q_V r = q_V δ)) := by
  unfold D_X4_hold
  have f1 := cb_4_5 I k_a0
  refine ok_ite (fun h2 => ?_) (fun h2 => ?_)
  · have c3 : (32 : Int) ≤ (q_I δ 4 5 a0).toInt := o_le h2
    unfold J_X4_hold_29
    exact ok_some (show CI ad h.1 δ0 δ ∧ (kp [(4, 5)] δ δ ∧ q_V δ = q_V δ) from ⟨I, ⟨kp_w (by decide) kp_r, rfl⟩⟩)
  · have c4 : (q_I δ 4 5 a0).toInt < (32 : Int) := o_nle h2
    obtain ⟨b5, o6, k7, n8, w9⟩ := gO_4_4 L k_a0
    refine ok_at o6 ?_
    have t10 := ti_tn (q_I δ 4 5 a0)
    refine ok_gd (fun hc11 => ?_) ?_
    · rcases hc11 with hc11 | hc11
      · have c12 : (q_I δ 4 5 a0).toInt < (0 : Int) := o_lt hc11
        omega
      · omega
    refine ok_bdv (fun d13 e14 => ?_)
    have i15 : CI ad h.1 δ0 d13 := by rw [e14]; exact CI.sR L I w9
    have u16 := kp_N kp_r (show q_I d13 = q_I δ by rw [e14]; rfl)
    have v17 : q_V d13 = q_V δ := ((show q_V d13 = q_V δ by rw [e14]; rfl)).trans rfl
    have f21 := cb_4_5 i15 k_a0
    have f22 : (q_I d13 4 5 a0).toInt = (q_I δ 4 5 a0).toInt := congrArg Int32.toInt (by rw [e14]; rfl)
    first | (have q24 := te_addc (c := 1) (n := 1) rfl (q_I d13 4 5 a0) (by omega) (by omega); obtain ⟨f25, f26, f27⟩ := q24) | (obtain ⟨q24, f25, f26, f27⟩ := ti_addc (c := 1) (n := 1) rfl (q_I d13 4 5 a0))
    refine ok_bdv (fun d18 e19 => ?_)
    have i20 : CI ad h.1 δ0 d18 := by rw [e19]; exact cs_4_5 L i15 k_a0 (show 0 ≤ ((q_I d13 4 5 a0) + (1 : Int32)).toInt by omega) (show ((q_I d13 4 5 a0) + (1 : Int32)).toInt ≤ 32 by omega)
    have u28 := kp_I u16 e19
    have v29 : q_V d18 = q_V δ := ((show q_V d18 = q_V d13 by rw [e19]; rfl)).trans v17
    unfold J_X4_hold_29
    exact ok_some (show CI ad h.1 δ0 d18 ∧ (kp [(4, 5)] δ d18 ∧ q_V d18 = q_V δ) from ⟨i20, ⟨kp_w (by decide) u28, v29⟩⟩)
set_option maxHeartbeats 4000000 in
theorem k_X4_yieldHeld {ad : List Nat} {h : hp} (L : Lay TLx ad h) {δ0 : dp} {N : Nat} (hN : 10000000 ≤ N) {a0 : Nat} (k_a0 : q_K h.1 a0 = 4) {δ : dp} (I : CI ad h.1 δ0 δ) : ok (D_X4_yieldHeld N h.1 a0 δ) (fun r => CI ad h.1 δ0 r.2 ∧ (kp [(4, 5)] δ r.2 ∧ q_V r.2 = q_V δ ∧ q_R r.2 = q_R δ)) := by
  unfold D_X4_yieldHeld
  have f1 := cb_4_5 I k_a0
  refine ok_ite (fun h2 => ?_) (fun h2 => ?_)
  · have c3 : (0 : Int) < (q_I δ 4 5 a0).toInt := o_lt h2
    first | (have q8 := te_subc (c := 1) (n := 1) rfl (q_I δ 4 5 a0) (by omega) (by omega); obtain ⟨f9, f10, f11⟩ := q8) | (obtain ⟨q8, f9, f10, f11⟩ := ti_subc (c := 1) (n := 1) rfl (q_I δ 4 5 a0))
    refine ok_bdv (fun d4 e5 => ?_)
    have i6 : CI ad h.1 δ0 d4 := by rw [e5]; exact cs_4_5 L I k_a0 (show 0 ≤ ((q_I δ 4 5 a0) - (1 : Int32)).toInt by omega) (show ((q_I δ 4 5 a0) - (1 : Int32)).toInt ≤ 32 by omega)
    have u12 := kp_I kp_r e5
    have v13 : q_V d4 = q_V δ := ((show q_V d4 = q_V δ by rw [e5]; rfl)).trans rfl
    have v14 : q_R d4 = q_R δ := ((show q_R d4 = q_R δ by rw [e5]; rfl)).trans rfl
    obtain ⟨b15, o16, k17, n18, w19⟩ := gO_4_4 L k_a0
    refine ok_at o16 ?_
    have f20 := cb_4_5 i6 k_a0
    have f21 : (q_I d4 4 5 a0).toInt = ((q_I δ 4 5 a0) - (1 : Int32)).toInt := congrArg Int32.toInt (show q_I d4 4 5 a0 = ((q_I δ 4 5 a0) - (1 : Int32)) by rw [e5]; exact rI_s)
    have t22 := ti_tn (q_I d4 4 5 a0)
    refine ok_gd (fun hc23 => ?_) ?_
    · rcases hc23 with hc23 | hc23
      · have c24 : (q_I d4 4 5 a0).toInt < (0 : Int) := o_lt hc23
        omega
      · omega
    exact ok_some (show CI ad h.1 δ0 d4 ∧ (kp [(4, 5)] δ d4 ∧ q_V d4 = q_V δ ∧ q_R d4 = q_R δ) from ⟨i6, ⟨kp_w (by decide) u12, v13, v14⟩⟩)
  · have c25 : (q_I δ 4 5 a0).toInt ≤ (0 : Int) := o_nlt h2
    exact ok_some (show CI ad h.1 δ0 δ ∧ (kp [(4, 5)] δ δ ∧ q_V δ = q_V δ ∧ q_R δ = q_R δ) from ⟨I, ⟨kp_w (by decide) kp_r, rfl, rfl⟩⟩)
set_option maxHeartbeats 4000000 in
theorem k_X4_reckon {ad : List Nat} {h : hp} (L : Lay TLx ad h) {δ0 : dp} {N : Nat} (hN : 10000000 ≤ N) {a0 : Nat} {x1 : Int32} (k_a0 : q_K h.1 a0 = 4) {δ : dp} (I : CI ad h.1 δ0 δ) : ok (D_X4_reckon N h.1 a0 x1 δ) (fun r => CI ad h.1 δ0 r ∧ (kp [(4, 5)] δ r ∧ q_V r = q_V δ)) := by
  unfold D_X4_reckon
  refine ok_bind (k_X4_yieldHeld L hN (a0 := a0) k_a0 I) (fun r1 hr2 => ?_)
  obtain ⟨i3, ⟨u4, u5, u6⟩⟩ := hr2
  have u7 := kp_t kp_r u4
  have v8 : q_V r1.2 = q_V δ := (u5).trans rfl
  have f9 := ti_b r1.1
  refine ok_bind (k_X4_yieldHeld L hN (a0 := a0) k_a0 i3) (fun r10 hr11 => ?_)
  obtain ⟨i12, ⟨u13, u14, u15⟩⟩ := hr11
  have u16 := kp_t u7 u13
  have v17 : q_V r10.2 = q_V δ := (u14).trans v8
  have f18 := ti_b r10.1
  have f19 := ti_b x1
  refine ok_ite (fun h20 => ?_) (fun h20 => ?_)
  · have c21 : x1.toInt = (5 : Int) := o_eq h20
    refine ok_bind (k_X4_hold L hN (a0 := a0) (x1 := (r10.1 + r1.1)) k_a0 i12) (fun r22 hr23 => ?_)
    obtain ⟨i24, ⟨u25, u26⟩⟩ := hr23
    have u27 := kp_t u16 u25
    have v28 : q_V r22 = q_V δ := (u26).trans v17
    unfold J_X4_reckon_72
    exact ok_some (show CI ad h.1 δ0 r22 ∧ (kp [(4, 5)] δ r22 ∧ q_V r22 = q_V δ) from ⟨i24, ⟨kp_w (by decide) u27, v28⟩⟩)
  · have c29 : x1.toInt ≠ (5 : Int) := o_ne h20
    refine ok_ite (fun h30 => ?_) (fun h30 => ?_)
    · have c31 : x1.toInt = (6 : Int) := o_eq h30
      refine ok_bind (k_X4_hold L hN (a0 := a0) (x1 := (r10.1 - r1.1)) k_a0 i12) (fun r32 hr33 => ?_)
      obtain ⟨i34, ⟨u35, u36⟩⟩ := hr33
      have u37 := kp_t u16 u35
      have v38 : q_V r32 = q_V δ := (u36).trans v17
      unfold J_X4_reckon_72
      exact ok_some (show CI ad h.1 δ0 r32 ∧ (kp [(4, 5)] δ r32 ∧ q_V r32 = q_V δ) from ⟨i34, ⟨kp_w (by decide) u37, v38⟩⟩)
    · have c39 : x1.toInt ≠ (6 : Int) := o_ne h30
      refine ok_ite (fun h40 => ?_) (fun h40 => ?_)
      · have c41 : x1.toInt = (7 : Int) := o_eq h40
        refine ok_bind (k_X4_hold L hN (a0 := a0) (x1 := (r10.1 * r1.1)) k_a0 i12) (fun r42 hr43 => ?_)
        obtain ⟨i44, ⟨u45, u46⟩⟩ := hr43
        have u47 := kp_t u16 u45
        have v48 : q_V r42 = q_V δ := (u46).trans v17
        unfold J_X4_reckon_72
        exact ok_some (show CI ad h.1 δ0 r42 ∧ (kp [(4, 5)] δ r42 ∧ q_V r42 = q_V δ) from ⟨i44, ⟨kp_w (by decide) u47, v48⟩⟩)
      · have c49 : x1.toInt ≠ (7 : Int) := o_ne h40
        refine ok_ite (fun h50 => ?_) (fun h50 => ?_)
        · have c51 : r1.1.toInt = (0 : Int) := o_eq h50
          unfold J_X4_reckon_69
          refine ok_bind (k_X4_hold L hN (a0 := a0) (x1 := (0 : Int32)) k_a0 i12) (fun r52 hr53 => ?_)
          obtain ⟨i54, ⟨u55, u56⟩⟩ := hr53
          have u57 := kp_t u16 u55
          have v58 : q_V r52 = q_V δ := (u56).trans v17
          unfold J_X4_reckon_72
          exact ok_some (show CI ad h.1 δ0 r52 ∧ (kp [(4, 5)] δ r52 ∧ q_V r52 = q_V δ) from ⟨i54, ⟨kp_w (by decide) u57, v58⟩⟩)
        · have c59 : r1.1.toInt ≠ (0 : Int) := o_ne h50
          refine ok_gd (fun hc60 => ?_) ?_
          · have c61 : r1.1.toInt = (0 : Int) := o_eq hc60
            omega
          unfold J_X4_reckon_69
          refine ok_bind (k_X4_hold L hN (a0 := a0) (x1 := (r10.1 - r10.1 / r1.1 * r1.1)) k_a0 i12) (fun r62 hr63 => ?_)
          obtain ⟨i64, ⟨u65, u66⟩⟩ := hr63
          have u67 := kp_t u16 u65
          have v68 : q_V r62 = q_V δ := (u66).trans v17
          unfold J_X4_reckon_72
          exact ok_some (show CI ad h.1 δ0 r62 ∧ (kp [(4, 5)] δ r62 ∧ q_V r62 = q_V δ) from ⟨i64, ⟨kp_w (by decide) u67, v68⟩⟩)
set_option maxHeartbeats 4000000 in
theorem k_X4_nextDraw {ad : List Nat} {h : hp} (L : Lay TLx ad h) {δ0 : dp} {N : Nat} (hN : 10000000 ≤ N) {a0 : Nat} (k_a0 : q_K h.1 a0 = 4) {δ : dp} (I : CI ad h.1 δ0 δ) : ok (D_X4_nextDraw N h.1 a0 δ) (fun r => CI ad h.1 δ0 r.2 ∧ (kp [(4, 7)] δ r.2 ∧ q_V r.2 = q_V δ ∧ q_R r.2 = q_R δ)) := by
  unfold D_X4_nextDraw
  have f5 := ti_b (q_I δ 4 7 a0)
  first | (have q6 := te_mulr (c := 1103515245) (n := 1103515245) rfl (q_I δ 4 7 a0) (by omega) (by omega); obtain ⟨f7, f8, f9⟩ := q6) | (obtain ⟨q6, f7, f8, f9⟩ := ti_mulr (c := 1103515245) (n := 1103515245) rfl (q_I δ 4 7 a0))
  first | (have q11 := te_addc (c := 12345) (n := 12345) rfl ((q_I δ 4 7 a0) * (1103515245 : Int32)) (by omega) (by omega); obtain ⟨f12, f13, f14⟩ := q11) | (obtain ⟨q11, f12, f13, f14⟩ := ti_addc (c := 12345) (n := 12345) rfl ((q_I δ 4 7 a0) * (1103515245 : Int32)))
  refine ok_bdv (fun d1 e2 => ?_)
  have i3 : CI ad h.1 δ0 d1 := by rw [e2]; exact cs_4_7 L I
  have u15 := kp_I kp_r e2
  have v16 : q_V d1 = q_V δ := ((show q_V d1 = q_V δ by rw [e2]; rfl)).trans rfl
  have v17 : q_R d1 = q_R δ := ((show q_R d1 = q_R δ by rw [e2]; rfl)).trans rfl
  obtain ⟨b18, o19, k20⟩ := gO_4_0 L k_a0
  refine ok_at o19 ?_
  refine ok_bind (k_X5_greatest L hN (a0 := b18) k20 i3) (fun r21 hr22 => ?_)
  obtain ⟨i23, p24, p25, p26, p27⟩ := hr22
  try rw [i23]
  have f28 := ti_b r21.1
  have f29 := cb_5_0 i3 k20
  have f30 : (q_I d1 5 0 b18).toInt = (q_I δ 5 0 b18).toInt := congrArg Int32.toInt (by rw [e2]; exact rI_o (by decide))
  have f31 := cb_5_0 I k20
  have f32 := ti_b r21.1
  first | (have q34 := te_addc (c := 1) (n := 1) rfl r21.1 (by omega) (by omega); obtain ⟨f35, f36, f37⟩ := q34) | (obtain ⟨q34, f35, f36, f37⟩ := ti_addc (c := 1) (n := 1) rfl r21.1)
  refine ok_gd (fun hc38 => ?_) ?_
  · have c39 : (r21.1 + (1 : Int32)).toInt = (0 : Int) := o_eq hc38
    omega
  exact ok_some (show CI ad h.1 δ0 d1 ∧ (kp [(4, 7)] δ d1 ∧ q_V d1 = q_V δ ∧ q_R d1 = q_R δ) from ⟨i3, ⟨kp_w (by decide) u15, v16, v17⟩⟩)
set_option maxHeartbeats 4000000 in
theorem k_X4_goRound {ad : List Nat} {h : hp} (L : Lay TLx ad h) {δ0 : dp} {N : Nat} (hN : 10000000 ≤ N) {a0 : Nat} {a1 : Nat} {x2 : Int32} (k_a0 : q_K h.1 a0 = 4) (k_a1 : q_K h.1 a1 = 8) {δ : dp} (z0 : 0 ≤ (x2).toInt) (z1 : (x2).toInt < 500) (I : CI ad h.1 δ0 δ) : ok (D_X4_goRound N h.1 a0 a1 x2 δ) (fun r => CI ad h.1 δ0 r ∧ (kp [(4, 6)] δ r ∧ q_V r = q_V δ)) := by
  unfold D_X4_goRound
  have f1 := ti_b x2
  obtain ⟨b2, o3, k4, n5⟩ := gO_8_1 L k_a1
  refine ok_at o3 ?_
  have t6 := ti_tn x2
  refine ok_gd (fun hc7 => ?_) ?_
  · rcases hc7 with hc7 | hc7
    · have c8 : x2.toInt < (0 : Int) := o_lt hc7
      omega
    · omega
  have f11 := th_v L I k_a1 o3 x2.toNatClampNeg
  have f13 := ti_div (c := 4) (n := 4) rfl (by decide) (q_R δ b2 x2.toNatClampNeg)
  have f14 := ti_b ((q_R δ b2 x2.toNatClampNeg) / (4 : Int32))
  first | (have q15 := te_mulr (c := 4) (n := 4) rfl ((q_R δ b2 x2.toNatClampNeg) / (4 : Int32)) (by omega) (by omega); obtain ⟨f16, f17, f18⟩ := q15) | (obtain ⟨q15, f16, f17, f18⟩ := ti_mulr (c := 4) (n := 4) rfl ((q_R δ b2 x2.toNatClampNeg) / (4 : Int32)))
  refine ok_biv (fun vx9 e10 => ?_)
  first | (have q19 := te_sub (q_R δ b2 x2.toNatClampNeg) ((q_R δ b2 x2.toNatClampNeg) / (4 : Int32) * (4 : Int32)) (by omega) (by omega); rw [← e10] at q19; obtain ⟨f20, f21, f22⟩ := q19) | (obtain ⟨q19, f20, f21, f22⟩ : ∃ q : Int, vx9.toInt = (q_R δ b2 x2.toNatClampNeg).toInt - ((q_R δ b2 x2.toNatClampNeg) / (4 : Int32) * (4 : Int32)).toInt + 4294967296 * q ∧ -2147483648 ≤ vx9.toInt ∧ vx9.toInt ≤ 2147483647 := by rw [e10]; exact ti_sub (q_R δ b2 x2.toNatClampNeg) ((q_R δ b2 x2.toNatClampNeg) / (4 : Int32) * (4 : Int32)))
  obtain ⟨b23, o24, k25, n26, w27⟩ := gO_4_3 L k_a0
  refine ok_at o24 ?_
  have t28 := ti_tn vx9
  refine ok_gd (fun hc29 => ?_) ?_
  · rcases hc29 with hc29 | hc29
    · have c30 : vx9.toInt < (0 : Int) := o_lt hc29
      omega
    · omega
  refine ok_gd (fun hc31 => ?_) ?_
  · rcases hc31 with hc31 | hc31
    · have c32 : vx9.toInt < (0 : Int) := o_lt hc31
      omega
    · omega
  refine ok_bdv (fun d33 e34 => ?_)
  have i35 : CI ad h.1 δ0 d33 := by rw [e34]; exact CI.sR L I w27
  have u36 := kp_N kp_r (show q_I d33 = q_I δ by rw [e34]; rfl)
  have v37 : q_V d33 = q_V δ := ((show q_V d33 = q_V δ by rw [e34]; rfl)).trans rfl
  refine ok_at o24 ?_
  refine ok_gd (fun hc38 => ?_) ?_
  · rcases hc38 with hc38 | hc38
    · have c39 : vx9.toInt < (0 : Int) := o_lt hc38
      omega
    · omega
  refine ok_at o3 ?_
  refine ok_gd (fun hc40 => ?_) ?_
  · rcases hc40 with hc40 | hc40
    · have c41 : x2.toInt < (0 : Int) := o_lt hc40
      omega
    · omega
  have f42 := th_v L i35 k_a1 o3 x2.toNatClampNeg
  have f43 := ti_div (c := 4) (n := 4) rfl (by decide) (q_R d33 b2 x2.toNatClampNeg)
  have f44 := ti_b ((q_R d33 b2 x2.toNatClampNeg) / (4 : Int32))
  have f45 := ti_b (q_R d33 b23 vx9.toNatClampNeg)
  refine ok_ite (fun h46 => ?_) (fun h46 => ?_)
  · have c47 : ((q_R d33 b2 x2.toNatClampNeg) / (4 : Int32)).toInt ≤ (q_R d33 b23 vx9.toNatClampNeg).toInt := o_le h46
    unfold J_X4_goRound_43
    exact ok_some (show CI ad h.1 δ0 d33 ∧ (kp [(4, 6)] δ d33 ∧ q_V d33 = q_V δ) from ⟨i35, ⟨kp_w (by decide) u36, v37⟩⟩)
  · have c48 : (q_R d33 b23 vx9.toNatClampNeg).toInt < ((q_R d33 b2 x2.toNatClampNeg) / (4 : Int32)).toInt := o_nle h46
    first | (have q53 := te_addc (c := 1) (n := 1) rfl x2 (by omega) (by omega); obtain ⟨f54, f55, f56⟩ := q53) | (obtain ⟨q53, f54, f55, f56⟩ := ti_addc (c := 1) (n := 1) rfl x2)
    refine ok_bdv (fun d49 e50 => ?_)
    have i51 : CI ad h.1 δ0 d49 := by rw [e50]; exact cs_4_6 L i35 k_a0 (show 0 ≤ (x2 + (1 : Int32)).toInt by omega) (show (x2 + (1 : Int32)).toInt ≤ 500 by omega)
    have u57 := kp_I u36 e50
    have v58 : q_V d49 = q_V δ := ((show q_V d49 = q_V d33 by rw [e50]; rfl)).trans v37
    unfold J_X4_goRound_43
    exact ok_some (show CI ad h.1 δ0 d49 ∧ (kp [(4, 6)] δ d49 ∧ q_V d49 = q_V δ) from ⟨i51, ⟨kp_w (by decide) u57, v58⟩⟩)
set_option maxHeartbeats 4000000 in
theorem k_X4_makeCall {ad : List Nat} {h : hp} (L : Lay TLx ad h) {δ0 : dp} {N : Nat} (hN : 10000000 ≤ N) {a0 : Nat} {x1 : Int32} {x2 : Int32} (k_a0 : q_K h.1 a0 = 4) {δ : dp} (I : CI ad h.1 δ0 δ) : ok (D_X4_makeCall N h.1 a0 x1 x2 δ) (fun r => CI ad h.1 δ0 r ∧ (kp [(1, 3), (1, 4), (1, 5), (1, 6), (1, 7), (1, 8), (1, 9), (1, 10), (1, 11), (1, 12), (1, 13), (1, 14), (1, 15), (3, 1), (4, 8), (4, 9), (4, 10), (4, 11), (4, 12), (4, 13), (4, 14), (4, 15)] δ r ∧ q_V r = q_V δ)) := by
  unfold D_X4_makeCall
  have f1 := ti_b x1
  refine ok_ite (fun h2 => ?_) (fun h2 => ?_)
  · have c3 : x1.toInt = (0 : Int) := o_eq h2
    obtain ⟨b4, o5, k6⟩ := gO_4_1 L k_a0
    refine ok_at o5 ?_
    obtain ⟨b7, o8, k9, ⟨n10, n11⟩, w12⟩ := gO_3_0 L k6
    have f13 := cb_3_1 I k6 o8
    refine ok_ite (fun h14 => ?_) (fun h14 => ?_)
    · have c15 : (q_I δ 3 1 b4).toInt < (2000 : Int) := o_lt h14
      unfold J_X4_makeCall_23
      obtain ⟨b16, o17, k18⟩ := gO_4_2 L k_a0
      refine ok_at o17 ?_
      obtain ⟨b21, o22, k23⟩ := gO_1_1 L k18
      refine ok_bind (k_X1_touchesOf L hN (a0 := b16) (x1 := x1) (x2 := x2) k18 o22 k23 I) (fun r19 hr20 => ?_)
      obtain ⟨i24, ⟨u25, u26, u27⟩⟩ := hr20
      have u28 := kp_t kp_r u25
      have v29 : q_V r19.2 = q_V δ := (u26).trans rfl
      have f30 := ti_b r19.1
      have f31 := ti_b (q_I r19.2 4 11 a0)
      have f32 : (q_I r19.2 4 11 a0).toInt = (q_I δ 4 11 a0).toInt := congrArg Int32.toInt (u25 4 11 a0 (by decide))
      have f33 := ti_b (q_I δ 4 11 a0)
      refine ok_ite (fun h34 => ?_) (fun h34 => ?_)
      · have c35 : r19.1.toInt ≤ (q_I r19.2 4 11 a0).toInt := o_le h34
        unfold J_X4_makeCall_54
        have f39 := ti_b (q_I r19.2 4 13 a0)
        have f40 : (q_I r19.2 4 13 a0).toInt = (q_I δ 4 13 a0).toInt := congrArg Int32.toInt (u25 4 13 a0 (by decide))
        have f41 := ti_b (q_I δ 4 13 a0)
        first | (have q43 := te_add (q_I r19.2 4 13 a0) r19.1 (by omega) (by omega); obtain ⟨f44, f45, f46⟩ := q43) | (obtain ⟨q43, f44, f45, f46⟩ := ti_add (q_I r19.2 4 13 a0) r19.1)
        refine ok_bdv (fun d36 e37 => ?_)
        have i38 : CI ad h.1 δ0 d36 := by rw [e37]; exact cs_4_13 L i24
        have u47 := kp_I u28 e37
        have v48 : q_V d36 = q_V δ := ((show q_V d36 = q_V r19.2 by rw [e37]; rfl)).trans v29
        refine ok_at o5 ?_
        obtain ⟨b49, o50, k51⟩ := gO_4_0 L k_a0
        refine ok_at o50 ?_
        refine ok_bind (k_X3_touchesInWords L hN (a0 := b4) (x1 := x1) (x2 := x2) (x3 := (q_I d36 5 0 b49)) k6 i38) (fun r52 hr53 => ?_)
        have i54 := hr53
        try rw [i54]
        have f55 := ti_b r52.1
        have f59 := ti_b (q_I d36 4 14 a0)
        have f60 : (q_I d36 4 14 a0).toInt = (q_I r19.2 4 14 a0).toInt := congrArg Int32.toInt (by rw [e37]; exact rI_o (by decide))
        have f61 := ti_b (q_I r19.2 4 14 a0)
        have f62 : (q_I r19.2 4 14 a0).toInt = (q_I δ 4 14 a0).toInt := congrArg Int32.toInt (u25 4 14 a0 (by decide))
        have f63 := ti_b (q_I δ 4 14 a0)
        first | (have q65 := te_add (q_I d36 4 14 a0) r52.1 (by omega) (by omega); obtain ⟨f66, f67, f68⟩ := q65) | (obtain ⟨q65, f66, f67, f68⟩ := ti_add (q_I d36 4 14 a0) r52.1)
        refine ok_bdv (fun d56 e57 => ?_)
        have i58 : CI ad h.1 δ0 d56 := by rw [e57]; exact cs_4_14 L i38
        have u69 := kp_I u47 e57
        have v70 : q_V d56 = q_V δ := ((show q_V d56 = q_V d36 by rw [e57]; rfl)).trans v48
        refine ok_at o5 ?_
        refine ok_bind (k_X3_touchesInRow L hN (a0 := b4) (x1 := x1) (x2 := x2) k6 i58) (fun r71 hr72 => ?_)
        have i73 := hr72
        try rw [i73]
        have f74 := ti_b r71.1
        have f78 := ti_b (q_I d56 4 15 a0)
        have f79 : (q_I d56 4 15 a0).toInt = (q_I d36 4 15 a0).toInt := congrArg Int32.toInt (by rw [e57]; exact rI_o (by decide))
        have f80 := ti_b (q_I d36 4 15 a0)
        have f81 : (q_I d36 4 15 a0).toInt = (q_I r19.2 4 15 a0).toInt := congrArg Int32.toInt (by rw [e37]; exact rI_o (by decide))
        have f82 := ti_b (q_I r19.2 4 15 a0)
        have f83 : (q_I r19.2 4 15 a0).toInt = (q_I δ 4 15 a0).toInt := congrArg Int32.toInt (u25 4 15 a0 (by decide))
        have f84 := ti_b (q_I δ 4 15 a0)
        first | (have q86 := te_add (q_I d56 4 15 a0) r71.1 (by omega) (by omega); obtain ⟨f87, f88, f89⟩ := q86) | (obtain ⟨q86, f87, f88, f89⟩ := ti_add (q_I d56 4 15 a0) r71.1)
        refine ok_bdv (fun d75 e76 => ?_)
        have i77 : CI ad h.1 δ0 d75 := by rw [e76]; exact cs_4_15 L i58
        have u90 := kp_I u69 e76
        have v91 : q_V d75 = q_V δ := ((show q_V d75 = q_V d56 by rw [e76]; rfl)).trans v70
        refine ok_at o5 ?_
        refine ok_bind (k_X3_answer L hN (a0 := b4) (x1 := x1) (x2 := x2) k6 i77) (fun r92 hr93 => ?_)
        obtain ⟨i94, ⟨u95, u96⟩⟩ := hr93
        have u97 := kp_t u90 u95
        have v98 : q_V r92.2 = q_V δ := (u96).trans v91
        have f99 := ti_b r92.1
        refine ok_bdv (fun d100 e101 => ?_)
        have i102 : CI ad h.1 δ0 d100 := by rw [e101]; exact cs_4_8 L i94
        have u103 := kp_I u97 e101
        have v104 : q_V d100 = q_V δ := ((show q_V d100 = q_V r92.2 by rw [e101]; rfl)).trans v98
        have f108 := ti_b (q_I d100 4 10 a0)
        have f109 : (q_I d100 4 10 a0).toInt = (q_I r92.2 4 10 a0).toInt := congrArg Int32.toInt (by rw [e101]; exact rI_o (by decide))
        have f110 := ti_b (q_I r92.2 4 10 a0)
        have f111 : (q_I r92.2 4 10 a0).toInt = (q_I d75 4 10 a0).toInt := congrArg Int32.toInt (u95 4 10 a0 (by decide))
        have f112 := ti_b (q_I d75 4 10 a0)
        have f113 : (q_I d75 4 10 a0).toInt = (q_I d56 4 10 a0).toInt := congrArg Int32.toInt (by rw [e76]; exact rI_o (by decide))
        have f114 := ti_b (q_I d56 4 10 a0)
        have f115 : (q_I d56 4 10 a0).toInt = (q_I d36 4 10 a0).toInt := congrArg Int32.toInt (by rw [e57]; exact rI_o (by decide))
        have f116 := ti_b (q_I d36 4 10 a0)
        have f117 : (q_I d36 4 10 a0).toInt = (q_I r19.2 4 10 a0).toInt := congrArg Int32.toInt (by rw [e37]; exact rI_o (by decide))
        have f118 := ti_b (q_I r19.2 4 10 a0)
        have f119 : (q_I r19.2 4 10 a0).toInt = (q_I δ 4 10 a0).toInt := congrArg Int32.toInt (u25 4 10 a0 (by decide))
        have f120 := ti_b (q_I δ 4 10 a0)
        first | (have q122 := te_addc (c := 1) (n := 1) rfl (q_I d100 4 10 a0) (by omega) (by omega); obtain ⟨f123, f124, f125⟩ := q122) | (obtain ⟨q122, f123, f124, f125⟩ := ti_addc (c := 1) (n := 1) rfl (q_I d100 4 10 a0))
        refine ok_bdv (fun d105 e106 => ?_)
        have i107 : CI ad h.1 δ0 d105 := by rw [e106]; exact cs_4_10 L i102
        have u126 := kp_I u103 e106
        have v127 : q_V d105 = q_V δ := ((show q_V d105 = q_V d100 by rw [e106]; rfl)).trans v104
        have f128 := ti_b (q_I d105 4 10 a0)
        have f129 : (q_I d105 4 10 a0).toInt = ((q_I d100 4 10 a0) + (1 : Int32)).toInt := congrArg Int32.toInt (show q_I d105 4 10 a0 = ((q_I d100 4 10 a0) + (1 : Int32)) by rw [e106]; exact rI_s)
        refine ok_ite (fun h130 => ?_) (fun h130 => ?_)
        · have c131 : (q_I d105 4 10 a0).toInt < (2000 : Int) := o_lt h130
          unfold J_X4_makeCall_146
          refine ok_gp (by decide) ?_
          refine ok_bdv (fun d132 e133 => ?_)
          have i134 : CI ad h.1 δ0 d132 := by rw [e133]; exact cs_4_9 L i107 k_a0 (show 0 ≤ (0 : Int) by omega) (show (0 : Int) ≤ 1 by omega)
          have u135 := kp_I u126 e133
          have v136 : q_V d132 = q_V δ := ((show q_V d132 = q_V d105 by rw [e133]; rfl)).trans v127
          exact ok_some (show CI ad h.1 δ0 d132 ∧ (kp [(1, 3), (1, 4), (1, 5), (1, 6), (1, 7), (1, 8), (1, 9), (1, 10), (1, 11), (1, 12), (1, 13), (1, 14), (1, 15), (3, 1), (4, 8), (4, 9), (4, 10), (4, 11), (4, 12), (4, 13), (4, 14), (4, 15)] δ d132 ∧ q_V d132 = q_V δ) from ⟨i134, ⟨kp_w (by decide) u135, v136⟩⟩)
        · have c137 : (2000 : Int) ≤ (q_I d105 4 10 a0).toInt := o_nlt h130
          unfold J_X4_makeCall_146
          refine ok_gp (by decide) ?_
          refine ok_bdv (fun d138 e139 => ?_)
          have i140 : CI ad h.1 δ0 d138 := by rw [e139]; exact cs_4_9 L i107 k_a0 (show 0 ≤ (1 : Int) by omega) (show (1 : Int) ≤ 1 by omega)
          have u141 := kp_I u126 e139
          have v142 : q_V d138 = q_V δ := ((show q_V d138 = q_V d105 by rw [e139]; rfl)).trans v127
          exact ok_some (show CI ad h.1 δ0 d138 ∧ (kp [(1, 3), (1, 4), (1, 5), (1, 6), (1, 7), (1, 8), (1, 9), (1, 10), (1, 11), (1, 12), (1, 13), (1, 14), (1, 15), (3, 1), (4, 8), (4, 9), (4, 10), (4, 11), (4, 12), (4, 13), (4, 14), (4, 15)] δ d138 ∧ q_V d138 = q_V δ) from ⟨i140, ⟨kp_w (by decide) u141, v142⟩⟩)
      · have c143 : (q_I r19.2 4 11 a0).toInt < r19.1.toInt := o_nle h34
        refine ok_bdv (fun d144 e145 => ?_)
        have i146 : CI ad h.1 δ0 d144 := by rw [e145]; exact cs_4_11 L i24
        have u147 := kp_I u28 e145
        have v148 : q_V d144 = q_V δ := ((show q_V d144 = q_V r19.2 by rw [e145]; rfl)).trans v29
        have f152 := ti_b (q_I d144 4 10 a0)
        have f153 : (q_I d144 4 10 a0).toInt = (q_I r19.2 4 10 a0).toInt := congrArg Int32.toInt (by rw [e145]; exact rI_o (by decide))
        have f154 := ti_b (q_I r19.2 4 10 a0)
        have f155 : (q_I r19.2 4 10 a0).toInt = (q_I δ 4 10 a0).toInt := congrArg Int32.toInt (u25 4 10 a0 (by decide))
        have f156 := ti_b (q_I δ 4 10 a0)
        refine ok_bdv (fun d149 e150 => ?_)
        have i151 : CI ad h.1 δ0 d149 := by rw [e150]; exact cs_4_12 L i146
        have u157 := kp_I u147 e150
        have v158 : q_V d149 = q_V δ := ((show q_V d149 = q_V d144 by rw [e150]; rfl)).trans v148
        unfold J_X4_makeCall_54
        have f162 := ti_b (q_I d149 4 13 a0)
        have f163 : (q_I d149 4 13 a0).toInt = (q_I d144 4 13 a0).toInt := congrArg Int32.toInt (by rw [e150]; exact rI_o (by decide))
        have f164 := ti_b (q_I d144 4 13 a0)
        have f165 : (q_I d144 4 13 a0).toInt = (q_I r19.2 4 13 a0).toInt := congrArg Int32.toInt (by rw [e145]; exact rI_o (by decide))
        have f166 := ti_b (q_I r19.2 4 13 a0)
        have f167 : (q_I r19.2 4 13 a0).toInt = (q_I δ 4 13 a0).toInt := congrArg Int32.toInt (u25 4 13 a0 (by decide))
        have f168 := ti_b (q_I δ 4 13 a0)
        first | (have q170 := te_add (q_I d149 4 13 a0) r19.1 (by omega) (by omega); obtain ⟨f171, f172, f173⟩ := q170) | (obtain ⟨q170, f171, f172, f173⟩ := ti_add (q_I d149 4 13 a0) r19.1)
        refine ok_bdv (fun d159 e160 => ?_)
        have i161 : CI ad h.1 δ0 d159 := by rw [e160]; exact cs_4_13 L i151
        have u174 := kp_I u157 e160
        have v175 : q_V d159 = q_V δ := ((show q_V d159 = q_V d149 by rw [e160]; rfl)).trans v158
        refine ok_at o5 ?_
        obtain ⟨b176, o177, k178⟩ := gO_4_0 L k_a0
        refine ok_at o177 ?_
        refine ok_bind (k_X3_touchesInWords L hN (a0 := b4) (x1 := x1) (x2 := x2) (x3 := (q_I d159 5 0 b176)) k6 i161) (fun r179 hr180 => ?_)
        have i181 := hr180
        try rw [i181]
        have f182 := ti_b r179.1
        have f186 := ti_b (q_I d159 4 14 a0)
        have f187 : (q_I d159 4 14 a0).toInt = (q_I d149 4 14 a0).toInt := congrArg Int32.toInt (by rw [e160]; exact rI_o (by decide))
        have f188 := ti_b (q_I d149 4 14 a0)
        have f189 : (q_I d149 4 14 a0).toInt = (q_I d144 4 14 a0).toInt := congrArg Int32.toInt (by rw [e150]; exact rI_o (by decide))
        have f190 := ti_b (q_I d144 4 14 a0)
        have f191 : (q_I d144 4 14 a0).toInt = (q_I r19.2 4 14 a0).toInt := congrArg Int32.toInt (by rw [e145]; exact rI_o (by decide))
        have f192 := ti_b (q_I r19.2 4 14 a0)
        have f193 : (q_I r19.2 4 14 a0).toInt = (q_I δ 4 14 a0).toInt := congrArg Int32.toInt (u25 4 14 a0 (by decide))
        have f194 := ti_b (q_I δ 4 14 a0)
        first | (have q196 := te_add (q_I d159 4 14 a0) r179.1 (by omega) (by omega); obtain ⟨f197, f198, f199⟩ := q196) | (obtain ⟨q196, f197, f198, f199⟩ := ti_add (q_I d159 4 14 a0) r179.1)
        refine ok_bdv (fun d183 e184 => ?_)
        have i185 : CI ad h.1 δ0 d183 := by rw [e184]; exact cs_4_14 L i161
        have u200 := kp_I u174 e184
        have v201 : q_V d183 = q_V δ := ((show q_V d183 = q_V d159 by rw [e184]; rfl)).trans v175
        refine ok_at o5 ?_
        refine ok_bind (k_X3_touchesInRow L hN (a0 := b4) (x1 := x1) (x2 := x2) k6 i185) (fun r202 hr203 => ?_)
        have i204 := hr203
        try rw [i204]
        have f205 := ti_b r202.1
        have f209 := ti_b (q_I d183 4 15 a0)
        have f210 : (q_I d183 4 15 a0).toInt = (q_I d159 4 15 a0).toInt := congrArg Int32.toInt (by rw [e184]; exact rI_o (by decide))
        have f211 := ti_b (q_I d159 4 15 a0)
        have f212 : (q_I d159 4 15 a0).toInt = (q_I d149 4 15 a0).toInt := congrArg Int32.toInt (by rw [e160]; exact rI_o (by decide))
        have f213 := ti_b (q_I d149 4 15 a0)
        have f214 : (q_I d149 4 15 a0).toInt = (q_I d144 4 15 a0).toInt := congrArg Int32.toInt (by rw [e150]; exact rI_o (by decide))
        have f215 := ti_b (q_I d144 4 15 a0)
        have f216 : (q_I d144 4 15 a0).toInt = (q_I r19.2 4 15 a0).toInt := congrArg Int32.toInt (by rw [e145]; exact rI_o (by decide))
        have f217 := ti_b (q_I r19.2 4 15 a0)
        have f218 : (q_I r19.2 4 15 a0).toInt = (q_I δ 4 15 a0).toInt := congrArg Int32.toInt (u25 4 15 a0 (by decide))
        have f219 := ti_b (q_I δ 4 15 a0)
        first | (have q221 := te_add (q_I d183 4 15 a0) r202.1 (by omega) (by omega); obtain ⟨f222, f223, f224⟩ := q221) | (obtain ⟨q221, f222, f223, f224⟩ := ti_add (q_I d183 4 15 a0) r202.1)
        refine ok_bdv (fun d206 e207 => ?_)
        have i208 : CI ad h.1 δ0 d206 := by rw [e207]; exact cs_4_15 L i185
        have u225 := kp_I u200 e207
        have v226 : q_V d206 = q_V δ := ((show q_V d206 = q_V d183 by rw [e207]; rfl)).trans v201
        refine ok_at o5 ?_
        refine ok_bind (k_X3_answer L hN (a0 := b4) (x1 := x1) (x2 := x2) k6 i208) (fun r227 hr228 => ?_)
        obtain ⟨i229, ⟨u230, u231⟩⟩ := hr228
        have u232 := kp_t u225 u230
        have v233 : q_V r227.2 = q_V δ := (u231).trans v226
        have f234 := ti_b r227.1
        refine ok_bdv (fun d235 e236 => ?_)
        have i237 : CI ad h.1 δ0 d235 := by rw [e236]; exact cs_4_8 L i229
        have u238 := kp_I u232 e236
        have v239 : q_V d235 = q_V δ := ((show q_V d235 = q_V r227.2 by rw [e236]; rfl)).trans v233
        have f243 := ti_b (q_I d235 4 10 a0)
        have f244 : (q_I d235 4 10 a0).toInt = (q_I r227.2 4 10 a0).toInt := congrArg Int32.toInt (by rw [e236]; exact rI_o (by decide))
        have f245 := ti_b (q_I r227.2 4 10 a0)
        have f246 : (q_I r227.2 4 10 a0).toInt = (q_I d206 4 10 a0).toInt := congrArg Int32.toInt (u230 4 10 a0 (by decide))
        have f247 := ti_b (q_I d206 4 10 a0)
        have f248 : (q_I d206 4 10 a0).toInt = (q_I d183 4 10 a0).toInt := congrArg Int32.toInt (by rw [e207]; exact rI_o (by decide))
        have f249 := ti_b (q_I d183 4 10 a0)
        have f250 : (q_I d183 4 10 a0).toInt = (q_I d159 4 10 a0).toInt := congrArg Int32.toInt (by rw [e184]; exact rI_o (by decide))
        have f251 := ti_b (q_I d159 4 10 a0)
        have f252 : (q_I d159 4 10 a0).toInt = (q_I d149 4 10 a0).toInt := congrArg Int32.toInt (by rw [e160]; exact rI_o (by decide))
        have f253 := ti_b (q_I d149 4 10 a0)
        have f254 : (q_I d149 4 10 a0).toInt = (q_I d144 4 10 a0).toInt := congrArg Int32.toInt (by rw [e150]; exact rI_o (by decide))
        first | (have q256 := te_addc (c := 1) (n := 1) rfl (q_I d235 4 10 a0) (by omega) (by omega); obtain ⟨f257, f258, f259⟩ := q256) | (obtain ⟨q256, f257, f258, f259⟩ := ti_addc (c := 1) (n := 1) rfl (q_I d235 4 10 a0))
        refine ok_bdv (fun d240 e241 => ?_)
        have i242 : CI ad h.1 δ0 d240 := by rw [e241]; exact cs_4_10 L i237
        have u260 := kp_I u238 e241
        have v261 : q_V d240 = q_V δ := ((show q_V d240 = q_V d235 by rw [e241]; rfl)).trans v239
        have f262 := ti_b (q_I d240 4 10 a0)
        have f263 : (q_I d240 4 10 a0).toInt = ((q_I d235 4 10 a0) + (1 : Int32)).toInt := congrArg Int32.toInt (show q_I d240 4 10 a0 = ((q_I d235 4 10 a0) + (1 : Int32)) by rw [e241]; exact rI_s)
        refine ok_ite (fun h264 => ?_) (fun h264 => ?_)
        · have c265 : (q_I d240 4 10 a0).toInt < (2000 : Int) := o_lt h264
          unfold J_X4_makeCall_146
          refine ok_gp (by decide) ?_
          refine ok_bdv (fun d266 e267 => ?_)
          have i268 : CI ad h.1 δ0 d266 := by rw [e267]; exact cs_4_9 L i242 k_a0 (show 0 ≤ (0 : Int) by omega) (show (0 : Int) ≤ 1 by omega)
          have u269 := kp_I u260 e267
          have v270 : q_V d266 = q_V δ := ((show q_V d266 = q_V d240 by rw [e267]; rfl)).trans v261
          exact ok_some (show CI ad h.1 δ0 d266 ∧ (kp [(1, 3), (1, 4), (1, 5), (1, 6), (1, 7), (1, 8), (1, 9), (1, 10), (1, 11), (1, 12), (1, 13), (1, 14), (1, 15), (3, 1), (4, 8), (4, 9), (4, 10), (4, 11), (4, 12), (4, 13), (4, 14), (4, 15)] δ d266 ∧ q_V d266 = q_V δ) from ⟨i268, ⟨kp_w (by decide) u269, v270⟩⟩)
        · have c271 : (2000 : Int) ≤ (q_I d240 4 10 a0).toInt := o_nlt h264
          unfold J_X4_makeCall_146
          refine ok_gp (by decide) ?_
          refine ok_bdv (fun d272 e273 => ?_)
          have i274 : CI ad h.1 δ0 d272 := by rw [e273]; exact cs_4_9 L i242 k_a0 (show 0 ≤ (1 : Int) by omega) (show (1 : Int) ≤ 1 by omega)
          have u275 := kp_I u260 e273
          have v276 : q_V d272 = q_V δ := ((show q_V d272 = q_V d240 by rw [e273]; rfl)).trans v261
          exact ok_some (show CI ad h.1 δ0 d272 ∧ (kp [(1, 3), (1, 4), (1, 5), (1, 6), (1, 7), (1, 8), (1, 9), (1, 10), (1, 11), (1, 12), (1, 13), (1, 14), (1, 15), (3, 1), (4, 8), (4, 9), (4, 10), (4, 11), (4, 12), (4, 13), (4, 14), (4, 15)] δ d272 ∧ q_V d272 = q_V δ) from ⟨i274, ⟨kp_w (by decide) u275, v276⟩⟩)
    · have c277 : (2000 : Int) ≤ (q_I δ 3 1 b4).toInt := o_nlt h14
      refine ok_bdv (fun d278 e279 => ?_)
      have i280 : CI ad h.1 δ0 d278 := by rw [e279]; exact cs_4_9 L I k_a0 (show 0 ≤ (1 : Int) by omega) (show (1 : Int) ≤ 1 by omega)
      have u281 := kp_I kp_r e279
      have v282 : q_V d278 = q_V δ := ((show q_V d278 = q_V δ by rw [e279]; rfl)).trans rfl
      exact ok_some (show CI ad h.1 δ0 d278 ∧ (kp [(1, 3), (1, 4), (1, 5), (1, 6), (1, 7), (1, 8), (1, 9), (1, 10), (1, 11), (1, 12), (1, 13), (1, 14), (1, 15), (3, 1), (4, 8), (4, 9), (4, 10), (4, 11), (4, 12), (4, 13), (4, 14), (4, 15)] δ d278 ∧ q_V d278 = q_V δ) from ⟨i280, ⟨kp_w (by decide) u281, v282⟩⟩)
  · have c283 : x1.toInt ≠ (0 : Int) := o_ne h2
    unfold J_X4_makeCall_23
    obtain ⟨b284, o285, k286⟩ := gO_4_2 L k_a0
    refine ok_at o285 ?_
    obtain ⟨b289, o290, k291⟩ := gO_1_1 L k286
    refine ok_bind (k_X1_touchesOf L hN (a0 := b284) (x1 := x1) (x2 := x2) k286 o290 k291 I) (fun r287 hr288 => ?_)
    obtain ⟨i292, ⟨u293, u294, u295⟩⟩ := hr288
    have u296 := kp_t kp_r u293
    have v297 : q_V r287.2 = q_V δ := (u294).trans rfl
    have f298 := ti_b r287.1
    have f299 := ti_b (q_I r287.2 4 11 a0)
    have f300 : (q_I r287.2 4 11 a0).toInt = (q_I δ 4 11 a0).toInt := congrArg Int32.toInt (u293 4 11 a0 (by decide))
    have f301 := ti_b (q_I δ 4 11 a0)
    refine ok_ite (fun h302 => ?_) (fun h302 => ?_)
    · have c303 : r287.1.toInt ≤ (q_I r287.2 4 11 a0).toInt := o_le h302
      unfold J_X4_makeCall_54
      have f307 := ti_b (q_I r287.2 4 13 a0)
      have f308 : (q_I r287.2 4 13 a0).toInt = (q_I δ 4 13 a0).toInt := congrArg Int32.toInt (u293 4 13 a0 (by decide))
      have f309 := ti_b (q_I δ 4 13 a0)
      first | (have q311 := te_add (q_I r287.2 4 13 a0) r287.1 (by omega) (by omega); obtain ⟨f312, f313, f314⟩ := q311) | (obtain ⟨q311, f312, f313, f314⟩ := ti_add (q_I r287.2 4 13 a0) r287.1)
      refine ok_bdv (fun d304 e305 => ?_)
      have i306 : CI ad h.1 δ0 d304 := by rw [e305]; exact cs_4_13 L i292
      have u315 := kp_I u296 e305
      have v316 : q_V d304 = q_V δ := ((show q_V d304 = q_V r287.2 by rw [e305]; rfl)).trans v297
      obtain ⟨b317, o318, k319⟩ := gO_4_1 L k_a0
      refine ok_at o318 ?_
      obtain ⟨b320, o321, k322⟩ := gO_4_0 L k_a0
      refine ok_at o321 ?_
      refine ok_bind (k_X3_touchesInWords L hN (a0 := b317) (x1 := x1) (x2 := x2) (x3 := (q_I d304 5 0 b320)) k319 i306) (fun r323 hr324 => ?_)
      have i325 := hr324
      try rw [i325]
      have f326 := ti_b r323.1
      have f330 := ti_b (q_I d304 4 14 a0)
      have f331 : (q_I d304 4 14 a0).toInt = (q_I r287.2 4 14 a0).toInt := congrArg Int32.toInt (by rw [e305]; exact rI_o (by decide))
      have f332 := ti_b (q_I r287.2 4 14 a0)
      have f333 : (q_I r287.2 4 14 a0).toInt = (q_I δ 4 14 a0).toInt := congrArg Int32.toInt (u293 4 14 a0 (by decide))
      have f334 := ti_b (q_I δ 4 14 a0)
      first | (have q336 := te_add (q_I d304 4 14 a0) r323.1 (by omega) (by omega); obtain ⟨f337, f338, f339⟩ := q336) | (obtain ⟨q336, f337, f338, f339⟩ := ti_add (q_I d304 4 14 a0) r323.1)
      refine ok_bdv (fun d327 e328 => ?_)
      have i329 : CI ad h.1 δ0 d327 := by rw [e328]; exact cs_4_14 L i306
      have u340 := kp_I u315 e328
      have v341 : q_V d327 = q_V δ := ((show q_V d327 = q_V d304 by rw [e328]; rfl)).trans v316
      refine ok_at o318 ?_
      refine ok_bind (k_X3_touchesInRow L hN (a0 := b317) (x1 := x1) (x2 := x2) k319 i329) (fun r342 hr343 => ?_)
      have i344 := hr343
      try rw [i344]
      have f345 := ti_b r342.1
      have f349 := ti_b (q_I d327 4 15 a0)
      have f350 : (q_I d327 4 15 a0).toInt = (q_I d304 4 15 a0).toInt := congrArg Int32.toInt (by rw [e328]; exact rI_o (by decide))
      have f351 := ti_b (q_I d304 4 15 a0)
      have f352 : (q_I d304 4 15 a0).toInt = (q_I r287.2 4 15 a0).toInt := congrArg Int32.toInt (by rw [e305]; exact rI_o (by decide))
      have f353 := ti_b (q_I r287.2 4 15 a0)
      have f354 : (q_I r287.2 4 15 a0).toInt = (q_I δ 4 15 a0).toInt := congrArg Int32.toInt (u293 4 15 a0 (by decide))
      have f355 := ti_b (q_I δ 4 15 a0)
      first | (have q357 := te_add (q_I d327 4 15 a0) r342.1 (by omega) (by omega); obtain ⟨f358, f359, f360⟩ := q357) | (obtain ⟨q357, f358, f359, f360⟩ := ti_add (q_I d327 4 15 a0) r342.1)
      refine ok_bdv (fun d346 e347 => ?_)
      have i348 : CI ad h.1 δ0 d346 := by rw [e347]; exact cs_4_15 L i329
      have u361 := kp_I u340 e347
      have v362 : q_V d346 = q_V δ := ((show q_V d346 = q_V d327 by rw [e347]; rfl)).trans v341
      refine ok_at o318 ?_
      refine ok_bind (k_X3_answer L hN (a0 := b317) (x1 := x1) (x2 := x2) k319 i348) (fun r363 hr364 => ?_)
      obtain ⟨i365, ⟨u366, u367⟩⟩ := hr364
      have u368 := kp_t u361 u366
      have v369 : q_V r363.2 = q_V δ := (u367).trans v362
      have f370 := ti_b r363.1
      refine ok_bdv (fun d371 e372 => ?_)
      have i373 : CI ad h.1 δ0 d371 := by rw [e372]; exact cs_4_8 L i365
      have u374 := kp_I u368 e372
      have v375 : q_V d371 = q_V δ := ((show q_V d371 = q_V r363.2 by rw [e372]; rfl)).trans v369
      have f379 := ti_b (q_I d371 4 10 a0)
      have f380 : (q_I d371 4 10 a0).toInt = (q_I r363.2 4 10 a0).toInt := congrArg Int32.toInt (by rw [e372]; exact rI_o (by decide))
      have f381 := ti_b (q_I r363.2 4 10 a0)
      have f382 : (q_I r363.2 4 10 a0).toInt = (q_I d346 4 10 a0).toInt := congrArg Int32.toInt (u366 4 10 a0 (by decide))
      have f383 := ti_b (q_I d346 4 10 a0)
      have f384 : (q_I d346 4 10 a0).toInt = (q_I d327 4 10 a0).toInt := congrArg Int32.toInt (by rw [e347]; exact rI_o (by decide))
      have f385 := ti_b (q_I d327 4 10 a0)
      have f386 : (q_I d327 4 10 a0).toInt = (q_I d304 4 10 a0).toInt := congrArg Int32.toInt (by rw [e328]; exact rI_o (by decide))
      have f387 := ti_b (q_I d304 4 10 a0)
      have f388 : (q_I d304 4 10 a0).toInt = (q_I r287.2 4 10 a0).toInt := congrArg Int32.toInt (by rw [e305]; exact rI_o (by decide))
      have f389 := ti_b (q_I r287.2 4 10 a0)
      have f390 : (q_I r287.2 4 10 a0).toInt = (q_I δ 4 10 a0).toInt := congrArg Int32.toInt (u293 4 10 a0 (by decide))
      have f391 := ti_b (q_I δ 4 10 a0)
      first | (have q393 := te_addc (c := 1) (n := 1) rfl (q_I d371 4 10 a0) (by omega) (by omega); obtain ⟨f394, f395, f396⟩ := q393) | (obtain ⟨q393, f394, f395, f396⟩ := ti_addc (c := 1) (n := 1) rfl (q_I d371 4 10 a0))
      refine ok_bdv (fun d376 e377 => ?_)
      have i378 : CI ad h.1 δ0 d376 := by rw [e377]; exact cs_4_10 L i373
      have u397 := kp_I u374 e377
      have v398 : q_V d376 = q_V δ := ((show q_V d376 = q_V d371 by rw [e377]; rfl)).trans v375
      have f399 := ti_b (q_I d376 4 10 a0)
      have f400 : (q_I d376 4 10 a0).toInt = ((q_I d371 4 10 a0) + (1 : Int32)).toInt := congrArg Int32.toInt (show q_I d376 4 10 a0 = ((q_I d371 4 10 a0) + (1 : Int32)) by rw [e377]; exact rI_s)
      refine ok_ite (fun h401 => ?_) (fun h401 => ?_)
      · have c402 : (q_I d376 4 10 a0).toInt < (2000 : Int) := o_lt h401
        unfold J_X4_makeCall_146
        refine ok_gp (by decide) ?_
        refine ok_bdv (fun d403 e404 => ?_)
        have i405 : CI ad h.1 δ0 d403 := by rw [e404]; exact cs_4_9 L i378 k_a0 (show 0 ≤ (0 : Int) by omega) (show (0 : Int) ≤ 1 by omega)
        have u406 := kp_I u397 e404
        have v407 : q_V d403 = q_V δ := ((show q_V d403 = q_V d376 by rw [e404]; rfl)).trans v398
        exact ok_some (show CI ad h.1 δ0 d403 ∧ (kp [(1, 3), (1, 4), (1, 5), (1, 6), (1, 7), (1, 8), (1, 9), (1, 10), (1, 11), (1, 12), (1, 13), (1, 14), (1, 15), (3, 1), (4, 8), (4, 9), (4, 10), (4, 11), (4, 12), (4, 13), (4, 14), (4, 15)] δ d403 ∧ q_V d403 = q_V δ) from ⟨i405, ⟨kp_w (by decide) u406, v407⟩⟩)
      · have c408 : (2000 : Int) ≤ (q_I d376 4 10 a0).toInt := o_nlt h401
        unfold J_X4_makeCall_146
        refine ok_gp (by decide) ?_
        refine ok_bdv (fun d409 e410 => ?_)
        have i411 : CI ad h.1 δ0 d409 := by rw [e410]; exact cs_4_9 L i378 k_a0 (show 0 ≤ (1 : Int) by omega) (show (1 : Int) ≤ 1 by omega)
        have u412 := kp_I u397 e410
        have v413 : q_V d409 = q_V δ := ((show q_V d409 = q_V d376 by rw [e410]; rfl)).trans v398
        exact ok_some (show CI ad h.1 δ0 d409 ∧ (kp [(1, 3), (1, 4), (1, 5), (1, 6), (1, 7), (1, 8), (1, 9), (1, 10), (1, 11), (1, 12), (1, 13), (1, 14), (1, 15), (3, 1), (4, 8), (4, 9), (4, 10), (4, 11), (4, 12), (4, 13), (4, 14), (4, 15)] δ d409 ∧ q_V d409 = q_V δ) from ⟨i411, ⟨kp_w (by decide) u412, v413⟩⟩)
    · have c414 : (q_I r287.2 4 11 a0).toInt < r287.1.toInt := o_nle h302
      refine ok_bdv (fun d415 e416 => ?_)
      have i417 : CI ad h.1 δ0 d415 := by rw [e416]; exact cs_4_11 L i292
      have u418 := kp_I u296 e416
      have v419 : q_V d415 = q_V δ := ((show q_V d415 = q_V r287.2 by rw [e416]; rfl)).trans v297
      have f423 := ti_b (q_I d415 4 10 a0)
      have f424 : (q_I d415 4 10 a0).toInt = (q_I r287.2 4 10 a0).toInt := congrArg Int32.toInt (by rw [e416]; exact rI_o (by decide))
      have f425 := ti_b (q_I r287.2 4 10 a0)
      have f426 : (q_I r287.2 4 10 a0).toInt = (q_I δ 4 10 a0).toInt := congrArg Int32.toInt (u293 4 10 a0 (by decide))
      have f427 := ti_b (q_I δ 4 10 a0)
      refine ok_bdv (fun d420 e421 => ?_)
      have i422 : CI ad h.1 δ0 d420 := by rw [e421]; exact cs_4_12 L i417
      have u428 := kp_I u418 e421
      have v429 : q_V d420 = q_V δ := ((show q_V d420 = q_V d415 by rw [e421]; rfl)).trans v419
      unfold J_X4_makeCall_54
      have f433 := ti_b (q_I d420 4 13 a0)
      have f434 : (q_I d420 4 13 a0).toInt = (q_I d415 4 13 a0).toInt := congrArg Int32.toInt (by rw [e421]; exact rI_o (by decide))
      have f435 := ti_b (q_I d415 4 13 a0)
      have f436 : (q_I d415 4 13 a0).toInt = (q_I r287.2 4 13 a0).toInt := congrArg Int32.toInt (by rw [e416]; exact rI_o (by decide))
      have f437 := ti_b (q_I r287.2 4 13 a0)
      have f438 : (q_I r287.2 4 13 a0).toInt = (q_I δ 4 13 a0).toInt := congrArg Int32.toInt (u293 4 13 a0 (by decide))
      have f439 := ti_b (q_I δ 4 13 a0)
      first | (have q441 := te_add (q_I d420 4 13 a0) r287.1 (by omega) (by omega); obtain ⟨f442, f443, f444⟩ := q441) | (obtain ⟨q441, f442, f443, f444⟩ := ti_add (q_I d420 4 13 a0) r287.1)
      refine ok_bdv (fun d430 e431 => ?_)
      have i432 : CI ad h.1 δ0 d430 := by rw [e431]; exact cs_4_13 L i422
      have u445 := kp_I u428 e431
      have v446 : q_V d430 = q_V δ := ((show q_V d430 = q_V d420 by rw [e431]; rfl)).trans v429
      obtain ⟨b447, o448, k449⟩ := gO_4_1 L k_a0
      refine ok_at o448 ?_
      obtain ⟨b450, o451, k452⟩ := gO_4_0 L k_a0
      refine ok_at o451 ?_
      refine ok_bind (k_X3_touchesInWords L hN (a0 := b447) (x1 := x1) (x2 := x2) (x3 := (q_I d430 5 0 b450)) k449 i432) (fun r453 hr454 => ?_)
      have i455 := hr454
      try rw [i455]
      have f456 := ti_b r453.1
      have f460 := ti_b (q_I d430 4 14 a0)
      have f461 : (q_I d430 4 14 a0).toInt = (q_I d420 4 14 a0).toInt := congrArg Int32.toInt (by rw [e431]; exact rI_o (by decide))
      have f462 := ti_b (q_I d420 4 14 a0)
      have f463 : (q_I d420 4 14 a0).toInt = (q_I d415 4 14 a0).toInt := congrArg Int32.toInt (by rw [e421]; exact rI_o (by decide))
      have f464 := ti_b (q_I d415 4 14 a0)
      have f465 : (q_I d415 4 14 a0).toInt = (q_I r287.2 4 14 a0).toInt := congrArg Int32.toInt (by rw [e416]; exact rI_o (by decide))
      have f466 := ti_b (q_I r287.2 4 14 a0)
      have f467 : (q_I r287.2 4 14 a0).toInt = (q_I δ 4 14 a0).toInt := congrArg Int32.toInt (u293 4 14 a0 (by decide))
      have f468 := ti_b (q_I δ 4 14 a0)
      first | (have q470 := te_add (q_I d430 4 14 a0) r453.1 (by omega) (by omega); obtain ⟨f471, f472, f473⟩ := q470) | (obtain ⟨q470, f471, f472, f473⟩ := ti_add (q_I d430 4 14 a0) r453.1)
      refine ok_bdv (fun d457 e458 => ?_)
      have i459 : CI ad h.1 δ0 d457 := by rw [e458]; exact cs_4_14 L i432
      have u474 := kp_I u445 e458
      have v475 : q_V d457 = q_V δ := ((show q_V d457 = q_V d430 by rw [e458]; rfl)).trans v446
      refine ok_at o448 ?_
      refine ok_bind (k_X3_touchesInRow L hN (a0 := b447) (x1 := x1) (x2 := x2) k449 i459) (fun r476 hr477 => ?_)
      have i478 := hr477
      try rw [i478]
      have f479 := ti_b r476.1
      have f483 := ti_b (q_I d457 4 15 a0)
      have f484 : (q_I d457 4 15 a0).toInt = (q_I d430 4 15 a0).toInt := congrArg Int32.toInt (by rw [e458]; exact rI_o (by decide))
      have f485 := ti_b (q_I d430 4 15 a0)
      have f486 : (q_I d430 4 15 a0).toInt = (q_I d420 4 15 a0).toInt := congrArg Int32.toInt (by rw [e431]; exact rI_o (by decide))
      have f487 := ti_b (q_I d420 4 15 a0)
      have f488 : (q_I d420 4 15 a0).toInt = (q_I d415 4 15 a0).toInt := congrArg Int32.toInt (by rw [e421]; exact rI_o (by decide))
      have f489 := ti_b (q_I d415 4 15 a0)
      have f490 : (q_I d415 4 15 a0).toInt = (q_I r287.2 4 15 a0).toInt := congrArg Int32.toInt (by rw [e416]; exact rI_o (by decide))
      have f491 := ti_b (q_I r287.2 4 15 a0)
      have f492 : (q_I r287.2 4 15 a0).toInt = (q_I δ 4 15 a0).toInt := congrArg Int32.toInt (u293 4 15 a0 (by decide))
      have f493 := ti_b (q_I δ 4 15 a0)
      first | (have q495 := te_add (q_I d457 4 15 a0) r476.1 (by omega) (by omega); obtain ⟨f496, f497, f498⟩ := q495) | (obtain ⟨q495, f496, f497, f498⟩ := ti_add (q_I d457 4 15 a0) r476.1)
      refine ok_bdv (fun d480 e481 => ?_)
      have i482 : CI ad h.1 δ0 d480 := by rw [e481]; exact cs_4_15 L i459
      have u499 := kp_I u474 e481
      have v500 : q_V d480 = q_V δ := ((show q_V d480 = q_V d457 by rw [e481]; rfl)).trans v475
      refine ok_at o448 ?_
      refine ok_bind (k_X3_answer L hN (a0 := b447) (x1 := x1) (x2 := x2) k449 i482) (fun r501 hr502 => ?_)
      obtain ⟨i503, ⟨u504, u505⟩⟩ := hr502
      have u506 := kp_t u499 u504
      have v507 : q_V r501.2 = q_V δ := (u505).trans v500
      have f508 := ti_b r501.1
      refine ok_bdv (fun d509 e510 => ?_)
      have i511 : CI ad h.1 δ0 d509 := by rw [e510]; exact cs_4_8 L i503
      have u512 := kp_I u506 e510
      have v513 : q_V d509 = q_V δ := ((show q_V d509 = q_V r501.2 by rw [e510]; rfl)).trans v507
      have f517 := ti_b (q_I d509 4 10 a0)
      have f518 : (q_I d509 4 10 a0).toInt = (q_I r501.2 4 10 a0).toInt := congrArg Int32.toInt (by rw [e510]; exact rI_o (by decide))
      have f519 := ti_b (q_I r501.2 4 10 a0)
      have f520 : (q_I r501.2 4 10 a0).toInt = (q_I d480 4 10 a0).toInt := congrArg Int32.toInt (u504 4 10 a0 (by decide))
      have f521 := ti_b (q_I d480 4 10 a0)
      have f522 : (q_I d480 4 10 a0).toInt = (q_I d457 4 10 a0).toInt := congrArg Int32.toInt (by rw [e481]; exact rI_o (by decide))
      have f523 := ti_b (q_I d457 4 10 a0)
      have f524 : (q_I d457 4 10 a0).toInt = (q_I d430 4 10 a0).toInt := congrArg Int32.toInt (by rw [e458]; exact rI_o (by decide))
      have f525 := ti_b (q_I d430 4 10 a0)
      have f526 : (q_I d430 4 10 a0).toInt = (q_I d420 4 10 a0).toInt := congrArg Int32.toInt (by rw [e431]; exact rI_o (by decide))
      have f527 := ti_b (q_I d420 4 10 a0)
      have f528 : (q_I d420 4 10 a0).toInt = (q_I d415 4 10 a0).toInt := congrArg Int32.toInt (by rw [e421]; exact rI_o (by decide))
      first | (have q530 := te_addc (c := 1) (n := 1) rfl (q_I d509 4 10 a0) (by omega) (by omega); obtain ⟨f531, f532, f533⟩ := q530) | (obtain ⟨q530, f531, f532, f533⟩ := ti_addc (c := 1) (n := 1) rfl (q_I d509 4 10 a0))
      refine ok_bdv (fun d514 e515 => ?_)
      have i516 : CI ad h.1 δ0 d514 := by rw [e515]; exact cs_4_10 L i511
      have u534 := kp_I u512 e515
      have v535 : q_V d514 = q_V δ := ((show q_V d514 = q_V d509 by rw [e515]; rfl)).trans v513
      have f536 := ti_b (q_I d514 4 10 a0)
      have f537 : (q_I d514 4 10 a0).toInt = ((q_I d509 4 10 a0) + (1 : Int32)).toInt := congrArg Int32.toInt (show q_I d514 4 10 a0 = ((q_I d509 4 10 a0) + (1 : Int32)) by rw [e515]; exact rI_s)
      refine ok_ite (fun h538 => ?_) (fun h538 => ?_)
      · have c539 : (q_I d514 4 10 a0).toInt < (2000 : Int) := o_lt h538
        unfold J_X4_makeCall_146
        refine ok_gp (by decide) ?_
        refine ok_bdv (fun d540 e541 => ?_)
        have i542 : CI ad h.1 δ0 d540 := by rw [e541]; exact cs_4_9 L i516 k_a0 (show 0 ≤ (0 : Int) by omega) (show (0 : Int) ≤ 1 by omega)
        have u543 := kp_I u534 e541
        have v544 : q_V d540 = q_V δ := ((show q_V d540 = q_V d514 by rw [e541]; rfl)).trans v535
        exact ok_some (show CI ad h.1 δ0 d540 ∧ (kp [(1, 3), (1, 4), (1, 5), (1, 6), (1, 7), (1, 8), (1, 9), (1, 10), (1, 11), (1, 12), (1, 13), (1, 14), (1, 15), (3, 1), (4, 8), (4, 9), (4, 10), (4, 11), (4, 12), (4, 13), (4, 14), (4, 15)] δ d540 ∧ q_V d540 = q_V δ) from ⟨i542, ⟨kp_w (by decide) u543, v544⟩⟩)
      · have c545 : (2000 : Int) ≤ (q_I d514 4 10 a0).toInt := o_nlt h538
        unfold J_X4_makeCall_146
        refine ok_gp (by decide) ?_
        refine ok_bdv (fun d546 e547 => ?_)
        have i548 : CI ad h.1 δ0 d546 := by rw [e547]; exact cs_4_9 L i516 k_a0 (show 0 ≤ (1 : Int) by omega) (show (1 : Int) ≤ 1 by omega)
        have u549 := kp_I u534 e547
        have v550 : q_V d546 = q_V δ := ((show q_V d546 = q_V d514 by rw [e547]; rfl)).trans v535
        exact ok_some (show CI ad h.1 δ0 d546 ∧ (kp [(1, 3), (1, 4), (1, 5), (1, 6), (1, 7), (1, 8), (1, 9), (1, 10), (1, 11), (1, 12), (1, 13), (1, 14), (1, 15), (3, 1), (4, 8), (4, 9), (4, 10), (4, 11), (4, 12), (4, 13), (4, 14), (4, 15)] δ d546 ∧ q_V d546 = q_V δ) from ⟨i548, ⟨kp_w (by decide) u549, v550⟩⟩)
set_option maxHeartbeats 4000000 in
theorem k_X4_step {ad : List Nat} {h : hp} (L : Lay TLx ad h) {δ0 : dp} {N : Nat} (hN : 10000000 ≤ N) {a0 : Nat} {a1 : Nat} (k_a0 : q_K h.1 a0 = 4) (k_a1 : q_K h.1 a1 = 8) {δ : dp} (z0 : (q_I δ 4 6 a0).toInt < (q_I δ 8 2 a1).toInt) (I : CI ad h.1 δ0 δ) : ok (D_X4_step N h.1 a0 a1 δ) (fun r => CI ad h.1 δ0 r ∧ (kp [(1, 3), (1, 4), (1, 5), (1, 6), (1, 7), (1, 8), (1, 9), (1, 10), (1, 11), (1, 12), (1, 13), (1, 14), (1, 15), (3, 1), (4, 5), (4, 6), (4, 7), (4, 8), (4, 9), (4, 10), (4, 11), (4, 12), (4, 13), (4, 14), (4, 15)] δ r ∧ q_V r = q_V δ)) := by
  unfold D_X4_step
  have f1 := cb_4_6 I k_a0
  have f2 := cb_8_2 I k_a1
  obtain ⟨b3, o4, k5, n6⟩ := gO_8_1 L k_a1
  refine ok_at o4 ?_
  have t7 := ti_tn (q_I δ 4 6 a0)
  refine ok_gd (fun hc8 => ?_) ?_
  · rcases hc8 with hc8 | hc8
    · have c9 : (q_I δ 4 6 a0).toInt < (0 : Int) := o_lt hc8
      omega
    · omega
  have f12 := th_v L I k_a1 o4 (q_I δ 4 6 a0).toNatClampNeg
  refine ok_biv (fun vx10 e11 => ?_)
  have f13 : vx10.toInt = (q_R δ b3 (q_I δ 4 6 a0).toNatClampNeg).toInt := congrArg Int32.toInt e11
  obtain ⟨b14, o15, k16, n17⟩ := gO_8_0 L k_a1
  refine ok_at o15 ?_
  refine ok_gd (fun hc18 => ?_) ?_
  · rcases hc18 with hc18 | hc18
    · have c19 : (q_I δ 4 6 a0).toInt < (0 : Int) := o_lt hc18
      omega
    · omega
  obtain ⟨f22, f23, f24⟩ := th_tv L I k_a1 o15 o4 (i := (q_I δ 4 6 a0).toNatClampNeg) (by omega)
  have f25 := ti_b (q_R δ b14 (q_I δ 4 6 a0).toNatClampNeg)
  refine ok_biv (fun vx20 e21 => ?_)
  have f26 : vx20.toInt = (q_R δ b14 (q_I δ 4 6 a0).toNatClampNeg).toInt := congrArg Int32.toInt e21
  first | (have q31 := te_addc (c := 1) (n := 1) rfl (q_I δ 4 6 a0) (by omega) (by omega); obtain ⟨f32, f33, f34⟩ := q31) | (obtain ⟨q31, f32, f33, f34⟩ := ti_addc (c := 1) (n := 1) rfl (q_I δ 4 6 a0))
  refine ok_bdv (fun d27 e28 => ?_)
  have i29 : CI ad h.1 δ0 d27 := by rw [e28]; exact cs_4_6 L I k_a0 (show 0 ≤ ((q_I δ 4 6 a0) + (1 : Int32)).toInt by omega) (show ((q_I δ 4 6 a0) + (1 : Int32)).toInt ≤ 500 by omega)
  have u35 := kp_I kp_r e28
  have v36 : q_V d27 = q_V δ := ((show q_V d27 = q_V δ by rw [e28]; rfl)).trans rfl
  refine ok_ite (fun h37 => ?_) (fun h37 => ?_)
  · have c38 : vx20.toInt = (0 : Int) := o_eq h37
    refine ok_bind (k_X4_hold L hN (a0 := a0) (x1 := vx10) k_a0 i29) (fun r39 hr40 => ?_)
    obtain ⟨i41, ⟨u42, u43⟩⟩ := hr40
    have u44 := kp_t u35 u42
    have v45 : q_V r39 = q_V δ := (u43).trans v36
    unfold J_X4_step_195
    exact ok_some (show CI ad h.1 δ0 r39 ∧ (kp [(1, 3), (1, 4), (1, 5), (1, 6), (1, 7), (1, 8), (1, 9), (1, 10), (1, 11), (1, 12), (1, 13), (1, 14), (1, 15), (3, 1), (4, 5), (4, 6), (4, 7), (4, 8), (4, 9), (4, 10), (4, 11), (4, 12), (4, 13), (4, 14), (4, 15)] δ r39 ∧ q_V r39 = q_V δ) from ⟨i41, ⟨kp_w (by decide) u44, v45⟩⟩)
  · have c46 : vx20.toInt ≠ (0 : Int) := o_ne h37
    refine ok_ite (fun h47 => ?_) (fun h47 => ?_)
    · have c48 : vx20.toInt = (1 : Int) := o_eq h47
      obtain ⟨b49, o50, k51, n52, w53⟩ := gO_4_3 L k_a0
      refine ok_at o50 ?_
      have t54 := ti_tn vx10
      refine ok_gd (fun hc55 => ?_) ?_
      · rcases hc55 with hc55 | hc55
        · have c56 : vx10.toInt < (0 : Int) := o_lt hc55
          omega
        · omega
      refine ok_bind (k_X4_hold L hN (a0 := a0) (x1 := (q_R d27 b49 vx10.toNatClampNeg)) k_a0 i29) (fun r57 hr58 => ?_)
      obtain ⟨i59, ⟨u60, u61⟩⟩ := hr58
      have u62 := kp_t u35 u60
      have v63 : q_V r57 = q_V δ := (u61).trans v36
      unfold J_X4_step_195
      exact ok_some (show CI ad h.1 δ0 r57 ∧ (kp [(1, 3), (1, 4), (1, 5), (1, 6), (1, 7), (1, 8), (1, 9), (1, 10), (1, 11), (1, 12), (1, 13), (1, 14), (1, 15), (3, 1), (4, 5), (4, 6), (4, 7), (4, 8), (4, 9), (4, 10), (4, 11), (4, 12), (4, 13), (4, 14), (4, 15)] δ r57 ∧ q_V r57 = q_V δ) from ⟨i59, ⟨kp_w (by decide) u62, v63⟩⟩)
    · have c64 : vx20.toInt ≠ (1 : Int) := o_ne h47
      refine ok_ite (fun h65 => ?_) (fun h65 => ?_)
      · have c66 : vx20.toInt = (2 : Int) := o_eq h65
        refine ok_bind (k_X4_hold L hN (a0 := a0) (x1 := (q_I d27 4 8 a0)) k_a0 i29) (fun r67 hr68 => ?_)
        obtain ⟨i69, ⟨u70, u71⟩⟩ := hr68
        have u72 := kp_t u35 u70
        have v73 : q_V r67 = q_V δ := (u71).trans v36
        unfold J_X4_step_195
        exact ok_some (show CI ad h.1 δ0 r67 ∧ (kp [(1, 3), (1, 4), (1, 5), (1, 6), (1, 7), (1, 8), (1, 9), (1, 10), (1, 11), (1, 12), (1, 13), (1, 14), (1, 15), (3, 1), (4, 5), (4, 6), (4, 7), (4, 8), (4, 9), (4, 10), (4, 11), (4, 12), (4, 13), (4, 14), (4, 15)] δ r67 ∧ q_V r67 = q_V δ) from ⟨i69, ⟨kp_w (by decide) u72, v73⟩⟩)
      · have c74 : vx20.toInt ≠ (2 : Int) := o_ne h65
        refine ok_ite (fun h75 => ?_) (fun h75 => ?_)
        · have c76 : vx20.toInt = (3 : Int) := o_eq h75
          obtain ⟨b77, o78, k79⟩ := gO_4_1 L k_a0
          refine ok_at o78 ?_
          refine ok_bind (k_X4_hold L hN (a0 := a0) (x1 := (q_I d27 3 1 b77)) k_a0 i29) (fun r80 hr81 => ?_)
          obtain ⟨i82, ⟨u83, u84⟩⟩ := hr81
          have u85 := kp_t u35 u83
          have v86 : q_V r80 = q_V δ := (u84).trans v36
          unfold J_X4_step_195
          exact ok_some (show CI ad h.1 δ0 r80 ∧ (kp [(1, 3), (1, 4), (1, 5), (1, 6), (1, 7), (1, 8), (1, 9), (1, 10), (1, 11), (1, 12), (1, 13), (1, 14), (1, 15), (3, 1), (4, 5), (4, 6), (4, 7), (4, 8), (4, 9), (4, 10), (4, 11), (4, 12), (4, 13), (4, 14), (4, 15)] δ r80 ∧ q_V r80 = q_V δ) from ⟨i82, ⟨kp_w (by decide) u85, v86⟩⟩)
        · have c87 : vx20.toInt ≠ (3 : Int) := o_ne h75
          refine ok_ite (fun h88 => ?_) (fun h88 => ?_)
          · have c89 : vx20.toInt = (4 : Int) := o_eq h88
            refine ok_bind (k_X4_nextDraw L hN (a0 := a0) k_a0 i29) (fun r90 hr91 => ?_)
            obtain ⟨i92, ⟨u93, u94, u95⟩⟩ := hr91
            have u96 := kp_t u35 u93
            have v97 : q_V r90.2 = q_V δ := (u94).trans v36
            have f98 := ti_b r90.1
            refine ok_bind (k_X4_hold L hN (a0 := a0) (x1 := r90.1) k_a0 i92) (fun r99 hr100 => ?_)
            obtain ⟨i101, ⟨u102, u103⟩⟩ := hr100
            have u104 := kp_t u96 u102
            have v105 : q_V r99 = q_V δ := (u103).trans v97
            unfold J_X4_step_195
            exact ok_some (show CI ad h.1 δ0 r99 ∧ (kp [(1, 3), (1, 4), (1, 5), (1, 6), (1, 7), (1, 8), (1, 9), (1, 10), (1, 11), (1, 12), (1, 13), (1, 14), (1, 15), (3, 1), (4, 5), (4, 6), (4, 7), (4, 8), (4, 9), (4, 10), (4, 11), (4, 12), (4, 13), (4, 14), (4, 15)] δ r99 ∧ q_V r99 = q_V δ) from ⟨i101, ⟨kp_w (by decide) u104, v105⟩⟩)
          · have c106 : vx20.toInt ≠ (4 : Int) := o_ne h88
            refine ok_ite (fun h107 => ?_) (fun h107 => ?_)
            · have c108 : vx20.toInt = (5 : Int) := o_eq h107
              unfold J_X4_step_190
              refine ok_bind (k_X4_reckon L hN (a0 := a0) (x1 := vx20) k_a0 i29) (fun r109 hr110 => ?_)
              obtain ⟨i111, ⟨u112, u113⟩⟩ := hr110
              have u114 := kp_t u35 u112
              have v115 : q_V r109 = q_V δ := (u113).trans v36
              unfold J_X4_step_195
              exact ok_some (show CI ad h.1 δ0 r109 ∧ (kp [(1, 3), (1, 4), (1, 5), (1, 6), (1, 7), (1, 8), (1, 9), (1, 10), (1, 11), (1, 12), (1, 13), (1, 14), (1, 15), (3, 1), (4, 5), (4, 6), (4, 7), (4, 8), (4, 9), (4, 10), (4, 11), (4, 12), (4, 13), (4, 14), (4, 15)] δ r109 ∧ q_V r109 = q_V δ) from ⟨i111, ⟨kp_w (by decide) u114, v115⟩⟩)
            · have c116 : vx20.toInt ≠ (5 : Int) := o_ne h107
              refine ok_ite (fun h117 => ?_) (fun h117 => ?_)
              · have c118 : vx20.toInt = (6 : Int) := o_eq h117
                unfold J_X4_step_190
                refine ok_bind (k_X4_reckon L hN (a0 := a0) (x1 := vx20) k_a0 i29) (fun r119 hr120 => ?_)
                obtain ⟨i121, ⟨u122, u123⟩⟩ := hr120
                have u124 := kp_t u35 u122
                have v125 : q_V r119 = q_V δ := (u123).trans v36
                unfold J_X4_step_195
                exact ok_some (show CI ad h.1 δ0 r119 ∧ (kp [(1, 3), (1, 4), (1, 5), (1, 6), (1, 7), (1, 8), (1, 9), (1, 10), (1, 11), (1, 12), (1, 13), (1, 14), (1, 15), (3, 1), (4, 5), (4, 6), (4, 7), (4, 8), (4, 9), (4, 10), (4, 11), (4, 12), (4, 13), (4, 14), (4, 15)] δ r119 ∧ q_V r119 = q_V δ) from ⟨i121, ⟨kp_w (by decide) u124, v125⟩⟩)
              · have c126 : vx20.toInt ≠ (6 : Int) := o_ne h117
                refine ok_ite (fun h127 => ?_) (fun h127 => ?_)
                · have c128 : vx20.toInt = (7 : Int) := o_eq h127
                  unfold J_X4_step_190
                  refine ok_bind (k_X4_reckon L hN (a0 := a0) (x1 := vx20) k_a0 i29) (fun r129 hr130 => ?_)
                  obtain ⟨i131, ⟨u132, u133⟩⟩ := hr130
                  have u134 := kp_t u35 u132
                  have v135 : q_V r129 = q_V δ := (u133).trans v36
                  unfold J_X4_step_195
                  exact ok_some (show CI ad h.1 δ0 r129 ∧ (kp [(1, 3), (1, 4), (1, 5), (1, 6), (1, 7), (1, 8), (1, 9), (1, 10), (1, 11), (1, 12), (1, 13), (1, 14), (1, 15), (3, 1), (4, 5), (4, 6), (4, 7), (4, 8), (4, 9), (4, 10), (4, 11), (4, 12), (4, 13), (4, 14), (4, 15)] δ r129 ∧ q_V r129 = q_V δ) from ⟨i131, ⟨kp_w (by decide) u134, v135⟩⟩)
                · have c136 : vx20.toInt ≠ (7 : Int) := o_ne h127
                  refine ok_ite (fun h137 => ?_) (fun h137 => ?_)
                  · have c138 : vx20.toInt = (8 : Int) := o_eq h137
                    unfold J_X4_step_190
                    refine ok_bind (k_X4_reckon L hN (a0 := a0) (x1 := vx20) k_a0 i29) (fun r139 hr140 => ?_)
                    obtain ⟨i141, ⟨u142, u143⟩⟩ := hr140
                    have u144 := kp_t u35 u142
                    have v145 : q_V r139 = q_V δ := (u143).trans v36
                    unfold J_X4_step_195
                    exact ok_some (show CI ad h.1 δ0 r139 ∧ (kp [(1, 3), (1, 4), (1, 5), (1, 6), (1, 7), (1, 8), (1, 9), (1, 10), (1, 11), (1, 12), (1, 13), (1, 14), (1, 15), (3, 1), (4, 5), (4, 6), (4, 7), (4, 8), (4, 9), (4, 10), (4, 11), (4, 12), (4, 13), (4, 14), (4, 15)] δ r139 ∧ q_V r139 = q_V δ) from ⟨i141, ⟨kp_w (by decide) u144, v145⟩⟩)
                  · have c146 : vx20.toInt ≠ (8 : Int) := o_ne h137
                    refine ok_ite (fun h147 => ?_) (fun h147 => ?_)
                    · have c148 : vx20.toInt = (9 : Int) := o_eq h147
                      refine ok_bind (k_X4_yieldHeld L hN (a0 := a0) k_a0 i29) (fun r149 hr150 => ?_)
                      obtain ⟨i151, ⟨u152, u153, u154⟩⟩ := hr150
                      have u155 := kp_t u35 u152
                      have v156 : q_V r149.2 = q_V δ := (u153).trans v36
                      have f157 := ti_b r149.1
                      obtain ⟨b158, o159, k160⟩ := gO_4_0 L k_a0
                      refine ok_at o159 ?_
                      refine ok_bind (k_X5_greatest L hN (a0 := b158) k160 i151) (fun r161 hr162 => ?_)
                      obtain ⟨i163, p164, p165, p166, p167⟩ := hr162
                      try rw [i163]
                      have f168 := ti_b r161.1
                      have f169 := cb_5_0 i151 k160
                      have f170 : (q_I r149.2 5 0 b158).toInt = (q_I d27 5 0 b158).toInt := congrArg Int32.toInt (u152 5 0 b158 (by decide))
                      have f171 := cb_5_0 i29 k160
                      have f172 : (q_I d27 5 0 b158).toInt = (q_I δ 5 0 b158).toInt := congrArg Int32.toInt (by rw [e28]; exact rI_o (by decide))
                      have f173 := cb_5_0 I k160
                      have f174 := ti_b r161.1
                      refine ok_bind (k_X4_makeCall L hN (a0 := a0) (x1 := vx10) (x2 := (r149.1 &&& r161.1)) k_a0 i151) (fun r175 hr176 => ?_)
                      obtain ⟨i177, ⟨u178, u179⟩⟩ := hr176
                      have u180 := kp_t u155 u178
                      have v181 : q_V r175 = q_V δ := (u179).trans v156
                      unfold J_X4_step_195
                      exact ok_some (show CI ad h.1 δ0 r175 ∧ (kp [(1, 3), (1, 4), (1, 5), (1, 6), (1, 7), (1, 8), (1, 9), (1, 10), (1, 11), (1, 12), (1, 13), (1, 14), (1, 15), (3, 1), (4, 5), (4, 6), (4, 7), (4, 8), (4, 9), (4, 10), (4, 11), (4, 12), (4, 13), (4, 14), (4, 15)] δ r175 ∧ q_V r175 = q_V δ) from ⟨i177, ⟨kp_w (by decide) u180, v181⟩⟩)
                    · have c182 : vx20.toInt ≠ (9 : Int) := o_ne h147
                      refine ok_ite (fun h183 => ?_) (fun h183 => ?_)
                      · have c184 : vx20.toInt = (10 : Int) := o_eq h183
                        obtain ⟨b185, o186, k187, n188, w189⟩ := gO_4_3 L k_a0
                        refine ok_at o186 ?_
                        have f191 := ti_div (c := 4) (n := 4) rfl (by decide) vx10
                        have f192 := ti_b (vx10 / (4 : Int32))
                        first | (have q193 := te_mulr (c := 4) (n := 4) rfl (vx10 / (4 : Int32)) (by omega) (by omega); obtain ⟨f194, f195, f196⟩ := q193) | (obtain ⟨q193, f194, f195, f196⟩ := ti_mulr (c := 4) (n := 4) rfl (vx10 / (4 : Int32)))
                        first | (have q198 := te_sub vx10 (vx10 / (4 : Int32) * (4 : Int32)) (by omega) (by omega); obtain ⟨f199, f200, f201⟩ := q198) | (obtain ⟨q198, f199, f200, f201⟩ := ti_sub vx10 (vx10 / (4 : Int32) * (4 : Int32)))
                        have t202 := ti_tn (vx10 - vx10 / (4 : Int32) * (4 : Int32))
                        refine ok_gd (fun hc203 => ?_) ?_
                        · rcases hc203 with hc203 | hc203
                          · have c204 : (vx10 - vx10 / (4 : Int32) * (4 : Int32)).toInt < (0 : Int) := o_lt hc203
                            omega
                          · omega
                        refine ok_bdv (fun d205 e206 => ?_)
                        have i207 : CI ad h.1 δ0 d205 := by rw [e206]; exact CI.sR L i29 w189
                        have u208 := kp_N u35 (show q_I d205 = q_I d27 by rw [e206]; rfl)
                        have v209 : q_V d205 = q_V δ := ((show q_V d205 = q_V d27 by rw [e206]; rfl)).trans v36
                        unfold J_X4_step_195
                        exact ok_some (show CI ad h.1 δ0 d205 ∧ (kp [(1, 3), (1, 4), (1, 5), (1, 6), (1, 7), (1, 8), (1, 9), (1, 10), (1, 11), (1, 12), (1, 13), (1, 14), (1, 15), (3, 1), (4, 5), (4, 6), (4, 7), (4, 8), (4, 9), (4, 10), (4, 11), (4, 12), (4, 13), (4, 14), (4, 15)] δ d205 ∧ q_V d205 = q_V δ) from ⟨i207, ⟨kp_w (by decide) u208, v209⟩⟩)
                      · have c210 : vx20.toInt ≠ (10 : Int) := o_ne h183
                        refine ok_ite (fun h211 => ?_) (fun h211 => ?_)
                        · have c212 : vx20.toInt = (11 : Int) := o_eq h211
                          refine ok_bind (k_X4_goRound L hN (a0 := a0) (a1 := a1) (x2 := vx10) k_a0 k_a1 (show 0 ≤ (vx10).toInt by first | assumption | omega) (show (vx10).toInt < 500 by first | assumption | omega) i29) (fun r213 hr214 => ?_)
                          obtain ⟨i215, ⟨u216, u217⟩⟩ := hr214
                          have u218 := kp_t u35 u216
                          have v219 : q_V r213 = q_V δ := (u217).trans v36
                          unfold J_X4_step_195
                          exact ok_some (show CI ad h.1 δ0 r213 ∧ (kp [(1, 3), (1, 4), (1, 5), (1, 6), (1, 7), (1, 8), (1, 9), (1, 10), (1, 11), (1, 12), (1, 13), (1, 14), (1, 15), (3, 1), (4, 5), (4, 6), (4, 7), (4, 8), (4, 9), (4, 10), (4, 11), (4, 12), (4, 13), (4, 14), (4, 15)] δ r213 ∧ q_V r213 = q_V δ) from ⟨i215, ⟨kp_w (by decide) u218, v219⟩⟩)
                        · have c220 : vx20.toInt ≠ (11 : Int) := o_ne h211
                          unfold J_X4_step_190
                          refine ok_bind (k_X4_reckon L hN (a0 := a0) (x1 := vx20) k_a0 i29) (fun r221 hr222 => ?_)
                          obtain ⟨i223, ⟨u224, u225⟩⟩ := hr222
                          have u226 := kp_t u35 u224
                          have v227 : q_V r221 = q_V δ := (u225).trans v36
                          unfold J_X4_step_195
                          exact ok_some (show CI ad h.1 δ0 r221 ∧ (kp [(1, 3), (1, 4), (1, 5), (1, 6), (1, 7), (1, 8), (1, 9), (1, 10), (1, 11), (1, 12), (1, 13), (1, 14), (1, 15), (3, 1), (4, 5), (4, 6), (4, 7), (4, 8), (4, 9), (4, 10), (4, 11), (4, 12), (4, 13), (4, 14), (4, 15)] δ r221 ∧ q_V r221 = q_V δ) from ⟨i223, ⟨kp_w (by decide) u226, v227⟩⟩)
set_option maxHeartbeats 4000000 in
theorem kl_X4_go_41 {ad : List Nat} {h : hp} (L : Lay TLx ad h) {δ0 : dp} {N : Nat} (hN : 10000000 ≤ N) {a0 : Nat} {a1 : Nat} {a2 : Nat} {x3 : Int32} (k_a0 : q_K h.1 a0 = 4) (k_a1 : q_K h.1 a1 = 8) (k_a2 : q_K h.1 a2 = 3) : ∀ (n : Nat) (x4v : Int32) (δ : dp), CI ad h.1 δ0 δ → 0 ≤ (x4v).toInt → (x4v).toInt ≤ 4000000 → 4000000 - (x4v).toInt < (n : Int) → ok (L_X4_go_41 N h.1 a0 a1 a2 x3 n x4v δ) (fun r => CI ad h.1 δ0 r ∧ (kp [(1, 3), (1, 4), (1, 5), (1, 6), (1, 7), (1, 8), (1, 9), (1, 10), (1, 11), (1, 12), (1, 13), (1, 14), (1, 15), (3, 1), (4, 5), (4, 6), (4, 7), (4, 8), (4, 9), (4, 10), (4, 11), (4, 12), (4, 13), (4, 14), (4, 15), (4, 16), (4, 19)] δ r)) := by
  intro n
  induction n with
  | zero =>
    intro x4v δ I j0 j1 hm
    have f1 := ti_b x4v
    exfalso; omega
  | succ n ih =>
    intro x4v δ I j0 j1 hm
    unfold L_X4_go_41
    have f1 := ti_b x4v
    refine ok_ite (fun h2 => ?_) (fun h2 => ?_)
    · have c3 : (4000000 : Int) ≤ x4v.toInt := o_le h2
      unfold J_X4_go_77
      refine ok_bdv (fun d4 e5 => ?_)
      have i6 : CI ad h.1 δ0 d4 := by rw [e5]; exact cs_4_16 L I k_a0 (show 0 ≤ (1 : Int) by omega) (show (1 : Int) ≤ 1 by omega)
      have u7 := kp_I kp_r e5
      refine ok_bdv (fun d8 e9 => ?_)
      have i10 : CI ad h.1 δ0 d8 := by rw [e9]; exact CI.sV i6
      have u11 := kp_N u7 (show q_I d8 = q_I d4 by rw [e9]; rfl)
      refine ok_bdv (fun d12 e13 => ?_)
      have i14 : CI ad h.1 δ0 d12 := by rw [e13]; exact CI.sV i10
      have u15 := kp_N u11 (show q_I d12 = q_I d8 by rw [e13]; rfl)
      have f19 := ti_b x3
      refine ok_bdv (fun d16 e17 => ?_)
      have i18 : CI ad h.1 δ0 d16 := by rw [e17]; exact cs_4_19 L i14
      have u20 := kp_I u15 e17
      exact ok_some (show CI ad h.1 δ0 d16 ∧ (kp [(1, 3), (1, 4), (1, 5), (1, 6), (1, 7), (1, 8), (1, 9), (1, 10), (1, 11), (1, 12), (1, 13), (1, 14), (1, 15), (3, 1), (4, 5), (4, 6), (4, 7), (4, 8), (4, 9), (4, 10), (4, 11), (4, 12), (4, 13), (4, 14), (4, 15), (4, 16), (4, 19)] δ d16) from ⟨i18, kp_w (by decide) u20⟩)
    · have c21 : x4v.toInt < (4000000 : Int) := o_nle h2
      have f22 := cb_8_2 I k_a1
      have f23 := cb_4_6 I k_a0
      refine ok_ite (fun h24 => ?_) (fun h24 => ?_)
      · have c25 : (q_I δ 8 2 a1).toInt ≤ (q_I δ 4 6 a0).toInt := o_le h24
        unfold J_X4_go_77
        refine ok_bdv (fun d26 e27 => ?_)
        have i28 : CI ad h.1 δ0 d26 := by rw [e27]; exact cs_4_16 L I k_a0 (show 0 ≤ (1 : Int) by omega) (show (1 : Int) ≤ 1 by omega)
        have u29 := kp_I kp_r e27
        refine ok_bdv (fun d30 e31 => ?_)
        have i32 : CI ad h.1 δ0 d30 := by rw [e31]; exact CI.sV i28
        have u33 := kp_N u29 (show q_I d30 = q_I d26 by rw [e31]; rfl)
        refine ok_bdv (fun d34 e35 => ?_)
        have i36 : CI ad h.1 δ0 d34 := by rw [e35]; exact CI.sV i32
        have u37 := kp_N u33 (show q_I d34 = q_I d30 by rw [e35]; rfl)
        have f41 := ti_b x3
        refine ok_bdv (fun d38 e39 => ?_)
        have i40 : CI ad h.1 δ0 d38 := by rw [e39]; exact cs_4_19 L i36
        have u42 := kp_I u37 e39
        exact ok_some (show CI ad h.1 δ0 d38 ∧ (kp [(1, 3), (1, 4), (1, 5), (1, 6), (1, 7), (1, 8), (1, 9), (1, 10), (1, 11), (1, 12), (1, 13), (1, 14), (1, 15), (3, 1), (4, 5), (4, 6), (4, 7), (4, 8), (4, 9), (4, 10), (4, 11), (4, 12), (4, 13), (4, 14), (4, 15), (4, 16), (4, 19)] δ d38) from ⟨i40, kp_w (by decide) u42⟩)
      · have c43 : (q_I δ 4 6 a0).toInt < (q_I δ 8 2 a1).toInt := o_nle h24
        have f44 := cb_4_9 I k_a0
        refine ok_ite (fun h45 => ?_) (fun h45 => ?_)
        · have c46 : (q_I δ 4 9 a0).toInt = (0 : Int) := o_eq h45
          refine ok_bind (k_X4_step L hN (a0 := a0) (a1 := a1) k_a0 k_a1 (show (q_I δ 4 6 a0).toInt < (q_I δ 8 2 a1).toInt by first | assumption | omega) I) (fun r47 hr48 => ?_)
          obtain ⟨i49, ⟨u50, u51⟩⟩ := hr48
          have u52 := kp_t kp_r u50
          refine ok_biv (fun vx53 e54 => ?_)
          first | (have q55 := te_addc (c := 1) (n := 1) rfl x4v (by omega) (by omega); rw [← e54] at q55; obtain ⟨f56, f57, f58⟩ := q55) | (obtain ⟨q55, f56, f57, f58⟩ : ∃ q : Int, vx53.toInt = x4v.toInt + (1 : Int) + 4294967296 * q ∧ -2147483648 ≤ vx53.toInt ∧ vx53.toInt ≤ 2147483647 := by rw [e54]; exact ti_addc (c := 1) (n := 1) rfl x4v)
          refine ok_mono (ih vx53 r47 i49 (show 0 ≤ (vx53).toInt by first | assumption | omega) (show (vx53).toInt ≤ 4000000 by first | assumption | omega) (show 4000000 - (vx53).toInt < _ by omega)) (fun r59 hr60 => ?_)
          obtain ⟨i61, u62⟩ := hr60
          have u63 := kp_t u52 u62
          exact ⟨by assumption, kp_w (by decide) u63⟩
        · have c64 : (q_I δ 4 9 a0).toInt ≠ (0 : Int) := o_ne h45
          unfold J_X4_go_77
          refine ok_bdv (fun d65 e66 => ?_)
          have i67 : CI ad h.1 δ0 d65 := by rw [e66]; exact cs_4_16 L I k_a0 (show 0 ≤ (1 : Int) by omega) (show (1 : Int) ≤ 1 by omega)
          have u68 := kp_I kp_r e66
          refine ok_bdv (fun d69 e70 => ?_)
          have i71 : CI ad h.1 δ0 d69 := by rw [e70]; exact CI.sV i67
          have u72 := kp_N u68 (show q_I d69 = q_I d65 by rw [e70]; rfl)
          refine ok_bdv (fun d73 e74 => ?_)
          have i75 : CI ad h.1 δ0 d73 := by rw [e74]; exact CI.sV i71
          have u76 := kp_N u72 (show q_I d73 = q_I d69 by rw [e74]; rfl)
          have f80 := ti_b x3
          refine ok_bdv (fun d77 e78 => ?_)
          have i79 : CI ad h.1 δ0 d77 := by rw [e78]; exact cs_4_19 L i75
          have u81 := kp_I u76 e78
          exact ok_some (show CI ad h.1 δ0 d77 ∧ (kp [(1, 3), (1, 4), (1, 5), (1, 6), (1, 7), (1, 8), (1, 9), (1, 10), (1, 11), (1, 12), (1, 13), (1, 14), (1, 15), (3, 1), (4, 5), (4, 6), (4, 7), (4, 8), (4, 9), (4, 10), (4, 11), (4, 12), (4, 13), (4, 14), (4, 15), (4, 16), (4, 19)] δ d77) from ⟨i79, kp_w (by decide) u81⟩)
set_option maxHeartbeats 4000000 in
theorem k_X4_go {ad : List Nat} {h : hp} (L : Lay TLx ad h) {δ0 : dp} {N : Nat} (hN : 10000000 ≤ N) {a0 : Nat} {a1 : Nat} {a2 : Nat} {x3 : Int32} (k_a0 : q_K h.1 a0 = 4) (k_a1 : q_K h.1 a1 = 8) (k_a2 : q_K h.1 a2 = 3) {δ : dp} (I : CI ad h.1 δ0 δ) : ok (D_X4_go N h.1 a0 a1 a2 x3 δ) (fun r => CI ad h.1 δ0 r ∧ (kp [(1, 3), (1, 4), (1, 5), (1, 6), (1, 7), (1, 8), (1, 9), (1, 10), (1, 11), (1, 12), (1, 13), (1, 14), (1, 15), (3, 1), (4, 5), (4, 6), (4, 7), (4, 8), (4, 9), (4, 10), (4, 11), (4, 12), (4, 13), (4, 14), (4, 15), (4, 16), (4, 19)] δ r)) := by
  unfold D_X4_go
  have f1 := cb_4_16 I k_a0
  refine ok_ite (fun h2 => ?_) (fun h2 => ?_)
  · have c3 : (q_I δ 4 16 a0).toInt = (0 : Int) := o_eq h2
    unfold J_X4_go_32
    refine ok_bind (k_X4_begin L hN (a0 := a0) (a1 := a2) (x2 := x3) k_a0 k_a2 I) (fun r4 hr5 => ?_)
    obtain ⟨i6, ⟨u7, u8⟩⟩ := hr5
    have u9 := kp_t kp_r u7
    refine ok_mono (kl_X4_go_41 L hN   k_a0 k_a1 k_a2 _ (0 : Int32) r4 i6 (show 0 ≤ (0 : Int) by first | assumption | omega) (show (0 : Int) ≤ 4000000 by first | assumption | omega) (show 4000000 - (0 : Int) < _ by omega)) (fun r10 hr11 => ?_)
    obtain ⟨i12, u13⟩ := hr11
    have u14 := kp_t u9 u13
    exact ⟨by assumption, kp_w (by decide) u14⟩
  · have c15 : (q_I δ 4 16 a0).toInt ≠ (0 : Int) := o_ne h2
    refine ok_ite (fun h16 => ?_) (fun h16 => ?_)
    · refine ok_ite (fun h17 => ?_) (fun h17 => ?_)
      · have f18 := ti_b x3
        have f19 := ti_b (q_I δ 4 19 a0)
        refine ok_ite (fun h20 => ?_) (fun h20 => ?_)
        · have c21 : x3.toInt = (q_I δ 4 19 a0).toInt := o_eq h20
          exact ok_some (show CI ad h.1 δ0 δ ∧ (kp [(1, 3), (1, 4), (1, 5), (1, 6), (1, 7), (1, 8), (1, 9), (1, 10), (1, 11), (1, 12), (1, 13), (1, 14), (1, 15), (3, 1), (4, 5), (4, 6), (4, 7), (4, 8), (4, 9), (4, 10), (4, 11), (4, 12), (4, 13), (4, 14), (4, 15), (4, 16), (4, 19)] δ δ) from ⟨I, kp_w (by decide) kp_r⟩)
        · have c22 : x3.toInt ≠ (q_I δ 4 19 a0).toInt := o_ne h20
          unfold J_X4_go_32
          refine ok_bind (k_X4_begin L hN (a0 := a0) (a1 := a2) (x2 := x3) k_a0 k_a2 I) (fun r23 hr24 => ?_)
          obtain ⟨i25, ⟨u26, u27⟩⟩ := hr24
          have u28 := kp_t kp_r u26
          refine ok_mono (kl_X4_go_41 L hN   k_a0 k_a1 k_a2 _ (0 : Int32) r23 i25 (show 0 ≤ (0 : Int) by first | assumption | omega) (show (0 : Int) ≤ 4000000 by first | assumption | omega) (show 4000000 - (0 : Int) < _ by omega)) (fun r29 hr30 => ?_)
          obtain ⟨i31, u32⟩ := hr30
          have u33 := kp_t u28 u32
          exact ⟨by assumption, kp_w (by decide) u33⟩
      · unfold J_X4_go_32
        refine ok_bind (k_X4_begin L hN (a0 := a0) (a1 := a2) (x2 := x3) k_a0 k_a2 I) (fun r34 hr35 => ?_)
        obtain ⟨i36, ⟨u37, u38⟩⟩ := hr35
        have u39 := kp_t kp_r u37
        refine ok_mono (kl_X4_go_41 L hN   k_a0 k_a1 k_a2 _ (0 : Int32) r34 i36 (show 0 ≤ (0 : Int) by first | assumption | omega) (show (0 : Int) ≤ 4000000 by first | assumption | omega) (show 4000000 - (0 : Int) < _ by omega)) (fun r40 hr41 => ?_)
        obtain ⟨i42, u43⟩ := hr41
        have u44 := kp_t u39 u43
        exact ⟨by assumption, kp_w (by decide) u44⟩
    · unfold J_X4_go_32
      refine ok_bind (k_X4_begin L hN (a0 := a0) (a1 := a2) (x2 := x3) k_a0 k_a2 I) (fun r45 hr46 => ?_)
      obtain ⟨i47, ⟨u48, u49⟩⟩ := hr46
      have u50 := kp_t kp_r u48
      refine ok_mono (kl_X4_go_41 L hN   k_a0 k_a1 k_a2 _ (0 : Int32) r45 i47 (show 0 ≤ (0 : Int) by first | assumption | omega) (show (0 : Int) ≤ 4000000 by first | assumption | omega) (show 4000000 - (0 : Int) < _ by omega)) (fun r51 hr52 => ?_)
      obtain ⟨i53, u54⟩ := hr52
      have u55 := kp_t u50 u54
      exact ⟨by assumption, kp_w (by decide) u55⟩
