section
set_option maxHeartbeats 4000000 in
theorem k_X9_read {ad : List Nat} {h : hp} (L : Lay TLx ad h) {δ0 : dp} {N : Nat} (hN : 10000000 ≤ N) {a0 : Nat} {a1 : Nat} {a2 : Nat} (k_a0 : q_K h.1 a0 = 9) (k_a1 : q_K h.1 a1 = 7) (k_a2 : q_K h.1 a2 = 8) {δ : dp} (I : CI ad h.1 δ0 δ) : ok (D_X9_read N h.1 a0 a1 a2 δ) (fun r => CI ad h.1 δ0 r ∧ (kp [(7, 3), (7, 4), (7, 5), (7, 6), (8, 2), (8, 3), (9, 2), (9, 3), (9, 4)] δ r)) := by
  unfold D_X9_read
  refine ok_bdv (fun d1 e1 => ?_)
  refine ok_bdv (fun d3 e3 => ?_)
  have v0 : q_V d3 9 0 a0 = some a1 := by
    rw [e3, e1]
    simp [q_V, s_V, va_up]
  have v1 : q_V d3 9 1 a0 = some a2 := by
    rw [e3]
    simp [q_V, s_V, va_up]
  have i1 : CI ad h.1 δ0 d1 := by rw [e1]; exact CI.sV I
  have i3 : CI ad h.1 δ0 d3 := by rw [e3]; exact CI.sV i1
  have u3 := kp_N (kp_N (W := []) (δ := δ) kp_r (show q_I d1 = q_I δ by rw [e1]; rfl)) (show q_I d3 = q_I d1 by rw [e3]; rfl)
  refine ok_at v1 ?_
  refine ok_gp k_a2 ?_
  refine ok_bind (k_X8_clear L hN (a0 := a2) k_a2 i3) (fun r hr => ?_)
  obtain ⟨i8, ⟨u8, v8, w8⟩, p8⟩ := hr
  refine ok_bdv (fun d9 e9 => ?_)
  have i9 : CI ad h.1 δ0 d9 := by rw [e9]; exact cs_9_2 L i8
  refine ok_bdv (fun d11 e11 => ?_)
  have i11 : CI ad h.1 δ0 d11 := by rw [e11]; exact cs_9_3 L i9
  refine ok_bdv (fun d13 e13 => ?_)
  have i13 : CI ad h.1 δ0 d13 := by rw [e13]; exact cs_9_4 L i11 k_a0 (by decide) (by decide)
  have u13 := kp_I (kp_I (kp_I (kp_t u3 u8) e9) e11) e13
  have v13 : q_V d13 = q_V d3 := by
    rw [← v8, e13, e11, e9]
    rfl
  have z4 : (q_I d13 9 4 a0).toInt = 0 := by
    rw [e13, rI_s]
    rfl
  have e0 : (0 : Int32).toInt = 0 := rfl
  have ls : LSn ad d13 a2 (q_I d13 9 4 a0).toInt := ⟨fun i hi => by omega, fun i j hij hj => by omega⟩
  refine ok_mono (kl_X9_read_34 L hN (tp := a1) (th := a2) (a1 := a1) (a2 := a2) k_a0 N 0 d13 i13 (by omega) (by omega) (by rw [v13]; exact v0) (by rw [v13]; exact v1) k_a1 k_a2 ls (by omega)) (fun r2 hr2 => ?_)
  exact ⟨hr2.1, kp_w (by decide) (kp_t u13 hr2.2.1)⟩
end
section
/-! 64.kX4 (by gen_safe.py) -/
set_option maxHeartbeats 4000000 in
theorem k_X4_forget {ad : List Nat} {h : hp} (L : Lay TLx ad h) {δ0 : dp} {N : Nat} (hN : 10000000 ≤ N) {a0 : Nat} (k_a0 : q_K h.1 a0 = 4) {δ : dp} (I : CI ad h.1 δ0 δ) : ok (D_X4_forget N h.1 a0 δ) (fun r => CI ad h.1 δ0 r ∧ (kp [(4, 16)] δ r ∧ q_V r = q_V δ ∧ q_R r = q_R δ)) := by
  unfold D_X4_forget
  refine ok_bdv (fun d1 e2 => ?_)
  have i3 : CI ad h.1 δ0 d1 := by rw [e2]; exact cs_4_16 L I k_a0 (show 0 ≤ (0 : Int) by omega) (show (0 : Int) ≤ 1 by omega)
  have u4 := kp_I kp_r e2
  have v5 : q_V d1 = q_V δ := ((show q_V d1 = q_V δ by rw [e2]; rfl)).trans rfl
  have v6 : q_R d1 = q_R δ := ((show q_R d1 = q_R δ by rw [e2]; rfl)).trans rfl
  exact ok_some (show CI ad h.1 δ0 d1 ∧ (kp [(4, 16)] δ d1 ∧ q_V d1 = q_V δ ∧ q_R d1 = q_R δ) from ⟨i3, ⟨kp_w (by decide) u4, v5, v6⟩⟩)
set_option maxHeartbeats 4000000 in
theorem k_X4_tell {ad : List Nat} {h : hp} (L : Lay TLx ad h) {δ0 : dp} {N : Nat} (hN : 10000000 ≤ N) {a0 : Nat} {x1 : Int32} (k_a0 : q_K h.1 a0 = 4) {δ : dp} (I : CI ad h.1 δ0 δ) : ok (D_X4_tell N h.1 a0 x1 δ) (fun r => r.2 = δ) := by
  unfold D_X4_tell
  have f1 := ti_b x1
  refine ok_ite (fun h2 => ?_) (fun h2 => ?_)
  · have c3 : x1.toInt = (0 : Int) := o_eq h2
    exact ok_some (show δ = δ from rfl)
  · have c4 : x1.toInt ≠ (0 : Int) := o_ne h2
    refine ok_ite (fun h5 => ?_) (fun h5 => ?_)
    · have c6 : x1.toInt = (1 : Int) := o_eq h5
      exact ok_some (show δ = δ from rfl)
    · have c7 : x1.toInt ≠ (1 : Int) := o_ne h5
      refine ok_ite (fun h8 => ?_) (fun h8 => ?_)
      · have c9 : x1.toInt = (2 : Int) := o_eq h8
        exact ok_some (show δ = δ from rfl)
      · have c10 : x1.toInt ≠ (2 : Int) := o_ne h8
        refine ok_ite (fun h11 => ?_) (fun h11 => ?_)
        · have c12 : x1.toInt = (3 : Int) := o_eq h11
          exact ok_some (show δ = δ from rfl)
        · have c13 : x1.toInt ≠ (3 : Int) := o_ne h11
          refine ok_ite (fun h14 => ?_) (fun h14 => ?_)
          · have c15 : x1.toInt = (4 : Int) := o_eq h14
            exact ok_some (show δ = δ from rfl)
          · have c16 : x1.toInt ≠ (4 : Int) := o_ne h14
            refine ok_ite (fun h17 => ?_) (fun h17 => ?_)
            · have c18 : x1.toInt = (5 : Int) := o_eq h17
              exact ok_some (show δ = δ from rfl)
            · have c19 : x1.toInt ≠ (5 : Int) := o_ne h17
              obtain ⟨b20, o21, k22⟩ := gO_4_1 L k_a0
              refine ok_at o21 ?_
              exact ok_some (show δ = δ from rfl)
set_option maxHeartbeats 4000000 in
theorem k_X4_begin {ad : List Nat} {h : hp} (L : Lay TLx ad h) {δ0 : dp} {N : Nat} (hN : 10000000 ≤ N) {a0 : Nat} {a1 : Nat} {x2 : Int32} (k_a0 : q_K h.1 a0 = 4) (k_a1 : q_K h.1 a1 = 3) {δ : dp} (I : CI ad h.1 δ0 δ) : ok (D_X4_begin N h.1 a0 a1 x2 δ) (fun r => CI ad h.1 δ0 r ∧ (kp [(3, 1), (4, 5), (4, 6), (4, 7), (4, 8), (4, 9), (4, 10), (4, 11), (4, 12), (4, 13), (4, 14), (4, 15)] δ r ∧ q_V r = q_V δ)) := by
  unfold D_X4_begin
  obtain ⟨b1, o2, k3⟩ := gO_4_1 L k_a0
  refine ok_at o2 ?_
  refine ok_bind (k_X3_copyFrom L hN (a0 := b1) (a1 := a1) k3 k_a1 I) (fun r4 hr5 => ?_)
  obtain ⟨i6, ⟨u7, u8⟩⟩ := hr5
  have u9 := kp_t kp_r u7
  have v10 : q_V r4 = q_V δ := (u8).trans rfl
  refine ok_bdv (fun d11 e12 => ?_)
  have i13 : CI ad h.1 δ0 d11 := by rw [e12]; exact cs_4_5 L i6 k_a0 (show 0 ≤ (0 : Int) by omega) (show (0 : Int) ≤ 32 by omega)
  have u14 := kp_I u9 e12
  have v15 : q_V d11 = q_V δ := ((show q_V d11 = q_V r4 by rw [e12]; rfl)).trans v10
  refine ok_bdv (fun d16 e17 => ?_)
  have i18 : CI ad h.1 δ0 d16 := by rw [e17]; exact cs_4_6 L i13 k_a0 (show 0 ≤ (0 : Int) by omega) (show (0 : Int) ≤ 500 by omega)
  have u19 := kp_I u14 e17
  have v20 : q_V d16 = q_V δ := ((show q_V d16 = q_V d11 by rw [e17]; rfl)).trans v15
  have f24 := ti_b x2
  refine ok_bdv (fun d21 e22 => ?_)
  have i23 : CI ad h.1 δ0 d21 := by rw [e22]; exact cs_4_7 L i18
  have u25 := kp_I u19 e22
  have v26 : q_V d21 = q_V δ := ((show q_V d21 = q_V d16 by rw [e22]; rfl)).trans v20
  refine ok_bdv (fun d27 e28 => ?_)
  have i29 : CI ad h.1 δ0 d27 := by rw [e28]; exact cs_4_8 L i23
  have u30 := kp_I u25 e28
  have v31 : q_V d27 = q_V δ := ((show q_V d27 = q_V d21 by rw [e28]; rfl)).trans v26
  refine ok_bdv (fun d32 e33 => ?_)
  have i34 : CI ad h.1 δ0 d32 := by rw [e33]; exact cs_4_9 L i29 k_a0 (show 0 ≤ (0 : Int) by omega) (show (0 : Int) ≤ 1 by omega)
  have u35 := kp_I u30 e33
  have v36 : q_V d32 = q_V δ := ((show q_V d32 = q_V d27 by rw [e33]; rfl)).trans v31
  refine ok_bdv (fun d37 e38 => ?_)
  have i39 : CI ad h.1 δ0 d37 := by rw [e38]; exact cs_4_10 L i34
  have u40 := kp_I u35 e38
  have v41 : q_V d37 = q_V δ := ((show q_V d37 = q_V d32 by rw [e38]; rfl)).trans v36
  refine ok_bdv (fun d42 e43 => ?_)
  have i44 : CI ad h.1 δ0 d42 := by rw [e43]; exact cs_4_11 L i39
  have u45 := kp_I u40 e43
  have v46 : q_V d42 = q_V δ := ((show q_V d42 = q_V d37 by rw [e43]; rfl)).trans v41
  refine ok_bdv (fun d47 e48 => ?_)
  have i49 : CI ad h.1 δ0 d47 := by rw [e48]; exact cs_4_12 L i44
  have u50 := kp_I u45 e48
  have v51 : q_V d47 = q_V δ := ((show q_V d47 = q_V d42 by rw [e48]; rfl)).trans v46
  refine ok_bdv (fun d52 e53 => ?_)
  have i54 : CI ad h.1 δ0 d52 := by rw [e53]; exact cs_4_13 L i49
  have u55 := kp_I u50 e53
  have v56 : q_V d52 = q_V δ := ((show q_V d52 = q_V d47 by rw [e53]; rfl)).trans v51
  refine ok_bdv (fun d57 e58 => ?_)
  have i59 : CI ad h.1 δ0 d57 := by rw [e58]; exact cs_4_14 L i54
  have u60 := kp_I u55 e58
  have v61 : q_V d57 = q_V δ := ((show q_V d57 = q_V d52 by rw [e58]; rfl)).trans v56
  refine ok_bdv (fun d62 e63 => ?_)
  have i64 : CI ad h.1 δ0 d62 := by rw [e63]; exact cs_4_15 L i59
  have u65 := kp_I u60 e63
  have v66 : q_V d62 = q_V δ := ((show q_V d62 = q_V d57 by rw [e63]; rfl)).trans v61
  exact ok_some (show CI ad h.1 δ0 d62 ∧ (kp [(3, 1), (4, 5), (4, 6), (4, 7), (4, 8), (4, 9), (4, 10), (4, 11), (4, 12), (4, 13), (4, 14), (4, 15)] δ d62 ∧ q_V d62 = q_V δ) from ⟨i64, ⟨kp_w (by decide) u65, v66⟩⟩)
set_option maxHeartbeats 4000000 in
theorem k_X4_hold {ad : List Nat} {h : hp} (L : Lay TLx ad h) {δ0 : dp} {N : Nat} (hN : 10000000 ≤ N) {a0 : Nat} {x1 : Int32} (k_a0 : q_K h.1 a0 = 4) {δ : dp} (I : CI ad h.1 δ0 δ) : ok (D_X4_hold N h.1 a0 x1 δ) (fun r => CI ad h.1 δ0 r ∧ (kp [(4, 5)] δ r ∧ q_V r = q_V δ)) := by
  unfold D_X4_hold
  have f1 := cb_4_5 I k_a0
  refine ok_ite (fun h2 => ?_) (fun h2 => ?_)
  · have c3 : (32 : Int) ≤ (q_I δ 4 5 a0).toInt := o_le h2
    unfold J_X4_hold_29
    exact ok_some (show CI ad h.1 δ0 δ ∧ (kp [(4, 5)] δ δ ∧ q_V δ = q_V δ) from ⟨I, ⟨kp_w (by decide) kp_r, rfl⟩⟩)
  · have c4 : (q_I δ 4 5 a0).toInt < (32 : Int) := o_nle h2
    obtain ⟨b5, o6, k7, n8, w9⟩ := gO_4_4 L k_a0
    refine ok_at o6 ?_
    have t10 := ti_tn (q_I δ 4 5 a0)
    refine ok_gd (fun hc11 => ?_) ?_
    · rcases hc11 with hc11 | hc11
      · have c12 : (q_I δ 4 5 a0).toInt < (0 : Int) := o_lt hc11
        omega
      · omega
    refine ok_bdv (fun d13 e14 => ?_)
    have i15 : CI ad h.1 δ0 d13 := by rw [e14]; exact CI.sR L I w9
    have u16 := kp_N kp_r (show q_I d13 = q_I δ by rw [e14]; rfl)
    have v17 : q_V d13 = q_V δ := ((show q_V d13 = q_V δ by rw [e14]; rfl)).trans rfl
    have f21 : (q_I d13 4 5 a0).toInt = (q_I δ 4 5 a0).toInt := congrArg Int32.toInt (by rw [e14]; rfl)
    first | (have q23 := te_addc (c := 1) (n := 1) rfl (q_I d13 4 5 a0) (by omega) (by omega); obtain ⟨f24, f25, f26⟩ := q23) | (obtain ⟨q23, f24, f25, f26⟩ := ti_addc (c := 1) (n := 1) rfl (q_I d13 4 5 a0))
    refine ok_bdv (fun d18 e19 => ?_)
    have i20 : CI ad h.1 δ0 d18 := by rw [e19]; exact cs_4_5 L i15 k_a0 (show 0 ≤ ((q_I d13 4 5 a0) + (1 : Int32)).toInt by omega) (show ((q_I d13 4 5 a0) + (1 : Int32)).toInt ≤ 32 by omega)
    have u27 := kp_I u16 e19
    have v28 : q_V d18 = q_V δ := ((show q_V d18 = q_V d13 by rw [e19]; rfl)).trans v17
    unfold J_X4_hold_29
    exact ok_some (show CI ad h.1 δ0 d18 ∧ (kp [(4, 5)] δ d18 ∧ q_V d18 = q_V δ) from ⟨i20, ⟨kp_w (by decide) u27, v28⟩⟩)
set_option maxHeartbeats 4000000 in
theorem k_X4_yieldHeld {ad : List Nat} {h : hp} (L : Lay TLx ad h) {δ0 : dp} {N : Nat} (hN : 10000000 ≤ N) {a0 : Nat} (k_a0 : q_K h.1 a0 = 4) {δ : dp} (I : CI ad h.1 δ0 δ) : ok (D_X4_yieldHeld N h.1 a0 δ) (fun r => CI ad h.1 δ0 r.2 ∧ (kp [(4, 5)] δ r.2 ∧ q_V r.2 = q_V δ ∧ q_R r.2 = q_R δ)) := by
  unfold D_X4_yieldHeld
  have f1 := cb_4_5 I k_a0
  refine ok_ite (fun h2 => ?_) (fun h2 => ?_)
  · have c3 : (0 : Int) < (q_I δ 4 5 a0).toInt := o_lt h2
    first | (have q8 := te_subc (c := 1) (n := 1) rfl (q_I δ 4 5 a0) (by omega) (by omega); obtain ⟨f9, f10, f11⟩ := q8) | (obtain ⟨q8, f9, f10, f11⟩ := ti_subc (c := 1) (n := 1) rfl (q_I δ 4 5 a0))
    refine ok_bdv (fun d4 e5 => ?_)
    have i6 : CI ad h.1 δ0 d4 := by rw [e5]; exact cs_4_5 L I k_a0 (show 0 ≤ ((q_I δ 4 5 a0) - (1 : Int32)).toInt by omega) (show ((q_I δ 4 5 a0) - (1 : Int32)).toInt ≤ 32 by omega)
    have u12 := kp_I kp_r e5
    have v13 : q_V d4 = q_V δ := ((show q_V d4 = q_V δ by rw [e5]; rfl)).trans rfl
    have v14 : q_R d4 = q_R δ := ((show q_R d4 = q_R δ by rw [e5]; rfl)).trans rfl
    obtain ⟨b15, o16, k17, n18, w19⟩ := gO_4_4 L k_a0
    refine ok_at o16 ?_
    have f20 := cb_4_5 i6 k_a0
    have f21 : (q_I d4 4 5 a0).toInt = ((q_I δ 4 5 a0) - (1 : Int32)).toInt := congrArg Int32.toInt (show q_I d4 4 5 a0 = ((q_I δ 4 5 a0) - (1 : Int32)) by rw [e5]; exact rI_s)
    have t22 := ti_tn (q_I d4 4 5 a0)
    refine ok_gd (fun hc23 => ?_) ?_
    · rcases hc23 with hc23 | hc23
      · have c24 : (q_I d4 4 5 a0).toInt < (0 : Int) := o_lt hc23
        omega
      · omega
    exact ok_some (show CI ad h.1 δ0 d4 ∧ (kp [(4, 5)] δ d4 ∧ q_V d4 = q_V δ ∧ q_R d4 = q_R δ) from ⟨i6, ⟨kp_w (by decide) u12, v13, v14⟩⟩)
  · have c25 : (q_I δ 4 5 a0).toInt ≤ (0 : Int) := o_nlt h2
    exact ok_some (show CI ad h.1 δ0 δ ∧ (kp [(4, 5)] δ δ ∧ q_V δ = q_V δ ∧ q_R δ = q_R δ) from ⟨I, ⟨kp_w (by decide) kp_r, rfl, rfl⟩⟩)
set_option maxHeartbeats 4000000 in
theorem k_X4_reckon {ad : List Nat} {h : hp} (L : Lay TLx ad h) {δ0 : dp} {N : Nat} (hN : 10000000 ≤ N) {a0 : Nat} {x1 : Int32} (k_a0 : q_K h.1 a0 = 4) {δ : dp} (I : CI ad h.1 δ0 δ) : ok (D_X4_reckon N h.1 a0 x1 δ) (fun r => CI ad h.1 δ0 r ∧ (kp [(4, 5)] δ r ∧ q_V r = q_V δ)) := by
  unfold D_X4_reckon
  refine ok_bind (k_X4_yieldHeld L hN (a0 := a0) k_a0 I) (fun r1 hr2 => ?_)
  obtain ⟨i3, ⟨u4, u5, u6⟩⟩ := hr2
  have u7 := kp_t kp_r u4
  have v8 : q_V r1.2 = q_V δ := (u5).trans rfl
  have f9 := ti_b r1.1
  refine ok_bind (k_X4_yieldHeld L hN (a0 := a0) k_a0 i3) (fun r10 hr11 => ?_)
  obtain ⟨i12, ⟨u13, u14, u15⟩⟩ := hr11
  have u16 := kp_t u7 u13
  have v17 : q_V r10.2 = q_V δ := (u14).trans v8
  have f18 := ti_b r10.1
  have f19 := ti_b x1
  refine ok_ite (fun h20 => ?_) (fun h20 => ?_)
  · have c21 : x1.toInt = (5 : Int) := o_eq h20
    refine ok_bind (k_X4_hold L hN (a0 := a0) (x1 := (r10.1 + r1.1)) k_a0 i12) (fun r22 hr23 => ?_)
    obtain ⟨i24, ⟨u25, u26⟩⟩ := hr23
    have u27 := kp_t u16 u25
    have v28 : q_V r22 = q_V δ := (u26).trans v17
    unfold J_X4_reckon_72
    exact ok_some (show CI ad h.1 δ0 r22 ∧ (kp [(4, 5)] δ r22 ∧ q_V r22 = q_V δ) from ⟨i24, ⟨kp_w (by decide) u27, v28⟩⟩)
  · have c29 : x1.toInt ≠ (5 : Int) := o_ne h20
    refine ok_ite (fun h30 => ?_) (fun h30 => ?_)
    · have c31 : x1.toInt = (6 : Int) := o_eq h30
      refine ok_bind (k_X4_hold L hN (a0 := a0) (x1 := (r10.1 - r1.1)) k_a0 i12) (fun r32 hr33 => ?_)
      obtain ⟨i34, ⟨u35, u36⟩⟩ := hr33
      have u37 := kp_t u16 u35
      have v38 : q_V r32 = q_V δ := (u36).trans v17
      unfold J_X4_reckon_72
      exact ok_some (show CI ad h.1 δ0 r32 ∧ (kp [(4, 5)] δ r32 ∧ q_V r32 = q_V δ) from ⟨i34, ⟨kp_w (by decide) u37, v38⟩⟩)
    · have c39 : x1.toInt ≠ (6 : Int) := o_ne h30
      refine ok_ite (fun h40 => ?_) (fun h40 => ?_)
      · have c41 : x1.toInt = (7 : Int) := o_eq h40
        refine ok_bind (k_X4_hold L hN (a0 := a0) (x1 := (r10.1 * r1.1)) k_a0 i12) (fun r42 hr43 => ?_)
        obtain ⟨i44, ⟨u45, u46⟩⟩ := hr43
        have u47 := kp_t u16 u45
        have v48 : q_V r42 = q_V δ := (u46).trans v17
        unfold J_X4_reckon_72
        exact ok_some (show CI ad h.1 δ0 r42 ∧ (kp [(4, 5)] δ r42 ∧ q_V r42 = q_V δ) from ⟨i44, ⟨kp_w (by decide) u47, v48⟩⟩)
      · have c49 : x1.toInt ≠ (7 : Int) := o_ne h40
        refine ok_ite (fun h50 => ?_) (fun h50 => ?_)
        · have c51 : r1.1.toInt = (0 : Int) := o_eq h50
          unfold J_X4_reckon_69
          refine ok_bind (k_X4_hold L hN (a0 := a0) (x1 := (0 : Int32)) k_a0 i12) (fun r52 hr53 => ?_)
          obtain ⟨i54, ⟨u55, u56⟩⟩ := hr53
          have u57 := kp_t u16 u55
          have v58 : q_V r52 = q_V δ := (u56).trans v17
          unfold J_X4_reckon_72
          exact ok_some (show CI ad h.1 δ0 r52 ∧ (kp [(4, 5)] δ r52 ∧ q_V r52 = q_V δ) from ⟨i54, ⟨kp_w (by decide) u57, v58⟩⟩)
        · have c59 : r1.1.toInt ≠ (0 : Int) := o_ne h50
          refine ok_gd (fun hc60 => ?_) ?_
          · have c61 : r1.1.toInt = (0 : Int) := o_eq hc60
            omega
          unfold J_X4_reckon_69
          refine ok_bind (k_X4_hold L hN (a0 := a0) (x1 := (r10.1 - r10.1 / r1.1 * r1.1)) k_a0 i12) (fun r62 hr63 => ?_)
          obtain ⟨i64, ⟨u65, u66⟩⟩ := hr63
          have u67 := kp_t u16 u65
          have v68 : q_V r62 = q_V δ := (u66).trans v17
          unfold J_X4_reckon_72
          exact ok_some (show CI ad h.1 δ0 r62 ∧ (kp [(4, 5)] δ r62 ∧ q_V r62 = q_V δ) from ⟨i64, ⟨kp_w (by decide) u67, v68⟩⟩)
set_option maxHeartbeats 4000000 in
theorem k_X4_nextDraw {ad : List Nat} {h : hp} (L : Lay TLx ad h) {δ0 : dp} {N : Nat} (hN : 10000000 ≤ N) {a0 : Nat} (k_a0 : q_K h.1 a0 = 4) {δ : dp} (I : CI ad h.1 δ0 δ) : ok (D_X4_nextDraw N h.1 a0 δ) (fun r => CI ad h.1 δ0 r.2 ∧ (kp [(4, 7)] δ r.2 ∧ q_V r.2 = q_V δ ∧ q_R r.2 = q_R δ)) := by
  unfold D_X4_nextDraw
  have f5 := ti_b (q_I δ 4 7 a0)
  first | (have q6 := te_mulr (c := 1103515245) (n := 1103515245) rfl (q_I δ 4 7 a0) (by omega) (by omega); obtain ⟨f7, f8, f9⟩ := q6) | (obtain ⟨q6, f7, f8, f9⟩ := ti_mulr (c := 1103515245) (n := 1103515245) rfl (q_I δ 4 7 a0))
  first | (have q11 := te_addc (c := 12345) (n := 12345) rfl ((q_I δ 4 7 a0) * (1103515245 : Int32)) (by omega) (by omega); obtain ⟨f12, f13, f14⟩ := q11) | (obtain ⟨q11, f12, f13, f14⟩ := ti_addc (c := 12345) (n := 12345) rfl ((q_I δ 4 7 a0) * (1103515245 : Int32)))
  refine ok_bdv (fun d1 e2 => ?_)
  have i3 : CI ad h.1 δ0 d1 := by rw [e2]; exact cs_4_7 L I
  have u15 := kp_I kp_r e2
  have v16 : q_V d1 = q_V δ := ((show q_V d1 = q_V δ by rw [e2]; rfl)).trans rfl
  have v17 : q_R d1 = q_R δ := ((show q_R d1 = q_R δ by rw [e2]; rfl)).trans rfl
  obtain ⟨b18, o19, k20⟩ := gO_4_0 L k_a0
  refine ok_at o19 ?_
  refine ok_bind (k_X5_greatest L hN (a0 := b18) k20 i3) (fun r21 hr22 => ?_)
  obtain ⟨i23, p24, p25, p26, p27⟩ := hr22
  try rw [i23]
  have f28 := ti_b r21.1
  have f29 : (q_I d1 5 0 b18).toInt = (q_I δ 5 0 b18).toInt := congrArg Int32.toInt (by rw [e2]; exact rI_o (by decide))
  have f30 := cb_5_0 I k20
  first | (have q32 := te_addc (c := 1) (n := 1) rfl r21.1 (by omega) (by omega); obtain ⟨f33, f34, f35⟩ := q32) | (obtain ⟨q32, f33, f34, f35⟩ := ti_addc (c := 1) (n := 1) rfl r21.1)
  refine ok_gd (fun hc36 => ?_) ?_
  · have c37 : (r21.1 + (1 : Int32)).toInt = (0 : Int) := o_eq hc36
    omega
  exact ok_some (show CI ad h.1 δ0 d1 ∧ (kp [(4, 7)] δ d1 ∧ q_V d1 = q_V δ ∧ q_R d1 = q_R δ) from ⟨i3, ⟨kp_w (by decide) u15, v16, v17⟩⟩)
set_option maxHeartbeats 4000000 in
theorem k_X4_goRound {ad : List Nat} {h : hp} (L : Lay TLx ad h) {δ0 : dp} {N : Nat} (hN : 10000000 ≤ N) {a0 : Nat} {a1 : Nat} {x2 : Int32} (k_a0 : q_K h.1 a0 = 4) (k_a1 : q_K h.1 a1 = 8) {δ : dp} (z0 : 0 ≤ (x2).toInt) (z1 : (x2).toInt < 500) (I : CI ad h.1 δ0 δ) : ok (D_X4_goRound N h.1 a0 a1 x2 δ) (fun r => CI ad h.1 δ0 r ∧ (kp [(4, 6)] δ r ∧ q_V r = q_V δ)) := by
  unfold D_X4_goRound
  have f1 := ti_b x2
  obtain ⟨b2, o3, k4, n5⟩ := gO_8_1 L k_a1
  refine ok_at o3 ?_
  have t6 := ti_tn x2
  refine ok_gd (fun hc7 => ?_) ?_
  · rcases hc7 with hc7 | hc7
    · have c8 : x2.toInt < (0 : Int) := o_lt hc7
      omega
    · omega
  have f11 := th_v L I k_a1 o3 x2.toNatClampNeg
  have f13 := ti_div (c := 4) (n := 4) rfl (by decide) (q_R δ b2 x2.toNatClampNeg)
  have f14 := ti_b ((q_R δ b2 x2.toNatClampNeg) / (4 : Int32))
  first | (have q15 := te_mulr (c := 4) (n := 4) rfl ((q_R δ b2 x2.toNatClampNeg) / (4 : Int32)) (by omega) (by omega); obtain ⟨f16, f17, f18⟩ := q15) | (obtain ⟨q15, f16, f17, f18⟩ := ti_mulr (c := 4) (n := 4) rfl ((q_R δ b2 x2.toNatClampNeg) / (4 : Int32)))
  refine ok_biv (fun vx9 e10 => ?_)
  first | (have q19 := te_sub (q_R δ b2 x2.toNatClampNeg) ((q_R δ b2 x2.toNatClampNeg) / (4 : Int32) * (4 : Int32)) (by omega) (by omega); rw [← e10] at q19; obtain ⟨f20, f21, f22⟩ := q19) | (obtain ⟨q19, f20, f21, f22⟩ : ∃ q : Int, vx9.toInt = (q_R δ b2 x2.toNatClampNeg).toInt - ((q_R δ b2 x2.toNatClampNeg) / (4 : Int32) * (4 : Int32)).toInt + 4294967296 * q ∧ -2147483648 ≤ vx9.toInt ∧ vx9.toInt ≤ 2147483647 := by rw [e10]; exact ti_sub (q_R δ b2 x2.toNatClampNeg) ((q_R δ b2 x2.toNatClampNeg) / (4 : Int32) * (4 : Int32)))
  obtain ⟨b23, o24, k25, n26, w27⟩ := gO_4_3 L k_a0
  refine ok_at o24 ?_
  have t28 := ti_tn vx9
  refine ok_gd (fun hc29 => ?_) ?_
  · rcases hc29 with hc29 | hc29
    · have c30 : vx9.toInt < (0 : Int) := o_lt hc29
      omega
    · omega
  refine ok_gd (fun hc31 => ?_) ?_
  · rcases hc31 with hc31 | hc31
    · have c32 : vx9.toInt < (0 : Int) := o_lt hc31
      omega
    · omega
  refine ok_bdv (fun d33 e34 => ?_)
  have i35 : CI ad h.1 δ0 d33 := by rw [e34]; exact CI.sR L I w27
  have u36 := kp_N kp_r (show q_I d33 = q_I δ by rw [e34]; rfl)
  have v37 : q_V d33 = q_V δ := ((show q_V d33 = q_V δ by rw [e34]; rfl)).trans rfl
  refine ok_at o24 ?_
  refine ok_gd (fun hc38 => ?_) ?_
  · rcases hc38 with hc38 | hc38
    · have c39 : vx9.toInt < (0 : Int) := o_lt hc38
      omega
    · omega
  refine ok_at o3 ?_
  refine ok_gd (fun hc40 => ?_) ?_
  · rcases hc40 with hc40 | hc40
    · have c41 : x2.toInt < (0 : Int) := o_lt hc40
      omega
    · omega
  have f42 := th_v L i35 k_a1 o3 x2.toNatClampNeg
  have f43 := ti_div (c := 4) (n := 4) rfl (by decide) (q_R d33 b2 x2.toNatClampNeg)
  have f44 := ti_b ((q_R d33 b2 x2.toNatClampNeg) / (4 : Int32))
  have f45 := ti_b (q_R d33 b23 vx9.toNatClampNeg)
  refine ok_ite (fun h46 => ?_) (fun h46 => ?_)
  · have c47 : ((q_R d33 b2 x2.toNatClampNeg) / (4 : Int32)).toInt ≤ (q_R d33 b23 vx9.toNatClampNeg).toInt := o_le h46
    unfold J_X4_goRound_43
    exact ok_some (show CI ad h.1 δ0 d33 ∧ (kp [(4, 6)] δ d33 ∧ q_V d33 = q_V δ) from ⟨i35, ⟨kp_w (by decide) u36, v37⟩⟩)
  · have c48 : (q_R d33 b23 vx9.toNatClampNeg).toInt < ((q_R d33 b2 x2.toNatClampNeg) / (4 : Int32)).toInt := o_nle h46
    first | (have q53 := te_addc (c := 1) (n := 1) rfl x2 (by omega) (by omega); obtain ⟨f54, f55, f56⟩ := q53) | (obtain ⟨q53, f54, f55, f56⟩ := ti_addc (c := 1) (n := 1) rfl x2)
    refine ok_bdv (fun d49 e50 => ?_)
    have i51 : CI ad h.1 δ0 d49 := by rw [e50]; exact cs_4_6 L i35 k_a0 (show 0 ≤ (x2 + (1 : Int32)).toInt by omega) (show (x2 + (1 : Int32)).toInt ≤ 500 by omega)
    have u57 := kp_I u36 e50
    have v58 : q_V d49 = q_V δ := ((show q_V d49 = q_V d33 by rw [e50]; rfl)).trans v37
    unfold J_X4_goRound_43
    exact ok_some (show CI ad h.1 δ0 d49 ∧ (kp [(4, 6)] δ d49 ∧ q_V d49 = q_V δ) from ⟨i51, ⟨kp_w (by decide) u57, v58⟩⟩)
set_option maxHeartbeats 4000000 in
theorem k_X4_makeCall {ad : List Nat} {h : hp} (L : Lay TLx ad h) {δ0 : dp} {N : Nat} (hN : 10000000 ≤ N) {a0 : Nat} {x1 : Int32} {x2 : Int32} (k_a0 : q_K h.1 a0 = 4) {δ : dp} (I : CI ad h.1 δ0 δ) : ok (D_X4_makeCall N h.1 a0 x1 x2 δ) (fun r => CI ad h.1 δ0 r ∧ (kp [(1, 3), (1, 4), (1, 5), (1, 6), (1, 7), (1, 8), (1, 9), (1, 10), (1, 11), (1, 12), (1, 13), (1, 14), (1, 15), (3, 1), (4, 8), (4, 9), (4, 10), (4, 11), (4, 12), (4, 13), (4, 14), (4, 15)] δ r ∧ q_V r = q_V δ)) := by
  unfold D_X4_makeCall
  have f1 := ti_b x1
  refine ok_ite (fun h2 => ?_) (fun h2 => ?_)
  · have c3 : x1.toInt = (0 : Int) := o_eq h2
    obtain ⟨b4, o5, k6⟩ := gO_4_1 L k_a0
    refine ok_at o5 ?_
    obtain ⟨b7, o8, k9, ⟨n10, n11⟩, w12⟩ := gO_3_0 L k6
    have f13 := cb_3_1 I k6 o8
    refine ok_ite (fun h14 => ?_) (fun h14 => ?_)
    · have c15 : (q_I δ 3 1 b4).toInt < (2000 : Int) := o_lt h14
      unfold J_X4_makeCall_23
      obtain ⟨b16, o17, k18⟩ := gO_4_2 L k_a0
      refine ok_at o17 ?_
      obtain ⟨b21, o22, k23⟩ := gO_1_1 L k18
      refine ok_bind (k_X1_touchesOf L hN (a0 := b16) (x1 := x1) (x2 := x2) k18 o22 k23 I) (fun r19 hr20 => ?_)
      obtain ⟨i24, ⟨u25, u26, u27⟩⟩ := hr20
      have u28 := kp_t kp_r u25
      have v29 : q_V r19.2 = q_V δ := (u26).trans rfl
      have f30 := ti_b r19.1
      have f31 : (q_I r19.2 4 11 a0).toInt = (q_I δ 4 11 a0).toInt := congrArg Int32.toInt (u25 4 11 a0 (by decide))
      have f32 := ti_b (q_I δ 4 11 a0)
      refine ok_ite (fun h33 => ?_) (fun h33 => ?_)
      · have c34 : r19.1.toInt ≤ (q_I r19.2 4 11 a0).toInt := o_le h33
        unfold J_X4_makeCall_54
        have f38 : (q_I r19.2 4 13 a0).toInt = (q_I δ 4 13 a0).toInt := congrArg Int32.toInt (u25 4 13 a0 (by decide))
        have f39 := ti_b (q_I δ 4 13 a0)
        first | (have q41 := te_add (q_I r19.2 4 13 a0) r19.1 (by omega) (by omega); obtain ⟨f42, f43, f44⟩ := q41) | (obtain ⟨q41, f42, f43, f44⟩ := ti_add (q_I r19.2 4 13 a0) r19.1)
        refine ok_bdv (fun d35 e36 => ?_)
        have i37 : CI ad h.1 δ0 d35 := by rw [e36]; exact cs_4_13 L i24
        have u45 := kp_I u28 e36
        have v46 : q_V d35 = q_V δ := ((show q_V d35 = q_V r19.2 by rw [e36]; rfl)).trans v29
        refine ok_at o5 ?_
        obtain ⟨b47, o48, k49⟩ := gO_4_0 L k_a0
        refine ok_at o48 ?_
        refine ok_bind (k_X3_touchesInWords L hN (a0 := b4) (x1 := x1) (x2 := x2) (x3 := (q_I d35 5 0 b47)) k6 i37) (fun r50 hr51 => ?_)
        have i52 := hr51
        try rw [i52]
        have f53 := ti_b r50.1
        have f57 : (q_I d35 4 14 a0).toInt = (q_I δ 4 14 a0).toInt := ((show (q_I d35 4 14 a0).toInt = (q_I r19.2 4 14 a0).toInt from congrArg Int32.toInt (by rw [e36]; exact rI_o (by decide))).trans (show (q_I r19.2 4 14 a0).toInt = (q_I δ 4 14 a0).toInt from congrArg Int32.toInt (u25 4 14 a0 (by decide))))
        have f58 := ti_b (q_I δ 4 14 a0)
        first | (have q60 := te_add (q_I d35 4 14 a0) r50.1 (by omega) (by omega); obtain ⟨f61, f62, f63⟩ := q60) | (obtain ⟨q60, f61, f62, f63⟩ := ti_add (q_I d35 4 14 a0) r50.1)
        refine ok_bdv (fun d54 e55 => ?_)
        have i56 : CI ad h.1 δ0 d54 := by rw [e55]; exact cs_4_14 L i37
        have u64 := kp_I u45 e55
        have v65 : q_V d54 = q_V δ := ((show q_V d54 = q_V d35 by rw [e55]; rfl)).trans v46
        refine ok_at o5 ?_
        refine ok_bind (k_X3_touchesInRow L hN (a0 := b4) (x1 := x1) (x2 := x2) k6 i56) (fun r66 hr67 => ?_)
        have i68 := hr67
        try rw [i68]
        have f69 := ti_b r66.1
        have f73 : (q_I d54 4 15 a0).toInt = (q_I δ 4 15 a0).toInt := ((show (q_I d54 4 15 a0).toInt = (q_I d35 4 15 a0).toInt from congrArg Int32.toInt (by rw [e55]; exact rI_o (by decide))).trans ((show (q_I d35 4 15 a0).toInt = (q_I r19.2 4 15 a0).toInt from congrArg Int32.toInt (by rw [e36]; exact rI_o (by decide))).trans (show (q_I r19.2 4 15 a0).toInt = (q_I δ 4 15 a0).toInt from congrArg Int32.toInt (u25 4 15 a0 (by decide)))))
        have f74 := ti_b (q_I δ 4 15 a0)
        first | (have q76 := te_add (q_I d54 4 15 a0) r66.1 (by omega) (by omega); obtain ⟨f77, f78, f79⟩ := q76) | (obtain ⟨q76, f77, f78, f79⟩ := ti_add (q_I d54 4 15 a0) r66.1)
        refine ok_bdv (fun d70 e71 => ?_)
        have i72 : CI ad h.1 δ0 d70 := by rw [e71]; exact cs_4_15 L i56
        have u80 := kp_I u64 e71
        have v81 : q_V d70 = q_V δ := ((show q_V d70 = q_V d54 by rw [e71]; rfl)).trans v65
        refine ok_at o5 ?_
        refine ok_bind (k_X3_answer L hN (a0 := b4) (x1 := x1) (x2 := x2) k6 i72) (fun r82 hr83 => ?_)
        obtain ⟨i84, ⟨u85, u86⟩⟩ := hr83
        have u87 := kp_t u80 u85
        have v88 : q_V r82.2 = q_V δ := (u86).trans v81
        have f89 := ti_b r82.1
        refine ok_bdv (fun d90 e91 => ?_)
        have i92 : CI ad h.1 δ0 d90 := by rw [e91]; exact cs_4_8 L i84
        have u93 := kp_I u87 e91
        have v94 : q_V d90 = q_V δ := ((show q_V d90 = q_V r82.2 by rw [e91]; rfl)).trans v88
        have f98 : (q_I d90 4 10 a0).toInt = (q_I δ 4 10 a0).toInt := ((show (q_I d90 4 10 a0).toInt = (q_I r82.2 4 10 a0).toInt from congrArg Int32.toInt (by rw [e91]; exact rI_o (by decide))).trans ((show (q_I r82.2 4 10 a0).toInt = (q_I d70 4 10 a0).toInt from congrArg Int32.toInt (u85 4 10 a0 (by decide))).trans ((show (q_I d70 4 10 a0).toInt = (q_I d54 4 10 a0).toInt from congrArg Int32.toInt (by rw [e71]; exact rI_o (by decide))).trans ((show (q_I d54 4 10 a0).toInt = (q_I d35 4 10 a0).toInt from congrArg Int32.toInt (by rw [e55]; exact rI_o (by decide))).trans ((show (q_I d35 4 10 a0).toInt = (q_I r19.2 4 10 a0).toInt from congrArg Int32.toInt (by rw [e36]; exact rI_o (by decide))).trans (show (q_I r19.2 4 10 a0).toInt = (q_I δ 4 10 a0).toInt from congrArg Int32.toInt (u25 4 10 a0 (by decide))))))))
        have f99 := ti_b (q_I δ 4 10 a0)
        first | (have q101 := te_addc (c := 1) (n := 1) rfl (q_I d90 4 10 a0) (by omega) (by omega); obtain ⟨f102, f103, f104⟩ := q101) | (obtain ⟨q101, f102, f103, f104⟩ := ti_addc (c := 1) (n := 1) rfl (q_I d90 4 10 a0))
        refine ok_bdv (fun d95 e96 => ?_)
        have i97 : CI ad h.1 δ0 d95 := by rw [e96]; exact cs_4_10 L i92
        have u105 := kp_I u93 e96
        have v106 : q_V d95 = q_V δ := ((show q_V d95 = q_V d90 by rw [e96]; rfl)).trans v94
        have f107 := ti_b (q_I d95 4 10 a0)
        have f108 : (q_I d95 4 10 a0).toInt = ((q_I d90 4 10 a0) + (1 : Int32)).toInt := congrArg Int32.toInt (show q_I d95 4 10 a0 = ((q_I d90 4 10 a0) + (1 : Int32)) by rw [e96]; exact rI_s)
        refine ok_ite (fun h109 => ?_) (fun h109 => ?_)
        · have c110 : (q_I d95 4 10 a0).toInt < (2000 : Int) := o_lt h109
          unfold J_X4_makeCall_146
          refine ok_gp (by decide) ?_
          refine ok_bdv (fun d111 e112 => ?_)
          have i113 : CI ad h.1 δ0 d111 := by rw [e112]; exact cs_4_9 L i97 k_a0 (show 0 ≤ (0 : Int) by omega) (show (0 : Int) ≤ 1 by omega)
          have u114 := kp_I u105 e112
          have v115 : q_V d111 = q_V δ := ((show q_V d111 = q_V d95 by rw [e112]; rfl)).trans v106
          exact ok_some (show CI ad h.1 δ0 d111 ∧ (kp [(1, 3), (1, 4), (1, 5), (1, 6), (1, 7), (1, 8), (1, 9), (1, 10), (1, 11), (1, 12), (1, 13), (1, 14), (1, 15), (3, 1), (4, 8), (4, 9), (4, 10), (4, 11), (4, 12), (4, 13), (4, 14), (4, 15)] δ d111 ∧ q_V d111 = q_V δ) from ⟨i113, ⟨kp_w (by decide) u114, v115⟩⟩)
        · have c116 : (2000 : Int) ≤ (q_I d95 4 10 a0).toInt := o_nlt h109
          unfold J_X4_makeCall_146
          refine ok_gp (by decide) ?_
          refine ok_bdv (fun d117 e118 => ?_)
          have i119 : CI ad h.1 δ0 d117 := by rw [e118]; exact cs_4_9 L i97 k_a0 (show 0 ≤ (1 : Int) by omega) (show (1 : Int) ≤ 1 by omega)
          have u120 := kp_I u105 e118
          have v121 : q_V d117 = q_V δ := ((show q_V d117 = q_V d95 by rw [e118]; rfl)).trans v106
          exact ok_some (show CI ad h.1 δ0 d117 ∧ (kp [(1, 3), (1, 4), (1, 5), (1, 6), (1, 7), (1, 8), (1, 9), (1, 10), (1, 11), (1, 12), (1, 13), (1, 14), (1, 15), (3, 1), (4, 8), (4, 9), (4, 10), (4, 11), (4, 12), (4, 13), (4, 14), (4, 15)] δ d117 ∧ q_V d117 = q_V δ) from ⟨i119, ⟨kp_w (by decide) u120, v121⟩⟩)
      · have c122 : (q_I r19.2 4 11 a0).toInt < r19.1.toInt := o_nle h33
        refine ok_bdv (fun d123 e124 => ?_)
        have i125 : CI ad h.1 δ0 d123 := by rw [e124]; exact cs_4_11 L i24
        have u126 := kp_I u28 e124
        have v127 : q_V d123 = q_V δ := ((show q_V d123 = q_V r19.2 by rw [e124]; rfl)).trans v29
        have f131 : (q_I d123 4 10 a0).toInt = (q_I δ 4 10 a0).toInt := ((show (q_I d123 4 10 a0).toInt = (q_I r19.2 4 10 a0).toInt from congrArg Int32.toInt (by rw [e124]; exact rI_o (by decide))).trans (show (q_I r19.2 4 10 a0).toInt = (q_I δ 4 10 a0).toInt from congrArg Int32.toInt (u25 4 10 a0 (by decide))))
        have f132 := ti_b (q_I δ 4 10 a0)
        refine ok_bdv (fun d128 e129 => ?_)
        have i130 : CI ad h.1 δ0 d128 := by rw [e129]; exact cs_4_12 L i125
        have u133 := kp_I u126 e129
        have v134 : q_V d128 = q_V δ := ((show q_V d128 = q_V d123 by rw [e129]; rfl)).trans v127
        unfold J_X4_makeCall_54
        have f138 : (q_I d128 4 13 a0).toInt = (q_I δ 4 13 a0).toInt := ((show (q_I d128 4 13 a0).toInt = (q_I d123 4 13 a0).toInt from congrArg Int32.toInt (by rw [e129]; exact rI_o (by decide))).trans ((show (q_I d123 4 13 a0).toInt = (q_I r19.2 4 13 a0).toInt from congrArg Int32.toInt (by rw [e124]; exact rI_o (by decide))).trans (show (q_I r19.2 4 13 a0).toInt = (q_I δ 4 13 a0).toInt from congrArg Int32.toInt (u25 4 13 a0 (by decide)))))
        have f139 := ti_b (q_I δ 4 13 a0)
        first | (have q141 := te_add (q_I d128 4 13 a0) r19.1 (by omega) (by omega); obtain ⟨f142, f143, f144⟩ := q141) | (obtain ⟨q141, f142, f143, f144⟩ := ti_add (q_I d128 4 13 a0) r19.1)
        refine ok_bdv (fun d135 e136 => ?_)
        have i137 : CI ad h.1 δ0 d135 := by rw [e136]; exact cs_4_13 L i130
        have u145 := kp_I u133 e136
        have v146 : q_V d135 = q_V δ := ((show q_V d135 = q_V d128 by rw [e136]; rfl)).trans v134
        refine ok_at o5 ?_
        obtain ⟨b147, o148, k149⟩ := gO_4_0 L k_a0
        refine ok_at o148 ?_
        refine ok_bind (k_X3_touchesInWords L hN (a0 := b4) (x1 := x1) (x2 := x2) (x3 := (q_I d135 5 0 b147)) k6 i137) (fun r150 hr151 => ?_)
        have i152 := hr151
        try rw [i152]
        have f153 := ti_b r150.1
        have f157 : (q_I d135 4 14 a0).toInt = (q_I δ 4 14 a0).toInt := ((show (q_I d135 4 14 a0).toInt = (q_I d128 4 14 a0).toInt from congrArg Int32.toInt (by rw [e136]; exact rI_o (by decide))).trans ((show (q_I d128 4 14 a0).toInt = (q_I d123 4 14 a0).toInt from congrArg Int32.toInt (by rw [e129]; exact rI_o (by decide))).trans ((show (q_I d123 4 14 a0).toInt = (q_I r19.2 4 14 a0).toInt from congrArg Int32.toInt (by rw [e124]; exact rI_o (by decide))).trans (show (q_I r19.2 4 14 a0).toInt = (q_I δ 4 14 a0).toInt from congrArg Int32.toInt (u25 4 14 a0 (by decide))))))
        have f158 := ti_b (q_I δ 4 14 a0)
        first | (have q160 := te_add (q_I d135 4 14 a0) r150.1 (by omega) (by omega); obtain ⟨f161, f162, f163⟩ := q160) | (obtain ⟨q160, f161, f162, f163⟩ := ti_add (q_I d135 4 14 a0) r150.1)
        refine ok_bdv (fun d154 e155 => ?_)
        have i156 : CI ad h.1 δ0 d154 := by rw [e155]; exact cs_4_14 L i137
        have u164 := kp_I u145 e155
        have v165 : q_V d154 = q_V δ := ((show q_V d154 = q_V d135 by rw [e155]; rfl)).trans v146
        refine ok_at o5 ?_
        refine ok_bind (k_X3_touchesInRow L hN (a0 := b4) (x1 := x1) (x2 := x2) k6 i156) (fun r166 hr167 => ?_)
        have i168 := hr167
        try rw [i168]
        have f169 := ti_b r166.1
        have f173 : (q_I d154 4 15 a0).toInt = (q_I δ 4 15 a0).toInt := ((show (q_I d154 4 15 a0).toInt = (q_I d135 4 15 a0).toInt from congrArg Int32.toInt (by rw [e155]; exact rI_o (by decide))).trans ((show (q_I d135 4 15 a0).toInt = (q_I d128 4 15 a0).toInt from congrArg Int32.toInt (by rw [e136]; exact rI_o (by decide))).trans ((show (q_I d128 4 15 a0).toInt = (q_I d123 4 15 a0).toInt from congrArg Int32.toInt (by rw [e129]; exact rI_o (by decide))).trans ((show (q_I d123 4 15 a0).toInt = (q_I r19.2 4 15 a0).toInt from congrArg Int32.toInt (by rw [e124]; exact rI_o (by decide))).trans (show (q_I r19.2 4 15 a0).toInt = (q_I δ 4 15 a0).toInt from congrArg Int32.toInt (u25 4 15 a0 (by decide)))))))
        have f174 := ti_b (q_I δ 4 15 a0)
        first | (have q176 := te_add (q_I d154 4 15 a0) r166.1 (by omega) (by omega); obtain ⟨f177, f178, f179⟩ := q176) | (obtain ⟨q176, f177, f178, f179⟩ := ti_add (q_I d154 4 15 a0) r166.1)
        refine ok_bdv (fun d170 e171 => ?_)
        have i172 : CI ad h.1 δ0 d170 := by rw [e171]; exact cs_4_15 L i156
        have u180 := kp_I u164 e171
        have v181 : q_V d170 = q_V δ := ((show q_V d170 = q_V d154 by rw [e171]; rfl)).trans v165
        refine ok_at o5 ?_
        refine ok_bind (k_X3_answer L hN (a0 := b4) (x1 := x1) (x2 := x2) k6 i172) (fun r182 hr183 => ?_)
        obtain ⟨i184, ⟨u185, u186⟩⟩ := hr183
        have u187 := kp_t u180 u185
        have v188 : q_V r182.2 = q_V δ := (u186).trans v181
        have f189 := ti_b r182.1
        refine ok_bdv (fun d190 e191 => ?_)
        have i192 : CI ad h.1 δ0 d190 := by rw [e191]; exact cs_4_8 L i184
        have u193 := kp_I u187 e191
        have v194 : q_V d190 = q_V δ := ((show q_V d190 = q_V r182.2 by rw [e191]; rfl)).trans v188
        have f198 : (q_I d190 4 10 a0).toInt = (q_I d123 4 10 a0).toInt := ((show (q_I d190 4 10 a0).toInt = (q_I r182.2 4 10 a0).toInt from congrArg Int32.toInt (by rw [e191]; exact rI_o (by decide))).trans ((show (q_I r182.2 4 10 a0).toInt = (q_I d170 4 10 a0).toInt from congrArg Int32.toInt (u185 4 10 a0 (by decide))).trans ((show (q_I d170 4 10 a0).toInt = (q_I d154 4 10 a0).toInt from congrArg Int32.toInt (by rw [e171]; exact rI_o (by decide))).trans ((show (q_I d154 4 10 a0).toInt = (q_I d135 4 10 a0).toInt from congrArg Int32.toInt (by rw [e155]; exact rI_o (by decide))).trans ((show (q_I d135 4 10 a0).toInt = (q_I d128 4 10 a0).toInt from congrArg Int32.toInt (by rw [e136]; exact rI_o (by decide))).trans (show (q_I d128 4 10 a0).toInt = (q_I d123 4 10 a0).toInt from congrArg Int32.toInt (by rw [e129]; exact rI_o (by decide))))))))
        first | (have q200 := te_addc (c := 1) (n := 1) rfl (q_I d190 4 10 a0) (by omega) (by omega); obtain ⟨f201, f202, f203⟩ := q200) | (obtain ⟨q200, f201, f202, f203⟩ := ti_addc (c := 1) (n := 1) rfl (q_I d190 4 10 a0))
        refine ok_bdv (fun d195 e196 => ?_)
        have i197 : CI ad h.1 δ0 d195 := by rw [e196]; exact cs_4_10 L i192
        have u204 := kp_I u193 e196
        have v205 : q_V d195 = q_V δ := ((show q_V d195 = q_V d190 by rw [e196]; rfl)).trans v194
        have f206 := ti_b (q_I d195 4 10 a0)
        have f207 : (q_I d195 4 10 a0).toInt = ((q_I d190 4 10 a0) + (1 : Int32)).toInt := congrArg Int32.toInt (show q_I d195 4 10 a0 = ((q_I d190 4 10 a0) + (1 : Int32)) by rw [e196]; exact rI_s)
        refine ok_ite (fun h208 => ?_) (fun h208 => ?_)
        · have c209 : (q_I d195 4 10 a0).toInt < (2000 : Int) := o_lt h208
          unfold J_X4_makeCall_146
          refine ok_gp (by decide) ?_
          refine ok_bdv (fun d210 e211 => ?_)
          have i212 : CI ad h.1 δ0 d210 := by rw [e211]; exact cs_4_9 L i197 k_a0 (show 0 ≤ (0 : Int) by omega) (show (0 : Int) ≤ 1 by omega)
          have u213 := kp_I u204 e211
          have v214 : q_V d210 = q_V δ := ((show q_V d210 = q_V d195 by rw [e211]; rfl)).trans v205
          exact ok_some (show CI ad h.1 δ0 d210 ∧ (kp [(1, 3), (1, 4), (1, 5), (1, 6), (1, 7), (1, 8), (1, 9), (1, 10), (1, 11), (1, 12), (1, 13), (1, 14), (1, 15), (3, 1), (4, 8), (4, 9), (4, 10), (4, 11), (4, 12), (4, 13), (4, 14), (4, 15)] δ d210 ∧ q_V d210 = q_V δ) from ⟨i212, ⟨kp_w (by decide) u213, v214⟩⟩)
        · have c215 : (2000 : Int) ≤ (q_I d195 4 10 a0).toInt := o_nlt h208
          unfold J_X4_makeCall_146
          refine ok_gp (by decide) ?_
          refine ok_bdv (fun d216 e217 => ?_)
          have i218 : CI ad h.1 δ0 d216 := by rw [e217]; exact cs_4_9 L i197 k_a0 (show 0 ≤ (1 : Int) by omega) (show (1 : Int) ≤ 1 by omega)
          have u219 := kp_I u204 e217
          have v220 : q_V d216 = q_V δ := ((show q_V d216 = q_V d195 by rw [e217]; rfl)).trans v205
          exact ok_some (show CI ad h.1 δ0 d216 ∧ (kp [(1, 3), (1, 4), (1, 5), (1, 6), (1, 7), (1, 8), (1, 9), (1, 10), (1, 11), (1, 12), (1, 13), (1, 14), (1, 15), (3, 1), (4, 8), (4, 9), (4, 10), (4, 11), (4, 12), (4, 13), (4, 14), (4, 15)] δ d216 ∧ q_V d216 = q_V δ) from ⟨i218, ⟨kp_w (by decide) u219, v220⟩⟩)
    · have c221 : (2000 : Int) ≤ (q_I δ 3 1 b4).toInt := o_nlt h14
      refine ok_bdv (fun d222 e223 => ?_)
      have i224 : CI ad h.1 δ0 d222 := by rw [e223]; exact cs_4_9 L I k_a0 (show 0 ≤ (1 : Int) by omega) (show (1 : Int) ≤ 1 by omega)
      have u225 := kp_I kp_r e223
      have v226 : q_V d222 = q_V δ := ((show q_V d222 = q_V δ by rw [e223]; rfl)).trans rfl
      exact ok_some (show CI ad h.1 δ0 d222 ∧ (kp [(1, 3), (1, 4), (1, 5), (1, 6), (1, 7), (1, 8), (1, 9), (1, 10), (1, 11), (1, 12), (1, 13), (1, 14), (1, 15), (3, 1), (4, 8), (4, 9), (4, 10), (4, 11), (4, 12), (4, 13), (4, 14), (4, 15)] δ d222 ∧ q_V d222 = q_V δ) from ⟨i224, ⟨kp_w (by decide) u225, v226⟩⟩)
  · have c227 : x1.toInt ≠ (0 : Int) := o_ne h2
    unfold J_X4_makeCall_23
    obtain ⟨b228, o229, k230⟩ := gO_4_2 L k_a0
    refine ok_at o229 ?_
    obtain ⟨b233, o234, k235⟩ := gO_1_1 L k230
    refine ok_bind (k_X1_touchesOf L hN (a0 := b228) (x1 := x1) (x2 := x2) k230 o234 k235 I) (fun r231 hr232 => ?_)
    obtain ⟨i236, ⟨u237, u238, u239⟩⟩ := hr232
    have u240 := kp_t kp_r u237
    have v241 : q_V r231.2 = q_V δ := (u238).trans rfl
    have f242 := ti_b r231.1
    have f243 : (q_I r231.2 4 11 a0).toInt = (q_I δ 4 11 a0).toInt := congrArg Int32.toInt (u237 4 11 a0 (by decide))
    have f244 := ti_b (q_I δ 4 11 a0)
    refine ok_ite (fun h245 => ?_) (fun h245 => ?_)
    · have c246 : r231.1.toInt ≤ (q_I r231.2 4 11 a0).toInt := o_le h245
      unfold J_X4_makeCall_54
      have f250 : (q_I r231.2 4 13 a0).toInt = (q_I δ 4 13 a0).toInt := congrArg Int32.toInt (u237 4 13 a0 (by decide))
      have f251 := ti_b (q_I δ 4 13 a0)
      first | (have q253 := te_add (q_I r231.2 4 13 a0) r231.1 (by omega) (by omega); obtain ⟨f254, f255, f256⟩ := q253) | (obtain ⟨q253, f254, f255, f256⟩ := ti_add (q_I r231.2 4 13 a0) r231.1)
      refine ok_bdv (fun d247 e248 => ?_)
      have i249 : CI ad h.1 δ0 d247 := by rw [e248]; exact cs_4_13 L i236
      have u257 := kp_I u240 e248
      have v258 : q_V d247 = q_V δ := ((show q_V d247 = q_V r231.2 by rw [e248]; rfl)).trans v241
      obtain ⟨b259, o260, k261⟩ := gO_4_1 L k_a0
      refine ok_at o260 ?_
      obtain ⟨b262, o263, k264⟩ := gO_4_0 L k_a0
      refine ok_at o263 ?_
      refine ok_bind (k_X3_touchesInWords L hN (a0 := b259) (x1 := x1) (x2 := x2) (x3 := (q_I d247 5 0 b262)) k261 i249) (fun r265 hr266 => ?_)
      have i267 := hr266
      try rw [i267]
      have f268 := ti_b r265.1
      have f272 : (q_I d247 4 14 a0).toInt = (q_I δ 4 14 a0).toInt := ((show (q_I d247 4 14 a0).toInt = (q_I r231.2 4 14 a0).toInt from congrArg Int32.toInt (by rw [e248]; exact rI_o (by decide))).trans (show (q_I r231.2 4 14 a0).toInt = (q_I δ 4 14 a0).toInt from congrArg Int32.toInt (u237 4 14 a0 (by decide))))
      have f273 := ti_b (q_I δ 4 14 a0)
      first | (have q275 := te_add (q_I d247 4 14 a0) r265.1 (by omega) (by omega); obtain ⟨f276, f277, f278⟩ := q275) | (obtain ⟨q275, f276, f277, f278⟩ := ti_add (q_I d247 4 14 a0) r265.1)
      refine ok_bdv (fun d269 e270 => ?_)
      have i271 : CI ad h.1 δ0 d269 := by rw [e270]; exact cs_4_14 L i249
      have u279 := kp_I u257 e270
      have v280 : q_V d269 = q_V δ := ((show q_V d269 = q_V d247 by rw [e270]; rfl)).trans v258
      refine ok_at o260 ?_
      refine ok_bind (k_X3_touchesInRow L hN (a0 := b259) (x1 := x1) (x2 := x2) k261 i271) (fun r281 hr282 => ?_)
      have i283 := hr282
      try rw [i283]
      have f284 := ti_b r281.1
      have f288 : (q_I d269 4 15 a0).toInt = (q_I δ 4 15 a0).toInt := ((show (q_I d269 4 15 a0).toInt = (q_I d247 4 15 a0).toInt from congrArg Int32.toInt (by rw [e270]; exact rI_o (by decide))).trans ((show (q_I d247 4 15 a0).toInt = (q_I r231.2 4 15 a0).toInt from congrArg Int32.toInt (by rw [e248]; exact rI_o (by decide))).trans (show (q_I r231.2 4 15 a0).toInt = (q_I δ 4 15 a0).toInt from congrArg Int32.toInt (u237 4 15 a0 (by decide)))))
      have f289 := ti_b (q_I δ 4 15 a0)
      first | (have q291 := te_add (q_I d269 4 15 a0) r281.1 (by omega) (by omega); obtain ⟨f292, f293, f294⟩ := q291) | (obtain ⟨q291, f292, f293, f294⟩ := ti_add (q_I d269 4 15 a0) r281.1)
      refine ok_bdv (fun d285 e286 => ?_)
      have i287 : CI ad h.1 δ0 d285 := by rw [e286]; exact cs_4_15 L i271
      have u295 := kp_I u279 e286
      have v296 : q_V d285 = q_V δ := ((show q_V d285 = q_V d269 by rw [e286]; rfl)).trans v280
      refine ok_at o260 ?_
      refine ok_bind (k_X3_answer L hN (a0 := b259) (x1 := x1) (x2 := x2) k261 i287) (fun r297 hr298 => ?_)
      obtain ⟨i299, ⟨u300, u301⟩⟩ := hr298
      have u302 := kp_t u295 u300
      have v303 : q_V r297.2 = q_V δ := (u301).trans v296
      have f304 := ti_b r297.1
      refine ok_bdv (fun d305 e306 => ?_)
      have i307 : CI ad h.1 δ0 d305 := by rw [e306]; exact cs_4_8 L i299
      have u308 := kp_I u302 e306
      have v309 : q_V d305 = q_V δ := ((show q_V d305 = q_V r297.2 by rw [e306]; rfl)).trans v303
      have f313 : (q_I d305 4 10 a0).toInt = (q_I δ 4 10 a0).toInt := ((show (q_I d305 4 10 a0).toInt = (q_I r297.2 4 10 a0).toInt from congrArg Int32.toInt (by rw [e306]; exact rI_o (by decide))).trans ((show (q_I r297.2 4 10 a0).toInt = (q_I d285 4 10 a0).toInt from congrArg Int32.toInt (u300 4 10 a0 (by decide))).trans ((show (q_I d285 4 10 a0).toInt = (q_I d269 4 10 a0).toInt from congrArg Int32.toInt (by rw [e286]; exact rI_o (by decide))).trans ((show (q_I d269 4 10 a0).toInt = (q_I d247 4 10 a0).toInt from congrArg Int32.toInt (by rw [e270]; exact rI_o (by decide))).trans ((show (q_I d247 4 10 a0).toInt = (q_I r231.2 4 10 a0).toInt from congrArg Int32.toInt (by rw [e248]; exact rI_o (by decide))).trans (show (q_I r231.2 4 10 a0).toInt = (q_I δ 4 10 a0).toInt from congrArg Int32.toInt (u237 4 10 a0 (by decide))))))))
      have f314 := ti_b (q_I δ 4 10 a0)
      first | (have q316 := te_addc (c := 1) (n := 1) rfl (q_I d305 4 10 a0) (by omega) (by omega); obtain ⟨f317, f318, f319⟩ := q316) | (obtain ⟨q316, f317, f318, f319⟩ := ti_addc (c := 1) (n := 1) rfl (q_I d305 4 10 a0))
      refine ok_bdv (fun d310 e311 => ?_)
      have i312 : CI ad h.1 δ0 d310 := by rw [e311]; exact cs_4_10 L i307
      have u320 := kp_I u308 e311
      have v321 : q_V d310 = q_V δ := ((show q_V d310 = q_V d305 by rw [e311]; rfl)).trans v309
      have f322 := ti_b (q_I d310 4 10 a0)
      have f323 : (q_I d310 4 10 a0).toInt = ((q_I d305 4 10 a0) + (1 : Int32)).toInt := congrArg Int32.toInt (show q_I d310 4 10 a0 = ((q_I d305 4 10 a0) + (1 : Int32)) by rw [e311]; exact rI_s)
      refine ok_ite (fun h324 => ?_) (fun h324 => ?_)
      · have c325 : (q_I d310 4 10 a0).toInt < (2000 : Int) := o_lt h324
        unfold J_X4_makeCall_146
        refine ok_gp (by decide) ?_
        refine ok_bdv (fun d326 e327 => ?_)
        have i328 : CI ad h.1 δ0 d326 := by rw [e327]; exact cs_4_9 L i312 k_a0 (show 0 ≤ (0 : Int) by omega) (show (0 : Int) ≤ 1 by omega)
        have u329 := kp_I u320 e327
        have v330 : q_V d326 = q_V δ := ((show q_V d326 = q_V d310 by rw [e327]; rfl)).trans v321
        exact ok_some (show CI ad h.1 δ0 d326 ∧ (kp [(1, 3), (1, 4), (1, 5), (1, 6), (1, 7), (1, 8), (1, 9), (1, 10), (1, 11), (1, 12), (1, 13), (1, 14), (1, 15), (3, 1), (4, 8), (4, 9), (4, 10), (4, 11), (4, 12), (4, 13), (4, 14), (4, 15)] δ d326 ∧ q_V d326 = q_V δ) from ⟨i328, ⟨kp_w (by decide) u329, v330⟩⟩)
      · have c331 : (2000 : Int) ≤ (q_I d310 4 10 a0).toInt := o_nlt h324
        unfold J_X4_makeCall_146
        refine ok_gp (by decide) ?_
        refine ok_bdv (fun d332 e333 => ?_)
        have i334 : CI ad h.1 δ0 d332 := by rw [e333]; exact cs_4_9 L i312 k_a0 (show 0 ≤ (1 : Int) by omega) (show (1 : Int) ≤ 1 by omega)
        have u335 := kp_I u320 e333
        have v336 : q_V d332 = q_V δ := ((show q_V d332 = q_V d310 by rw [e333]; rfl)).trans v321
        exact ok_some (show CI ad h.1 δ0 d332 ∧ (kp [(1, 3), (1, 4), (1, 5), (1, 6), (1, 7), (1, 8), (1, 9), (1, 10), (1, 11), (1, 12), (1, 13), (1, 14), (1, 15), (3, 1), (4, 8), (4, 9), (4, 10), (4, 11), (4, 12), (4, 13), (4, 14), (4, 15)] δ d332 ∧ q_V d332 = q_V δ) from ⟨i334, ⟨kp_w (by decide) u335, v336⟩⟩)
    · have c337 : (q_I r231.2 4 11 a0).toInt < r231.1.toInt := o_nle h245
      refine ok_bdv (fun d338 e339 => ?_)
      have i340 : CI ad h.1 δ0 d338 := by rw [e339]; exact cs_4_11 L i236
      have u341 := kp_I u240 e339
      have v342 : q_V d338 = q_V δ := ((show q_V d338 = q_V r231.2 by rw [e339]; rfl)).trans v241
      have f346 : (q_I d338 4 10 a0).toInt = (q_I δ 4 10 a0).toInt := ((show (q_I d338 4 10 a0).toInt = (q_I r231.2 4 10 a0).toInt from congrArg Int32.toInt (by rw [e339]; exact rI_o (by decide))).trans (show (q_I r231.2 4 10 a0).toInt = (q_I δ 4 10 a0).toInt from congrArg Int32.toInt (u237 4 10 a0 (by decide))))
      have f347 := ti_b (q_I δ 4 10 a0)
      refine ok_bdv (fun d343 e344 => ?_)
      have i345 : CI ad h.1 δ0 d343 := by rw [e344]; exact cs_4_12 L i340
      have u348 := kp_I u341 e344
      have v349 : q_V d343 = q_V δ := ((show q_V d343 = q_V d338 by rw [e344]; rfl)).trans v342
      unfold J_X4_makeCall_54
      have f353 : (q_I d343 4 13 a0).toInt = (q_I δ 4 13 a0).toInt := ((show (q_I d343 4 13 a0).toInt = (q_I d338 4 13 a0).toInt from congrArg Int32.toInt (by rw [e344]; exact rI_o (by decide))).trans ((show (q_I d338 4 13 a0).toInt = (q_I r231.2 4 13 a0).toInt from congrArg Int32.toInt (by rw [e339]; exact rI_o (by decide))).trans (show (q_I r231.2 4 13 a0).toInt = (q_I δ 4 13 a0).toInt from congrArg Int32.toInt (u237 4 13 a0 (by decide)))))
      have f354 := ti_b (q_I δ 4 13 a0)
      first | (have q356 := te_add (q_I d343 4 13 a0) r231.1 (by omega) (by omega); obtain ⟨f357, f358, f359⟩ := q356) | (obtain ⟨q356, f357, f358, f359⟩ := ti_add (q_I d343 4 13 a0) r231.1)
      refine ok_bdv (fun d350 e351 => ?_)
      have i352 : CI ad h.1 δ0 d350 := by rw [e351]; exact cs_4_13 L i345
      have u360 := kp_I u348 e351
      have v361 : q_V d350 = q_V δ := ((show q_V d350 = q_V d343 by rw [e351]; rfl)).trans v349
      obtain ⟨b362, o363, k364⟩ := gO_4_1 L k_a0
      refine ok_at o363 ?_
      obtain ⟨b365, o366, k367⟩ := gO_4_0 L k_a0
      refine ok_at o366 ?_
      refine ok_bind (k_X3_touchesInWords L hN (a0 := b362) (x1 := x1) (x2 := x2) (x3 := (q_I d350 5 0 b365)) k364 i352) (fun r368 hr369 => ?_)
      have i370 := hr369
      try rw [i370]
      have f371 := ti_b r368.1
      have f375 : (q_I d350 4 14 a0).toInt = (q_I δ 4 14 a0).toInt := ((show (q_I d350 4 14 a0).toInt = (q_I d343 4 14 a0).toInt from congrArg Int32.toInt (by rw [e351]; exact rI_o (by decide))).trans ((show (q_I d343 4 14 a0).toInt = (q_I d338 4 14 a0).toInt from congrArg Int32.toInt (by rw [e344]; exact rI_o (by decide))).trans ((show (q_I d338 4 14 a0).toInt = (q_I r231.2 4 14 a0).toInt from congrArg Int32.toInt (by rw [e339]; exact rI_o (by decide))).trans (show (q_I r231.2 4 14 a0).toInt = (q_I δ 4 14 a0).toInt from congrArg Int32.toInt (u237 4 14 a0 (by decide))))))
      have f376 := ti_b (q_I δ 4 14 a0)
      first | (have q378 := te_add (q_I d350 4 14 a0) r368.1 (by omega) (by omega); obtain ⟨f379, f380, f381⟩ := q378) | (obtain ⟨q378, f379, f380, f381⟩ := ti_add (q_I d350 4 14 a0) r368.1)
      refine ok_bdv (fun d372 e373 => ?_)
      have i374 : CI ad h.1 δ0 d372 := by rw [e373]; exact cs_4_14 L i352
      have u382 := kp_I u360 e373
      have v383 : q_V d372 = q_V δ := ((show q_V d372 = q_V d350 by rw [e373]; rfl)).trans v361
      refine ok_at o363 ?_
      refine ok_bind (k_X3_touchesInRow L hN (a0 := b362) (x1 := x1) (x2 := x2) k364 i374) (fun r384 hr385 => ?_)
      have i386 := hr385
      try rw [i386]
      have f387 := ti_b r384.1
      have f391 : (q_I d372 4 15 a0).toInt = (q_I δ 4 15 a0).toInt := ((show (q_I d372 4 15 a0).toInt = (q_I d350 4 15 a0).toInt from congrArg Int32.toInt (by rw [e373]; exact rI_o (by decide))).trans ((show (q_I d350 4 15 a0).toInt = (q_I d343 4 15 a0).toInt from congrArg Int32.toInt (by rw [e351]; exact rI_o (by decide))).trans ((show (q_I d343 4 15 a0).toInt = (q_I d338 4 15 a0).toInt from congrArg Int32.toInt (by rw [e344]; exact rI_o (by decide))).trans ((show (q_I d338 4 15 a0).toInt = (q_I r231.2 4 15 a0).toInt from congrArg Int32.toInt (by rw [e339]; exact rI_o (by decide))).trans (show (q_I r231.2 4 15 a0).toInt = (q_I δ 4 15 a0).toInt from congrArg Int32.toInt (u237 4 15 a0 (by decide)))))))
      have f392 := ti_b (q_I δ 4 15 a0)
      first | (have q394 := te_add (q_I d372 4 15 a0) r384.1 (by omega) (by omega); obtain ⟨f395, f396, f397⟩ := q394) | (obtain ⟨q394, f395, f396, f397⟩ := ti_add (q_I d372 4 15 a0) r384.1)
      refine ok_bdv (fun d388 e389 => ?_)
      have i390 : CI ad h.1 δ0 d388 := by rw [e389]; exact cs_4_15 L i374
      have u398 := kp_I u382 e389
      have v399 : q_V d388 = q_V δ := ((show q_V d388 = q_V d372 by rw [e389]; rfl)).trans v383
      refine ok_at o363 ?_
      refine ok_bind (k_X3_answer L hN (a0 := b362) (x1 := x1) (x2 := x2) k364 i390) (fun r400 hr401 => ?_)
      obtain ⟨i402, ⟨u403, u404⟩⟩ := hr401
      have u405 := kp_t u398 u403
      have v406 : q_V r400.2 = q_V δ := (u404).trans v399
      have f407 := ti_b r400.1
      refine ok_bdv (fun d408 e409 => ?_)
      have i410 : CI ad h.1 δ0 d408 := by rw [e409]; exact cs_4_8 L i402
      have u411 := kp_I u405 e409
      have v412 : q_V d408 = q_V δ := ((show q_V d408 = q_V r400.2 by rw [e409]; rfl)).trans v406
      have f416 : (q_I d408 4 10 a0).toInt = (q_I d338 4 10 a0).toInt := ((show (q_I d408 4 10 a0).toInt = (q_I r400.2 4 10 a0).toInt from congrArg Int32.toInt (by rw [e409]; exact rI_o (by decide))).trans ((show (q_I r400.2 4 10 a0).toInt = (q_I d388 4 10 a0).toInt from congrArg Int32.toInt (u403 4 10 a0 (by decide))).trans ((show (q_I d388 4 10 a0).toInt = (q_I d372 4 10 a0).toInt from congrArg Int32.toInt (by rw [e389]; exact rI_o (by decide))).trans ((show (q_I d372 4 10 a0).toInt = (q_I d350 4 10 a0).toInt from congrArg Int32.toInt (by rw [e373]; exact rI_o (by decide))).trans ((show (q_I d350 4 10 a0).toInt = (q_I d343 4 10 a0).toInt from congrArg Int32.toInt (by rw [e351]; exact rI_o (by decide))).trans (show (q_I d343 4 10 a0).toInt = (q_I d338 4 10 a0).toInt from congrArg Int32.toInt (by rw [e344]; exact rI_o (by decide))))))))
      first | (have q418 := te_addc (c := 1) (n := 1) rfl (q_I d408 4 10 a0) (by omega) (by omega); obtain ⟨f419, f420, f421⟩ := q418) | (obtain ⟨q418, f419, f420, f421⟩ := ti_addc (c := 1) (n := 1) rfl (q_I d408 4 10 a0))
      refine ok_bdv (fun d413 e414 => ?_)
      have i415 : CI ad h.1 δ0 d413 := by rw [e414]; exact cs_4_10 L i410
      have u422 := kp_I u411 e414
      have v423 : q_V d413 = q_V δ := ((show q_V d413 = q_V d408 by rw [e414]; rfl)).trans v412
      have f424 := ti_b (q_I d413 4 10 a0)
      have f425 : (q_I d413 4 10 a0).toInt = ((q_I d408 4 10 a0) + (1 : Int32)).toInt := congrArg Int32.toInt (show q_I d413 4 10 a0 = ((q_I d408 4 10 a0) + (1 : Int32)) by rw [e414]; exact rI_s)
      refine ok_ite (fun h426 => ?_) (fun h426 => ?_)
      · have c427 : (q_I d413 4 10 a0).toInt < (2000 : Int) := o_lt h426
        unfold J_X4_makeCall_146
        refine ok_gp (by decide) ?_
        refine ok_bdv (fun d428 e429 => ?_)
        have i430 : CI ad h.1 δ0 d428 := by rw [e429]; exact cs_4_9 L i415 k_a0 (show 0 ≤ (0 : Int) by omega) (show (0 : Int) ≤ 1 by omega)
        have u431 := kp_I u422 e429
        have v432 : q_V d428 = q_V δ := ((show q_V d428 = q_V d413 by rw [e429]; rfl)).trans v423
        exact ok_some (show CI ad h.1 δ0 d428 ∧ (kp [(1, 3), (1, 4), (1, 5), (1, 6), (1, 7), (1, 8), (1, 9), (1, 10), (1, 11), (1, 12), (1, 13), (1, 14), (1, 15), (3, 1), (4, 8), (4, 9), (4, 10), (4, 11), (4, 12), (4, 13), (4, 14), (4, 15)] δ d428 ∧ q_V d428 = q_V δ) from ⟨i430, ⟨kp_w (by decide) u431, v432⟩⟩)
      · have c433 : (2000 : Int) ≤ (q_I d413 4 10 a0).toInt := o_nlt h426
        unfold J_X4_makeCall_146
        refine ok_gp (by decide) ?_
        refine ok_bdv (fun d434 e435 => ?_)
        have i436 : CI ad h.1 δ0 d434 := by rw [e435]; exact cs_4_9 L i415 k_a0 (show 0 ≤ (1 : Int) by omega) (show (1 : Int) ≤ 1 by omega)
        have u437 := kp_I u422 e435
        have v438 : q_V d434 = q_V δ := ((show q_V d434 = q_V d413 by rw [e435]; rfl)).trans v423
        exact ok_some (show CI ad h.1 δ0 d434 ∧ (kp [(1, 3), (1, 4), (1, 5), (1, 6), (1, 7), (1, 8), (1, 9), (1, 10), (1, 11), (1, 12), (1, 13), (1, 14), (1, 15), (3, 1), (4, 8), (4, 9), (4, 10), (4, 11), (4, 12), (4, 13), (4, 14), (4, 15)] δ d434 ∧ q_V d434 = q_V δ) from ⟨i436, ⟨kp_w (by decide) u437, v438⟩⟩)
set_option maxHeartbeats 4000000 in
theorem k_X4_step {ad : List Nat} {h : hp} (L : Lay TLx ad h) {δ0 : dp} {N : Nat} (hN : 10000000 ≤ N) {a0 : Nat} {a1 : Nat} (k_a0 : q_K h.1 a0 = 4) (k_a1 : q_K h.1 a1 = 8) {δ : dp} (z0 : (q_I δ 4 6 a0).toInt < (q_I δ 8 2 a1).toInt) (I : CI ad h.1 δ0 δ) : ok (D_X4_step N h.1 a0 a1 δ) (fun r => CI ad h.1 δ0 r ∧ (kp [(1, 3), (1, 4), (1, 5), (1, 6), (1, 7), (1, 8), (1, 9), (1, 10), (1, 11), (1, 12), (1, 13), (1, 14), (1, 15), (3, 1), (4, 5), (4, 6), (4, 7), (4, 8), (4, 9), (4, 10), (4, 11), (4, 12), (4, 13), (4, 14), (4, 15)] δ r ∧ q_V r = q_V δ)) := by
  unfold D_X4_step
  have f1 := cb_4_6 I k_a0
  have f2 := cb_8_2 I k_a1
  obtain ⟨b3, o4, k5, n6⟩ := gO_8_1 L k_a1
  refine ok_at o4 ?_
  have t7 := ti_tn (q_I δ 4 6 a0)
  refine ok_gd (fun hc8 => ?_) ?_
  · rcases hc8 with hc8 | hc8
    · have c9 : (q_I δ 4 6 a0).toInt < (0 : Int) := o_lt hc8
      omega
    · omega
  have f12 := th_v L I k_a1 o4 (q_I δ 4 6 a0).toNatClampNeg
  refine ok_biv (fun vx10 e11 => ?_)
  have f13 : vx10.toInt = (q_R δ b3 (q_I δ 4 6 a0).toNatClampNeg).toInt := congrArg Int32.toInt e11
  obtain ⟨b14, o15, k16, n17⟩ := gO_8_0 L k_a1
  refine ok_at o15 ?_
  refine ok_gd (fun hc18 => ?_) ?_
  · rcases hc18 with hc18 | hc18
    · have c19 : (q_I δ 4 6 a0).toInt < (0 : Int) := o_lt hc18
      omega
    · omega
  obtain ⟨f22, f23, f24⟩ := th_tv L I k_a1 o15 o4 (i := (q_I δ 4 6 a0).toNatClampNeg) (by omega)
  have f25 := ti_b (q_R δ b14 (q_I δ 4 6 a0).toNatClampNeg)
  refine ok_biv (fun vx20 e21 => ?_)
  have f26 : vx20.toInt = (q_R δ b14 (q_I δ 4 6 a0).toNatClampNeg).toInt := congrArg Int32.toInt e21
  first | (have q31 := te_addc (c := 1) (n := 1) rfl (q_I δ 4 6 a0) (by omega) (by omega); obtain ⟨f32, f33, f34⟩ := q31) | (obtain ⟨q31, f32, f33, f34⟩ := ti_addc (c := 1) (n := 1) rfl (q_I δ 4 6 a0))
  refine ok_bdv (fun d27 e28 => ?_)
  have i29 : CI ad h.1 δ0 d27 := by rw [e28]; exact cs_4_6 L I k_a0 (show 0 ≤ ((q_I δ 4 6 a0) + (1 : Int32)).toInt by omega) (show ((q_I δ 4 6 a0) + (1 : Int32)).toInt ≤ 500 by omega)
  have u35 := kp_I kp_r e28
  have v36 : q_V d27 = q_V δ := ((show q_V d27 = q_V δ by rw [e28]; rfl)).trans rfl
  refine ok_ite (fun h37 => ?_) (fun h37 => ?_)
  · have c38 : vx20.toInt = (0 : Int) := o_eq h37
    refine ok_bind (k_X4_hold L hN (a0 := a0) (x1 := vx10) k_a0 i29) (fun r39 hr40 => ?_)
    obtain ⟨i41, ⟨u42, u43⟩⟩ := hr40
    have u44 := kp_t u35 u42
    have v45 : q_V r39 = q_V δ := (u43).trans v36
    unfold J_X4_step_195
    exact ok_some (show CI ad h.1 δ0 r39 ∧ (kp [(1, 3), (1, 4), (1, 5), (1, 6), (1, 7), (1, 8), (1, 9), (1, 10), (1, 11), (1, 12), (1, 13), (1, 14), (1, 15), (3, 1), (4, 5), (4, 6), (4, 7), (4, 8), (4, 9), (4, 10), (4, 11), (4, 12), (4, 13), (4, 14), (4, 15)] δ r39 ∧ q_V r39 = q_V δ) from ⟨i41, ⟨kp_w (by decide) u44, v45⟩⟩)
  · have c46 : vx20.toInt ≠ (0 : Int) := o_ne h37
    refine ok_ite (fun h47 => ?_) (fun h47 => ?_)
    · have c48 : vx20.toInt = (1 : Int) := o_eq h47
      obtain ⟨b49, o50, k51, n52, w53⟩ := gO_4_3 L k_a0
      refine ok_at o50 ?_
      have t54 := ti_tn vx10
      refine ok_gd (fun hc55 => ?_) ?_
      · rcases hc55 with hc55 | hc55
        · have c56 : vx10.toInt < (0 : Int) := o_lt hc55
          omega
        · omega
      refine ok_bind (k_X4_hold L hN (a0 := a0) (x1 := (q_R d27 b49 vx10.toNatClampNeg)) k_a0 i29) (fun r57 hr58 => ?_)
      obtain ⟨i59, ⟨u60, u61⟩⟩ := hr58
      have u62 := kp_t u35 u60
      have v63 : q_V r57 = q_V δ := (u61).trans v36
      unfold J_X4_step_195
      exact ok_some (show CI ad h.1 δ0 r57 ∧ (kp [(1, 3), (1, 4), (1, 5), (1, 6), (1, 7), (1, 8), (1, 9), (1, 10), (1, 11), (1, 12), (1, 13), (1, 14), (1, 15), (3, 1), (4, 5), (4, 6), (4, 7), (4, 8), (4, 9), (4, 10), (4, 11), (4, 12), (4, 13), (4, 14), (4, 15)] δ r57 ∧ q_V r57 = q_V δ) from ⟨i59, ⟨kp_w (by decide) u62, v63⟩⟩)
    · have c64 : vx20.toInt ≠ (1 : Int) := o_ne h47
      refine ok_ite (fun h65 => ?_) (fun h65 => ?_)
      · have c66 : vx20.toInt = (2 : Int) := o_eq h65
        refine ok_bind (k_X4_hold L hN (a0 := a0) (x1 := (q_I d27 4 8 a0)) k_a0 i29) (fun r67 hr68 => ?_)
        obtain ⟨i69, ⟨u70, u71⟩⟩ := hr68
        have u72 := kp_t u35 u70
        have v73 : q_V r67 = q_V δ := (u71).trans v36
        unfold J_X4_step_195
        exact ok_some (show CI ad h.1 δ0 r67 ∧ (kp [(1, 3), (1, 4), (1, 5), (1, 6), (1, 7), (1, 8), (1, 9), (1, 10), (1, 11), (1, 12), (1, 13), (1, 14), (1, 15), (3, 1), (4, 5), (4, 6), (4, 7), (4, 8), (4, 9), (4, 10), (4, 11), (4, 12), (4, 13), (4, 14), (4, 15)] δ r67 ∧ q_V r67 = q_V δ) from ⟨i69, ⟨kp_w (by decide) u72, v73⟩⟩)
      · have c74 : vx20.toInt ≠ (2 : Int) := o_ne h65
        refine ok_ite (fun h75 => ?_) (fun h75 => ?_)
        · have c76 : vx20.toInt = (3 : Int) := o_eq h75
          obtain ⟨b77, o78, k79⟩ := gO_4_1 L k_a0
          refine ok_at o78 ?_
          refine ok_bind (k_X4_hold L hN (a0 := a0) (x1 := (q_I d27 3 1 b77)) k_a0 i29) (fun r80 hr81 => ?_)
          obtain ⟨i82, ⟨u83, u84⟩⟩ := hr81
          have u85 := kp_t u35 u83
          have v86 : q_V r80 = q_V δ := (u84).trans v36
          unfold J_X4_step_195
          exact ok_some (show CI ad h.1 δ0 r80 ∧ (kp [(1, 3), (1, 4), (1, 5), (1, 6), (1, 7), (1, 8), (1, 9), (1, 10), (1, 11), (1, 12), (1, 13), (1, 14), (1, 15), (3, 1), (4, 5), (4, 6), (4, 7), (4, 8), (4, 9), (4, 10), (4, 11), (4, 12), (4, 13), (4, 14), (4, 15)] δ r80 ∧ q_V r80 = q_V δ) from ⟨i82, ⟨kp_w (by decide) u85, v86⟩⟩)
        · have c87 : vx20.toInt ≠ (3 : Int) := o_ne h75
          refine ok_ite (fun h88 => ?_) (fun h88 => ?_)
          · have c89 : vx20.toInt = (4 : Int) := o_eq h88
            refine ok_bind (k_X4_nextDraw L hN (a0 := a0) k_a0 i29) (fun r90 hr91 => ?_)
            obtain ⟨i92, ⟨u93, u94, u95⟩⟩ := hr91
            have u96 := kp_t u35 u93
            have v97 : q_V r90.2 = q_V δ := (u94).trans v36
            have f98 := ti_b r90.1
            refine ok_bind (k_X4_hold L hN (a0 := a0) (x1 := r90.1) k_a0 i92) (fun r99 hr100 => ?_)
            obtain ⟨i101, ⟨u102, u103⟩⟩ := hr100
            have u104 := kp_t u96 u102
            have v105 : q_V r99 = q_V δ := (u103).trans v97
            unfold J_X4_step_195
            exact ok_some (show CI ad h.1 δ0 r99 ∧ (kp [(1, 3), (1, 4), (1, 5), (1, 6), (1, 7), (1, 8), (1, 9), (1, 10), (1, 11), (1, 12), (1, 13), (1, 14), (1, 15), (3, 1), (4, 5), (4, 6), (4, 7), (4, 8), (4, 9), (4, 10), (4, 11), (4, 12), (4, 13), (4, 14), (4, 15)] δ r99 ∧ q_V r99 = q_V δ) from ⟨i101, ⟨kp_w (by decide) u104, v105⟩⟩)
          · have c106 : vx20.toInt ≠ (4 : Int) := o_ne h88
            refine ok_ite (fun h107 => ?_) (fun h107 => ?_)
            · have c108 : vx20.toInt = (5 : Int) := o_eq h107
              unfold J_X4_step_190
              refine ok_bind (k_X4_reckon L hN (a0 := a0) (x1 := vx20) k_a0 i29) (fun r109 hr110 => ?_)
              obtain ⟨i111, ⟨u112, u113⟩⟩ := hr110
              have u114 := kp_t u35 u112
              have v115 : q_V r109 = q_V δ := (u113).trans v36
              unfold J_X4_step_195
              exact ok_some (show CI ad h.1 δ0 r109 ∧ (kp [(1, 3), (1, 4), (1, 5), (1, 6), (1, 7), (1, 8), (1, 9), (1, 10), (1, 11), (1, 12), (1, 13), (1, 14), (1, 15), (3, 1), (4, 5), (4, 6), (4, 7), (4, 8), (4, 9), (4, 10), (4, 11), (4, 12), (4, 13), (4, 14), (4, 15)] δ r109 ∧ q_V r109 = q_V δ) from ⟨i111, ⟨kp_w (by decide) u114, v115⟩⟩)
            · have c116 : vx20.toInt ≠ (5 : Int) := o_ne h107
              refine ok_ite (fun h117 => ?_) (fun h117 => ?_)
              · have c118 : vx20.toInt = (6 : Int) := o_eq h117
                unfold J_X4_step_190
                refine ok_bind (k_X4_reckon L hN (a0 := a0) (x1 := vx20) k_a0 i29) (fun r119 hr120 => ?_)
                obtain ⟨i121, ⟨u122, u123⟩⟩ := hr120
                have u124 := kp_t u35 u122
                have v125 : q_V r119 = q_V δ := (u123).trans v36
                unfold J_X4_step_195
                exact ok_some (show CI ad h.1 δ0 r119 ∧ (kp [(1, 3), (1, 4), (1, 5), (1, 6), (1, 7), (1, 8), (1, 9), (1, 10), (1, 11), (1, 12), (1, 13), (1, 14), (1, 15), (3, 1), (4, 5), (4, 6), (4, 7), (4, 8), (4, 9), (4, 10), (4, 11), (4, 12), (4, 13), (4, 14), (4, 15)] δ r119 ∧ q_V r119 = q_V δ) from ⟨i121, ⟨kp_w (by decide) u124, v125⟩⟩)
              · have c126 : vx20.toInt ≠ (6 : Int) := o_ne h117
                refine ok_ite (fun h127 => ?_) (fun h127 => ?_)
                · have c128 : vx20.toInt = (7 : Int) := o_eq h127
                  unfold J_X4_step_190
                  refine ok_bind (k_X4_reckon L hN (a0 := a0) (x1 := vx20) k_a0 i29) (fun r129 hr130 => ?_)
                  obtain ⟨i131, ⟨u132, u133⟩⟩ := hr130
                  have u134 := kp_t u35 u132
                  have v135 : q_V r129 = q_V δ := (u133).trans v36
                  unfold J_X4_step_195
                  exact ok_some (show CI ad h.1 δ0 r129 ∧ (kp [(1, 3), (1, 4), (1, 5), (1, 6), (1, 7), (1, 8), (1, 9), (1, 10), (1, 11), (1, 12), (1, 13), (1, 14), (1, 15), (3, 1), (4, 5), (4, 6), (4, 7), (4, 8), (4, 9), (4, 10), (4, 11), (4, 12), (4, 13), (4, 14), (4, 15)] δ r129 ∧ q_V r129 = q_V δ) from ⟨i131, ⟨kp_w (by decide) u134, v135⟩⟩)
                · have c136 : vx20.toInt ≠ (7 : Int) := o_ne h127
                  refine ok_ite (fun h137 => ?_) (fun h137 => ?_)
                  · have c138 : vx20.toInt = (8 : Int) := o_eq h137
                    unfold J_X4_step_190
                    refine ok_bind (k_X4_reckon L hN (a0 := a0) (x1 := vx20) k_a0 i29) (fun r139 hr140 => ?_)
                    obtain ⟨i141, ⟨u142, u143⟩⟩ := hr140
                    have u144 := kp_t u35 u142
                    have v145 : q_V r139 = q_V δ := (u143).trans v36
                    unfold J_X4_step_195
                    exact ok_some (show CI ad h.1 δ0 r139 ∧ (kp [(1, 3), (1, 4), (1, 5), (1, 6), (1, 7), (1, 8), (1, 9), (1, 10), (1, 11), (1, 12), (1, 13), (1, 14), (1, 15), (3, 1), (4, 5), (4, 6), (4, 7), (4, 8), (4, 9), (4, 10), (4, 11), (4, 12), (4, 13), (4, 14), (4, 15)] δ r139 ∧ q_V r139 = q_V δ) from ⟨i141, ⟨kp_w (by decide) u144, v145⟩⟩)
                  · have c146 : vx20.toInt ≠ (8 : Int) := o_ne h137
                    refine ok_ite (fun h147 => ?_) (fun h147 => ?_)
                    · have c148 : vx20.toInt = (9 : Int) := o_eq h147
                      refine ok_bind (k_X4_yieldHeld L hN (a0 := a0) k_a0 i29) (fun r149 hr150 => ?_)
                      obtain ⟨i151, ⟨u152, u153, u154⟩⟩ := hr150
                      have u155 := kp_t u35 u152
                      have v156 : q_V r149.2 = q_V δ := (u153).trans v36
                      have f157 := ti_b r149.1
                      obtain ⟨b158, o159, k160⟩ := gO_4_0 L k_a0
                      refine ok_at o159 ?_
                      refine ok_bind (k_X5_greatest L hN (a0 := b158) k160 i151) (fun r161 hr162 => ?_)
                      obtain ⟨i163, p164, p165, p166, p167⟩ := hr162
                      try rw [i163]
                      have f168 := ti_b r161.1
                      have f169 : (q_I r149.2 5 0 b158).toInt = (q_I δ 5 0 b158).toInt := ((show (q_I r149.2 5 0 b158).toInt = (q_I d27 5 0 b158).toInt from congrArg Int32.toInt (u152 5 0 b158 (by decide))).trans (show (q_I d27 5 0 b158).toInt = (q_I δ 5 0 b158).toInt from congrArg Int32.toInt (by rw [e28]; exact rI_o (by decide))))
                      have f170 := cb_5_0 I k160
                      refine ok_bind (k_X4_makeCall L hN (a0 := a0) (x1 := vx10) (x2 := (r149.1 &&& r161.1)) k_a0 i151) (fun r171 hr172 => ?_)
                      obtain ⟨i173, ⟨u174, u175⟩⟩ := hr172
                      have u176 := kp_t u155 u174
                      have v177 : q_V r171 = q_V δ := (u175).trans v156
                      unfold J_X4_step_195
                      exact ok_some (show CI ad h.1 δ0 r171 ∧ (kp [(1, 3), (1, 4), (1, 5), (1, 6), (1, 7), (1, 8), (1, 9), (1, 10), (1, 11), (1, 12), (1, 13), (1, 14), (1, 15), (3, 1), (4, 5), (4, 6), (4, 7), (4, 8), (4, 9), (4, 10), (4, 11), (4, 12), (4, 13), (4, 14), (4, 15)] δ r171 ∧ q_V r171 = q_V δ) from ⟨i173, ⟨kp_w (by decide) u176, v177⟩⟩)
                    · have c178 : vx20.toInt ≠ (9 : Int) := o_ne h147
                      refine ok_ite (fun h179 => ?_) (fun h179 => ?_)
                      · have c180 : vx20.toInt = (10 : Int) := o_eq h179
                        obtain ⟨b181, o182, k183, n184, w185⟩ := gO_4_3 L k_a0
                        refine ok_at o182 ?_
                        have f187 := ti_div (c := 4) (n := 4) rfl (by decide) vx10
                        have f188 := ti_b (vx10 / (4 : Int32))
                        first | (have q189 := te_mulr (c := 4) (n := 4) rfl (vx10 / (4 : Int32)) (by omega) (by omega); obtain ⟨f190, f191, f192⟩ := q189) | (obtain ⟨q189, f190, f191, f192⟩ := ti_mulr (c := 4) (n := 4) rfl (vx10 / (4 : Int32)))
                        first | (have q194 := te_sub vx10 (vx10 / (4 : Int32) * (4 : Int32)) (by omega) (by omega); obtain ⟨f195, f196, f197⟩ := q194) | (obtain ⟨q194, f195, f196, f197⟩ := ti_sub vx10 (vx10 / (4 : Int32) * (4 : Int32)))
                        have t198 := ti_tn (vx10 - vx10 / (4 : Int32) * (4 : Int32))
                        refine ok_gd (fun hc199 => ?_) ?_
                        · rcases hc199 with hc199 | hc199
                          · have c200 : (vx10 - vx10 / (4 : Int32) * (4 : Int32)).toInt < (0 : Int) := o_lt hc199
                            omega
                          · omega
                        refine ok_bdv (fun d201 e202 => ?_)
                        have i203 : CI ad h.1 δ0 d201 := by rw [e202]; exact CI.sR L i29 w185
                        have u204 := kp_N u35 (show q_I d201 = q_I d27 by rw [e202]; rfl)
                        have v205 : q_V d201 = q_V δ := ((show q_V d201 = q_V d27 by rw [e202]; rfl)).trans v36
                        unfold J_X4_step_195
                        exact ok_some (show CI ad h.1 δ0 d201 ∧ (kp [(1, 3), (1, 4), (1, 5), (1, 6), (1, 7), (1, 8), (1, 9), (1, 10), (1, 11), (1, 12), (1, 13), (1, 14), (1, 15), (3, 1), (4, 5), (4, 6), (4, 7), (4, 8), (4, 9), (4, 10), (4, 11), (4, 12), (4, 13), (4, 14), (4, 15)] δ d201 ∧ q_V d201 = q_V δ) from ⟨i203, ⟨kp_w (by decide) u204, v205⟩⟩)
                      · have c206 : vx20.toInt ≠ (10 : Int) := o_ne h179
                        refine ok_ite (fun h207 => ?_) (fun h207 => ?_)
                        · have c208 : vx20.toInt = (11 : Int) := o_eq h207
                          refine ok_bind (k_X4_goRound L hN (a0 := a0) (a1 := a1) (x2 := vx10) k_a0 k_a1 (show 0 ≤ (vx10).toInt by first | with_reducible assumption | omega) (show (vx10).toInt < 500 by first | with_reducible assumption | omega) i29) (fun r209 hr210 => ?_)
                          obtain ⟨i211, ⟨u212, u213⟩⟩ := hr210
                          have u214 := kp_t u35 u212
                          have v215 : q_V r209 = q_V δ := (u213).trans v36
                          unfold J_X4_step_195
                          exact ok_some (show CI ad h.1 δ0 r209 ∧ (kp [(1, 3), (1, 4), (1, 5), (1, 6), (1, 7), (1, 8), (1, 9), (1, 10), (1, 11), (1, 12), (1, 13), (1, 14), (1, 15), (3, 1), (4, 5), (4, 6), (4, 7), (4, 8), (4, 9), (4, 10), (4, 11), (4, 12), (4, 13), (4, 14), (4, 15)] δ r209 ∧ q_V r209 = q_V δ) from ⟨i211, ⟨kp_w (by decide) u214, v215⟩⟩)
                        · have c216 : vx20.toInt ≠ (11 : Int) := o_ne h207
                          unfold J_X4_step_190
                          refine ok_bind (k_X4_reckon L hN (a0 := a0) (x1 := vx20) k_a0 i29) (fun r217 hr218 => ?_)
                          obtain ⟨i219, ⟨u220, u221⟩⟩ := hr218
                          have u222 := kp_t u35 u220
                          have v223 : q_V r217 = q_V δ := (u221).trans v36
                          unfold J_X4_step_195
                          exact ok_some (show CI ad h.1 δ0 r217 ∧ (kp [(1, 3), (1, 4), (1, 5), (1, 6), (1, 7), (1, 8), (1, 9), (1, 10), (1, 11), (1, 12), (1, 13), (1, 14), (1, 15), (3, 1), (4, 5), (4, 6), (4, 7), (4, 8), (4, 9), (4, 10), (4, 11), (4, 12), (4, 13), (4, 14), (4, 15)] δ r217 ∧ q_V r217 = q_V δ) from ⟨i219, ⟨kp_w (by decide) u222, v223⟩⟩)
set_option maxHeartbeats 4000000 in
theorem kl_X4_go_41 {ad : List Nat} {h : hp} (L : Lay TLx ad h) {δ0 : dp} {N : Nat} (hN : 10000000 ≤ N) {a0 : Nat} {a1 : Nat} {a2 : Nat} {x3 : Int32} (k_a0 : q_K h.1 a0 = 4) (k_a1 : q_K h.1 a1 = 8) (k_a2 : q_K h.1 a2 = 3) : ∀ (n : Nat) (x4v : Int32) (δ : dp), CI ad h.1 δ0 δ → 0 ≤ (x4v).toInt → (x4v).toInt ≤ 4000000 → 4000000 - (x4v).toInt < (n : Int) → ok (L_X4_go_41 N h.1 a0 a1 a2 x3 n x4v δ) (fun r => CI ad h.1 δ0 r ∧ (kp [(1, 3), (1, 4), (1, 5), (1, 6), (1, 7), (1, 8), (1, 9), (1, 10), (1, 11), (1, 12), (1, 13), (1, 14), (1, 15), (3, 1), (4, 5), (4, 6), (4, 7), (4, 8), (4, 9), (4, 10), (4, 11), (4, 12), (4, 13), (4, 14), (4, 15), (4, 16), (4, 19)] δ r)) := by
  intro n
  induction n with
  | zero =>
    intro x4v δ I j0 j1 hm
    have f1 := ti_b x4v
    exfalso; omega
  | succ n ih =>
    intro x4v δ I j0 j1 hm
    unfold L_X4_go_41
    have f1 := ti_b x4v
    refine ok_ite (fun h2 => ?_) (fun h2 => ?_)
    · have c3 : (4000000 : Int) ≤ x4v.toInt := o_le h2
      unfold J_X4_go_77
      refine ok_bdv (fun d4 e5 => ?_)
      have i6 : CI ad h.1 δ0 d4 := by rw [e5]; exact cs_4_16 L I k_a0 (show 0 ≤ (1 : Int) by omega) (show (1 : Int) ≤ 1 by omega)
      have u7 := kp_I kp_r e5
      refine ok_bdv (fun d8 e9 => ?_)
      have i10 : CI ad h.1 δ0 d8 := by rw [e9]; exact CI.sV i6
      have u11 := kp_N u7 (show q_I d8 = q_I d4 by rw [e9]; rfl)
      refine ok_bdv (fun d12 e13 => ?_)
      have i14 : CI ad h.1 δ0 d12 := by rw [e13]; exact CI.sV i10
      have u15 := kp_N u11 (show q_I d12 = q_I d8 by rw [e13]; rfl)
      have f19 := ti_b x3
      refine ok_bdv (fun d16 e17 => ?_)
      have i18 : CI ad h.1 δ0 d16 := by rw [e17]; exact cs_4_19 L i14
      have u20 := kp_I u15 e17
      exact ok_some (show CI ad h.1 δ0 d16 ∧ (kp [(1, 3), (1, 4), (1, 5), (1, 6), (1, 7), (1, 8), (1, 9), (1, 10), (1, 11), (1, 12), (1, 13), (1, 14), (1, 15), (3, 1), (4, 5), (4, 6), (4, 7), (4, 8), (4, 9), (4, 10), (4, 11), (4, 12), (4, 13), (4, 14), (4, 15), (4, 16), (4, 19)] δ d16) from ⟨i18, kp_w (by decide) u20⟩)
    · have c21 : x4v.toInt < (4000000 : Int) := o_nle h2
      have f22 := cb_8_2 I k_a1
      have f23 := cb_4_6 I k_a0
      refine ok_ite (fun h24 => ?_) (fun h24 => ?_)
      · have c25 : (q_I δ 8 2 a1).toInt ≤ (q_I δ 4 6 a0).toInt := o_le h24
        unfold J_X4_go_77
        refine ok_bdv (fun d26 e27 => ?_)
        have i28 : CI ad h.1 δ0 d26 := by rw [e27]; exact cs_4_16 L I k_a0 (show 0 ≤ (1 : Int) by omega) (show (1 : Int) ≤ 1 by omega)
        have u29 := kp_I kp_r e27
        refine ok_bdv (fun d30 e31 => ?_)
        have i32 : CI ad h.1 δ0 d30 := by rw [e31]; exact CI.sV i28
        have u33 := kp_N u29 (show q_I d30 = q_I d26 by rw [e31]; rfl)
        refine ok_bdv (fun d34 e35 => ?_)
        have i36 : CI ad h.1 δ0 d34 := by rw [e35]; exact CI.sV i32
        have u37 := kp_N u33 (show q_I d34 = q_I d30 by rw [e35]; rfl)
        have f41 := ti_b x3
        refine ok_bdv (fun d38 e39 => ?_)
        have i40 : CI ad h.1 δ0 d38 := by rw [e39]; exact cs_4_19 L i36
        have u42 := kp_I u37 e39
        exact ok_some (show CI ad h.1 δ0 d38 ∧ (kp [(1, 3), (1, 4), (1, 5), (1, 6), (1, 7), (1, 8), (1, 9), (1, 10), (1, 11), (1, 12), (1, 13), (1, 14), (1, 15), (3, 1), (4, 5), (4, 6), (4, 7), (4, 8), (4, 9), (4, 10), (4, 11), (4, 12), (4, 13), (4, 14), (4, 15), (4, 16), (4, 19)] δ d38) from ⟨i40, kp_w (by decide) u42⟩)
      · have c43 : (q_I δ 4 6 a0).toInt < (q_I δ 8 2 a1).toInt := o_nle h24
        have f44 := cb_4_9 I k_a0
        refine ok_ite (fun h45 => ?_) (fun h45 => ?_)
        · have c46 : (q_I δ 4 9 a0).toInt = (0 : Int) := o_eq h45
          refine ok_bind (k_X4_step L hN (a0 := a0) (a1 := a1) k_a0 k_a1 (show (q_I δ 4 6 a0).toInt < (q_I δ 8 2 a1).toInt by first | with_reducible assumption | omega) I) (fun r47 hr48 => ?_)
          obtain ⟨i49, ⟨u50, u51⟩⟩ := hr48
          have u52 := kp_t kp_r u50
          refine ok_biv (fun vx53 e54 => ?_)
          first | (have q55 := te_addc (c := 1) (n := 1) rfl x4v (by omega) (by omega); rw [← e54] at q55; obtain ⟨f56, f57, f58⟩ := q55) | (obtain ⟨q55, f56, f57, f58⟩ : ∃ q : Int, vx53.toInt = x4v.toInt + (1 : Int) + 4294967296 * q ∧ -2147483648 ≤ vx53.toInt ∧ vx53.toInt ≤ 2147483647 := by rw [e54]; exact ti_addc (c := 1) (n := 1) rfl x4v)
          refine ok_mono (ih vx53 r47 i49 (show 0 ≤ (vx53).toInt by first | with_reducible assumption | omega) (show (vx53).toInt ≤ 4000000 by first | with_reducible assumption | omega) (show 4000000 - (vx53).toInt < _ by omega)) (fun r59 hr60 => ?_)
          obtain ⟨i61, u62⟩ := hr60
          have u63 := kp_t u52 u62
          exact ⟨by first | with_reducible assumption | assumption, kp_w (by decide) u63⟩
        · have c64 : (q_I δ 4 9 a0).toInt ≠ (0 : Int) := o_ne h45
          unfold J_X4_go_77
          refine ok_bdv (fun d65 e66 => ?_)
          have i67 : CI ad h.1 δ0 d65 := by rw [e66]; exact cs_4_16 L I k_a0 (show 0 ≤ (1 : Int) by omega) (show (1 : Int) ≤ 1 by omega)
          have u68 := kp_I kp_r e66
          refine ok_bdv (fun d69 e70 => ?_)
          have i71 : CI ad h.1 δ0 d69 := by rw [e70]; exact CI.sV i67
          have u72 := kp_N u68 (show q_I d69 = q_I d65 by rw [e70]; rfl)
          refine ok_bdv (fun d73 e74 => ?_)
          have i75 : CI ad h.1 δ0 d73 := by rw [e74]; exact CI.sV i71
          have u76 := kp_N u72 (show q_I d73 = q_I d69 by rw [e74]; rfl)
          have f80 := ti_b x3
          refine ok_bdv (fun d77 e78 => ?_)
          have i79 : CI ad h.1 δ0 d77 := by rw [e78]; exact cs_4_19 L i75
          have u81 := kp_I u76 e78
          exact ok_some (show CI ad h.1 δ0 d77 ∧ (kp [(1, 3), (1, 4), (1, 5), (1, 6), (1, 7), (1, 8), (1, 9), (1, 10), (1, 11), (1, 12), (1, 13), (1, 14), (1, 15), (3, 1), (4, 5), (4, 6), (4, 7), (4, 8), (4, 9), (4, 10), (4, 11), (4, 12), (4, 13), (4, 14), (4, 15), (4, 16), (4, 19)] δ d77) from ⟨i79, kp_w (by decide) u81⟩)
set_option maxHeartbeats 4000000 in
theorem k_X4_go {ad : List Nat} {h : hp} (L : Lay TLx ad h) {δ0 : dp} {N : Nat} (hN : 10000000 ≤ N) {a0 : Nat} {a1 : Nat} {a2 : Nat} {x3 : Int32} (k_a0 : q_K h.1 a0 = 4) (k_a1 : q_K h.1 a1 = 8) (k_a2 : q_K h.1 a2 = 3) {δ : dp} (I : CI ad h.1 δ0 δ) : ok (D_X4_go N h.1 a0 a1 a2 x3 δ) (fun r => CI ad h.1 δ0 r ∧ (kp [(1, 3), (1, 4), (1, 5), (1, 6), (1, 7), (1, 8), (1, 9), (1, 10), (1, 11), (1, 12), (1, 13), (1, 14), (1, 15), (3, 1), (4, 5), (4, 6), (4, 7), (4, 8), (4, 9), (4, 10), (4, 11), (4, 12), (4, 13), (4, 14), (4, 15), (4, 16), (4, 19)] δ r)) := by
  unfold D_X4_go
  have f1 := cb_4_16 I k_a0
  refine ok_ite (fun h2 => ?_) (fun h2 => ?_)
  · have c3 : (q_I δ 4 16 a0).toInt = (0 : Int) := o_eq h2
    unfold J_X4_go_32
    refine ok_bind (k_X4_begin L hN (a0 := a0) (a1 := a2) (x2 := x3) k_a0 k_a2 I) (fun r4 hr5 => ?_)
    obtain ⟨i6, ⟨u7, u8⟩⟩ := hr5
    have u9 := kp_t kp_r u7
    refine ok_mono (kl_X4_go_41 L hN   k_a0 k_a1 k_a2 _ (0 : Int32) r4 i6 (show 0 ≤ (0 : Int) by first | with_reducible assumption | omega) (show (0 : Int) ≤ 4000000 by first | with_reducible assumption | omega) (show 4000000 - (0 : Int) < _ by omega)) (fun r10 hr11 => ?_)
    obtain ⟨i12, u13⟩ := hr11
    have u14 := kp_t u9 u13
    exact ⟨by first | with_reducible assumption | assumption, kp_w (by decide) u14⟩
  · have c15 : (q_I δ 4 16 a0).toInt ≠ (0 : Int) := o_ne h2
    refine ok_ite (fun h16 => ?_) (fun h16 => ?_)
    · refine ok_ite (fun h17 => ?_) (fun h17 => ?_)
      · have f18 := ti_b x3
        have f19 := ti_b (q_I δ 4 19 a0)
        refine ok_ite (fun h20 => ?_) (fun h20 => ?_)
        · have c21 : x3.toInt = (q_I δ 4 19 a0).toInt := o_eq h20
          exact ok_some (show CI ad h.1 δ0 δ ∧ (kp [(1, 3), (1, 4), (1, 5), (1, 6), (1, 7), (1, 8), (1, 9), (1, 10), (1, 11), (1, 12), (1, 13), (1, 14), (1, 15), (3, 1), (4, 5), (4, 6), (4, 7), (4, 8), (4, 9), (4, 10), (4, 11), (4, 12), (4, 13), (4, 14), (4, 15), (4, 16), (4, 19)] δ δ) from ⟨I, kp_w (by decide) kp_r⟩)
        · have c22 : x3.toInt ≠ (q_I δ 4 19 a0).toInt := o_ne h20
          unfold J_X4_go_32
          refine ok_bind (k_X4_begin L hN (a0 := a0) (a1 := a2) (x2 := x3) k_a0 k_a2 I) (fun r23 hr24 => ?_)
          obtain ⟨i25, ⟨u26, u27⟩⟩ := hr24
          have u28 := kp_t kp_r u26
          refine ok_mono (kl_X4_go_41 L hN   k_a0 k_a1 k_a2 _ (0 : Int32) r23 i25 (show 0 ≤ (0 : Int) by first | with_reducible assumption | omega) (show (0 : Int) ≤ 4000000 by first | with_reducible assumption | omega) (show 4000000 - (0 : Int) < _ by omega)) (fun r29 hr30 => ?_)
          obtain ⟨i31, u32⟩ := hr30
          have u33 := kp_t u28 u32
          exact ⟨by first | with_reducible assumption | assumption, kp_w (by decide) u33⟩
      · unfold J_X4_go_32
        refine ok_bind (k_X4_begin L hN (a0 := a0) (a1 := a2) (x2 := x3) k_a0 k_a2 I) (fun r34 hr35 => ?_)
        obtain ⟨i36, ⟨u37, u38⟩⟩ := hr35
        have u39 := kp_t kp_r u37
        refine ok_mono (kl_X4_go_41 L hN   k_a0 k_a1 k_a2 _ (0 : Int32) r34 i36 (show 0 ≤ (0 : Int) by first | with_reducible assumption | omega) (show (0 : Int) ≤ 4000000 by first | with_reducible assumption | omega) (show 4000000 - (0 : Int) < _ by omega)) (fun r40 hr41 => ?_)
        obtain ⟨i42, u43⟩ := hr41
        have u44 := kp_t u39 u43
        exact ⟨by first | with_reducible assumption | assumption, kp_w (by decide) u44⟩
    · unfold J_X4_go_32
      refine ok_bind (k_X4_begin L hN (a0 := a0) (a1 := a2) (x2 := x3) k_a0 k_a2 I) (fun r45 hr46 => ?_)
      obtain ⟨i47, ⟨u48, u49⟩⟩ := hr46
      have u50 := kp_t kp_r u48
      refine ok_mono (kl_X4_go_41 L hN   k_a0 k_a1 k_a2 _ (0 : Int32) r45 i47 (show 0 ≤ (0 : Int) by first | with_reducible assumption | omega) (show (0 : Int) ≤ 4000000 by first | with_reducible assumption | omega) (show 4000000 - (0 : Int) < _ by omega)) (fun r51 hr52 => ?_)
      obtain ⟨i53, u54⟩ := hr52
      have u55 := kp_t u50 u54
      exact ⟨by first | with_reducible assumption | assumption, kp_w (by decide) u55⟩
end
section
/-! Numbers as a sorted row: what firstFrom, add and remove do to it -/
theorem ok_and {α : Type} {o : Option α} {P Q : α → Prop} (h : ok o P) (k : ok o Q) : ok o (fun r => P r ∧ Q r) := by
  obtain ⟨r, e, hp⟩ := h
  obtain ⟨r1, e1, hq⟩ := k
  rw [e] at e1
  obtain rfl := Option.some.inj e1
  exact ⟨r, e, hp, hq⟩
theorem qR_sC {δ : dp} {a b i j n : Nat} (k : Nat) : q_R (s_C δ a b i j n) b k = if j ≤ k ∧ k < j + n then q_R δ a (i + (k - j)) else q_R δ b k := by
  show va_up (q_R δ) b (va_cpy (q_R δ a) (q_R δ b) i j n) b k = _
  rw [va_up_self]
  rfl
def srt (δ : dp) (a b : Nat) : Prop := ∀ i j : Nat, i < j → (j : Int) < (q_I δ 3 1 a).toInt → (q_R δ b i).toInt < (q_R δ b j).toInt
def plc (δ : dp) (a b : Nat) (x : Int32) (p : Nat) : Prop := (p : Int) ≤ (q_I δ 3 1 a).toInt ∧ (∀ i : Nat, i < p → (q_R δ b i).toInt < x.toInt) ∧ ∀ i : Nat, p ≤ i → (i : Int) < (q_I δ 3 1 a).toInt → x.toInt ≤ (q_R δ b i).toInt
def ins (δ δ1 : dp) (a b : Nat) (x : Int32) (p : Nat) : Prop := (q_I δ1 3 1 a).toInt = (q_I δ 3 1 a).toInt + 1 ∧ ∀ i : Nat, (i : Int) ≤ (q_I δ 3 1 a).toInt → q_R δ1 b i = if i < p then q_R δ b i else if i = p then x else q_R δ b (i - 1)
def del (δ δ1 : dp) (a b : Nat) (p : Nat) : Prop := (q_I δ1 3 1 a).toInt = (q_I δ 3 1 a).toInt - 1 ∧ ∀ i : Nat, (i : Int) + 1 < (q_I δ 3 1 a).toInt → q_R δ1 b i = if i < p then q_R δ b i else q_R δ b (i + 1)
theorem plc_u {δ : dp} {a b : Nat} {x : Int32} {p q : Nat} (P : plc δ a b x p) (Q : plc δ a b x q) : p = q := by
  obtain ⟨p1, p2, p3⟩ := P
  obtain ⟨q1, q2, q3⟩ := Q
  rcases (show p < q ∨ p = q ∨ q < p by omega) with h | h | h
  · have := q2 p h
    have := p3 p (Nat.le_refl _) (by omega)
    omega
  · exact h
  · have := p2 q h
    have := q3 q (Nat.le_refl _) (by omega)
    omega
theorem fl_firstFrom {ad : List Nat} {h : hp} (L : Lay TLx ad h) {δ0 : dp} {N a b : Nat} {x : Int32} (ka : q_K h.1 a = 3) (hb : q_O h.1 3 0 a = some b) {δ : dp} (I : CI ad h.1 δ0 δ) (S : srt δ a b) : ∀ (n : Nat) (x2 x3 : Int32), 0 ≤ x2.toInt → x2.toInt ≤ x3.toInt → x3.toInt ≤ (q_I δ 3 1 a).toInt → (∀ i : Nat, (i : Int) < x2.toInt → (q_R δ b i).toInt < x.toInt) → (∀ i : Nat, x3.toInt ≤ (i : Int) → (i : Int) < (q_I δ 3 1 a).toInt → x.toInt ≤ (q_R δ b i).toInt) → x3.toInt - x2.toInt < (n : Int) → ok (L_X3_firstFrom_7 N h.1 a x n x2 x3 δ) (fun r => r.2 = δ ∧ ∃ p : Nat, r.1.toInt = (p : Int) ∧ plc δ a b x p) := by
  intro n
  induction n with
  | zero => intro x2 x3 h1 h2 h3 h4 h5 h6; exfalso; omega
  | succ n ih =>
    intro x2 x3 h1 h2 h3 h4 h5 h6
    unfold L_X3_firstFrom_7
    have hB := cb_3_1 I ka hb
    obtain ⟨b', hb', _, ⟨n1, n2⟩, _⟩ := gO_3_0 L ka
    rw [hb] at hb'
    obtain rfl := Option.some.inj hb'
    have e0 : (0 : Int32).toInt = 0 := rfl
    refine ok_ite (fun c => ?_) (fun c => ?_)
    · have c1 := o_le c
      exact ok_some ⟨rfl, x2.toInt.toNat, (show x2.toInt = ((x2.toInt.toNat : Nat) : Int) by omega), by omega, fun i hi => h4 i (by omega), fun i hi hm => h5 i (by omega) hm⟩
    · have c1 := o_nle c
      refine ok_biv (fun m em => ?_)
      have hm : m.toInt = (x2.toInt + x3.toInt) / 2 := by
        rw [em]
        have t := te_add x2 x3 (by omega) (by omega)
        have t2 := ti_div (c := 2) (n := 2) rfl (by decide) (x2 + x3) (by omega)
        omega
      refine ok_at hb ?_
      have tm := ti_tn m
      refine ok_gd (fun z => ?_) ?_
      · rcases z with z | z
        · have := o_lt z; omega
        · omega
      refine ok_ite (fun z => ?_) (fun z => ?_)
      · have z1 := o_le z
        unfold J_X3_firstFrom_41
        refine ih x2 m h1 (by omega) (by omega) h4 (fun i hi hq => ?_) (by omega)
        by_cases e : i = m.toNatClampNeg
        · rw [e]; exact z1
        · have := S m.toNatClampNeg i (by omega) hq
          omega
      · have z1 := o_nle z
        refine ok_biv (fun y ey => ?_)
        have hy : y.toInt = m.toInt + 1 := by rw [ey]; exact (te_addc (c := 1) (n := 1) rfl m (by omega) (by omega)).1
        unfold J_X3_firstFrom_41
        refine ih y x3 (by omega) (by omega) h3 (fun i hi => ?_) h5 (by omega)
        by_cases e : i = m.toNatClampNeg
        · rw [e]; exact z1
        · have := S i m.toNatClampNeg (by omega) (by omega)
          omega
theorem f_firstFrom {ad : List Nat} {h : hp} (L : Lay TLx ad h) {δ0 : dp} {N : Nat} (hN : 10000000 ≤ N) {a b : Nat} {x : Int32} (ka : q_K h.1 a = 3) (hb : q_O h.1 3 0 a = some b) {δ : dp} (I : CI ad h.1 δ0 δ) (S : srt δ a b) : ok (D_X3_firstFrom N h.1 a x δ) (fun r => r.2 = δ ∧ ∃ p : Nat, r.1.toInt = (p : Int) ∧ plc δ a b x p) := by
  unfold D_X3_firstFrom
  refine ok_biv (fun m em => ?_)
  have hB := cb_3_1 I ka hb
  have hm : m.toInt = (q_I δ 3 1 a).toInt := by rw [em]
  obtain ⟨b', hb', _, ⟨n1, n2⟩, _⟩ := gO_3_0 L ka
  rw [hb] at hb'
  obtain rfl := Option.some.inj hb'
  have e0 : (0 : Int32).toInt = 0 := rfl
  exact fl_firstFrom L ka hb I S N 0 m (by omega) (by omega) (by omega) (fun i hi => by omega) (fun i h1 h2 => by omega) (by omega)
theorem fj_add {ad : List Nat} {h : hp} (L : Lay TLx ad h) {δ0 : dp} {N a b p : Nat} {x y : Int32} (ka : q_K h.1 a = 3) (hb : q_O h.1 3 0 a = some b) {δ : dp} (I : CI ad h.1 δ0 δ) (P : plc δ a b x p) (hy : y.toInt = (p : Int)) (ne : (p : Int) < (q_I δ 3 1 a).toInt → q_R δ b p ≠ x) : ok (J_X3_add_24 N h.1 a x y δ) (fun r => (r.1 = 0 ∧ r.2 = δ ∧ (q_N h.1 b : Int) ≤ (q_I δ 3 1 a).toInt) ∨ (r.1 = 1 ∧ ins δ r.2 a b x p)) := by
  have hB := cb_3_1 I ka hb
  obtain ⟨b', hb', _, ⟨n1, n2⟩, _⟩ := gO_3_0 L ka
  rw [hb] at hb'
  obtain rfl := Option.some.inj hb'
  have e0 : (0 : Int32).toInt = 0 := rfl
  have p1 := P.1
  have hn := n_ti (q_N h.1 b) (by omega)
  unfold J_X3_add_24
  refine ok_at hb ?_
  refine ok_ite (fun c => ?_) (fun c => ?_)
  · have c1 := o_lt c
    refine ok_at hb ?_
    refine ok_at hb ?_
    have t1 := te_addc (c := 1) (n := 1) rfl y (by omega) (by omega)
    have t2 := te_sub (q_I δ 3 1 a) y (by omega) (by omega)
    have t3 := ti_tn y
    have t4 := ti_tn (y + 1)
    have t5 := ti_tn (q_I δ 3 1 a - y)
    refine ok_gd (fun z => ?_) ?_
    · rcases z with z | z | z | z | z
      · have := o_lt z; omega
      · have := o_lt z; omega
      · have := o_lt z; omega
      · omega
      · omega
    refine ok_bdv (fun d1 e1 => ?_)
    refine ok_at hb ?_
    refine ok_gd (fun z => ?_) ?_
    · rcases z with z | z
      · have := o_lt z; omega
      · omega
    refine ok_bdv (fun d2 e2 => ?_)
    refine ok_bdv (fun d3 e3 => ?_)
    refine ok_gp (Or.inr rfl) ?_
    refine ok_some (Or.inr ⟨rfl, ?_, fun i hi => ?_⟩)
    · have t6 := te_addc (c := 1) (n := 1) rfl (q_I δ 3 1 a) (by omega) (by omega)
      show (q_I d3 3 1 a).toInt = _
      rw [e3, rI_s, e2, e1]
      exact t6.1
    · show q_R d3 b i = _
      rw [e3, qR_sI, e2, qR_sR]
      by_cases c3 : i = p
      · rw [if_pos ⟨rfl, by omega⟩, if_neg (by omega), if_pos c3]
      · rw [if_neg (fun z => c3 (by omega)), e1, qR_sC]
        by_cases c4 : i < p
        · rw [if_neg (by omega), if_pos c4]
        · rw [if_pos (by omega), if_neg c4, if_neg c3]
          congr 1
          omega
  · have c1 := o_nlt c
    unfold J_X3_add_36
    refine ok_gp (Or.inl rfl) ?_
    exact ok_some (Or.inl ⟨rfl, rfl, by omega⟩)
theorem f_add {ad : List Nat} {h : hp} (L : Lay TLx ad h) {δ0 : dp} {N : Nat} (hN : 10000000 ≤ N) {a b : Nat} {x : Int32} (ka : q_K h.1 a = 3) (hb : q_O h.1 3 0 a = some b) {δ : dp} (I : CI ad h.1 δ0 δ) (S : srt δ a b) : ok (D_X3_add N h.1 a x δ) (fun r => (r.1 = 0 ∧ r.2 = δ ∧ ((q_N h.1 b : Int) ≤ (q_I δ 3 1 a).toInt ∨ ∃ p : Nat, plc δ a b x p ∧ (p : Int) < (q_I δ 3 1 a).toInt ∧ q_R δ b p = x)) ∨ (r.1 = 1 ∧ ∃ p : Nat, plc δ a b x p ∧ ((p : Int) < (q_I δ 3 1 a).toInt → q_R δ b p ≠ x) ∧ ins δ r.2 a b x p)) := by
  unfold D_X3_add
  refine ok_bind (f_firstFrom L hN ka hb I S) (fun r hr => ?_)
  obtain ⟨e, p, hp, P⟩ := hr
  rw [e]
  have hB := cb_3_1 I ka hb
  have e0 : (0 : Int32).toInt = 0 := rfl
  have tp := ti_tn r.1
  refine ok_ite (fun c => ?_) (fun c => ?_)
  · have c1 := o_le c
    have ne : (p : Int) < (q_I δ 3 1 a).toInt → q_R δ b p ≠ x := fun z => by omega
    refine ok_mono (fj_add L ka hb I P hp ne) (fun r1 h1 => ?_)
    rcases h1 with ⟨h1, h2, h3⟩ | ⟨h1, h2⟩
    · exact Or.inl ⟨h1, h2, Or.inl h3⟩
    · exact Or.inr ⟨h1, p, P, ne, h2⟩
  · have c1 := o_nle c
    refine ok_at hb ?_
    refine ok_gd (fun z => ?_) ?_
    · rcases z with z | z
      · have := o_lt z; omega
      · omega
    have ep : r.1.toNatClampNeg = p := by omega
    rw [ep]
    refine ok_ite (fun z => ?_) (fun z => ?_)
    · unfold J_X3_add_36
      refine ok_gp (Or.inl rfl) ?_
      exact ok_some (Or.inl ⟨rfl, rfl, Or.inr ⟨p, P, by omega, z⟩⟩)
    · refine ok_mono (fj_add L ka hb I P hp (fun _ => z)) (fun r1 h1 => ?_)
      rcases h1 with ⟨h1, h2, h3⟩ | ⟨h1, h2⟩
      · exact Or.inl ⟨h1, h2, Or.inl h3⟩
      · exact Or.inr ⟨h1, p, P, fun _ => z, h2⟩
theorem f_remove {ad : List Nat} {h : hp} (L : Lay TLx ad h) {δ0 : dp} {N : Nat} (hN : 10000000 ≤ N) {a b : Nat} {x : Int32} (ka : q_K h.1 a = 3) (hb : q_O h.1 3 0 a = some b) {δ : dp} (I : CI ad h.1 δ0 δ) (S : srt δ a b) : ok (D_X3_remove N h.1 a x δ) (fun r => (r.1 = 0 ∧ r.2 = δ ∧ ∃ p : Nat, plc δ a b x p ∧ ((p : Int) < (q_I δ 3 1 a).toInt → q_R δ b p ≠ x)) ∨ (r.1 = 1 ∧ ∃ p : Nat, plc δ a b x p ∧ (p : Int) < (q_I δ 3 1 a).toInt ∧ q_R δ b p = x ∧ del δ r.2 a b p)) := by
  unfold D_X3_remove
  refine ok_bind (f_firstFrom L hN ka hb I S) (fun r hr => ?_)
  obtain ⟨e, p, hp, P⟩ := hr
  rw [e]
  have hB := cb_3_1 I ka hb
  obtain ⟨b', hb', _, ⟨n1, n2⟩, _⟩ := gO_3_0 L ka
  rw [hb] at hb'
  obtain rfl := Option.some.inj hb'
  have e0 : (0 : Int32).toInt = 0 := rfl
  have tp := ti_tn r.1
  refine ok_ite (fun c => ?_) (fun c => ?_)
  · have c1 := o_le c
    unfold J_X3_remove_24
    refine ok_gp (Or.inl rfl) ?_
    exact ok_some (Or.inl ⟨rfl, rfl, p, P, fun z => by omega⟩)
  · have c1 := o_nle c
    refine ok_at hb ?_
    refine ok_gd (fun z => ?_) ?_
    · rcases z with z | z
      · have := o_lt z; omega
      · omega
    have ep : r.1.toNatClampNeg = p := by omega
    rw [ep]
    refine ok_ite (fun z => ?_) (fun z => ?_)
    · refine ok_bdv (fun d1 e1 => ?_)
      refine ok_at hb ?_
      refine ok_at hb ?_
      have t6 := te_subc (c := 1) (n := 1) rfl (q_I δ 3 1 a) (by omega) (by omega)
      have em : q_I d1 3 1 a = q_I δ 3 1 a - 1 := by rw [e1, rI_s]
      rw [em]
      have t1 := te_addc (c := 1) (n := 1) rfl r.1 (by omega) (by omega)
      have t2 := te_sub (q_I δ 3 1 a - 1) r.1 (by omega) (by omega)
      have t4 := ti_tn (r.1 + 1)
      have t5 := ti_tn (q_I δ 3 1 a - 1 - r.1)
      refine ok_gd (fun z => ?_) ?_
      · rcases z with z | z | z | z | z
        · have := o_lt z; omega
        · have := o_lt z; omega
        · have := o_lt z; omega
        · omega
        · omega
      refine ok_bdv (fun d2 e2 => ?_)
      refine ok_gp (Or.inr rfl) ?_
      refine ok_some (Or.inr ⟨rfl, p, P, by omega, z, ?_, fun i hi => ?_⟩)
      · show (q_I d2 3 1 a).toInt = _
        rw [e2]
        show (q_I d1 3 1 a).toInt = _
        rw [em]
        exact t6.1
      · show q_R d2 b i = _
        rw [e2, qR_sC, e1, qR_sI]
        by_cases c4 : i < p
        · rw [if_neg (by omega), if_pos c4]
        · rw [if_pos (by omega), if_neg c4]
          congr 1
          omega
    · unfold J_X3_remove_24
      refine ok_gp (Or.inl rfl) ?_
      exact ok_some (Or.inl ⟨rfl, rfl, p, P, fun _ => z⟩)
theorem ins_srt {δ δ1 : dp} {a b p : Nat} {x : Int32} (S : srt δ a b) (P : plc δ a b x p) (ne : (p : Int) < (q_I δ 3 1 a).toInt → q_R δ b p ≠ x) (H : ins δ δ1 a b x p) : srt δ1 a b := by
  intro i j hij hj
  obtain ⟨p1, p2, p3⟩ := P
  rw [H.1] at hj
  rw [H.2 i (by omega), H.2 j (by omega)]
  by_cases c1 : j < p
  · rw [if_pos c1, if_pos (by omega)]; exact S i j hij (by omega)
  · rw [if_neg c1]
    by_cases c2 : j = p
    · rw [if_pos c2, if_pos (by omega)]; exact p2 i (by omega)
    · rw [if_neg c2]
      have q1 : x.toInt < (q_R δ b p).toInt := by
        have h1 := p3 p (Nat.le_refl _) (by omega)
        have h2 := ne (by omega)
        have h3 : (q_R δ b p).toInt ≠ x.toInt := fun z => h2 (i_eq z)
        omega
      have q2 : (q_R δ b p).toInt ≤ (q_R δ b (j - 1)).toInt := by
        by_cases c3 : p = j - 1
        · rw [← c3]; exact Int.le_refl _
        · exact Int.le_of_lt (S p (j - 1) (by omega) (by omega))
      by_cases c4 : i < p
      · rw [if_pos c4]; have := p2 i c4; omega
      · rw [if_neg c4]
        by_cases c5 : i = p
        · rw [if_pos c5]; omega
        · rw [if_neg c5]; exact S (i - 1) (j - 1) (by omega) (by omega)
theorem del_srt {δ δ1 : dp} {a b p : Nat} (S : srt δ a b) (H : del δ δ1 a b p) : srt δ1 a b := by
  intro i j hij hj
  rw [H.1] at hj
  rw [H.2 i (by omega), H.2 j (by omega)]
  by_cases c1 : j < p
  · rw [if_pos c1, if_pos (by omega)]; exact S i j hij (by omega)
  · rw [if_neg c1]
    by_cases c2 : i < p
    · rw [if_pos c2]; exact S i (j + 1) (by omega) (by omega)
    · rw [if_neg c2]; exact S (i + 1) (j + 1) (by omega) (by omega)
theorem srt_s {ad : List Nat} {δ δ1 : dp} (h : sam ad δ δ1) (S : srt δ (Ad ad 43) (Ad ad 44)) : srt δ1 (Ad ad 43) (Ad ad 44) := by
  intro i j hij hj
  rw [h.1] at hj
  rw [h.2 i (by omega), h.2 j hj]
  exact S i j hij hj
theorem ad_ne {ad : List Nat} {h : hp} (L : Lay TLx ad h) {i j : Nat} (hi : i < 128) (hj : j < 128) (n : i ≠ j) : Ad ad i ≠ Ad ad j := fun e => by
  rw [Ad_eq L _ _ hi hj] at e
  exact n e
/-- added, then removed: as it was -/
theorem undo_add {ad : List Nat} {h : hp} (L : Lay TLx ad h) {δ0 : dp} {N : Nat} (hN : 10000000 ≤ N) {x : Int32} {δ δ1 δ2 : dp} {p : Nat} (I2 : CI ad h.1 δ0 δ2) (S : srt δ (Ad ad 43) (Ad ad 44)) (P : plc δ (Ad ad 43) (Ad ad 44) x p) (ne : (p : Int) < (q_I δ 3 1 (Ad ad 43)).toInt → q_R δ (Ad ad 44) p ≠ x) (H : ins δ δ1 (Ad ad 43) (Ad ad 44) x p) (M : sam ad δ1 δ2) : ok (D_X3_remove N h.1 (Ad ad 43) x δ2) (fun r => sam ad δ r.2) := by
  have S2 := srt_s M (ins_srt S P ne H)
  have p1 := P.1
  have m2 : (q_I δ2 3 1 (Ad ad 43)).toInt = (q_I δ 3 1 (Ad ad 43)).toInt + 1 := by rw [M.1]; exact H.1
  have r2 : ∀ i : Nat, (i : Int) ≤ (q_I δ 3 1 (Ad ad 43)).toInt → q_R δ2 (Ad ad 44) i = if i < p then q_R δ (Ad ad 44) i else if i = p then x else q_R δ (Ad ad 44) (i - 1) := fun i hi => by
    rw [M.2 i (by rw [H.1]; omega)]; exact H.2 i hi
  have P2 : plc δ2 (Ad ad 43) (Ad ad 44) x p := by
    refine ⟨by omega, fun i hi => ?_, fun i h1 h2 => ?_⟩
    · rw [r2 i (by omega), if_pos hi]; exact P.2.1 i hi
    · rw [r2 i (by omega), if_neg (by omega)]
      by_cases c : i = p
      · rw [if_pos c]; exact Int.le_refl _
      · rw [if_neg c]; exact P.2.2 (i - 1) (by omega) (by omega)
  refine ok_mono (f_remove L hN ((lay_knd L (by decide)).trans (by decide)) (fO_43_0 L) I2 S2) (fun r hr => ?_)
  rcases hr with ⟨_, _, q, Q, hq⟩ | ⟨_, q, Q, hq, _, D⟩
  · obtain rfl := plc_u P2 Q
    refine absurd ?_ (hq (by omega))
    rw [r2 p (by omega), if_neg (by omega), if_pos rfl]
  · obtain rfl := plc_u P2 Q
    refine ⟨i_eq (by rw [D.1]; omega), fun i hi => ?_⟩
    rw [D.2 i (by omega)]
    by_cases c : i < p
    · rw [if_pos c, r2 i (by omega), if_pos c]
    · rw [if_neg c, r2 (i + 1) (by omega), if_neg (by omega), if_neg (by omega)]
      rfl
/-- removed, then added: as it was -/
theorem undo_remove {ad : List Nat} {h : hp} (L : Lay TLx ad h) {δ0 : dp} {N : Nat} (hN : 10000000 ≤ N) {x : Int32} {δ δ1 δ2 : dp} {p : Nat} (I : CI ad h.1 δ0 δ) (I2 : CI ad h.1 δ0 δ2) (S : srt δ (Ad ad 43) (Ad ad 44)) (P : plc δ (Ad ad 43) (Ad ad 44) x p) (lt : (p : Int) < (q_I δ 3 1 (Ad ad 43)).toInt) (ex : q_R δ (Ad ad 44) p = x) (H : del δ δ1 (Ad ad 43) (Ad ad 44) p) (M : sam ad δ1 δ2) : ok (D_X3_add N h.1 (Ad ad 43) x δ2) (fun r => sam ad δ r.2) := by
  have S2 := srt_s M (del_srt S H)
  have p1 := P.1
  have kk : q_K h.1 (Ad ad 43) = 3 := (lay_knd L (by decide)).trans (by decide)
  have hB := cb_3_1 I kk (fO_43_0 L)
  have m2 : (q_I δ2 3 1 (Ad ad 43)).toInt = (q_I δ 3 1 (Ad ad 43)).toInt - 1 := by rw [M.1]; exact H.1
  have r2 : ∀ i : Nat, (i : Int) + 1 < (q_I δ 3 1 (Ad ad 43)).toInt → q_R δ2 (Ad ad 44) i = if i < p then q_R δ (Ad ad 44) i else q_R δ (Ad ad 44) (i + 1) := fun i hi => by
    rw [M.2 i (by rw [H.1]; omega)]; exact H.2 i hi
  have gt : ∀ i : Nat, p < i → (i : Int) < (q_I δ 3 1 (Ad ad 43)).toInt → x.toInt < (q_R δ (Ad ad 44) i).toInt := fun i h1 h2 => by
    have := S p i h1 h2
    rw [ex] at this
    exact this
  have P2 : plc δ2 (Ad ad 43) (Ad ad 44) x p := by
    refine ⟨by omega, fun i hi => ?_, fun i h1 h2 => ?_⟩
    · rw [r2 i (by omega), if_pos hi]; exact P.2.1 i hi
    · rw [r2 i (by omega), if_neg (by omega)]
      exact Int.le_of_lt (gt (i + 1) (by omega) (by omega))
  refine ok_mono (f_add L hN kk (fO_43_0 L) I2 S2) (fun r hr => ?_)
  rcases hr with ⟨_, _, hq⟩ | ⟨_, q, Q, _, D⟩
  · rcases hq with hq | ⟨q, Q, h1, h2⟩
    · exfalso; omega
    · obtain rfl := plc_u P2 Q
      exfalso
      rw [r2 p (by omega), if_neg (by omega)] at h2
      have := gt (p + 1) (by omega) (by omega)
      rw [h2] at this
      omega
  · obtain rfl := plc_u P2 Q
    refine ⟨i_eq (by rw [D.1]; omega), fun i hi => ?_⟩
    rw [D.2 i (by omega)]
    by_cases c : i < p
    · rw [if_pos c, r2 i (by omega), if_pos c]
    · rw [if_neg c]
      by_cases c2 : i = p
      · rw [if_pos c2, c2, ex]
      · rw [if_neg c2, r2 (i - 1) (by omega), if_neg (by omega)]
        congr 1
        omega
theorem srt_0 {δ : dp} {a b : Nat} (e : (q_I δ 3 1 a).toInt = 0) : srt δ a b := fun i j hij hj => by omega
end
