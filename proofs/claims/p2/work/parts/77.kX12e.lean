/-! 77.kX12e (by gen_safe.py) -/
set_option maxHeartbeats 4000000 in
theorem k_X12_emit {ad : List Nat} {h : hp} (L : Lay TLx ad h) {δ0 : dp} {N : Nat} (hN : 10000000 ≤ N) {a0 : Nat} {x1 : Int32} {x2 : Int32} (k_a0 : q_K h.1 a0 = 12) {δ : dp} (z0 : (q_I δ 12 24 a0).toInt ≤ 3) (z1 : (q_I δ 12 5 a0).toInt = -1 → (q_I δ 12 26 a0).toInt < 500) (I : RI ad h.1 δ0 δ) : ok (D_X12_emit N h.1 a0 x1 x2 δ) (fun r => RI ad h.1 δ0 r ∧ (kp [(12, 26)] δ r ∧ q_V r = q_V δ ∧ kr ad [116, 117] δ r) ∧ (q_I δ 12 26 a0).toInt ≤ (q_I r 12 26 a0).toInt ∧ (q_I r 12 26 a0).toInt ≤ (q_I δ 12 26 a0).toInt + 1 ∧ ((q_I δ 12 5 a0).toInt ≠ -1 → (q_I r 12 26 a0).toInt = (q_I δ 12 26 a0).toInt)) := by
  unfold D_X12_emit
  have f1 := cb_12_24 I k_a0
  have f2 := ti_b (q_I δ 12 5 a0)
  have f3 := cb_12_26 I k_a0
  refine ok_bind (k_X12_fine L hN (a0 := a0) k_a0 I) (fun r4 hr5 => ?_)
  obtain ⟨i6, p7, p8, p9⟩ := hr5
  try rw [i6]
  have f10 := bo_t p7
  have f11 := ti_b r4.1
  have f12 := ti_b r4.1
  refine ok_ite (fun h13 => ?_) (fun h13 => ?_)
  · have c14 : r4.1.toInt = (0 : Int) := o_eq h13
    exact ok_some (show RI ad h.1 δ0 δ ∧ (kp [(12, 26)] δ δ ∧ q_V δ = q_V δ ∧ kr ad [116, 117] δ δ) ∧ (q_I δ 12 26 a0).toInt ≤ (q_I δ 12 26 a0).toInt ∧ (q_I δ 12 26 a0).toInt ≤ (q_I δ 12 26 a0).toInt + 1 ∧ ((q_I δ 12 5 a0).toInt ≠ -1 → (q_I δ 12 26 a0).toInt = (q_I δ 12 26 a0).toInt) from ⟨I, ⟨kp_w (by decide) kp_r, rfl, kr_w (by decide) kr_r⟩, by first | assumption | omega, by first | assumption | omega, by first | assumption | omega⟩)
  · have c15 : r4.1.toInt ≠ (0 : Int) := o_ne h13
    obtain ⟨b16, o17, k18, n19, w20⟩ := gO_12_32 L k_a0
    obtain rfl := gS_12_32 L k_a0 o17
    refine ok_at o17 ?_
    first | (have q22 := te_mulc (c := 500) (n := 500) rfl (q_I δ 12 24 a0) (by omega) (by omega); obtain ⟨f23, f24, f25⟩ := q22) | (obtain ⟨q22, f23, f24, f25⟩ := ti_mulc (c := 500) (n := 500) rfl (q_I δ 12 24 a0))
    first | (have q27 := te_add ((500 : Int32) * (q_I δ 12 24 a0)) (q_I δ 12 26 a0) (by omega) (by omega); obtain ⟨f28, f29, f30⟩ := q27) | (obtain ⟨q27, f28, f29, f30⟩ := ti_add ((500 : Int32) * (q_I δ 12 24 a0)) (q_I δ 12 26 a0))
    have t31 := ti_tn (((500 : Int32) * (q_I δ 12 24 a0)) + (q_I δ 12 26 a0))
    refine ok_gd (fun hc32 => ?_) ?_
    · rcases hc32 with hc32 | hc32
      · have c33 : (((500 : Int32) * (q_I δ 12 24 a0)) + (q_I δ 12 26 a0)).toInt < (0 : Int) := o_lt hc32
        omega
      · omega
    refine ok_bdv (fun d34 e35 => ?_)
    have i36 : RI ad h.1 δ0 d34 := by rw [e35]; exact RI.sR L I w20
    have u37 := kp_N kp_r (show q_I d34 = q_I δ by rw [e35]; rfl)
    have v38 : q_V d34 = q_V δ := ((show q_V d34 = q_V δ by rw [e35]; rfl)).trans rfl
    have v39 := kr_s L (by decide) kr_r e35
    obtain ⟨b40, o41, k42, n43, w44⟩ := gO_12_33 L k_a0
    obtain rfl := gS_12_33 L k_a0 o41
    refine ok_at o41 ?_
    have f46 := cb_12_24 i36 k_a0
    have f47 : (q_I d34 12 24 a0).toInt = (q_I δ 12 24 a0).toInt := congrArg Int32.toInt (by rw [e35]; rfl)
    first | (have q48 := te_mulc (c := 500) (n := 500) rfl (q_I d34 12 24 a0) (by omega) (by omega); obtain ⟨f49, f50, f51⟩ := q48) | (obtain ⟨q48, f49, f50, f51⟩ := ti_mulc (c := 500) (n := 500) rfl (q_I d34 12 24 a0))
    have f52 := cb_12_26 i36 k_a0
    have f53 : (q_I d34 12 26 a0).toInt = (q_I δ 12 26 a0).toInt := congrArg Int32.toInt (by rw [e35]; rfl)
    first | (have q55 := te_add ((500 : Int32) * (q_I d34 12 24 a0)) (q_I d34 12 26 a0) (by omega) (by omega); obtain ⟨f56, f57, f58⟩ := q55) | (obtain ⟨q55, f56, f57, f58⟩ := ti_add ((500 : Int32) * (q_I d34 12 24 a0)) (q_I d34 12 26 a0))
    have t59 := ti_tn (((500 : Int32) * (q_I d34 12 24 a0)) + (q_I d34 12 26 a0))
    refine ok_gd (fun hc60 => ?_) ?_
    · rcases hc60 with hc60 | hc60
      · have c61 : (((500 : Int32) * (q_I d34 12 24 a0)) + (q_I d34 12 26 a0)).toInt < (0 : Int) := o_lt hc60
        omega
      · omega
    refine ok_bdv (fun d62 e63 => ?_)
    have i64 : RI ad h.1 δ0 d62 := by rw [e63]; exact RI.sR L i36 w44
    have u65 := kp_N u37 (show q_I d62 = q_I d34 by rw [e63]; rfl)
    have v66 : q_V d62 = q_V δ := ((show q_V d62 = q_V d34 by rw [e63]; rfl)).trans v38
    have v67 := kr_s L (by decide) v39 e63
    have f71 := cb_12_26 i64 k_a0
    have f72 : (q_I d62 12 26 a0).toInt = (q_I d34 12 26 a0).toInt := congrArg Int32.toInt (by rw [e63]; rfl)
    first | (have q74 := te_addc (c := 1) (n := 1) rfl (q_I d62 12 26 a0) (by omega) (by omega); obtain ⟨f75, f76, f77⟩ := q74) | (obtain ⟨q74, f75, f76, f77⟩ := ti_addc (c := 1) (n := 1) rfl (q_I d62 12 26 a0))
    refine ok_bdv (fun d68 e69 => ?_)
    have i70 : RI ad h.1 δ0 d68 := by rw [e69]; exact cs_12_26 L i64 k_a0 (show 0 ≤ ((q_I d62 12 26 a0) + (1 : Int32)).toInt by omega) (show ((q_I d62 12 26 a0) + (1 : Int32)).toInt ≤ 500 by omega)
    have u78 := kp_I u65 e69
    have v79 : q_V d68 = q_V δ := ((show q_V d68 = q_V d62 by rw [e69]; rfl)).trans v66
    have v80 := kr_N v67 (show q_R d68 = q_R d62 by rw [e69]; rfl)
    have f81 := cb_12_26 i70 k_a0
    have f82 : (q_I d68 12 26 a0).toInt = ((q_I d62 12 26 a0) + (1 : Int32)).toInt := congrArg Int32.toInt (show q_I d68 12 26 a0 = ((q_I d62 12 26 a0) + (1 : Int32)) by rw [e69]; exact rI_s)
    exact ok_some (show RI ad h.1 δ0 d68 ∧ (kp [(12, 26)] δ d68 ∧ q_V d68 = q_V δ ∧ kr ad [116, 117] δ d68) ∧ (q_I δ 12 26 a0).toInt ≤ (q_I d68 12 26 a0).toInt ∧ (q_I d68 12 26 a0).toInt ≤ (q_I δ 12 26 a0).toInt + 1 ∧ ((q_I δ 12 5 a0).toInt ≠ -1 → (q_I d68 12 26 a0).toInt = (q_I δ 12 26 a0).toInt) from ⟨i70, ⟨kp_w (by decide) u78, v79, kr_w (by decide) v80⟩, by first | assumption | omega, by first | assumption | omega, by first | assumption | omega⟩)
set_option maxHeartbeats 4000000 in
theorem k_bX12_unit {ad : List Nat} {h : hp} (L : Lay TLx ad h) {δ0 : dp} {N : Nat} (hN : 10000000 ≤ N) {T : Nat → dp → Option (dp)} {K : Int} (hT : ∀ (a0 : Nat) (δ : dp), q_K h.1 a0 = 12 → (q_I δ 12 24 a0).toInt ≤ 3 → (q_I δ 12 26 a0).toInt ≤ (q_I δ 12 4 a0).toInt → 0 ≤ (q_I δ 12 7 a0).toInt → (q_I δ 12 7 a0).toInt ≤ 7 → ((q_I δ 12 7 a0).toInt = 7 → (q_I δ 12 5 a0).toInt ≠ -1) → 8 - (q_I δ 12 7 a0).toInt < K → RI ad h.1 δ0 δ → ok (T a0 δ) (fun r => RI ad h.1 δ0 r ∧ (kp [(12, 4), (12, 5), (12, 6), (12, 7), (12, 26)] δ r ∧ q_V r = q_V δ ∧ kr ad [116, 117] δ r) ∧ (q_I δ 12 4 a0).toInt ≤ (q_I r 12 4 a0).toInt ∧ ((q_I δ 12 5 a0).toInt ≠ -1 → (q_I r 12 5 a0).toInt ≠ -1) ∧ (q_I r 12 7 a0).toInt = (q_I δ 12 7 a0).toInt ∧ (q_I δ 12 26 a0).toInt ≤ (q_I r 12 26 a0).toInt ∧ (q_I r 12 26 a0).toInt - (q_I δ 12 26 a0).toInt ≤ (q_I r 12 4 a0).toInt - (q_I δ 12 4 a0).toInt)) {a0 : Nat} (k_a0 : q_K h.1 a0 = 12) {δ : dp} (z0 : (q_I δ 12 24 a0).toInt ≤ 3) (z1 : (q_I δ 12 26 a0).toInt ≤ (q_I δ 12 4 a0).toInt) (z2 : 0 ≤ (q_I δ 12 7 a0).toInt) (z3 : (q_I δ 12 7 a0).toInt ≤ 7) (z4 : (q_I δ 12 7 a0).toInt = 7 → (q_I δ 12 5 a0).toInt ≠ -1) (z5 : 8 - (q_I δ 12 7 a0).toInt ≤ K) (I : RI ad h.1 δ0 δ) : ok (B_X12_unit N h.1 T a0 δ) (fun r => RI ad h.1 δ0 r ∧ (kp [(12, 4), (12, 5), (12, 6), (12, 7), (12, 26)] δ r ∧ q_V r = q_V δ ∧ kr ad [116, 117] δ r) ∧ (q_I δ 12 4 a0).toInt ≤ (q_I r 12 4 a0).toInt ∧ ((q_I δ 12 5 a0).toInt ≠ -1 → (q_I r 12 5 a0).toInt ≠ -1) ∧ (q_I r 12 7 a0).toInt = (q_I δ 12 7 a0).toInt ∧ (q_I δ 12 26 a0).toInt ≤ (q_I r 12 26 a0).toInt ∧ (q_I r 12 26 a0).toInt - (q_I δ 12 26 a0).toInt ≤ (q_I r 12 4 a0).toInt - (q_I δ 12 4 a0).toInt) := by
  unfold B_X12_unit
  have f1 := cb_12_24 I k_a0
  have f2 := cb_12_26 I k_a0
  have f3 := cb_12_4 I k_a0
  have f4 := ti_b (q_I δ 12 7 a0)
  have f5 := ti_b (q_I δ 12 5 a0)
  refine ok_bind (k_X12_fine L hN (a0 := a0) k_a0 I) (fun r6 hr7 => ?_)
  obtain ⟨i8, p9, p10, p11⟩ := hr7
  try rw [i8]
  have f12 := bo_t p9
  have f13 := ti_b r6.1
  have f14 := ti_b r6.1
  refine ok_ite (fun h15 => ?_) (fun h15 => ?_)
  · have c16 : r6.1.toInt = (0 : Int) := o_eq h15
    exact ok_some (show RI ad h.1 δ0 δ ∧ (kp [(12, 4), (12, 5), (12, 6), (12, 7), (12, 26)] δ δ ∧ q_V δ = q_V δ ∧ kr ad [116, 117] δ δ) ∧ (q_I δ 12 4 a0).toInt ≤ (q_I δ 12 4 a0).toInt ∧ ((q_I δ 12 5 a0).toInt ≠ -1 → (q_I δ 12 5 a0).toInt ≠ -1) ∧ (q_I δ 12 7 a0).toInt = (q_I δ 12 7 a0).toInt ∧ (q_I δ 12 26 a0).toInt ≤ (q_I δ 12 26 a0).toInt ∧ (q_I δ 12 26 a0).toInt - (q_I δ 12 26 a0).toInt ≤ (q_I δ 12 4 a0).toInt - (q_I δ 12 4 a0).toInt from ⟨I, ⟨kp_w (by decide) kp_r, rfl, kr_w (by decide) kr_r⟩, by first | assumption | omega, by first | assumption | omega, by first | assumption | omega, by first | assumption | omega, by first | assumption | omega⟩)
  · have c17 : r6.1.toInt ≠ (0 : Int) := o_ne h15
    refine ok_bind (k_X12_here L hN (a0 := a0) k_a0 I) (fun r18 hr19 => ?_)
    obtain ⟨i20, ⟨u24, u25, u26, u27⟩, p21, p22, p23⟩ := hr19
    have u28 := kp_t kp_r u24
    have v29 : q_V r18.2 = q_V δ := (u25).trans rfl
    have v30 := kr_t kr_r u27
    have f31 := cb_12_4 i20 k_a0
    have f32 : hc ad r18.2 a0 = (q_R r18.2 (Ad ad 101) (q_I r18.2 12 4 a0).toNatClampNeg).toInt := rfl
    have t33 := ti_tn (q_I r18.2 12 4 a0)
    have f34 : (q_R r18.2 (Ad ad 101) (q_I r18.2 12 4 a0).toNatClampNeg).toInt = (q_R δ (Ad ad 101) (q_I r18.2 12 4 a0).toNatClampNeg).toInt := congrArg Int32.toInt (congrFun (u27 101 (by decide) (by decide) (by decide)) _)
    have f35 := ti_b (q_R δ (Ad ad 101) (q_I r18.2 12 4 a0).toNatClampNeg)
    have f36 := ti_b (q_R r18.2 (Ad ad 101) (q_I r18.2 12 4 a0).toNatClampNeg)
    have f37 := ti_b r18.1
    have f38 := cb_12_3 I k_a0
    have f39 : hc ad δ a0 = (q_R δ (Ad ad 101) (q_I δ 12 4 a0).toNatClampNeg).toInt := rfl
    have t40 := ti_tn (q_I δ 12 4 a0)
    have f41 := ti_b (q_R δ (Ad ad 101) (q_I δ 12 4 a0).toNatClampNeg)
    have f42 := ti_b r18.1
    refine ok_bind (k_X12_isDigit L hN (x0 := r18.1)  i20) (fun r43 hr44 => ?_)
    obtain ⟨i45, p46, p47⟩ := hr44
    try rw [i45]
    have f48 := bo_t p46
    have f49 := ti_b r43.1
    have f50 := ti_b r43.1
    refine ok_ite (fun h51 => ?_) (fun h51 => ?_)
    · have c52 : r43.1.toInt = (0 : Int) := o_eq h51
      refine ok_ite (fun h53 => ?_) (fun h53 => ?_)
      · have c54 : r18.1.toInt = (40 : Int) := o_eq h53
        have f55 := ti_b (q_I r18.2 12 7 a0)
        have f56 : (q_I r18.2 12 7 a0).toInt = (q_I δ 12 7 a0).toInt := congrArg Int32.toInt (u24 12 7 a0 (by decide))
        refine ok_ite (fun h57 => ?_) (fun h57 => ?_)
        · have c58 : (q_I r18.2 12 7 a0).toInt = (6 : Int) := o_eq h57
          refine ok_bind (k_X12_wrong L hN (a0 := a0) (x1 := (3 : Int32)) (x2 := (q_I r18.2 12 4 a0)) k_a0 (show 0 ≤ ((q_I r18.2 12 4 a0)).toInt by first | assumption | omega) i20) (fun r59 hr60 => ?_)
          obtain ⟨i61, ⟨u63, u64, u65, u66⟩, p62⟩ := hr60
          have u67 := kp_t u28 u63
          have v68 : q_V r59 = q_V δ := (u64).trans v29
          have v69 := kr_t v30 u66
          have f70 := ti_b (q_I r59 12 5 a0)
          unfold J_X12_unit_57
          refine ok_bind (k_X12_fine L hN (a0 := a0) k_a0 i61) (fun r71 hr72 => ?_)
          obtain ⟨i73, p74, p75, p76⟩ := hr72
          try rw [i73]
          have f77 := bo_t p74
          have f78 := ti_b r71.1
          have f79 := ti_b r71.1
          refine ok_ite (fun h80 => ?_) (fun h80 => ?_)
          · have c81 : r71.1.toInt = (0 : Int) := o_eq h80
            unfold J_X12_unit_74
            have f85 := ti_b (q_I r59 12 7 a0)
            have f86 : (q_I r59 12 7 a0).toInt = (q_I r18.2 12 7 a0).toInt := congrArg Int32.toInt (u63 12 7 a0 (by decide))
            first | (have q88 := te_addc (c := 1) (n := 1) rfl (q_I r59 12 7 a0) (by omega) (by omega); obtain ⟨f89, f90, f91⟩ := q88) | (obtain ⟨q88, f89, f90, f91⟩ := ti_addc (c := 1) (n := 1) rfl (q_I r59 12 7 a0))
            refine ok_bdv (fun d82 e83 => ?_)
            have i84 : RI ad h.1 δ0 d82 := by rw [e83]; exact cs_12_7 L i61
            have u92 := kp_I u67 e83
            have v93 : q_V d82 = q_V δ := ((show q_V d82 = q_V r59 by rw [e83]; rfl)).trans v68
            have v94 := kr_N v69 (show q_R d82 = q_R r59 by rw [e83]; rfl)
            have f97 := cb_12_24 i84 k_a0
            have f98 : (q_I d82 12 24 a0).toInt = (q_I r59 12 24 a0).toInt := congrArg Int32.toInt (by rw [e83]; exact rI_o (by decide))
            have f99 := cb_12_24 i61 k_a0
            have f100 : (q_I r59 12 24 a0).toInt = (q_I r18.2 12 24 a0).toInt := congrArg Int32.toInt (u63 12 24 a0 (by decide))
            have f101 := cb_12_24 i20 k_a0
            have f102 : (q_I r18.2 12 24 a0).toInt = (q_I δ 12 24 a0).toInt := congrArg Int32.toInt (u24 12 24 a0 (by decide))
            have f103 := cb_12_26 i84 k_a0
            have f104 : (q_I d82 12 26 a0).toInt = (q_I r59 12 26 a0).toInt := congrArg Int32.toInt (by rw [e83]; exact rI_o (by decide))
            have f105 := cb_12_26 i61 k_a0
            have f106 : (q_I r59 12 26 a0).toInt = (q_I r18.2 12 26 a0).toInt := congrArg Int32.toInt (u63 12 26 a0 (by decide))
            have f107 := cb_12_26 i20 k_a0
            have f108 : (q_I r18.2 12 26 a0).toInt = (q_I δ 12 26 a0).toInt := congrArg Int32.toInt (u24 12 26 a0 (by decide))
            have f109 := cb_12_4 i84 k_a0
            have f110 : (q_I d82 12 4 a0).toInt = (q_I r59 12 4 a0).toInt := congrArg Int32.toInt (by rw [e83]; exact rI_o (by decide))
            have f111 := cb_12_4 i61 k_a0
            have f112 : (q_I r59 12 4 a0).toInt = (q_I r18.2 12 4 a0).toInt := congrArg Int32.toInt (u63 12 4 a0 (by decide))
            have f113 := ti_b (q_I d82 12 7 a0)
            have f114 : (q_I d82 12 7 a0).toInt = ((q_I r59 12 7 a0) + (1 : Int32)).toInt := congrArg Int32.toInt (show q_I d82 12 7 a0 = ((q_I r59 12 7 a0) + (1 : Int32)) by rw [e83]; exact rI_s)
            have f115 := ti_b (q_I d82 12 5 a0)
            have f116 : (q_I d82 12 5 a0).toInt = (q_I r59 12 5 a0).toInt := congrArg Int32.toInt (by rw [e83]; exact rI_o (by decide))
            refine ok_bind (hT a0 d82 k_a0 (show (q_I d82 12 24 a0).toInt ≤ 3 by first | assumption | omega) (show (q_I d82 12 26 a0).toInt ≤ (q_I d82 12 4 a0).toInt by first | assumption | omega) (show 0 ≤ (q_I d82 12 7 a0).toInt by first | assumption | omega) (show (q_I d82 12 7 a0).toInt ≤ 7 by first | assumption | omega) (show (q_I d82 12 7 a0).toInt = 7 → (q_I d82 12 5 a0).toInt ≠ -1 by first | assumption | omega) (show 8 - (q_I d82 12 7 a0).toInt < _ by first | assumption | omega) i84) (fun r95 hr96 => ?_)
            obtain ⟨i117, ⟨u123, u124, u125⟩, p118, p119, p120, p121, p122⟩ := hr96
            have u126 := kp_t u92 u123
            have v127 : q_V r95 = q_V δ := (u124).trans v93
            have v128 := kr_t v94 u125
            have f129 := cb_12_4 i117 k_a0
            have f130 := ti_b (q_I r95 12 5 a0)
            have f131 := ti_b (q_I r95 12 7 a0)
            have f132 := cb_12_26 i117 k_a0
            refine ok_bind (k_X12_sign L hN (a0 := a0) (x1 := (41 : Int32)) k_a0 (show (41 : Int) ≠ 0 by first | assumption | omega) i117) (fun r133 hr134 => ?_)
            obtain ⟨i135, ⟨u139, u140, u141, u142⟩, p136, p137, p138⟩ := hr134
            have u143 := kp_t u126 u139
            have v144 : q_V r133 = q_V δ := (u140).trans v127
            have v145 := kr_t v128 u142
            have f146 := cb_12_4 i135 k_a0
            have f147 := ti_b (q_I r133 12 5 a0)
            have f151 := ti_b (q_I r133 12 7 a0)
            have f152 : (q_I r133 12 7 a0).toInt = (q_I r95 12 7 a0).toInt := congrArg Int32.toInt (u139 12 7 a0 (by decide))
            first | (have q154 := te_subc (c := 1) (n := 1) rfl (q_I r133 12 7 a0) (by omega) (by omega); obtain ⟨f155, f156, f157⟩ := q154) | (obtain ⟨q154, f155, f156, f157⟩ := ti_subc (c := 1) (n := 1) rfl (q_I r133 12 7 a0))
            refine ok_bdv (fun d148 e149 => ?_)
            have i150 : RI ad h.1 δ0 d148 := by rw [e149]; exact cs_12_7 L i135
            have u158 := kp_I u143 e149
            have v159 : q_V d148 = q_V δ := ((show q_V d148 = q_V r133 by rw [e149]; rfl)).trans v144
            have v160 := kr_N v145 (show q_R d148 = q_R r133 by rw [e149]; rfl)
            have f161 := cb_12_4 i150 k_a0
            have f162 : (q_I d148 12 4 a0).toInt = (q_I r133 12 4 a0).toInt := congrArg Int32.toInt (by rw [e149]; exact rI_o (by decide))
            have f163 := ti_b (q_I d148 12 5 a0)
            have f164 : (q_I d148 12 5 a0).toInt = (q_I r133 12 5 a0).toInt := congrArg Int32.toInt (by rw [e149]; exact rI_o (by decide))
            have f165 := ti_b (q_I d148 12 7 a0)
            have f166 : (q_I d148 12 7 a0).toInt = ((q_I r133 12 7 a0) - (1 : Int32)).toInt := congrArg Int32.toInt (show q_I d148 12 7 a0 = ((q_I r133 12 7 a0) - (1 : Int32)) by rw [e149]; exact rI_s)
            have f167 := cb_12_26 i150 k_a0
            have f168 : (q_I d148 12 26 a0).toInt = (q_I r133 12 26 a0).toInt := congrArg Int32.toInt (by rw [e149]; exact rI_o (by decide))
            have f169 := cb_12_26 i135 k_a0
            have f170 : (q_I r133 12 26 a0).toInt = (q_I r95 12 26 a0).toInt := congrArg Int32.toInt (u139 12 26 a0 (by decide))
            exact ok_some (show RI ad h.1 δ0 d148 ∧ (kp [(12, 4), (12, 5), (12, 6), (12, 7), (12, 26)] δ d148 ∧ q_V d148 = q_V δ ∧ kr ad [116, 117] δ d148) ∧ (q_I δ 12 4 a0).toInt ≤ (q_I d148 12 4 a0).toInt ∧ ((q_I δ 12 5 a0).toInt ≠ -1 → (q_I d148 12 5 a0).toInt ≠ -1) ∧ (q_I d148 12 7 a0).toInt = (q_I δ 12 7 a0).toInt ∧ (q_I δ 12 26 a0).toInt ≤ (q_I d148 12 26 a0).toInt ∧ (q_I d148 12 26 a0).toInt - (q_I δ 12 26 a0).toInt ≤ (q_I d148 12 4 a0).toInt - (q_I δ 12 4 a0).toInt from ⟨i150, ⟨kp_w (by decide) u158, v159, kr_w (by decide) v160⟩, by first | assumption | omega, by first | assumption | omega, by first | assumption | omega, by first | assumption | omega, by first | assumption | omega⟩)
          · have c171 : r71.1.toInt ≠ (0 : Int) := o_ne h80
            have f175 := cb_12_4 i61 k_a0
            have f176 : (q_I r59 12 4 a0).toInt = (q_I r18.2 12 4 a0).toInt := congrArg Int32.toInt (u63 12 4 a0 (by decide))
            first | (have q178 := te_addc (c := 1) (n := 1) rfl (q_I r59 12 4 a0) (by omega) (by omega); obtain ⟨f179, f180, f181⟩ := q178) | (obtain ⟨q178, f179, f180, f181⟩ := ti_addc (c := 1) (n := 1) rfl (q_I r59 12 4 a0))
            refine ok_bdv (fun d172 e173 => ?_)
            have i174 : RI ad h.1 δ0 d172 := by rw [e173]; exact cs_12_4 L i61 k_a0 (show 0 ≤ ((q_I r59 12 4 a0) + (1 : Int32)).toInt by omega) (show ((q_I r59 12 4 a0) + (1 : Int32)).toInt ≤ 500 by omega)
            have u182 := kp_I u67 e173
            have v183 : q_V d172 = q_V δ := ((show q_V d172 = q_V r59 by rw [e173]; rfl)).trans v68
            have v184 := kr_N v69 (show q_R d172 = q_R r59 by rw [e173]; rfl)
            unfold J_X12_unit_74
            have f188 := ti_b (q_I d172 12 7 a0)
            have f189 : (q_I d172 12 7 a0).toInt = (q_I r59 12 7 a0).toInt := congrArg Int32.toInt (by rw [e173]; exact rI_o (by decide))
            have f190 := ti_b (q_I r59 12 7 a0)
            have f191 : (q_I r59 12 7 a0).toInt = (q_I r18.2 12 7 a0).toInt := congrArg Int32.toInt (u63 12 7 a0 (by decide))
            first | (have q193 := te_addc (c := 1) (n := 1) rfl (q_I d172 12 7 a0) (by omega) (by omega); obtain ⟨f194, f195, f196⟩ := q193) | (obtain ⟨q193, f194, f195, f196⟩ := ti_addc (c := 1) (n := 1) rfl (q_I d172 12 7 a0))
            refine ok_bdv (fun d185 e186 => ?_)
            have i187 : RI ad h.1 δ0 d185 := by rw [e186]; exact cs_12_7 L i174
            have u197 := kp_I u182 e186
            have v198 : q_V d185 = q_V δ := ((show q_V d185 = q_V d172 by rw [e186]; rfl)).trans v183
            have v199 := kr_N v184 (show q_R d185 = q_R d172 by rw [e186]; rfl)
            have f202 := cb_12_24 i187 k_a0
            have f203 : (q_I d185 12 24 a0).toInt = (q_I d172 12 24 a0).toInt := congrArg Int32.toInt (by rw [e186]; exact rI_o (by decide))
            have f204 := cb_12_24 i174 k_a0
            have f205 : (q_I d172 12 24 a0).toInt = (q_I r59 12 24 a0).toInt := congrArg Int32.toInt (by rw [e173]; exact rI_o (by decide))
            have f206 := cb_12_24 i61 k_a0
            have f207 : (q_I r59 12 24 a0).toInt = (q_I r18.2 12 24 a0).toInt := congrArg Int32.toInt (u63 12 24 a0 (by decide))
            have f208 := cb_12_24 i20 k_a0
            have f209 : (q_I r18.2 12 24 a0).toInt = (q_I δ 12 24 a0).toInt := congrArg Int32.toInt (u24 12 24 a0 (by decide))
            have f210 := cb_12_26 i187 k_a0
            have f211 : (q_I d185 12 26 a0).toInt = (q_I d172 12 26 a0).toInt := congrArg Int32.toInt (by rw [e186]; exact rI_o (by decide))
            have f212 := cb_12_26 i174 k_a0
            have f213 : (q_I d172 12 26 a0).toInt = (q_I r59 12 26 a0).toInt := congrArg Int32.toInt (by rw [e173]; exact rI_o (by decide))
            have f214 := cb_12_26 i61 k_a0
            have f215 : (q_I r59 12 26 a0).toInt = (q_I r18.2 12 26 a0).toInt := congrArg Int32.toInt (u63 12 26 a0 (by decide))
            have f216 := cb_12_26 i20 k_a0
            have f217 : (q_I r18.2 12 26 a0).toInt = (q_I δ 12 26 a0).toInt := congrArg Int32.toInt (u24 12 26 a0 (by decide))
            have f218 := cb_12_4 i187 k_a0
            have f219 : (q_I d185 12 4 a0).toInt = (q_I d172 12 4 a0).toInt := congrArg Int32.toInt (by rw [e186]; exact rI_o (by decide))
            have f220 := cb_12_4 i174 k_a0
            have f221 : (q_I d172 12 4 a0).toInt = ((q_I r59 12 4 a0) + (1 : Int32)).toInt := congrArg Int32.toInt (show q_I d172 12 4 a0 = ((q_I r59 12 4 a0) + (1 : Int32)) by rw [e173]; exact rI_s)
            have f222 := ti_b (q_I d185 12 7 a0)
            have f223 : (q_I d185 12 7 a0).toInt = ((q_I d172 12 7 a0) + (1 : Int32)).toInt := congrArg Int32.toInt (show q_I d185 12 7 a0 = ((q_I d172 12 7 a0) + (1 : Int32)) by rw [e186]; exact rI_s)
            have f224 := ti_b (q_I d185 12 5 a0)
            have f225 : (q_I d185 12 5 a0).toInt = (q_I d172 12 5 a0).toInt := congrArg Int32.toInt (by rw [e186]; exact rI_o (by decide))
            have f226 := ti_b (q_I d172 12 5 a0)
            have f227 : (q_I d172 12 5 a0).toInt = (q_I r59 12 5 a0).toInt := congrArg Int32.toInt (by rw [e173]; exact rI_o (by decide))
            refine ok_bind (hT a0 d185 k_a0 (show (q_I d185 12 24 a0).toInt ≤ 3 by first | assumption | omega) (show (q_I d185 12 26 a0).toInt ≤ (q_I d185 12 4 a0).toInt by first | assumption | omega) (show 0 ≤ (q_I d185 12 7 a0).toInt by first | assumption | omega) (show (q_I d185 12 7 a0).toInt ≤ 7 by first | assumption | omega) (show (q_I d185 12 7 a0).toInt = 7 → (q_I d185 12 5 a0).toInt ≠ -1 by first | assumption | omega) (show 8 - (q_I d185 12 7 a0).toInt < _ by first | assumption | omega) i187) (fun r200 hr201 => ?_)
            obtain ⟨i228, ⟨u234, u235, u236⟩, p229, p230, p231, p232, p233⟩ := hr201
            have u237 := kp_t u197 u234
            have v238 : q_V r200 = q_V δ := (u235).trans v198
            have v239 := kr_t v199 u236
            have f240 := cb_12_4 i228 k_a0
            have f241 := ti_b (q_I r200 12 5 a0)
            have f242 := ti_b (q_I r200 12 7 a0)
            have f243 := cb_12_26 i228 k_a0
            refine ok_bind (k_X12_sign L hN (a0 := a0) (x1 := (41 : Int32)) k_a0 (show (41 : Int) ≠ 0 by first | assumption | omega) i228) (fun r244 hr245 => ?_)
            obtain ⟨i246, ⟨u250, u251, u252, u253⟩, p247, p248, p249⟩ := hr245
            have u254 := kp_t u237 u250
            have v255 : q_V r244 = q_V δ := (u251).trans v238
            have v256 := kr_t v239 u253
            have f257 := cb_12_4 i246 k_a0
            have f258 := ti_b (q_I r244 12 5 a0)
            have f262 := ti_b (q_I r244 12 7 a0)
            have f263 : (q_I r244 12 7 a0).toInt = (q_I r200 12 7 a0).toInt := congrArg Int32.toInt (u250 12 7 a0 (by decide))
            first | (have q265 := te_subc (c := 1) (n := 1) rfl (q_I r244 12 7 a0) (by omega) (by omega); obtain ⟨f266, f267, f268⟩ := q265) | (obtain ⟨q265, f266, f267, f268⟩ := ti_subc (c := 1) (n := 1) rfl (q_I r244 12 7 a0))
            refine ok_bdv (fun d259 e260 => ?_)
            have i261 : RI ad h.1 δ0 d259 := by rw [e260]; exact cs_12_7 L i246
            have u269 := kp_I u254 e260
            have v270 : q_V d259 = q_V δ := ((show q_V d259 = q_V r244 by rw [e260]; rfl)).trans v255
            have v271 := kr_N v256 (show q_R d259 = q_R r244 by rw [e260]; rfl)
            have f272 := cb_12_4 i261 k_a0
            have f273 : (q_I d259 12 4 a0).toInt = (q_I r244 12 4 a0).toInt := congrArg Int32.toInt (by rw [e260]; exact rI_o (by decide))
            have f274 := ti_b (q_I d259 12 5 a0)
            have f275 : (q_I d259 12 5 a0).toInt = (q_I r244 12 5 a0).toInt := congrArg Int32.toInt (by rw [e260]; exact rI_o (by decide))
            have f276 := ti_b (q_I d259 12 7 a0)
            have f277 : (q_I d259 12 7 a0).toInt = ((q_I r244 12 7 a0) - (1 : Int32)).toInt := congrArg Int32.toInt (show q_I d259 12 7 a0 = ((q_I r244 12 7 a0) - (1 : Int32)) by rw [e260]; exact rI_s)
            have f278 := cb_12_26 i261 k_a0
            have f279 : (q_I d259 12 26 a0).toInt = (q_I r244 12 26 a0).toInt := congrArg Int32.toInt (by rw [e260]; exact rI_o (by decide))
            have f280 := cb_12_26 i246 k_a0
            have f281 : (q_I r244 12 26 a0).toInt = (q_I r200 12 26 a0).toInt := congrArg Int32.toInt (u250 12 26 a0 (by decide))
            exact ok_some (show RI ad h.1 δ0 d259 ∧ (kp [(12, 4), (12, 5), (12, 6), (12, 7), (12, 26)] δ d259 ∧ q_V d259 = q_V δ ∧ kr ad [116, 117] δ d259) ∧ (q_I δ 12 4 a0).toInt ≤ (q_I d259 12 4 a0).toInt ∧ ((q_I δ 12 5 a0).toInt ≠ -1 → (q_I d259 12 5 a0).toInt ≠ -1) ∧ (q_I d259 12 7 a0).toInt = (q_I δ 12 7 a0).toInt ∧ (q_I δ 12 26 a0).toInt ≤ (q_I d259 12 26 a0).toInt ∧ (q_I d259 12 26 a0).toInt - (q_I δ 12 26 a0).toInt ≤ (q_I d259 12 4 a0).toInt - (q_I δ 12 4 a0).toInt from ⟨i261, ⟨kp_w (by decide) u269, v270, kr_w (by decide) v271⟩, by first | assumption | omega, by first | assumption | omega, by first | assumption | omega, by first | assumption | omega, by first | assumption | omega⟩)
        · have c282 : (q_I r18.2 12 7 a0).toInt ≠ (6 : Int) := o_ne h57
          unfold J_X12_unit_57
          refine ok_bind (k_X12_fine L hN (a0 := a0) k_a0 i20) (fun r283 hr284 => ?_)
          obtain ⟨i285, p286, p287, p288⟩ := hr284
          try rw [i285]
          have f289 := bo_t p286
          have f290 := ti_b r283.1
          have f291 := ti_b (q_I r18.2 12 5 a0)
          have f292 : (q_I r18.2 12 5 a0).toInt = (q_I δ 12 5 a0).toInt := congrArg Int32.toInt (u24 12 5 a0 (by decide))
          have f293 := ti_b r283.1
          refine ok_ite (fun h294 => ?_) (fun h294 => ?_)
          · have c295 : r283.1.toInt = (0 : Int) := o_eq h294
            unfold J_X12_unit_74
            first | (have q300 := te_addc (c := 1) (n := 1) rfl (q_I r18.2 12 7 a0) (by omega) (by omega); obtain ⟨f301, f302, f303⟩ := q300) | (obtain ⟨q300, f301, f302, f303⟩ := ti_addc (c := 1) (n := 1) rfl (q_I r18.2 12 7 a0))
            refine ok_bdv (fun d296 e297 => ?_)
            have i298 : RI ad h.1 δ0 d296 := by rw [e297]; exact cs_12_7 L i20
            have u304 := kp_I u28 e297
            have v305 : q_V d296 = q_V δ := ((show q_V d296 = q_V r18.2 by rw [e297]; rfl)).trans v29
            have v306 := kr_N v30 (show q_R d296 = q_R r18.2 by rw [e297]; rfl)
            have f309 := cb_12_24 i298 k_a0
            have f310 : (q_I d296 12 24 a0).toInt = (q_I r18.2 12 24 a0).toInt := congrArg Int32.toInt (by rw [e297]; exact rI_o (by decide))
            have f311 := cb_12_24 i20 k_a0
            have f312 : (q_I r18.2 12 24 a0).toInt = (q_I δ 12 24 a0).toInt := congrArg Int32.toInt (u24 12 24 a0 (by decide))
            have f313 := cb_12_26 i298 k_a0
            have f314 : (q_I d296 12 26 a0).toInt = (q_I r18.2 12 26 a0).toInt := congrArg Int32.toInt (by rw [e297]; exact rI_o (by decide))
            have f315 := cb_12_26 i20 k_a0
            have f316 : (q_I r18.2 12 26 a0).toInt = (q_I δ 12 26 a0).toInt := congrArg Int32.toInt (u24 12 26 a0 (by decide))
            have f317 := cb_12_4 i298 k_a0
            have f318 : (q_I d296 12 4 a0).toInt = (q_I r18.2 12 4 a0).toInt := congrArg Int32.toInt (by rw [e297]; exact rI_o (by decide))
            have f319 := ti_b (q_I d296 12 7 a0)
            have f320 : (q_I d296 12 7 a0).toInt = ((q_I r18.2 12 7 a0) + (1 : Int32)).toInt := congrArg Int32.toInt (show q_I d296 12 7 a0 = ((q_I r18.2 12 7 a0) + (1 : Int32)) by rw [e297]; exact rI_s)
            have f321 := ti_b (q_I d296 12 5 a0)
            have f322 : (q_I d296 12 5 a0).toInt = (q_I r18.2 12 5 a0).toInt := congrArg Int32.toInt (by rw [e297]; exact rI_o (by decide))
            refine ok_bind (hT a0 d296 k_a0 (show (q_I d296 12 24 a0).toInt ≤ 3 by first | assumption | omega) (show (q_I d296 12 26 a0).toInt ≤ (q_I d296 12 4 a0).toInt by first | assumption | omega) (show 0 ≤ (q_I d296 12 7 a0).toInt by first | assumption | omega) (show (q_I d296 12 7 a0).toInt ≤ 7 by first | assumption | omega) (show (q_I d296 12 7 a0).toInt = 7 → (q_I d296 12 5 a0).toInt ≠ -1 by first | assumption | omega) (show 8 - (q_I d296 12 7 a0).toInt < _ by first | assumption | omega) i298) (fun r307 hr308 => ?_)
            obtain ⟨i323, ⟨u329, u330, u331⟩, p324, p325, p326, p327, p328⟩ := hr308
            have u332 := kp_t u304 u329
            have v333 : q_V r307 = q_V δ := (u330).trans v305
            have v334 := kr_t v306 u331
            have f335 := cb_12_4 i323 k_a0
            have f336 := ti_b (q_I r307 12 5 a0)
            have f337 := ti_b (q_I r307 12 7 a0)
            have f338 := cb_12_26 i323 k_a0
            refine ok_bind (k_X12_sign L hN (a0 := a0) (x1 := (41 : Int32)) k_a0 (show (41 : Int) ≠ 0 by first | assumption | omega) i323) (fun r339 hr340 => ?_)
            obtain ⟨i341, ⟨u345, u346, u347, u348⟩, p342, p343, p344⟩ := hr340
            have u349 := kp_t u332 u345
            have v350 : q_V r339 = q_V δ := (u346).trans v333
            have v351 := kr_t v334 u348
            have f352 := cb_12_4 i341 k_a0
            have f353 := ti_b (q_I r339 12 5 a0)
            have f357 := ti_b (q_I r339 12 7 a0)
            have f358 : (q_I r339 12 7 a0).toInt = (q_I r307 12 7 a0).toInt := congrArg Int32.toInt (u345 12 7 a0 (by decide))
            first | (have q360 := te_subc (c := 1) (n := 1) rfl (q_I r339 12 7 a0) (by omega) (by omega); obtain ⟨f361, f362, f363⟩ := q360) | (obtain ⟨q360, f361, f362, f363⟩ := ti_subc (c := 1) (n := 1) rfl (q_I r339 12 7 a0))
            refine ok_bdv (fun d354 e355 => ?_)
            have i356 : RI ad h.1 δ0 d354 := by rw [e355]; exact cs_12_7 L i341
            have u364 := kp_I u349 e355
            have v365 : q_V d354 = q_V δ := ((show q_V d354 = q_V r339 by rw [e355]; rfl)).trans v350
            have v366 := kr_N v351 (show q_R d354 = q_R r339 by rw [e355]; rfl)
            have f367 := cb_12_4 i356 k_a0
            have f368 : (q_I d354 12 4 a0).toInt = (q_I r339 12 4 a0).toInt := congrArg Int32.toInt (by rw [e355]; exact rI_o (by decide))
            have f369 := ti_b (q_I d354 12 5 a0)
            have f370 : (q_I d354 12 5 a0).toInt = (q_I r339 12 5 a0).toInt := congrArg Int32.toInt (by rw [e355]; exact rI_o (by decide))
            have f371 := ti_b (q_I d354 12 7 a0)
            have f372 : (q_I d354 12 7 a0).toInt = ((q_I r339 12 7 a0) - (1 : Int32)).toInt := congrArg Int32.toInt (show q_I d354 12 7 a0 = ((q_I r339 12 7 a0) - (1 : Int32)) by rw [e355]; exact rI_s)
            have f373 := cb_12_26 i356 k_a0
            have f374 : (q_I d354 12 26 a0).toInt = (q_I r339 12 26 a0).toInt := congrArg Int32.toInt (by rw [e355]; exact rI_o (by decide))
            have f375 := cb_12_26 i341 k_a0
            have f376 : (q_I r339 12 26 a0).toInt = (q_I r307 12 26 a0).toInt := congrArg Int32.toInt (u345 12 26 a0 (by decide))
            exact ok_some (show RI ad h.1 δ0 d354 ∧ (kp [(12, 4), (12, 5), (12, 6), (12, 7), (12, 26)] δ d354 ∧ q_V d354 = q_V δ ∧ kr ad [116, 117] δ d354) ∧ (q_I δ 12 4 a0).toInt ≤ (q_I d354 12 4 a0).toInt ∧ ((q_I δ 12 5 a0).toInt ≠ -1 → (q_I d354 12 5 a0).toInt ≠ -1) ∧ (q_I d354 12 7 a0).toInt = (q_I δ 12 7 a0).toInt ∧ (q_I δ 12 26 a0).toInt ≤ (q_I d354 12 26 a0).toInt ∧ (q_I d354 12 26 a0).toInt - (q_I δ 12 26 a0).toInt ≤ (q_I d354 12 4 a0).toInt - (q_I δ 12 4 a0).toInt from ⟨i356, ⟨kp_w (by decide) u364, v365, kr_w (by decide) v366⟩, by first | assumption | omega, by first | assumption | omega, by first | assumption | omega, by first | assumption | omega, by first | assumption | omega⟩)
          · have c377 : r283.1.toInt ≠ (0 : Int) := o_ne h294
            first | (have q382 := te_addc (c := 1) (n := 1) rfl (q_I r18.2 12 4 a0) (by omega) (by omega); obtain ⟨f383, f384, f385⟩ := q382) | (obtain ⟨q382, f383, f384, f385⟩ := ti_addc (c := 1) (n := 1) rfl (q_I r18.2 12 4 a0))
            refine ok_bdv (fun d378 e379 => ?_)
            have i380 : RI ad h.1 δ0 d378 := by rw [e379]; exact cs_12_4 L i20 k_a0 (show 0 ≤ ((q_I r18.2 12 4 a0) + (1 : Int32)).toInt by omega) (show ((q_I r18.2 12 4 a0) + (1 : Int32)).toInt ≤ 500 by omega)
            have u386 := kp_I u28 e379
            have v387 : q_V d378 = q_V δ := ((show q_V d378 = q_V r18.2 by rw [e379]; rfl)).trans v29
            have v388 := kr_N v30 (show q_R d378 = q_R r18.2 by rw [e379]; rfl)
            unfold J_X12_unit_74
            have f392 := ti_b (q_I d378 12 7 a0)
            have f393 : (q_I d378 12 7 a0).toInt = (q_I r18.2 12 7 a0).toInt := congrArg Int32.toInt (by rw [e379]; exact rI_o (by decide))
            first | (have q395 := te_addc (c := 1) (n := 1) rfl (q_I d378 12 7 a0) (by omega) (by omega); obtain ⟨f396, f397, f398⟩ := q395) | (obtain ⟨q395, f396, f397, f398⟩ := ti_addc (c := 1) (n := 1) rfl (q_I d378 12 7 a0))
            refine ok_bdv (fun d389 e390 => ?_)
            have i391 : RI ad h.1 δ0 d389 := by rw [e390]; exact cs_12_7 L i380
            have u399 := kp_I u386 e390
            have v400 : q_V d389 = q_V δ := ((show q_V d389 = q_V d378 by rw [e390]; rfl)).trans v387
            have v401 := kr_N v388 (show q_R d389 = q_R d378 by rw [e390]; rfl)
            have f404 := cb_12_24 i391 k_a0
            have f405 : (q_I d389 12 24 a0).toInt = (q_I d378 12 24 a0).toInt := congrArg Int32.toInt (by rw [e390]; exact rI_o (by decide))
            have f406 := cb_12_24 i380 k_a0
            have f407 : (q_I d378 12 24 a0).toInt = (q_I r18.2 12 24 a0).toInt := congrArg Int32.toInt (by rw [e379]; exact rI_o (by decide))
            have f408 := cb_12_24 i20 k_a0
            have f409 : (q_I r18.2 12 24 a0).toInt = (q_I δ 12 24 a0).toInt := congrArg Int32.toInt (u24 12 24 a0 (by decide))
            have f410 := cb_12_26 i391 k_a0
            have f411 : (q_I d389 12 26 a0).toInt = (q_I d378 12 26 a0).toInt := congrArg Int32.toInt (by rw [e390]; exact rI_o (by decide))
            have f412 := cb_12_26 i380 k_a0
            have f413 : (q_I d378 12 26 a0).toInt = (q_I r18.2 12 26 a0).toInt := congrArg Int32.toInt (by rw [e379]; exact rI_o (by decide))
            have f414 := cb_12_26 i20 k_a0
            have f415 : (q_I r18.2 12 26 a0).toInt = (q_I δ 12 26 a0).toInt := congrArg Int32.toInt (u24 12 26 a0 (by decide))
            have f416 := cb_12_4 i391 k_a0
            have f417 : (q_I d389 12 4 a0).toInt = (q_I d378 12 4 a0).toInt := congrArg Int32.toInt (by rw [e390]; exact rI_o (by decide))
            have f418 := cb_12_4 i380 k_a0
            have f419 : (q_I d378 12 4 a0).toInt = ((q_I r18.2 12 4 a0) + (1 : Int32)).toInt := congrArg Int32.toInt (show q_I d378 12 4 a0 = ((q_I r18.2 12 4 a0) + (1 : Int32)) by rw [e379]; exact rI_s)
            have f420 := ti_b (q_I d389 12 7 a0)
            have f421 : (q_I d389 12 7 a0).toInt = ((q_I d378 12 7 a0) + (1 : Int32)).toInt := congrArg Int32.toInt (show q_I d389 12 7 a0 = ((q_I d378 12 7 a0) + (1 : Int32)) by rw [e390]; exact rI_s)
            have f422 := ti_b (q_I d389 12 5 a0)
            have f423 : (q_I d389 12 5 a0).toInt = (q_I d378 12 5 a0).toInt := congrArg Int32.toInt (by rw [e390]; exact rI_o (by decide))
            have f424 := ti_b (q_I d378 12 5 a0)
            have f425 : (q_I d378 12 5 a0).toInt = (q_I r18.2 12 5 a0).toInt := congrArg Int32.toInt (by rw [e379]; exact rI_o (by decide))
            refine ok_bind (hT a0 d389 k_a0 (show (q_I d389 12 24 a0).toInt ≤ 3 by first | assumption | omega) (show (q_I d389 12 26 a0).toInt ≤ (q_I d389 12 4 a0).toInt by first | assumption | omega) (show 0 ≤ (q_I d389 12 7 a0).toInt by first | assumption | omega) (show (q_I d389 12 7 a0).toInt ≤ 7 by first | assumption | omega) (show (q_I d389 12 7 a0).toInt = 7 → (q_I d389 12 5 a0).toInt ≠ -1 by first | assumption | omega) (show 8 - (q_I d389 12 7 a0).toInt < _ by first | assumption | omega) i391) (fun r402 hr403 => ?_)
            obtain ⟨i426, ⟨u432, u433, u434⟩, p427, p428, p429, p430, p431⟩ := hr403
            have u435 := kp_t u399 u432
            have v436 : q_V r402 = q_V δ := (u433).trans v400
            have v437 := kr_t v401 u434
            have f438 := cb_12_4 i426 k_a0
            have f439 := ti_b (q_I r402 12 5 a0)
            have f440 := ti_b (q_I r402 12 7 a0)
            have f441 := cb_12_26 i426 k_a0
            refine ok_bind (k_X12_sign L hN (a0 := a0) (x1 := (41 : Int32)) k_a0 (show (41 : Int) ≠ 0 by first | assumption | omega) i426) (fun r442 hr443 => ?_)
            obtain ⟨i444, ⟨u448, u449, u450, u451⟩, p445, p446, p447⟩ := hr443
            have u452 := kp_t u435 u448
            have v453 : q_V r442 = q_V δ := (u449).trans v436
            have v454 := kr_t v437 u451
            have f455 := cb_12_4 i444 k_a0
            have f456 := ti_b (q_I r442 12 5 a0)
            have f460 := ti_b (q_I r442 12 7 a0)
            have f461 : (q_I r442 12 7 a0).toInt = (q_I r402 12 7 a0).toInt := congrArg Int32.toInt (u448 12 7 a0 (by decide))
            first | (have q463 := te_subc (c := 1) (n := 1) rfl (q_I r442 12 7 a0) (by omega) (by omega); obtain ⟨f464, f465, f466⟩ := q463) | (obtain ⟨q463, f464, f465, f466⟩ := ti_subc (c := 1) (n := 1) rfl (q_I r442 12 7 a0))
            refine ok_bdv (fun d457 e458 => ?_)
            have i459 : RI ad h.1 δ0 d457 := by rw [e458]; exact cs_12_7 L i444
            have u467 := kp_I u452 e458
            have v468 : q_V d457 = q_V δ := ((show q_V d457 = q_V r442 by rw [e458]; rfl)).trans v453
            have v469 := kr_N v454 (show q_R d457 = q_R r442 by rw [e458]; rfl)
            have f470 := cb_12_4 i459 k_a0
            have f471 : (q_I d457 12 4 a0).toInt = (q_I r442 12 4 a0).toInt := congrArg Int32.toInt (by rw [e458]; exact rI_o (by decide))
            have f472 := ti_b (q_I d457 12 5 a0)
            have f473 : (q_I d457 12 5 a0).toInt = (q_I r442 12 5 a0).toInt := congrArg Int32.toInt (by rw [e458]; exact rI_o (by decide))
            have f474 := ti_b (q_I d457 12 7 a0)
            have f475 : (q_I d457 12 7 a0).toInt = ((q_I r442 12 7 a0) - (1 : Int32)).toInt := congrArg Int32.toInt (show q_I d457 12 7 a0 = ((q_I r442 12 7 a0) - (1 : Int32)) by rw [e458]; exact rI_s)
            have f476 := cb_12_26 i459 k_a0
            have f477 : (q_I d457 12 26 a0).toInt = (q_I r442 12 26 a0).toInt := congrArg Int32.toInt (by rw [e458]; exact rI_o (by decide))
            have f478 := cb_12_26 i444 k_a0
            have f479 : (q_I r442 12 26 a0).toInt = (q_I r402 12 26 a0).toInt := congrArg Int32.toInt (u448 12 26 a0 (by decide))
            exact ok_some (show RI ad h.1 δ0 d457 ∧ (kp [(12, 4), (12, 5), (12, 6), (12, 7), (12, 26)] δ d457 ∧ q_V d457 = q_V δ ∧ kr ad [116, 117] δ d457) ∧ (q_I δ 12 4 a0).toInt ≤ (q_I d457 12 4 a0).toInt ∧ ((q_I δ 12 5 a0).toInt ≠ -1 → (q_I d457 12 5 a0).toInt ≠ -1) ∧ (q_I d457 12 7 a0).toInt = (q_I δ 12 7 a0).toInt ∧ (q_I δ 12 26 a0).toInt ≤ (q_I d457 12 26 a0).toInt ∧ (q_I d457 12 26 a0).toInt - (q_I δ 12 26 a0).toInt ≤ (q_I d457 12 4 a0).toInt - (q_I δ 12 4 a0).toInt from ⟨i459, ⟨kp_w (by decide) u467, v468, kr_w (by decide) v469⟩, by first | assumption | omega, by first | assumption | omega, by first | assumption | omega, by first | assumption | omega, by first | assumption | omega⟩)
      · have c480 : r18.1.toInt ≠ (40 : Int) := o_ne h53
        refine ok_bind (k_X12_word L hN (a0 := a0) k_a0 i20) (fun r481 hr482 => ?_)
        obtain ⟨i483, ⟨u486, u487, u488, u489⟩, p484, p485⟩ := hr482
        have u490 := kp_t u28 u486
        have v491 : q_V r481.2 = q_V δ := (u487).trans v29
        have v492 := kr_t v30 u489
        have f493 := cb_12_4 i483 k_a0
        have f494 : hc ad r481.2 a0 = (q_R r481.2 (Ad ad 101) (q_I r481.2 12 4 a0).toNatClampNeg).toInt := rfl
        have t495 := ti_tn (q_I r481.2 12 4 a0)
        have f496 : (q_R r481.2 (Ad ad 101) (q_I r481.2 12 4 a0).toNatClampNeg).toInt = (q_R r18.2 (Ad ad 101) (q_I r481.2 12 4 a0).toNatClampNeg).toInt := congrArg Int32.toInt (congrFun (u489 101 (by decide) (by decide) (by decide)) _)
        have f497 : (q_R r18.2 (Ad ad 101) (q_I r481.2 12 4 a0).toNatClampNeg).toInt = (q_R δ (Ad ad 101) (q_I r481.2 12 4 a0).toNatClampNeg).toInt := congrArg Int32.toInt (congrFun (u27 101 (by decide) (by decide) (by decide)) _)
        have f498 := ti_b (q_R δ (Ad ad 101) (q_I r481.2 12 4 a0).toNatClampNeg)
        have f499 := ti_b (q_R r18.2 (Ad ad 101) (q_I r481.2 12 4 a0).toNatClampNeg)
        have f500 := ti_b (q_R r481.2 (Ad ad 101) (q_I r481.2 12 4 a0).toNatClampNeg)
        have f501 := ti_b r481.1
        have f502 := cb_12_3 i20 k_a0
        have f503 : (q_I r18.2 12 3 a0).toInt = (q_I δ 12 3 a0).toInt := congrArg Int32.toInt (u24 12 3 a0 (by decide))
        have f504 := ti_b r481.1
        refine ok_bind (k_X12_of L hN (a0 := 11) (show 11 < 16 by first | assumption | omega) i483) (fun r505 hr506 => ?_)
        obtain ⟨i507, p508⟩ := hr506
        try rw [i507]
        have f509 := ti_b r505.1
        have f510 := ti_b r505.1
        refine ok_ite (fun h511 => ?_) (fun h511 => ?_)
        · have c512 : r481.1.toInt = r505.1.toInt := o_eq h511
          unfold J_X12_unit_176
          refine ok_ite (fun h513 => ?_) (fun h513 => ?_)
          · have c514 : (1 : Int) = (-1 : Int) := o_eq h513
            refine ok_bind (k_X12_wrong L hN (a0 := a0) (x1 := (1 : Int32)) (x2 := (q_I r481.2 12 4 a0)) k_a0 (show 0 ≤ ((q_I r481.2 12 4 a0)).toInt by first | assumption | omega) i483) (fun r515 hr516 => ?_)
            obtain ⟨i517, ⟨u519, u520, u521, u522⟩, p518⟩ := hr516
            have u523 := kp_t u490 u519
            have v524 : q_V r515 = q_V δ := (u520).trans v491
            have v525 := kr_t v492 u522
            have f526 := ti_b (q_I r515 12 5 a0)
            have f527 := cb_12_4 i517 k_a0
            have f528 : (q_I r515 12 4 a0).toInt = (q_I r481.2 12 4 a0).toInt := congrArg Int32.toInt (u519 12 4 a0 (by decide))
            have f529 := ti_b (q_I r515 12 7 a0)
            have f530 : (q_I r515 12 7 a0).toInt = (q_I r481.2 12 7 a0).toInt := congrArg Int32.toInt (u519 12 7 a0 (by decide))
            have f531 := ti_b (q_I r481.2 12 7 a0)
            have f532 : (q_I r481.2 12 7 a0).toInt = (q_I r18.2 12 7 a0).toInt := congrArg Int32.toInt (u486 12 7 a0 (by decide))
            have f533 := ti_b (q_I r18.2 12 7 a0)
            have f534 : (q_I r18.2 12 7 a0).toInt = (q_I δ 12 7 a0).toInt := congrArg Int32.toInt (u24 12 7 a0 (by decide))
            have f535 := cb_12_26 i517 k_a0
            have f536 : (q_I r515 12 26 a0).toInt = (q_I r481.2 12 26 a0).toInt := congrArg Int32.toInt (u519 12 26 a0 (by decide))
            have f537 := cb_12_26 i483 k_a0
            have f538 : (q_I r481.2 12 26 a0).toInt = (q_I r18.2 12 26 a0).toInt := congrArg Int32.toInt (u486 12 26 a0 (by decide))
            have f539 := cb_12_26 i20 k_a0
            have f540 : (q_I r18.2 12 26 a0).toInt = (q_I δ 12 26 a0).toInt := congrArg Int32.toInt (u24 12 26 a0 (by decide))
            exact ok_some (show RI ad h.1 δ0 r515 ∧ (kp [(12, 4), (12, 5), (12, 6), (12, 7), (12, 26)] δ r515 ∧ q_V r515 = q_V δ ∧ kr ad [116, 117] δ r515) ∧ (q_I δ 12 4 a0).toInt ≤ (q_I r515 12 4 a0).toInt ∧ ((q_I δ 12 5 a0).toInt ≠ -1 → (q_I r515 12 5 a0).toInt ≠ -1) ∧ (q_I r515 12 7 a0).toInt = (q_I δ 12 7 a0).toInt ∧ (q_I δ 12 26 a0).toInt ≤ (q_I r515 12 26 a0).toInt ∧ (q_I r515 12 26 a0).toInt - (q_I δ 12 26 a0).toInt ≤ (q_I r515 12 4 a0).toInt - (q_I δ 12 4 a0).toInt from ⟨i517, ⟨kp_w (by decide) u523, v524, kr_w (by decide) v525⟩, by first | assumption | omega, by first | assumption | omega, by first | assumption | omega, by first | assumption | omega, by first | assumption | omega⟩)
          · have c541 : (1 : Int) ≠ (-1 : Int) := o_ne h513
            refine ok_bind (k_X12_pass L hN (a0 := a0) k_a0 i483) (fun r542 hr543 => ?_)
            obtain ⟨i544, ⟨u547, u548, u549, u550⟩, p545, p546⟩ := hr543
            have u551 := kp_t u490 u547
            have v552 : q_V r542 = q_V δ := (u548).trans v491
            have v553 := kr_t v492 u550
            have f554 := cb_12_4 i544 k_a0
            have f555 := cb_12_3 i483 k_a0
            have f556 : (q_I r481.2 12 3 a0).toInt = (q_I r18.2 12 3 a0).toInt := congrArg Int32.toInt (u486 12 3 a0 (by decide))
            have f559 := cb_12_24 i544 k_a0
            have f560 : (q_I r542 12 24 a0).toInt = (q_I r481.2 12 24 a0).toInt := congrArg Int32.toInt (u547 12 24 a0 (by decide))
            have f561 := cb_12_24 i483 k_a0
            have f562 : (q_I r481.2 12 24 a0).toInt = (q_I r18.2 12 24 a0).toInt := congrArg Int32.toInt (u486 12 24 a0 (by decide))
            have f563 := cb_12_24 i20 k_a0
            have f564 : (q_I r18.2 12 24 a0).toInt = (q_I δ 12 24 a0).toInt := congrArg Int32.toInt (u24 12 24 a0 (by decide))
            have f565 := ti_b (q_I r542 12 5 a0)
            have f566 : (q_I r542 12 5 a0).toInt = (q_I r481.2 12 5 a0).toInt := congrArg Int32.toInt (u547 12 5 a0 (by decide))
            have f567 := ti_b (q_I r481.2 12 5 a0)
            have f568 : (q_I r481.2 12 5 a0).toInt = (q_I r18.2 12 5 a0).toInt := congrArg Int32.toInt (u486 12 5 a0 (by decide))
            have f569 := ti_b (q_I r18.2 12 5 a0)
            have f570 : (q_I r18.2 12 5 a0).toInt = (q_I δ 12 5 a0).toInt := congrArg Int32.toInt (u24 12 5 a0 (by decide))
            have f571 := cb_12_26 i544 k_a0
            have f572 : (q_I r542 12 26 a0).toInt = (q_I r481.2 12 26 a0).toInt := congrArg Int32.toInt (u547 12 26 a0 (by decide))
            have f573 := cb_12_26 i483 k_a0
            have f574 : (q_I r481.2 12 26 a0).toInt = (q_I r18.2 12 26 a0).toInt := congrArg Int32.toInt (u486 12 26 a0 (by decide))
            have f575 := cb_12_26 i20 k_a0
            have f576 : (q_I r18.2 12 26 a0).toInt = (q_I δ 12 26 a0).toInt := congrArg Int32.toInt (u24 12 26 a0 (by decide))
            refine ok_bind (k_X12_emit L hN (a0 := a0) (x1 := (1 : Int32)) (x2 := (0 : Int32)) k_a0 (show (q_I r542 12 24 a0).toInt ≤ 3 by first | assumption | omega) (show (q_I r542 12 5 a0).toInt = -1 → (q_I r542 12 26 a0).toInt < 500 by first | assumption | omega) i544) (fun r557 hr558 => ?_)
            obtain ⟨i577, ⟨u581, u582, u583⟩, p578, p579, p580⟩ := hr558
            have u584 := kp_t u551 u581
            have v585 : q_V r557 = q_V δ := (u582).trans v552
            have v586 := kr_t v553 u583
            have f587 := cb_12_26 i577 k_a0
            have f588 := cb_12_4 i577 k_a0
            have f589 : (q_I r557 12 4 a0).toInt = (q_I r542 12 4 a0).toInt := congrArg Int32.toInt (u581 12 4 a0 (by decide))
            have f590 := ti_b (q_I r557 12 5 a0)
            have f591 : (q_I r557 12 5 a0).toInt = (q_I r542 12 5 a0).toInt := congrArg Int32.toInt (u581 12 5 a0 (by decide))
            have f592 := ti_b (q_I r557 12 7 a0)
            have f593 : (q_I r557 12 7 a0).toInt = (q_I r542 12 7 a0).toInt := congrArg Int32.toInt (u581 12 7 a0 (by decide))
            have f594 := ti_b (q_I r542 12 7 a0)
            have f595 : (q_I r542 12 7 a0).toInt = (q_I r481.2 12 7 a0).toInt := congrArg Int32.toInt (u547 12 7 a0 (by decide))
            have f596 := ti_b (q_I r481.2 12 7 a0)
            have f597 : (q_I r481.2 12 7 a0).toInt = (q_I r18.2 12 7 a0).toInt := congrArg Int32.toInt (u486 12 7 a0 (by decide))
            have f598 := ti_b (q_I r18.2 12 7 a0)
            have f599 : (q_I r18.2 12 7 a0).toInt = (q_I δ 12 7 a0).toInt := congrArg Int32.toInt (u24 12 7 a0 (by decide))
            exact ok_some (show RI ad h.1 δ0 r557 ∧ (kp [(12, 4), (12, 5), (12, 6), (12, 7), (12, 26)] δ r557 ∧ q_V r557 = q_V δ ∧ kr ad [116, 117] δ r557) ∧ (q_I δ 12 4 a0).toInt ≤ (q_I r557 12 4 a0).toInt ∧ ((q_I δ 12 5 a0).toInt ≠ -1 → (q_I r557 12 5 a0).toInt ≠ -1) ∧ (q_I r557 12 7 a0).toInt = (q_I δ 12 7 a0).toInt ∧ (q_I δ 12 26 a0).toInt ≤ (q_I r557 12 26 a0).toInt ∧ (q_I r557 12 26 a0).toInt - (q_I δ 12 26 a0).toInt ≤ (q_I r557 12 4 a0).toInt - (q_I δ 12 4 a0).toInt from ⟨i577, ⟨kp_w (by decide) u584, v585, kr_w (by decide) v586⟩, by first | assumption | omega, by first | assumption | omega, by first | assumption | omega, by first | assumption | omega, by first | assumption | omega⟩)
        · have c600 : r481.1.toInt ≠ r505.1.toInt := o_ne h511
          refine ok_bind (k_X12_of L hN (a0 := 12) (show 12 < 16 by first | assumption | omega) i483) (fun r601 hr602 => ?_)
          obtain ⟨i603, p604⟩ := hr602
          try rw [i603]
          have f605 := ti_b r601.1
          have f606 := ti_b r601.1
          refine ok_ite (fun h607 => ?_) (fun h607 => ?_)
          · have c608 : r481.1.toInt = r601.1.toInt := o_eq h607
            unfold J_X12_unit_176
            refine ok_ite (fun h609 => ?_) (fun h609 => ?_)
            · have c610 : (2 : Int) = (-1 : Int) := o_eq h609
              refine ok_bind (k_X12_wrong L hN (a0 := a0) (x1 := (1 : Int32)) (x2 := (q_I r481.2 12 4 a0)) k_a0 (show 0 ≤ ((q_I r481.2 12 4 a0)).toInt by first | assumption | omega) i483) (fun r611 hr612 => ?_)
              obtain ⟨i613, ⟨u615, u616, u617, u618⟩, p614⟩ := hr612
              have u619 := kp_t u490 u615
              have v620 : q_V r611 = q_V δ := (u616).trans v491
              have v621 := kr_t v492 u618
              have f622 := ti_b (q_I r611 12 5 a0)
              have f623 := cb_12_4 i613 k_a0
              have f624 : (q_I r611 12 4 a0).toInt = (q_I r481.2 12 4 a0).toInt := congrArg Int32.toInt (u615 12 4 a0 (by decide))
              have f625 := ti_b (q_I r611 12 7 a0)
              have f626 : (q_I r611 12 7 a0).toInt = (q_I r481.2 12 7 a0).toInt := congrArg Int32.toInt (u615 12 7 a0 (by decide))
              have f627 := ti_b (q_I r481.2 12 7 a0)
              have f628 : (q_I r481.2 12 7 a0).toInt = (q_I r18.2 12 7 a0).toInt := congrArg Int32.toInt (u486 12 7 a0 (by decide))
              have f629 := ti_b (q_I r18.2 12 7 a0)
              have f630 : (q_I r18.2 12 7 a0).toInt = (q_I δ 12 7 a0).toInt := congrArg Int32.toInt (u24 12 7 a0 (by decide))
              have f631 := cb_12_26 i613 k_a0
              have f632 : (q_I r611 12 26 a0).toInt = (q_I r481.2 12 26 a0).toInt := congrArg Int32.toInt (u615 12 26 a0 (by decide))
              have f633 := cb_12_26 i483 k_a0
              have f634 : (q_I r481.2 12 26 a0).toInt = (q_I r18.2 12 26 a0).toInt := congrArg Int32.toInt (u486 12 26 a0 (by decide))
              have f635 := cb_12_26 i20 k_a0
              have f636 : (q_I r18.2 12 26 a0).toInt = (q_I δ 12 26 a0).toInt := congrArg Int32.toInt (u24 12 26 a0 (by decide))
              exact ok_some (show RI ad h.1 δ0 r611 ∧ (kp [(12, 4), (12, 5), (12, 6), (12, 7), (12, 26)] δ r611 ∧ q_V r611 = q_V δ ∧ kr ad [116, 117] δ r611) ∧ (q_I δ 12 4 a0).toInt ≤ (q_I r611 12 4 a0).toInt ∧ ((q_I δ 12 5 a0).toInt ≠ -1 → (q_I r611 12 5 a0).toInt ≠ -1) ∧ (q_I r611 12 7 a0).toInt = (q_I δ 12 7 a0).toInt ∧ (q_I δ 12 26 a0).toInt ≤ (q_I r611 12 26 a0).toInt ∧ (q_I r611 12 26 a0).toInt - (q_I δ 12 26 a0).toInt ≤ (q_I r611 12 4 a0).toInt - (q_I δ 12 4 a0).toInt from ⟨i613, ⟨kp_w (by decide) u619, v620, kr_w (by decide) v621⟩, by first | assumption | omega, by first | assumption | omega, by first | assumption | omega, by first | assumption | omega, by first | assumption | omega⟩)
            · have c637 : (2 : Int) ≠ (-1 : Int) := o_ne h609
              refine ok_bind (k_X12_pass L hN (a0 := a0) k_a0 i483) (fun r638 hr639 => ?_)
              obtain ⟨i640, ⟨u643, u644, u645, u646⟩, p641, p642⟩ := hr639
              have u647 := kp_t u490 u643
              have v648 : q_V r638 = q_V δ := (u644).trans v491
              have v649 := kr_t v492 u646
              have f650 := cb_12_4 i640 k_a0
              have f651 := cb_12_3 i483 k_a0
              have f652 : (q_I r481.2 12 3 a0).toInt = (q_I r18.2 12 3 a0).toInt := congrArg Int32.toInt (u486 12 3 a0 (by decide))
              have f655 := cb_12_24 i640 k_a0
              have f656 : (q_I r638 12 24 a0).toInt = (q_I r481.2 12 24 a0).toInt := congrArg Int32.toInt (u643 12 24 a0 (by decide))
              have f657 := cb_12_24 i483 k_a0
              have f658 : (q_I r481.2 12 24 a0).toInt = (q_I r18.2 12 24 a0).toInt := congrArg Int32.toInt (u486 12 24 a0 (by decide))
              have f659 := cb_12_24 i20 k_a0
              have f660 : (q_I r18.2 12 24 a0).toInt = (q_I δ 12 24 a0).toInt := congrArg Int32.toInt (u24 12 24 a0 (by decide))
              have f661 := ti_b (q_I r638 12 5 a0)
              have f662 : (q_I r638 12 5 a0).toInt = (q_I r481.2 12 5 a0).toInt := congrArg Int32.toInt (u643 12 5 a0 (by decide))
              have f663 := ti_b (q_I r481.2 12 5 a0)
              have f664 : (q_I r481.2 12 5 a0).toInt = (q_I r18.2 12 5 a0).toInt := congrArg Int32.toInt (u486 12 5 a0 (by decide))
              have f665 := ti_b (q_I r18.2 12 5 a0)
              have f666 : (q_I r18.2 12 5 a0).toInt = (q_I δ 12 5 a0).toInt := congrArg Int32.toInt (u24 12 5 a0 (by decide))
              have f667 := cb_12_26 i640 k_a0
              have f668 : (q_I r638 12 26 a0).toInt = (q_I r481.2 12 26 a0).toInt := congrArg Int32.toInt (u643 12 26 a0 (by decide))
              have f669 := cb_12_26 i483 k_a0
              have f670 : (q_I r481.2 12 26 a0).toInt = (q_I r18.2 12 26 a0).toInt := congrArg Int32.toInt (u486 12 26 a0 (by decide))
              have f671 := cb_12_26 i20 k_a0
              have f672 : (q_I r18.2 12 26 a0).toInt = (q_I δ 12 26 a0).toInt := congrArg Int32.toInt (u24 12 26 a0 (by decide))
              refine ok_bind (k_X12_emit L hN (a0 := a0) (x1 := (2 : Int32)) (x2 := (0 : Int32)) k_a0 (show (q_I r638 12 24 a0).toInt ≤ 3 by first | assumption | omega) (show (q_I r638 12 5 a0).toInt = -1 → (q_I r638 12 26 a0).toInt < 500 by first | assumption | omega) i640) (fun r653 hr654 => ?_)
              obtain ⟨i673, ⟨u677, u678, u679⟩, p674, p675, p676⟩ := hr654
              have u680 := kp_t u647 u677
              have v681 : q_V r653 = q_V δ := (u678).trans v648
              have v682 := kr_t v649 u679
              have f683 := cb_12_26 i673 k_a0
              have f684 := cb_12_4 i673 k_a0
              have f685 : (q_I r653 12 4 a0).toInt = (q_I r638 12 4 a0).toInt := congrArg Int32.toInt (u677 12 4 a0 (by decide))
              have f686 := ti_b (q_I r653 12 5 a0)
              have f687 : (q_I r653 12 5 a0).toInt = (q_I r638 12 5 a0).toInt := congrArg Int32.toInt (u677 12 5 a0 (by decide))
              have f688 := ti_b (q_I r653 12 7 a0)
              have f689 : (q_I r653 12 7 a0).toInt = (q_I r638 12 7 a0).toInt := congrArg Int32.toInt (u677 12 7 a0 (by decide))
              have f690 := ti_b (q_I r638 12 7 a0)
              have f691 : (q_I r638 12 7 a0).toInt = (q_I r481.2 12 7 a0).toInt := congrArg Int32.toInt (u643 12 7 a0 (by decide))
              have f692 := ti_b (q_I r481.2 12 7 a0)
              have f693 : (q_I r481.2 12 7 a0).toInt = (q_I r18.2 12 7 a0).toInt := congrArg Int32.toInt (u486 12 7 a0 (by decide))
              have f694 := ti_b (q_I r18.2 12 7 a0)
              have f695 : (q_I r18.2 12 7 a0).toInt = (q_I δ 12 7 a0).toInt := congrArg Int32.toInt (u24 12 7 a0 (by decide))
              exact ok_some (show RI ad h.1 δ0 r653 ∧ (kp [(12, 4), (12, 5), (12, 6), (12, 7), (12, 26)] δ r653 ∧ q_V r653 = q_V δ ∧ kr ad [116, 117] δ r653) ∧ (q_I δ 12 4 a0).toInt ≤ (q_I r653 12 4 a0).toInt ∧ ((q_I δ 12 5 a0).toInt ≠ -1 → (q_I r653 12 5 a0).toInt ≠ -1) ∧ (q_I r653 12 7 a0).toInt = (q_I δ 12 7 a0).toInt ∧ (q_I δ 12 26 a0).toInt ≤ (q_I r653 12 26 a0).toInt ∧ (q_I r653 12 26 a0).toInt - (q_I δ 12 26 a0).toInt ≤ (q_I r653 12 4 a0).toInt - (q_I δ 12 4 a0).toInt from ⟨i673, ⟨kp_w (by decide) u680, v681, kr_w (by decide) v682⟩, by first | assumption | omega, by first | assumption | omega, by first | assumption | omega, by first | assumption | omega, by first | assumption | omega⟩)
          · have c696 : r481.1.toInt ≠ r601.1.toInt := o_ne h607
            refine ok_bind (k_X12_of L hN (a0 := 13) (show 13 < 16 by first | assumption | omega) i483) (fun r697 hr698 => ?_)
            obtain ⟨i699, p700⟩ := hr698
            try rw [i699]
            have f701 := ti_b r697.1
            have f702 := ti_b r697.1
            refine ok_ite (fun h703 => ?_) (fun h703 => ?_)
            · have c704 : r481.1.toInt = r697.1.toInt := o_eq h703
              unfold J_X12_unit_176
              refine ok_ite (fun h705 => ?_) (fun h705 => ?_)
              · have c706 : (3 : Int) = (-1 : Int) := o_eq h705
                refine ok_bind (k_X12_wrong L hN (a0 := a0) (x1 := (1 : Int32)) (x2 := (q_I r481.2 12 4 a0)) k_a0 (show 0 ≤ ((q_I r481.2 12 4 a0)).toInt by first | assumption | omega) i483) (fun r707 hr708 => ?_)
                obtain ⟨i709, ⟨u711, u712, u713, u714⟩, p710⟩ := hr708
                have u715 := kp_t u490 u711
                have v716 : q_V r707 = q_V δ := (u712).trans v491
                have v717 := kr_t v492 u714
                have f718 := ti_b (q_I r707 12 5 a0)
                have f719 := cb_12_4 i709 k_a0
                have f720 : (q_I r707 12 4 a0).toInt = (q_I r481.2 12 4 a0).toInt := congrArg Int32.toInt (u711 12 4 a0 (by decide))
                have f721 := ti_b (q_I r707 12 7 a0)
                have f722 : (q_I r707 12 7 a0).toInt = (q_I r481.2 12 7 a0).toInt := congrArg Int32.toInt (u711 12 7 a0 (by decide))
                have f723 := ti_b (q_I r481.2 12 7 a0)
                have f724 : (q_I r481.2 12 7 a0).toInt = (q_I r18.2 12 7 a0).toInt := congrArg Int32.toInt (u486 12 7 a0 (by decide))
                have f725 := ti_b (q_I r18.2 12 7 a0)
                have f726 : (q_I r18.2 12 7 a0).toInt = (q_I δ 12 7 a0).toInt := congrArg Int32.toInt (u24 12 7 a0 (by decide))
                have f727 := cb_12_26 i709 k_a0
                have f728 : (q_I r707 12 26 a0).toInt = (q_I r481.2 12 26 a0).toInt := congrArg Int32.toInt (u711 12 26 a0 (by decide))
                have f729 := cb_12_26 i483 k_a0
                have f730 : (q_I r481.2 12 26 a0).toInt = (q_I r18.2 12 26 a0).toInt := congrArg Int32.toInt (u486 12 26 a0 (by decide))
                have f731 := cb_12_26 i20 k_a0
                have f732 : (q_I r18.2 12 26 a0).toInt = (q_I δ 12 26 a0).toInt := congrArg Int32.toInt (u24 12 26 a0 (by decide))
                exact ok_some (show RI ad h.1 δ0 r707 ∧ (kp [(12, 4), (12, 5), (12, 6), (12, 7), (12, 26)] δ r707 ∧ q_V r707 = q_V δ ∧ kr ad [116, 117] δ r707) ∧ (q_I δ 12 4 a0).toInt ≤ (q_I r707 12 4 a0).toInt ∧ ((q_I δ 12 5 a0).toInt ≠ -1 → (q_I r707 12 5 a0).toInt ≠ -1) ∧ (q_I r707 12 7 a0).toInt = (q_I δ 12 7 a0).toInt ∧ (q_I δ 12 26 a0).toInt ≤ (q_I r707 12 26 a0).toInt ∧ (q_I r707 12 26 a0).toInt - (q_I δ 12 26 a0).toInt ≤ (q_I r707 12 4 a0).toInt - (q_I δ 12 4 a0).toInt from ⟨i709, ⟨kp_w (by decide) u715, v716, kr_w (by decide) v717⟩, by first | assumption | omega, by first | assumption | omega, by first | assumption | omega, by first | assumption | omega, by first | assumption | omega⟩)
              · have c733 : (3 : Int) ≠ (-1 : Int) := o_ne h705
                refine ok_bind (k_X12_pass L hN (a0 := a0) k_a0 i483) (fun r734 hr735 => ?_)
                obtain ⟨i736, ⟨u739, u740, u741, u742⟩, p737, p738⟩ := hr735
                have u743 := kp_t u490 u739
                have v744 : q_V r734 = q_V δ := (u740).trans v491
                have v745 := kr_t v492 u742
                have f746 := cb_12_4 i736 k_a0
                have f747 := cb_12_3 i483 k_a0
                have f748 : (q_I r481.2 12 3 a0).toInt = (q_I r18.2 12 3 a0).toInt := congrArg Int32.toInt (u486 12 3 a0 (by decide))
                have f751 := cb_12_24 i736 k_a0
                have f752 : (q_I r734 12 24 a0).toInt = (q_I r481.2 12 24 a0).toInt := congrArg Int32.toInt (u739 12 24 a0 (by decide))
                have f753 := cb_12_24 i483 k_a0
                have f754 : (q_I r481.2 12 24 a0).toInt = (q_I r18.2 12 24 a0).toInt := congrArg Int32.toInt (u486 12 24 a0 (by decide))
                have f755 := cb_12_24 i20 k_a0
                have f756 : (q_I r18.2 12 24 a0).toInt = (q_I δ 12 24 a0).toInt := congrArg Int32.toInt (u24 12 24 a0 (by decide))
                have f757 := ti_b (q_I r734 12 5 a0)
                have f758 : (q_I r734 12 5 a0).toInt = (q_I r481.2 12 5 a0).toInt := congrArg Int32.toInt (u739 12 5 a0 (by decide))
                have f759 := ti_b (q_I r481.2 12 5 a0)
                have f760 : (q_I r481.2 12 5 a0).toInt = (q_I r18.2 12 5 a0).toInt := congrArg Int32.toInt (u486 12 5 a0 (by decide))
                have f761 := ti_b (q_I r18.2 12 5 a0)
                have f762 : (q_I r18.2 12 5 a0).toInt = (q_I δ 12 5 a0).toInt := congrArg Int32.toInt (u24 12 5 a0 (by decide))
                have f763 := cb_12_26 i736 k_a0
                have f764 : (q_I r734 12 26 a0).toInt = (q_I r481.2 12 26 a0).toInt := congrArg Int32.toInt (u739 12 26 a0 (by decide))
                have f765 := cb_12_26 i483 k_a0
                have f766 : (q_I r481.2 12 26 a0).toInt = (q_I r18.2 12 26 a0).toInt := congrArg Int32.toInt (u486 12 26 a0 (by decide))
                have f767 := cb_12_26 i20 k_a0
                have f768 : (q_I r18.2 12 26 a0).toInt = (q_I δ 12 26 a0).toInt := congrArg Int32.toInt (u24 12 26 a0 (by decide))
                refine ok_bind (k_X12_emit L hN (a0 := a0) (x1 := (3 : Int32)) (x2 := (0 : Int32)) k_a0 (show (q_I r734 12 24 a0).toInt ≤ 3 by first | assumption | omega) (show (q_I r734 12 5 a0).toInt = -1 → (q_I r734 12 26 a0).toInt < 500 by first | assumption | omega) i736) (fun r749 hr750 => ?_)
                obtain ⟨i769, ⟨u773, u774, u775⟩, p770, p771, p772⟩ := hr750
                have u776 := kp_t u743 u773
                have v777 : q_V r749 = q_V δ := (u774).trans v744
                have v778 := kr_t v745 u775
                have f779 := cb_12_26 i769 k_a0
                have f780 := cb_12_4 i769 k_a0
                have f781 : (q_I r749 12 4 a0).toInt = (q_I r734 12 4 a0).toInt := congrArg Int32.toInt (u773 12 4 a0 (by decide))
                have f782 := ti_b (q_I r749 12 5 a0)
                have f783 : (q_I r749 12 5 a0).toInt = (q_I r734 12 5 a0).toInt := congrArg Int32.toInt (u773 12 5 a0 (by decide))
                have f784 := ti_b (q_I r749 12 7 a0)
                have f785 : (q_I r749 12 7 a0).toInt = (q_I r734 12 7 a0).toInt := congrArg Int32.toInt (u773 12 7 a0 (by decide))
                have f786 := ti_b (q_I r734 12 7 a0)
                have f787 : (q_I r734 12 7 a0).toInt = (q_I r481.2 12 7 a0).toInt := congrArg Int32.toInt (u739 12 7 a0 (by decide))
                have f788 := ti_b (q_I r481.2 12 7 a0)
                have f789 : (q_I r481.2 12 7 a0).toInt = (q_I r18.2 12 7 a0).toInt := congrArg Int32.toInt (u486 12 7 a0 (by decide))
                have f790 := ti_b (q_I r18.2 12 7 a0)
                have f791 : (q_I r18.2 12 7 a0).toInt = (q_I δ 12 7 a0).toInt := congrArg Int32.toInt (u24 12 7 a0 (by decide))
                exact ok_some (show RI ad h.1 δ0 r749 ∧ (kp [(12, 4), (12, 5), (12, 6), (12, 7), (12, 26)] δ r749 ∧ q_V r749 = q_V δ ∧ kr ad [116, 117] δ r749) ∧ (q_I δ 12 4 a0).toInt ≤ (q_I r749 12 4 a0).toInt ∧ ((q_I δ 12 5 a0).toInt ≠ -1 → (q_I r749 12 5 a0).toInt ≠ -1) ∧ (q_I r749 12 7 a0).toInt = (q_I δ 12 7 a0).toInt ∧ (q_I δ 12 26 a0).toInt ≤ (q_I r749 12 26 a0).toInt ∧ (q_I r749 12 26 a0).toInt - (q_I δ 12 26 a0).toInt ≤ (q_I r749 12 4 a0).toInt - (q_I δ 12 4 a0).toInt from ⟨i769, ⟨kp_w (by decide) u776, v777, kr_w (by decide) v778⟩, by first | assumption | omega, by first | assumption | omega, by first | assumption | omega, by first | assumption | omega, by first | assumption | omega⟩)
            · have c792 : r481.1.toInt ≠ r697.1.toInt := o_ne h703
              refine ok_bind (k_X12_of L hN (a0 := 14) (show 14 < 16 by first | assumption | omega) i483) (fun r793 hr794 => ?_)
              obtain ⟨i795, p796⟩ := hr794
              try rw [i795]
              have f797 := ti_b r793.1
              have f798 := ti_b r793.1
              refine ok_ite (fun h799 => ?_) (fun h799 => ?_)
              · have c800 : r481.1.toInt = r793.1.toInt := o_eq h799
                unfold J_X12_unit_176
                refine ok_ite (fun h801 => ?_) (fun h801 => ?_)
                · have c802 : (4 : Int) = (-1 : Int) := o_eq h801
                  refine ok_bind (k_X12_wrong L hN (a0 := a0) (x1 := (1 : Int32)) (x2 := (q_I r481.2 12 4 a0)) k_a0 (show 0 ≤ ((q_I r481.2 12 4 a0)).toInt by first | assumption | omega) i483) (fun r803 hr804 => ?_)
                  obtain ⟨i805, ⟨u807, u808, u809, u810⟩, p806⟩ := hr804
                  have u811 := kp_t u490 u807
                  have v812 : q_V r803 = q_V δ := (u808).trans v491
                  have v813 := kr_t v492 u810
                  have f814 := ti_b (q_I r803 12 5 a0)
                  have f815 := cb_12_4 i805 k_a0
                  have f816 : (q_I r803 12 4 a0).toInt = (q_I r481.2 12 4 a0).toInt := congrArg Int32.toInt (u807 12 4 a0 (by decide))
                  have f817 := ti_b (q_I r803 12 7 a0)
                  have f818 : (q_I r803 12 7 a0).toInt = (q_I r481.2 12 7 a0).toInt := congrArg Int32.toInt (u807 12 7 a0 (by decide))
                  have f819 := ti_b (q_I r481.2 12 7 a0)
                  have f820 : (q_I r481.2 12 7 a0).toInt = (q_I r18.2 12 7 a0).toInt := congrArg Int32.toInt (u486 12 7 a0 (by decide))
                  have f821 := ti_b (q_I r18.2 12 7 a0)
                  have f822 : (q_I r18.2 12 7 a0).toInt = (q_I δ 12 7 a0).toInt := congrArg Int32.toInt (u24 12 7 a0 (by decide))
                  have f823 := cb_12_26 i805 k_a0
                  have f824 : (q_I r803 12 26 a0).toInt = (q_I r481.2 12 26 a0).toInt := congrArg Int32.toInt (u807 12 26 a0 (by decide))
                  have f825 := cb_12_26 i483 k_a0
                  have f826 : (q_I r481.2 12 26 a0).toInt = (q_I r18.2 12 26 a0).toInt := congrArg Int32.toInt (u486 12 26 a0 (by decide))
                  have f827 := cb_12_26 i20 k_a0
                  have f828 : (q_I r18.2 12 26 a0).toInt = (q_I δ 12 26 a0).toInt := congrArg Int32.toInt (u24 12 26 a0 (by decide))
                  exact ok_some (show RI ad h.1 δ0 r803 ∧ (kp [(12, 4), (12, 5), (12, 6), (12, 7), (12, 26)] δ r803 ∧ q_V r803 = q_V δ ∧ kr ad [116, 117] δ r803) ∧ (q_I δ 12 4 a0).toInt ≤ (q_I r803 12 4 a0).toInt ∧ ((q_I δ 12 5 a0).toInt ≠ -1 → (q_I r803 12 5 a0).toInt ≠ -1) ∧ (q_I r803 12 7 a0).toInt = (q_I δ 12 7 a0).toInt ∧ (q_I δ 12 26 a0).toInt ≤ (q_I r803 12 26 a0).toInt ∧ (q_I r803 12 26 a0).toInt - (q_I δ 12 26 a0).toInt ≤ (q_I r803 12 4 a0).toInt - (q_I δ 12 4 a0).toInt from ⟨i805, ⟨kp_w (by decide) u811, v812, kr_w (by decide) v813⟩, by first | assumption | omega, by first | assumption | omega, by first | assumption | omega, by first | assumption | omega, by first | assumption | omega⟩)
                · have c829 : (4 : Int) ≠ (-1 : Int) := o_ne h801
                  refine ok_bind (k_X12_pass L hN (a0 := a0) k_a0 i483) (fun r830 hr831 => ?_)
                  obtain ⟨i832, ⟨u835, u836, u837, u838⟩, p833, p834⟩ := hr831
                  have u839 := kp_t u490 u835
                  have v840 : q_V r830 = q_V δ := (u836).trans v491
                  have v841 := kr_t v492 u838
                  have f842 := cb_12_4 i832 k_a0
                  have f843 := cb_12_3 i483 k_a0
                  have f844 : (q_I r481.2 12 3 a0).toInt = (q_I r18.2 12 3 a0).toInt := congrArg Int32.toInt (u486 12 3 a0 (by decide))
                  have f847 := cb_12_24 i832 k_a0
                  have f848 : (q_I r830 12 24 a0).toInt = (q_I r481.2 12 24 a0).toInt := congrArg Int32.toInt (u835 12 24 a0 (by decide))
                  have f849 := cb_12_24 i483 k_a0
                  have f850 : (q_I r481.2 12 24 a0).toInt = (q_I r18.2 12 24 a0).toInt := congrArg Int32.toInt (u486 12 24 a0 (by decide))
                  have f851 := cb_12_24 i20 k_a0
                  have f852 : (q_I r18.2 12 24 a0).toInt = (q_I δ 12 24 a0).toInt := congrArg Int32.toInt (u24 12 24 a0 (by decide))
                  have f853 := ti_b (q_I r830 12 5 a0)
                  have f854 : (q_I r830 12 5 a0).toInt = (q_I r481.2 12 5 a0).toInt := congrArg Int32.toInt (u835 12 5 a0 (by decide))
                  have f855 := ti_b (q_I r481.2 12 5 a0)
                  have f856 : (q_I r481.2 12 5 a0).toInt = (q_I r18.2 12 5 a0).toInt := congrArg Int32.toInt (u486 12 5 a0 (by decide))
                  have f857 := ti_b (q_I r18.2 12 5 a0)
                  have f858 : (q_I r18.2 12 5 a0).toInt = (q_I δ 12 5 a0).toInt := congrArg Int32.toInt (u24 12 5 a0 (by decide))
                  have f859 := cb_12_26 i832 k_a0
                  have f860 : (q_I r830 12 26 a0).toInt = (q_I r481.2 12 26 a0).toInt := congrArg Int32.toInt (u835 12 26 a0 (by decide))
                  have f861 := cb_12_26 i483 k_a0
                  have f862 : (q_I r481.2 12 26 a0).toInt = (q_I r18.2 12 26 a0).toInt := congrArg Int32.toInt (u486 12 26 a0 (by decide))
                  have f863 := cb_12_26 i20 k_a0
                  have f864 : (q_I r18.2 12 26 a0).toInt = (q_I δ 12 26 a0).toInt := congrArg Int32.toInt (u24 12 26 a0 (by decide))
                  refine ok_bind (k_X12_emit L hN (a0 := a0) (x1 := (4 : Int32)) (x2 := (0 : Int32)) k_a0 (show (q_I r830 12 24 a0).toInt ≤ 3 by first | assumption | omega) (show (q_I r830 12 5 a0).toInt = -1 → (q_I r830 12 26 a0).toInt < 500 by first | assumption | omega) i832) (fun r845 hr846 => ?_)
                  obtain ⟨i865, ⟨u869, u870, u871⟩, p866, p867, p868⟩ := hr846
                  have u872 := kp_t u839 u869
                  have v873 : q_V r845 = q_V δ := (u870).trans v840
                  have v874 := kr_t v841 u871
                  have f875 := cb_12_26 i865 k_a0
                  have f876 := cb_12_4 i865 k_a0
                  have f877 : (q_I r845 12 4 a0).toInt = (q_I r830 12 4 a0).toInt := congrArg Int32.toInt (u869 12 4 a0 (by decide))
                  have f878 := ti_b (q_I r845 12 5 a0)
                  have f879 : (q_I r845 12 5 a0).toInt = (q_I r830 12 5 a0).toInt := congrArg Int32.toInt (u869 12 5 a0 (by decide))
                  have f880 := ti_b (q_I r845 12 7 a0)
                  have f881 : (q_I r845 12 7 a0).toInt = (q_I r830 12 7 a0).toInt := congrArg Int32.toInt (u869 12 7 a0 (by decide))
                  have f882 := ti_b (q_I r830 12 7 a0)
                  have f883 : (q_I r830 12 7 a0).toInt = (q_I r481.2 12 7 a0).toInt := congrArg Int32.toInt (u835 12 7 a0 (by decide))
                  have f884 := ti_b (q_I r481.2 12 7 a0)
                  have f885 : (q_I r481.2 12 7 a0).toInt = (q_I r18.2 12 7 a0).toInt := congrArg Int32.toInt (u486 12 7 a0 (by decide))
                  have f886 := ti_b (q_I r18.2 12 7 a0)
                  have f887 : (q_I r18.2 12 7 a0).toInt = (q_I δ 12 7 a0).toInt := congrArg Int32.toInt (u24 12 7 a0 (by decide))
                  exact ok_some (show RI ad h.1 δ0 r845 ∧ (kp [(12, 4), (12, 5), (12, 6), (12, 7), (12, 26)] δ r845 ∧ q_V r845 = q_V δ ∧ kr ad [116, 117] δ r845) ∧ (q_I δ 12 4 a0).toInt ≤ (q_I r845 12 4 a0).toInt ∧ ((q_I δ 12 5 a0).toInt ≠ -1 → (q_I r845 12 5 a0).toInt ≠ -1) ∧ (q_I r845 12 7 a0).toInt = (q_I δ 12 7 a0).toInt ∧ (q_I δ 12 26 a0).toInt ≤ (q_I r845 12 26 a0).toInt ∧ (q_I r845 12 26 a0).toInt - (q_I δ 12 26 a0).toInt ≤ (q_I r845 12 4 a0).toInt - (q_I δ 12 4 a0).toInt from ⟨i865, ⟨kp_w (by decide) u872, v873, kr_w (by decide) v874⟩, by first | assumption | omega, by first | assumption | omega, by first | assumption | omega, by first | assumption | omega, by first | assumption | omega⟩)
              · have c888 : r481.1.toInt ≠ r793.1.toInt := o_ne h799
                refine ok_bind (k_X12_of L hN (a0 := 15) (show 15 < 16 by first | assumption | omega) i483) (fun r889 hr890 => ?_)
                obtain ⟨i891, p892⟩ := hr890
                try rw [i891]
                have f893 := ti_b r889.1
                have f894 := ti_b r889.1
                refine ok_ite (fun h895 => ?_) (fun h895 => ?_)
                · have c896 : r481.1.toInt = r889.1.toInt := o_eq h895
                  unfold J_X12_unit_176
                  refine ok_ite (fun h897 => ?_) (fun h897 => ?_)
                  · have c898 : (5 : Int) = (-1 : Int) := o_eq h897
                    refine ok_bind (k_X12_wrong L hN (a0 := a0) (x1 := (1 : Int32)) (x2 := (q_I r481.2 12 4 a0)) k_a0 (show 0 ≤ ((q_I r481.2 12 4 a0)).toInt by first | assumption | omega) i483) (fun r899 hr900 => ?_)
                    obtain ⟨i901, ⟨u903, u904, u905, u906⟩, p902⟩ := hr900
                    have u907 := kp_t u490 u903
                    have v908 : q_V r899 = q_V δ := (u904).trans v491
                    have v909 := kr_t v492 u906
                    have f910 := ti_b (q_I r899 12 5 a0)
                    have f911 := cb_12_4 i901 k_a0
                    have f912 : (q_I r899 12 4 a0).toInt = (q_I r481.2 12 4 a0).toInt := congrArg Int32.toInt (u903 12 4 a0 (by decide))
                    have f913 := ti_b (q_I r899 12 7 a0)
                    have f914 : (q_I r899 12 7 a0).toInt = (q_I r481.2 12 7 a0).toInt := congrArg Int32.toInt (u903 12 7 a0 (by decide))
                    have f915 := ti_b (q_I r481.2 12 7 a0)
                    have f916 : (q_I r481.2 12 7 a0).toInt = (q_I r18.2 12 7 a0).toInt := congrArg Int32.toInt (u486 12 7 a0 (by decide))
                    have f917 := ti_b (q_I r18.2 12 7 a0)
                    have f918 : (q_I r18.2 12 7 a0).toInt = (q_I δ 12 7 a0).toInt := congrArg Int32.toInt (u24 12 7 a0 (by decide))
                    have f919 := cb_12_26 i901 k_a0
                    have f920 : (q_I r899 12 26 a0).toInt = (q_I r481.2 12 26 a0).toInt := congrArg Int32.toInt (u903 12 26 a0 (by decide))
                    have f921 := cb_12_26 i483 k_a0
                    have f922 : (q_I r481.2 12 26 a0).toInt = (q_I r18.2 12 26 a0).toInt := congrArg Int32.toInt (u486 12 26 a0 (by decide))
                    have f923 := cb_12_26 i20 k_a0
                    have f924 : (q_I r18.2 12 26 a0).toInt = (q_I δ 12 26 a0).toInt := congrArg Int32.toInt (u24 12 26 a0 (by decide))
                    exact ok_some (show RI ad h.1 δ0 r899 ∧ (kp [(12, 4), (12, 5), (12, 6), (12, 7), (12, 26)] δ r899 ∧ q_V r899 = q_V δ ∧ kr ad [116, 117] δ r899) ∧ (q_I δ 12 4 a0).toInt ≤ (q_I r899 12 4 a0).toInt ∧ ((q_I δ 12 5 a0).toInt ≠ -1 → (q_I r899 12 5 a0).toInt ≠ -1) ∧ (q_I r899 12 7 a0).toInt = (q_I δ 12 7 a0).toInt ∧ (q_I δ 12 26 a0).toInt ≤ (q_I r899 12 26 a0).toInt ∧ (q_I r899 12 26 a0).toInt - (q_I δ 12 26 a0).toInt ≤ (q_I r899 12 4 a0).toInt - (q_I δ 12 4 a0).toInt from ⟨i901, ⟨kp_w (by decide) u907, v908, kr_w (by decide) v909⟩, by first | assumption | omega, by first | assumption | omega, by first | assumption | omega, by first | assumption | omega, by first | assumption | omega⟩)
                  · have c925 : (5 : Int) ≠ (-1 : Int) := o_ne h897
                    refine ok_bind (k_X12_pass L hN (a0 := a0) k_a0 i483) (fun r926 hr927 => ?_)
                    obtain ⟨i928, ⟨u931, u932, u933, u934⟩, p929, p930⟩ := hr927
                    have u935 := kp_t u490 u931
                    have v936 : q_V r926 = q_V δ := (u932).trans v491
                    have v937 := kr_t v492 u934
                    have f938 := cb_12_4 i928 k_a0
                    have f939 := cb_12_3 i483 k_a0
                    have f940 : (q_I r481.2 12 3 a0).toInt = (q_I r18.2 12 3 a0).toInt := congrArg Int32.toInt (u486 12 3 a0 (by decide))
                    have f943 := cb_12_24 i928 k_a0
                    have f944 : (q_I r926 12 24 a0).toInt = (q_I r481.2 12 24 a0).toInt := congrArg Int32.toInt (u931 12 24 a0 (by decide))
                    have f945 := cb_12_24 i483 k_a0
                    have f946 : (q_I r481.2 12 24 a0).toInt = (q_I r18.2 12 24 a0).toInt := congrArg Int32.toInt (u486 12 24 a0 (by decide))
                    have f947 := cb_12_24 i20 k_a0
                    have f948 : (q_I r18.2 12 24 a0).toInt = (q_I δ 12 24 a0).toInt := congrArg Int32.toInt (u24 12 24 a0 (by decide))
                    have f949 := ti_b (q_I r926 12 5 a0)
                    have f950 : (q_I r926 12 5 a0).toInt = (q_I r481.2 12 5 a0).toInt := congrArg Int32.toInt (u931 12 5 a0 (by decide))
                    have f951 := ti_b (q_I r481.2 12 5 a0)
                    have f952 : (q_I r481.2 12 5 a0).toInt = (q_I r18.2 12 5 a0).toInt := congrArg Int32.toInt (u486 12 5 a0 (by decide))
                    have f953 := ti_b (q_I r18.2 12 5 a0)
                    have f954 : (q_I r18.2 12 5 a0).toInt = (q_I δ 12 5 a0).toInt := congrArg Int32.toInt (u24 12 5 a0 (by decide))
                    have f955 := cb_12_26 i928 k_a0
                    have f956 : (q_I r926 12 26 a0).toInt = (q_I r481.2 12 26 a0).toInt := congrArg Int32.toInt (u931 12 26 a0 (by decide))
                    have f957 := cb_12_26 i483 k_a0
                    have f958 : (q_I r481.2 12 26 a0).toInt = (q_I r18.2 12 26 a0).toInt := congrArg Int32.toInt (u486 12 26 a0 (by decide))
                    have f959 := cb_12_26 i20 k_a0
                    have f960 : (q_I r18.2 12 26 a0).toInt = (q_I δ 12 26 a0).toInt := congrArg Int32.toInt (u24 12 26 a0 (by decide))
                    refine ok_bind (k_X12_emit L hN (a0 := a0) (x1 := (5 : Int32)) (x2 := (0 : Int32)) k_a0 (show (q_I r926 12 24 a0).toInt ≤ 3 by first | assumption | omega) (show (q_I r926 12 5 a0).toInt = -1 → (q_I r926 12 26 a0).toInt < 500 by first | assumption | omega) i928) (fun r941 hr942 => ?_)
                    obtain ⟨i961, ⟨u965, u966, u967⟩, p962, p963, p964⟩ := hr942
                    have u968 := kp_t u935 u965
                    have v969 : q_V r941 = q_V δ := (u966).trans v936
                    have v970 := kr_t v937 u967
                    have f971 := cb_12_26 i961 k_a0
                    have f972 := cb_12_4 i961 k_a0
                    have f973 : (q_I r941 12 4 a0).toInt = (q_I r926 12 4 a0).toInt := congrArg Int32.toInt (u965 12 4 a0 (by decide))
                    have f974 := ti_b (q_I r941 12 5 a0)
                    have f975 : (q_I r941 12 5 a0).toInt = (q_I r926 12 5 a0).toInt := congrArg Int32.toInt (u965 12 5 a0 (by decide))
                    have f976 := ti_b (q_I r941 12 7 a0)
                    have f977 : (q_I r941 12 7 a0).toInt = (q_I r926 12 7 a0).toInt := congrArg Int32.toInt (u965 12 7 a0 (by decide))
                    have f978 := ti_b (q_I r926 12 7 a0)
                    have f979 : (q_I r926 12 7 a0).toInt = (q_I r481.2 12 7 a0).toInt := congrArg Int32.toInt (u931 12 7 a0 (by decide))
                    have f980 := ti_b (q_I r481.2 12 7 a0)
                    have f981 : (q_I r481.2 12 7 a0).toInt = (q_I r18.2 12 7 a0).toInt := congrArg Int32.toInt (u486 12 7 a0 (by decide))
                    have f982 := ti_b (q_I r18.2 12 7 a0)
                    have f983 : (q_I r18.2 12 7 a0).toInt = (q_I δ 12 7 a0).toInt := congrArg Int32.toInt (u24 12 7 a0 (by decide))
                    exact ok_some (show RI ad h.1 δ0 r941 ∧ (kp [(12, 4), (12, 5), (12, 6), (12, 7), (12, 26)] δ r941 ∧ q_V r941 = q_V δ ∧ kr ad [116, 117] δ r941) ∧ (q_I δ 12 4 a0).toInt ≤ (q_I r941 12 4 a0).toInt ∧ ((q_I δ 12 5 a0).toInt ≠ -1 → (q_I r941 12 5 a0).toInt ≠ -1) ∧ (q_I r941 12 7 a0).toInt = (q_I δ 12 7 a0).toInt ∧ (q_I δ 12 26 a0).toInt ≤ (q_I r941 12 26 a0).toInt ∧ (q_I r941 12 26 a0).toInt - (q_I δ 12 26 a0).toInt ≤ (q_I r941 12 4 a0).toInt - (q_I δ 12 4 a0).toInt from ⟨i961, ⟨kp_w (by decide) u968, v969, kr_w (by decide) v970⟩, by first | assumption | omega, by first | assumption | omega, by first | assumption | omega, by first | assumption | omega, by first | assumption | omega⟩)
                · have c984 : r481.1.toInt ≠ r889.1.toInt := o_ne h895
                  unfold J_X12_unit_176
                  refine ok_ite (fun h985 => ?_) (fun h985 => ?_)
                  · have c986 : (-1 : Int) = (-1 : Int) := o_eq h985
                    refine ok_bind (k_X12_wrong L hN (a0 := a0) (x1 := (1 : Int32)) (x2 := (q_I r481.2 12 4 a0)) k_a0 (show 0 ≤ ((q_I r481.2 12 4 a0)).toInt by first | assumption | omega) i483) (fun r987 hr988 => ?_)
                    obtain ⟨i989, ⟨u991, u992, u993, u994⟩, p990⟩ := hr988
                    have u995 := kp_t u490 u991
                    have v996 : q_V r987 = q_V δ := (u992).trans v491
                    have v997 := kr_t v492 u994
                    have f998 := ti_b (q_I r987 12 5 a0)
                    have f999 := cb_12_4 i989 k_a0
                    have f1000 : (q_I r987 12 4 a0).toInt = (q_I r481.2 12 4 a0).toInt := congrArg Int32.toInt (u991 12 4 a0 (by decide))
                    have f1001 := ti_b (q_I r987 12 7 a0)
                    have f1002 : (q_I r987 12 7 a0).toInt = (q_I r481.2 12 7 a0).toInt := congrArg Int32.toInt (u991 12 7 a0 (by decide))
                    have f1003 := ti_b (q_I r481.2 12 7 a0)
                    have f1004 : (q_I r481.2 12 7 a0).toInt = (q_I r18.2 12 7 a0).toInt := congrArg Int32.toInt (u486 12 7 a0 (by decide))
                    have f1005 := ti_b (q_I r18.2 12 7 a0)
                    have f1006 : (q_I r18.2 12 7 a0).toInt = (q_I δ 12 7 a0).toInt := congrArg Int32.toInt (u24 12 7 a0 (by decide))
                    have f1007 := cb_12_26 i989 k_a0
                    have f1008 : (q_I r987 12 26 a0).toInt = (q_I r481.2 12 26 a0).toInt := congrArg Int32.toInt (u991 12 26 a0 (by decide))
                    have f1009 := cb_12_26 i483 k_a0
                    have f1010 : (q_I r481.2 12 26 a0).toInt = (q_I r18.2 12 26 a0).toInt := congrArg Int32.toInt (u486 12 26 a0 (by decide))
                    have f1011 := cb_12_26 i20 k_a0
                    have f1012 : (q_I r18.2 12 26 a0).toInt = (q_I δ 12 26 a0).toInt := congrArg Int32.toInt (u24 12 26 a0 (by decide))
                    exact ok_some (show RI ad h.1 δ0 r987 ∧ (kp [(12, 4), (12, 5), (12, 6), (12, 7), (12, 26)] δ r987 ∧ q_V r987 = q_V δ ∧ kr ad [116, 117] δ r987) ∧ (q_I δ 12 4 a0).toInt ≤ (q_I r987 12 4 a0).toInt ∧ ((q_I δ 12 5 a0).toInt ≠ -1 → (q_I r987 12 5 a0).toInt ≠ -1) ∧ (q_I r987 12 7 a0).toInt = (q_I δ 12 7 a0).toInt ∧ (q_I δ 12 26 a0).toInt ≤ (q_I r987 12 26 a0).toInt ∧ (q_I r987 12 26 a0).toInt - (q_I δ 12 26 a0).toInt ≤ (q_I r987 12 4 a0).toInt - (q_I δ 12 4 a0).toInt from ⟨i989, ⟨kp_w (by decide) u995, v996, kr_w (by decide) v997⟩, by first | assumption | omega, by first | assumption | omega, by first | assumption | omega, by first | assumption | omega, by first | assumption | omega⟩)
                  · have c1013 : (-1 : Int) ≠ (-1 : Int) := o_ne h985
                    refine ok_bind (k_X12_pass L hN (a0 := a0) k_a0 i483) (fun r1014 hr1015 => ?_)
                    obtain ⟨i1016, ⟨u1019, u1020, u1021, u1022⟩, p1017, p1018⟩ := hr1015
                    have u1023 := kp_t u490 u1019
                    have v1024 : q_V r1014 = q_V δ := (u1020).trans v491
                    have v1025 := kr_t v492 u1022
                    have f1026 := cb_12_4 i1016 k_a0
                    have f1027 := cb_12_3 i483 k_a0
                    have f1028 : (q_I r481.2 12 3 a0).toInt = (q_I r18.2 12 3 a0).toInt := congrArg Int32.toInt (u486 12 3 a0 (by decide))
                    have f1031 := cb_12_24 i1016 k_a0
                    have f1032 : (q_I r1014 12 24 a0).toInt = (q_I r481.2 12 24 a0).toInt := congrArg Int32.toInt (u1019 12 24 a0 (by decide))
                    have f1033 := cb_12_24 i483 k_a0
                    have f1034 : (q_I r481.2 12 24 a0).toInt = (q_I r18.2 12 24 a0).toInt := congrArg Int32.toInt (u486 12 24 a0 (by decide))
                    have f1035 := cb_12_24 i20 k_a0
                    have f1036 : (q_I r18.2 12 24 a0).toInt = (q_I δ 12 24 a0).toInt := congrArg Int32.toInt (u24 12 24 a0 (by decide))
                    have f1037 := ti_b (q_I r1014 12 5 a0)
                    have f1038 : (q_I r1014 12 5 a0).toInt = (q_I r481.2 12 5 a0).toInt := congrArg Int32.toInt (u1019 12 5 a0 (by decide))
                    have f1039 := ti_b (q_I r481.2 12 5 a0)
                    have f1040 : (q_I r481.2 12 5 a0).toInt = (q_I r18.2 12 5 a0).toInt := congrArg Int32.toInt (u486 12 5 a0 (by decide))
                    have f1041 := ti_b (q_I r18.2 12 5 a0)
                    have f1042 : (q_I r18.2 12 5 a0).toInt = (q_I δ 12 5 a0).toInt := congrArg Int32.toInt (u24 12 5 a0 (by decide))
                    have f1043 := cb_12_26 i1016 k_a0
                    have f1044 : (q_I r1014 12 26 a0).toInt = (q_I r481.2 12 26 a0).toInt := congrArg Int32.toInt (u1019 12 26 a0 (by decide))
                    have f1045 := cb_12_26 i483 k_a0
                    have f1046 : (q_I r481.2 12 26 a0).toInt = (q_I r18.2 12 26 a0).toInt := congrArg Int32.toInt (u486 12 26 a0 (by decide))
                    have f1047 := cb_12_26 i20 k_a0
                    have f1048 : (q_I r18.2 12 26 a0).toInt = (q_I δ 12 26 a0).toInt := congrArg Int32.toInt (u24 12 26 a0 (by decide))
                    refine ok_bind (k_X12_emit L hN (a0 := a0) (x1 := (-1 : Int32)) (x2 := (0 : Int32)) k_a0 (show (q_I r1014 12 24 a0).toInt ≤ 3 by first | assumption | omega) (show (q_I r1014 12 5 a0).toInt = -1 → (q_I r1014 12 26 a0).toInt < 500 by first | assumption | omega) i1016) (fun r1029 hr1030 => ?_)
                    obtain ⟨i1049, ⟨u1053, u1054, u1055⟩, p1050, p1051, p1052⟩ := hr1030
                    have u1056 := kp_t u1023 u1053
                    have v1057 : q_V r1029 = q_V δ := (u1054).trans v1024
                    have v1058 := kr_t v1025 u1055
                    have f1059 := cb_12_26 i1049 k_a0
                    have f1060 := cb_12_4 i1049 k_a0
                    have f1061 : (q_I r1029 12 4 a0).toInt = (q_I r1014 12 4 a0).toInt := congrArg Int32.toInt (u1053 12 4 a0 (by decide))
                    have f1062 := ti_b (q_I r1029 12 5 a0)
                    have f1063 : (q_I r1029 12 5 a0).toInt = (q_I r1014 12 5 a0).toInt := congrArg Int32.toInt (u1053 12 5 a0 (by decide))
                    have f1064 := ti_b (q_I r1029 12 7 a0)
                    have f1065 : (q_I r1029 12 7 a0).toInt = (q_I r1014 12 7 a0).toInt := congrArg Int32.toInt (u1053 12 7 a0 (by decide))
                    have f1066 := ti_b (q_I r1014 12 7 a0)
                    have f1067 : (q_I r1014 12 7 a0).toInt = (q_I r481.2 12 7 a0).toInt := congrArg Int32.toInt (u1019 12 7 a0 (by decide))
                    have f1068 := ti_b (q_I r481.2 12 7 a0)
                    have f1069 : (q_I r481.2 12 7 a0).toInt = (q_I r18.2 12 7 a0).toInt := congrArg Int32.toInt (u486 12 7 a0 (by decide))
                    have f1070 := ti_b (q_I r18.2 12 7 a0)
                    have f1071 : (q_I r18.2 12 7 a0).toInt = (q_I δ 12 7 a0).toInt := congrArg Int32.toInt (u24 12 7 a0 (by decide))
                    exact ok_some (show RI ad h.1 δ0 r1029 ∧ (kp [(12, 4), (12, 5), (12, 6), (12, 7), (12, 26)] δ r1029 ∧ q_V r1029 = q_V δ ∧ kr ad [116, 117] δ r1029) ∧ (q_I δ 12 4 a0).toInt ≤ (q_I r1029 12 4 a0).toInt ∧ ((q_I δ 12 5 a0).toInt ≠ -1 → (q_I r1029 12 5 a0).toInt ≠ -1) ∧ (q_I r1029 12 7 a0).toInt = (q_I δ 12 7 a0).toInt ∧ (q_I δ 12 26 a0).toInt ≤ (q_I r1029 12 26 a0).toInt ∧ (q_I r1029 12 26 a0).toInt - (q_I δ 12 26 a0).toInt ≤ (q_I r1029 12 4 a0).toInt - (q_I δ 12 4 a0).toInt from ⟨i1049, ⟨kp_w (by decide) u1056, v1057, kr_w (by decide) v1058⟩, by first | assumption | omega, by first | assumption | omega, by first | assumption | omega, by first | assumption | omega, by first | assumption | omega⟩)
    · have c1072 : r43.1.toInt ≠ (0 : Int) := o_ne h51
      refine ok_bind (k_X12_readNumber L hN (a0 := a0) (x1 := (0 : Int32)) (x2 := (99999 : Int32)) k_a0 i20) (fun r1073 hr1074 => ?_)
      obtain ⟨i1075, ⟨u1082, u1083, u1084, u1085⟩, p1076, p1077, p1078, p1079, p1080, p1081⟩ := hr1074
      have u1086 := kp_t u28 u1082
      have v1087 : q_V r1073.2 = q_V δ := (u1083).trans v29
      have v1088 := kr_t v30 u1085
      have f1089 := cb_12_4 i1075 k_a0
      have f1090 := ti_b (q_I r18.2 12 5 a0)
      have f1091 : (q_I r18.2 12 5 a0).toInt = (q_I δ 12 5 a0).toInt := congrArg Int32.toInt (u24 12 5 a0 (by decide))
      have f1092 := ti_b (q_I r1073.2 12 5 a0)
      have f1093 := ti_b r1073.1
      replace p1081 : ((q_I r1073.2 12 5 a0).toInt = -1 → (0 : Int) ≤ (r1073.1).toInt ∧ (r1073.1).toInt ≤ (99999 : Int)) := p1081
      have f1094 := ti_b r1073.1
      have f1097 := cb_12_24 i1075 k_a0
      have f1098 : (q_I r1073.2 12 24 a0).toInt = (q_I r18.2 12 24 a0).toInt := congrArg Int32.toInt (u1082 12 24 a0 (by decide))
      have f1099 := cb_12_24 i20 k_a0
      have f1100 : (q_I r18.2 12 24 a0).toInt = (q_I δ 12 24 a0).toInt := congrArg Int32.toInt (u24 12 24 a0 (by decide))
      have f1101 := cb_12_26 i1075 k_a0
      have f1102 : (q_I r1073.2 12 26 a0).toInt = (q_I r18.2 12 26 a0).toInt := congrArg Int32.toInt (u1082 12 26 a0 (by decide))
      have f1103 := cb_12_26 i20 k_a0
      have f1104 : (q_I r18.2 12 26 a0).toInt = (q_I δ 12 26 a0).toInt := congrArg Int32.toInt (u24 12 26 a0 (by decide))
      refine ok_bind (k_X12_emit L hN (a0 := a0) (x1 := (0 : Int32)) (x2 := r1073.1) k_a0 (show (q_I r1073.2 12 24 a0).toInt ≤ 3 by first | assumption | omega) (show (q_I r1073.2 12 5 a0).toInt = -1 → (q_I r1073.2 12 26 a0).toInt < 500 by first | assumption | omega) i1075) (fun r1095 hr1096 => ?_)
      obtain ⟨i1105, ⟨u1109, u1110, u1111⟩, p1106, p1107, p1108⟩ := hr1096
      have u1112 := kp_t u1086 u1109
      have v1113 : q_V r1095 = q_V δ := (u1110).trans v1087
      have v1114 := kr_t v1088 u1111
      have f1115 := cb_12_26 i1105 k_a0
      have f1116 := cb_12_4 i1105 k_a0
      have f1117 : (q_I r1095 12 4 a0).toInt = (q_I r1073.2 12 4 a0).toInt := congrArg Int32.toInt (u1109 12 4 a0 (by decide))
      have f1118 := ti_b (q_I r1095 12 5 a0)
      have f1119 : (q_I r1095 12 5 a0).toInt = (q_I r1073.2 12 5 a0).toInt := congrArg Int32.toInt (u1109 12 5 a0 (by decide))
      have f1120 := ti_b (q_I r1095 12 7 a0)
      have f1121 : (q_I r1095 12 7 a0).toInt = (q_I r1073.2 12 7 a0).toInt := congrArg Int32.toInt (u1109 12 7 a0 (by decide))
      have f1122 := ti_b (q_I r1073.2 12 7 a0)
      have f1123 : (q_I r1073.2 12 7 a0).toInt = (q_I r18.2 12 7 a0).toInt := congrArg Int32.toInt (u1082 12 7 a0 (by decide))
      have f1124 := ti_b (q_I r18.2 12 7 a0)
      have f1125 : (q_I r18.2 12 7 a0).toInt = (q_I δ 12 7 a0).toInt := congrArg Int32.toInt (u24 12 7 a0 (by decide))
      exact ok_some (show RI ad h.1 δ0 r1095 ∧ (kp [(12, 4), (12, 5), (12, 6), (12, 7), (12, 26)] δ r1095 ∧ q_V r1095 = q_V δ ∧ kr ad [116, 117] δ r1095) ∧ (q_I δ 12 4 a0).toInt ≤ (q_I r1095 12 4 a0).toInt ∧ ((q_I δ 12 5 a0).toInt ≠ -1 → (q_I r1095 12 5 a0).toInt ≠ -1) ∧ (q_I r1095 12 7 a0).toInt = (q_I δ 12 7 a0).toInt ∧ (q_I δ 12 26 a0).toInt ≤ (q_I r1095 12 26 a0).toInt ∧ (q_I r1095 12 26 a0).toInt - (q_I δ 12 26 a0).toInt ≤ (q_I r1095 12 4 a0).toInt - (q_I δ 12 4 a0).toInt from ⟨i1105, ⟨kp_w (by decide) u1112, v1113, kr_w (by decide) v1114⟩, by first | assumption | omega, by first | assumption | omega, by first | assumption | omega, by first | assumption | omega, by first | assumption | omega⟩)
set_option maxHeartbeats 4000000 in
theorem kl_X12_product_4 {ad : List Nat} {h : hp} (L : Lay TLx ad h) {δ0 : dp} {N : Nat} (hN : 10000000 ≤ N) {T : Nat → dp → Option (dp)} {K : Int} (hT : ∀ (a0 : Nat) (δ : dp), q_K h.1 a0 = 12 → (q_I δ 12 24 a0).toInt ≤ 3 → (q_I δ 12 26 a0).toInt ≤ (q_I δ 12 4 a0).toInt → 0 ≤ (q_I δ 12 7 a0).toInt → (q_I δ 12 7 a0).toInt ≤ 7 → ((q_I δ 12 7 a0).toInt = 7 → (q_I δ 12 5 a0).toInt ≠ -1) → 8 - (q_I δ 12 7 a0).toInt < K → RI ad h.1 δ0 δ → ok (T a0 δ) (fun r => RI ad h.1 δ0 r ∧ (kp [(12, 4), (12, 5), (12, 6), (12, 7), (12, 26)] δ r ∧ q_V r = q_V δ ∧ kr ad [116, 117] δ r) ∧ (q_I δ 12 4 a0).toInt ≤ (q_I r 12 4 a0).toInt ∧ ((q_I δ 12 5 a0).toInt ≠ -1 → (q_I r 12 5 a0).toInt ≠ -1) ∧ (q_I r 12 7 a0).toInt = (q_I δ 12 7 a0).toInt ∧ (q_I δ 12 26 a0).toInt ≤ (q_I r 12 26 a0).toInt ∧ (q_I r 12 26 a0).toInt - (q_I δ 12 26 a0).toInt ≤ (q_I r 12 4 a0).toInt - (q_I δ 12 4 a0).toInt)) {a0 : Nat} (k_a0 : q_K h.1 a0 = 12) : ∀ (n : Nat) (δ : dp), RI ad h.1 δ0 δ → (q_I δ 12 24 a0).toInt ≤ 3 → (q_I δ 12 26 a0).toInt ≤ (q_I δ 12 4 a0).toInt → 0 ≤ (q_I δ 12 7 a0).toInt → (q_I δ 12 7 a0).toInt ≤ 7 → ((q_I δ 12 7 a0).toInt = 7 → (q_I δ 12 5 a0).toInt ≠ -1) → 8 - (q_I δ 12 7 a0).toInt ≤ K → 501 - (q_I δ 12 4 a0).toInt < (n : Int) → ok (L_X12_product_4 N h.1 T a0 n δ) (fun r => RI ad h.1 δ0 r ∧ (kp [(12, 4), (12, 5), (12, 6), (12, 7), (12, 26)] δ r ∧ q_V r = q_V δ ∧ kr ad [116, 117] δ r) ∧ (q_I δ 12 4 a0).toInt ≤ (q_I r 12 4 a0).toInt ∧ ((q_I δ 12 5 a0).toInt ≠ -1 → (q_I r 12 5 a0).toInt ≠ -1) ∧ (q_I r 12 7 a0).toInt = (q_I δ 12 7 a0).toInt ∧ (q_I δ 12 26 a0).toInt ≤ (q_I r 12 26 a0).toInt ∧ (q_I r 12 26 a0).toInt - (q_I δ 12 26 a0).toInt ≤ (q_I r 12 4 a0).toInt - (q_I δ 12 4 a0).toInt) := by
  intro n
  induction n with
  | zero =>
    intro δ I j0 j1 j2 j3 j4 j5 hm
    have f1 := cb_12_24 I k_a0
    have f2 := cb_12_26 I k_a0
    have f3 := cb_12_4 I k_a0
    have f4 := ti_b (q_I δ 12 7 a0)
    have f5 := ti_b (q_I δ 12 5 a0)
    exfalso; omega
  | succ n ih =>
    intro δ I j0 j1 j2 j3 j4 j5 hm
    unfold L_X12_product_4
    have f1 := cb_12_24 I k_a0
    have f2 := cb_12_26 I k_a0
    have f3 := cb_12_4 I k_a0
    have f4 := ti_b (q_I δ 12 7 a0)
    have f5 := ti_b (q_I δ 12 5 a0)
    refine ok_bind (k_X12_fine L hN (a0 := a0) k_a0 I) (fun r6 hr7 => ?_)
    obtain ⟨i8, p9, p10, p11⟩ := hr7
    try rw [i8]
    have f12 := bo_t p9
    have f13 := ti_b r6.1
    have f14 := ti_b r6.1
    refine ok_ite (fun h15 => ?_) (fun h15 => ?_)
    · have c16 : r6.1.toInt = (0 : Int) := o_eq h15
      unfold J_X12_product_69
      exact ok_some (show RI ad h.1 δ0 δ ∧ (kp [(12, 4), (12, 5), (12, 6), (12, 7), (12, 26)] δ δ ∧ q_V δ = q_V δ ∧ kr ad [116, 117] δ δ) ∧ (q_I δ 12 4 a0).toInt ≤ (q_I δ 12 4 a0).toInt ∧ ((q_I δ 12 5 a0).toInt ≠ -1 → (q_I δ 12 5 a0).toInt ≠ -1) ∧ (q_I δ 12 7 a0).toInt = (q_I δ 12 7 a0).toInt ∧ (q_I δ 12 26 a0).toInt ≤ (q_I δ 12 26 a0).toInt ∧ (q_I δ 12 26 a0).toInt - (q_I δ 12 26 a0).toInt ≤ (q_I δ 12 4 a0).toInt - (q_I δ 12 4 a0).toInt from ⟨I, ⟨kp_w (by decide) kp_r, rfl, kr_w (by decide) kr_r⟩, by first | assumption | omega, by first | assumption | omega, by first | assumption | omega, by first | assumption | omega, by first | assumption | omega⟩)
    · have c17 : r6.1.toInt ≠ (0 : Int) := o_ne h15
      refine ok_bind (k_X12_here L hN (a0 := a0) k_a0 I) (fun r18 hr19 => ?_)
      obtain ⟨i20, ⟨u24, u25, u26, u27⟩, p21, p22, p23⟩ := hr19
      have u28 := kp_t kp_r u24
      have v29 : q_V r18.2 = q_V δ := (u25).trans rfl
      have v30 := kr_t kr_r u27
      have f31 := cb_12_4 i20 k_a0
      have f32 : hc ad r18.2 a0 = (q_R r18.2 (Ad ad 101) (q_I r18.2 12 4 a0).toNatClampNeg).toInt := rfl
      have t33 := ti_tn (q_I r18.2 12 4 a0)
      have f34 : (q_R r18.2 (Ad ad 101) (q_I r18.2 12 4 a0).toNatClampNeg).toInt = (q_R δ (Ad ad 101) (q_I r18.2 12 4 a0).toNatClampNeg).toInt := congrArg Int32.toInt (congrFun (u27 101 (by decide) (by decide) (by decide)) _)
      have f35 := ti_b (q_R δ (Ad ad 101) (q_I r18.2 12 4 a0).toNatClampNeg)
      have f36 := ti_b (q_R r18.2 (Ad ad 101) (q_I r18.2 12 4 a0).toNatClampNeg)
      have f37 := ti_b r18.1
      have f38 := cb_12_3 I k_a0
      have f39 : hc ad δ a0 = (q_R δ (Ad ad 101) (q_I δ 12 4 a0).toNatClampNeg).toInt := rfl
      have t40 := ti_tn (q_I δ 12 4 a0)
      have f41 := ti_b (q_R δ (Ad ad 101) (q_I δ 12 4 a0).toNatClampNeg)
      have f42 := ti_b r18.1
      refine ok_ite (fun h43 => ?_) (fun h43 => ?_)
      · have c44 : r18.1.toInt = (42 : Int) := o_eq h43
        unfold J_X12_product_29
        refine ok_bind (k_X12_here L hN (a0 := a0) k_a0 i20) (fun r45 hr46 => ?_)
        obtain ⟨i47, ⟨u51, u52, u53, u54⟩, p48, p49, p50⟩ := hr46
        have u55 := kp_t u28 u51
        have v56 : q_V r45.2 = q_V δ := (u52).trans v29
        have v57 := kr_t v30 u54
        have f58 := cb_12_4 i47 k_a0
        have f59 : hc ad r45.2 a0 = (q_R r45.2 (Ad ad 101) (q_I r45.2 12 4 a0).toNatClampNeg).toInt := rfl
        have t60 := ti_tn (q_I r45.2 12 4 a0)
        have f61 : (q_R r45.2 (Ad ad 101) (q_I r45.2 12 4 a0).toNatClampNeg).toInt = (q_R r18.2 (Ad ad 101) (q_I r45.2 12 4 a0).toNatClampNeg).toInt := congrArg Int32.toInt (congrFun (u54 101 (by decide) (by decide) (by decide)) _)
        have f62 : (q_R r18.2 (Ad ad 101) (q_I r45.2 12 4 a0).toNatClampNeg).toInt = (q_R δ (Ad ad 101) (q_I r45.2 12 4 a0).toNatClampNeg).toInt := congrArg Int32.toInt (congrFun (u27 101 (by decide) (by decide) (by decide)) _)
        have f63 := ti_b (q_R δ (Ad ad 101) (q_I r45.2 12 4 a0).toNatClampNeg)
        have f64 := ti_b (q_R r18.2 (Ad ad 101) (q_I r45.2 12 4 a0).toNatClampNeg)
        have f65 := ti_b (q_R r45.2 (Ad ad 101) (q_I r45.2 12 4 a0).toNatClampNeg)
        have f66 := ti_b r45.1
        have f67 := cb_12_3 i20 k_a0
        have f68 : (q_I r18.2 12 3 a0).toInt = (q_I δ 12 3 a0).toInt := congrArg Int32.toInt (u24 12 3 a0 (by decide))
        have f69 := ti_b r45.1
        first | (have q74 := te_addc (c := 1) (n := 1) rfl (q_I r45.2 12 4 a0) (by omega) (by omega); obtain ⟨f75, f76, f77⟩ := q74) | (obtain ⟨q74, f75, f76, f77⟩ := ti_addc (c := 1) (n := 1) rfl (q_I r45.2 12 4 a0))
        refine ok_bdv (fun d70 e71 => ?_)
        have i72 : RI ad h.1 δ0 d70 := by rw [e71]; exact cs_12_4 L i47 k_a0 (show 0 ≤ ((q_I r45.2 12 4 a0) + (1 : Int32)).toInt by omega) (show ((q_I r45.2 12 4 a0) + (1 : Int32)).toInt ≤ 500 by omega)
        have u78 := kp_I u55 e71
        have v79 : q_V d70 = q_V δ := ((show q_V d70 = q_V r45.2 by rw [e71]; rfl)).trans v56
        have v80 := kr_N v57 (show q_R d70 = q_R r45.2 by rw [e71]; rfl)
        have f83 := cb_12_24 i72 k_a0
        have f84 : (q_I d70 12 24 a0).toInt = (q_I r45.2 12 24 a0).toInt := congrArg Int32.toInt (by rw [e71]; exact rI_o (by decide))
        have f85 := cb_12_24 i47 k_a0
        have f86 : (q_I r45.2 12 24 a0).toInt = (q_I r18.2 12 24 a0).toInt := congrArg Int32.toInt (u51 12 24 a0 (by decide))
        have f87 := cb_12_24 i20 k_a0
        have f88 : (q_I r18.2 12 24 a0).toInt = (q_I δ 12 24 a0).toInt := congrArg Int32.toInt (u24 12 24 a0 (by decide))
        have f89 := cb_12_26 i72 k_a0
        have f90 : (q_I d70 12 26 a0).toInt = (q_I r45.2 12 26 a0).toInt := congrArg Int32.toInt (by rw [e71]; exact rI_o (by decide))
        have f91 := cb_12_26 i47 k_a0
        have f92 : (q_I r45.2 12 26 a0).toInt = (q_I r18.2 12 26 a0).toInt := congrArg Int32.toInt (u51 12 26 a0 (by decide))
        have f93 := cb_12_26 i20 k_a0
        have f94 : (q_I r18.2 12 26 a0).toInt = (q_I δ 12 26 a0).toInt := congrArg Int32.toInt (u24 12 26 a0 (by decide))
        have f95 := cb_12_4 i72 k_a0
        have f96 : (q_I d70 12 4 a0).toInt = ((q_I r45.2 12 4 a0) + (1 : Int32)).toInt := congrArg Int32.toInt (show q_I d70 12 4 a0 = ((q_I r45.2 12 4 a0) + (1 : Int32)) by rw [e71]; exact rI_s)
        have f97 := ti_b (q_I d70 12 7 a0)
        have f98 : (q_I d70 12 7 a0).toInt = (q_I r45.2 12 7 a0).toInt := congrArg Int32.toInt (by rw [e71]; exact rI_o (by decide))
        have f99 := ti_b (q_I r45.2 12 7 a0)
        have f100 : (q_I r45.2 12 7 a0).toInt = (q_I r18.2 12 7 a0).toInt := congrArg Int32.toInt (u51 12 7 a0 (by decide))
        have f101 := ti_b (q_I r18.2 12 7 a0)
        have f102 : (q_I r18.2 12 7 a0).toInt = (q_I δ 12 7 a0).toInt := congrArg Int32.toInt (u24 12 7 a0 (by decide))
        have f103 := ti_b (q_I d70 12 5 a0)
        have f104 : (q_I d70 12 5 a0).toInt = (q_I r45.2 12 5 a0).toInt := congrArg Int32.toInt (by rw [e71]; exact rI_o (by decide))
        have f105 := ti_b (q_I r45.2 12 5 a0)
        have f106 : (q_I r45.2 12 5 a0).toInt = (q_I r18.2 12 5 a0).toInt := congrArg Int32.toInt (u51 12 5 a0 (by decide))
        have f107 := ti_b (q_I r18.2 12 5 a0)
        have f108 : (q_I r18.2 12 5 a0).toInt = (q_I δ 12 5 a0).toInt := congrArg Int32.toInt (u24 12 5 a0 (by decide))
        refine ok_bind (k_bX12_unit L hN (a0 := a0) hT k_a0 (show (q_I d70 12 24 a0).toInt ≤ 3 by first | assumption | omega) (show (q_I d70 12 26 a0).toInt ≤ (q_I d70 12 4 a0).toInt by first | assumption | omega) (show 0 ≤ (q_I d70 12 7 a0).toInt by first | assumption | omega) (show (q_I d70 12 7 a0).toInt ≤ 7 by first | assumption | omega) (show (q_I d70 12 7 a0).toInt = 7 → (q_I d70 12 5 a0).toInt ≠ -1 by first | assumption | omega) (show 8 - (q_I d70 12 7 a0).toInt ≤ K by first | assumption | omega) i72) (fun r81 hr82 => ?_)
        obtain ⟨i109, ⟨u115, u116, u117⟩, p110, p111, p112, p113, p114⟩ := hr82
        have u118 := kp_t u78 u115
        have v119 : q_V r81 = q_V δ := (u116).trans v79
        have v120 := kr_t v80 u117
        have f121 := cb_12_4 i109 k_a0
        have f122 := ti_b (q_I r81 12 5 a0)
        have f123 := ti_b (q_I r81 12 7 a0)
        have f124 := cb_12_26 i109 k_a0
        refine ok_ite (fun h125 => ?_) (fun h125 => ?_)
        · have c126 : r45.1.toInt = (42 : Int) := o_eq h125
          unfold J_X12_product_62
          have f129 := cb_12_24 i109 k_a0
          have f130 : (q_I r81 12 24 a0).toInt = (q_I d70 12 24 a0).toInt := congrArg Int32.toInt (u115 12 24 a0 (by decide))
          refine ok_bind (k_X12_emit L hN (a0 := a0) (x1 := (8 : Int32)) (x2 := (0 : Int32)) k_a0 (show (q_I r81 12 24 a0).toInt ≤ 3 by first | assumption | omega) (show (q_I r81 12 5 a0).toInt = -1 → (q_I r81 12 26 a0).toInt < 500 by first | assumption | omega) i109) (fun r127 hr128 => ?_)
          obtain ⟨i131, ⟨u135, u136, u137⟩, p132, p133, p134⟩ := hr128
          have u138 := kp_t u118 u135
          have v139 : q_V r127 = q_V δ := (u136).trans v119
          have v140 := kr_t v120 u137
          have f141 := cb_12_26 i131 k_a0
          have f142 := cb_12_24 i131 k_a0
          have f143 : (q_I r127 12 24 a0).toInt = (q_I r81 12 24 a0).toInt := congrArg Int32.toInt (u135 12 24 a0 (by decide))
          have f144 := cb_12_4 i131 k_a0
          have f145 : (q_I r127 12 4 a0).toInt = (q_I r81 12 4 a0).toInt := congrArg Int32.toInt (u135 12 4 a0 (by decide))
          have f146 := ti_b (q_I r127 12 7 a0)
          have f147 : (q_I r127 12 7 a0).toInt = (q_I r81 12 7 a0).toInt := congrArg Int32.toInt (u135 12 7 a0 (by decide))
          have f148 := ti_b (q_I r127 12 5 a0)
          have f149 : (q_I r127 12 5 a0).toInt = (q_I r81 12 5 a0).toInt := congrArg Int32.toInt (u135 12 5 a0 (by decide))
          refine ok_mono (ih r127 i131 (show (q_I r127 12 24 a0).toInt ≤ 3 by first | assumption | omega) (show (q_I r127 12 26 a0).toInt ≤ (q_I r127 12 4 a0).toInt by first | assumption | omega) (show 0 ≤ (q_I r127 12 7 a0).toInt by first | assumption | omega) (show (q_I r127 12 7 a0).toInt ≤ 7 by first | assumption | omega) (show (q_I r127 12 7 a0).toInt = 7 → (q_I r127 12 5 a0).toInt ≠ -1 by first | assumption | omega) (show 8 - (q_I r127 12 7 a0).toInt ≤ K by first | assumption | omega) (show 501 - (q_I r127 12 4 a0).toInt < _ by omega)) (fun r150 hr151 => ?_)
          obtain ⟨i152, ⟨u158, u159, u160⟩, p153, p154, p155, p156, p157⟩ := hr151
          have u161 := kp_t u138 u158
          have v162 : q_V r150 = q_V δ := (u159).trans v139
          have v163 := kr_t v140 u160
          have f164 := cb_12_4 i152 k_a0
          have f165 := ti_b (q_I r150 12 5 a0)
          have f166 := ti_b (q_I r150 12 7 a0)
          have f167 := cb_12_26 i152 k_a0
          exact ⟨by assumption, ⟨kp_w (by decide) u161, v162, kr_w (by decide) v163⟩, by first | assumption | omega, by first | assumption | omega, by first | assumption | omega, by first | assumption | omega, by first | assumption | omega⟩
        · have c168 : r45.1.toInt ≠ (42 : Int) := o_ne h125
          unfold J_X12_product_62
          have f171 := cb_12_24 i109 k_a0
          have f172 : (q_I r81 12 24 a0).toInt = (q_I d70 12 24 a0).toInt := congrArg Int32.toInt (u115 12 24 a0 (by decide))
          refine ok_bind (k_X12_emit L hN (a0 := a0) (x1 := (9 : Int32)) (x2 := (0 : Int32)) k_a0 (show (q_I r81 12 24 a0).toInt ≤ 3 by first | assumption | omega) (show (q_I r81 12 5 a0).toInt = -1 → (q_I r81 12 26 a0).toInt < 500 by first | assumption | omega) i109) (fun r169 hr170 => ?_)
          obtain ⟨i173, ⟨u177, u178, u179⟩, p174, p175, p176⟩ := hr170
          have u180 := kp_t u118 u177
          have v181 : q_V r169 = q_V δ := (u178).trans v119
          have v182 := kr_t v120 u179
          have f183 := cb_12_26 i173 k_a0
          have f184 := cb_12_24 i173 k_a0
          have f185 : (q_I r169 12 24 a0).toInt = (q_I r81 12 24 a0).toInt := congrArg Int32.toInt (u177 12 24 a0 (by decide))
          have f186 := cb_12_4 i173 k_a0
          have f187 : (q_I r169 12 4 a0).toInt = (q_I r81 12 4 a0).toInt := congrArg Int32.toInt (u177 12 4 a0 (by decide))
          have f188 := ti_b (q_I r169 12 7 a0)
          have f189 : (q_I r169 12 7 a0).toInt = (q_I r81 12 7 a0).toInt := congrArg Int32.toInt (u177 12 7 a0 (by decide))
          have f190 := ti_b (q_I r169 12 5 a0)
          have f191 : (q_I r169 12 5 a0).toInt = (q_I r81 12 5 a0).toInt := congrArg Int32.toInt (u177 12 5 a0 (by decide))
          refine ok_mono (ih r169 i173 (show (q_I r169 12 24 a0).toInt ≤ 3 by first | assumption | omega) (show (q_I r169 12 26 a0).toInt ≤ (q_I r169 12 4 a0).toInt by first | assumption | omega) (show 0 ≤ (q_I r169 12 7 a0).toInt by first | assumption | omega) (show (q_I r169 12 7 a0).toInt ≤ 7 by first | assumption | omega) (show (q_I r169 12 7 a0).toInt = 7 → (q_I r169 12 5 a0).toInt ≠ -1 by first | assumption | omega) (show 8 - (q_I r169 12 7 a0).toInt ≤ K by first | assumption | omega) (show 501 - (q_I r169 12 4 a0).toInt < _ by omega)) (fun r192 hr193 => ?_)
          obtain ⟨i194, ⟨u200, u201, u202⟩, p195, p196, p197, p198, p199⟩ := hr193
          have u203 := kp_t u180 u200
          have v204 : q_V r192 = q_V δ := (u201).trans v181
          have v205 := kr_t v182 u202
          have f206 := cb_12_4 i194 k_a0
          have f207 := ti_b (q_I r192 12 5 a0)
          have f208 := ti_b (q_I r192 12 7 a0)
          have f209 := cb_12_26 i194 k_a0
          exact ⟨by assumption, ⟨kp_w (by decide) u203, v204, kr_w (by decide) v205⟩, by first | assumption | omega, by first | assumption | omega, by first | assumption | omega, by first | assumption | omega, by first | assumption | omega⟩
      · have c210 : r18.1.toInt ≠ (42 : Int) := o_ne h43
        refine ok_bind (k_X12_here L hN (a0 := a0) k_a0 i20) (fun r211 hr212 => ?_)
        obtain ⟨i213, ⟨u217, u218, u219, u220⟩, p214, p215, p216⟩ := hr212
        have u221 := kp_t u28 u217
        have v222 : q_V r211.2 = q_V δ := (u218).trans v29
        have v223 := kr_t v30 u220
        have f224 := cb_12_4 i213 k_a0
        have f225 : hc ad r211.2 a0 = (q_R r211.2 (Ad ad 101) (q_I r211.2 12 4 a0).toNatClampNeg).toInt := rfl
        have t226 := ti_tn (q_I r211.2 12 4 a0)
        have f227 : (q_R r211.2 (Ad ad 101) (q_I r211.2 12 4 a0).toNatClampNeg).toInt = (q_R r18.2 (Ad ad 101) (q_I r211.2 12 4 a0).toNatClampNeg).toInt := congrArg Int32.toInt (congrFun (u220 101 (by decide) (by decide) (by decide)) _)
        have f228 : (q_R r18.2 (Ad ad 101) (q_I r211.2 12 4 a0).toNatClampNeg).toInt = (q_R δ (Ad ad 101) (q_I r211.2 12 4 a0).toNatClampNeg).toInt := congrArg Int32.toInt (congrFun (u27 101 (by decide) (by decide) (by decide)) _)
        have f229 := ti_b (q_R δ (Ad ad 101) (q_I r211.2 12 4 a0).toNatClampNeg)
        have f230 := ti_b (q_R r18.2 (Ad ad 101) (q_I r211.2 12 4 a0).toNatClampNeg)
        have f231 := ti_b (q_R r211.2 (Ad ad 101) (q_I r211.2 12 4 a0).toNatClampNeg)
        have f232 := ti_b r211.1
        have f233 := cb_12_3 i20 k_a0
        have f234 : (q_I r18.2 12 3 a0).toInt = (q_I δ 12 3 a0).toInt := congrArg Int32.toInt (u24 12 3 a0 (by decide))
        have f235 := ti_b r211.1
        refine ok_ite (fun h236 => ?_) (fun h236 => ?_)
        · have c237 : r211.1.toInt = (37 : Int) := o_eq h236
          unfold J_X12_product_29
          refine ok_bind (k_X12_here L hN (a0 := a0) k_a0 i213) (fun r238 hr239 => ?_)
          obtain ⟨i240, ⟨u244, u245, u246, u247⟩, p241, p242, p243⟩ := hr239
          have u248 := kp_t u221 u244
          have v249 : q_V r238.2 = q_V δ := (u245).trans v222
          have v250 := kr_t v223 u247
          have f251 := cb_12_4 i240 k_a0
          have f252 : hc ad r238.2 a0 = (q_R r238.2 (Ad ad 101) (q_I r238.2 12 4 a0).toNatClampNeg).toInt := rfl
          have t253 := ti_tn (q_I r238.2 12 4 a0)
          have f254 : (q_R r238.2 (Ad ad 101) (q_I r238.2 12 4 a0).toNatClampNeg).toInt = (q_R r211.2 (Ad ad 101) (q_I r238.2 12 4 a0).toNatClampNeg).toInt := congrArg Int32.toInt (congrFun (u247 101 (by decide) (by decide) (by decide)) _)
          have f255 : (q_R r211.2 (Ad ad 101) (q_I r238.2 12 4 a0).toNatClampNeg).toInt = (q_R r18.2 (Ad ad 101) (q_I r238.2 12 4 a0).toNatClampNeg).toInt := congrArg Int32.toInt (congrFun (u220 101 (by decide) (by decide) (by decide)) _)
          have f256 : (q_R r18.2 (Ad ad 101) (q_I r238.2 12 4 a0).toNatClampNeg).toInt = (q_R δ (Ad ad 101) (q_I r238.2 12 4 a0).toNatClampNeg).toInt := congrArg Int32.toInt (congrFun (u27 101 (by decide) (by decide) (by decide)) _)
          have f257 := ti_b (q_R δ (Ad ad 101) (q_I r238.2 12 4 a0).toNatClampNeg)
          have f258 := ti_b (q_R r18.2 (Ad ad 101) (q_I r238.2 12 4 a0).toNatClampNeg)
          have f259 := ti_b (q_R r211.2 (Ad ad 101) (q_I r238.2 12 4 a0).toNatClampNeg)
          have f260 := ti_b (q_R r238.2 (Ad ad 101) (q_I r238.2 12 4 a0).toNatClampNeg)
          have f261 := ti_b r238.1
          have f262 := cb_12_3 i213 k_a0
          have f263 : (q_I r211.2 12 3 a0).toInt = (q_I r18.2 12 3 a0).toInt := congrArg Int32.toInt (u217 12 3 a0 (by decide))
          have f264 := ti_b r238.1
          first | (have q269 := te_addc (c := 1) (n := 1) rfl (q_I r238.2 12 4 a0) (by omega) (by omega); obtain ⟨f270, f271, f272⟩ := q269) | (obtain ⟨q269, f270, f271, f272⟩ := ti_addc (c := 1) (n := 1) rfl (q_I r238.2 12 4 a0))
          refine ok_bdv (fun d265 e266 => ?_)
          have i267 : RI ad h.1 δ0 d265 := by rw [e266]; exact cs_12_4 L i240 k_a0 (show 0 ≤ ((q_I r238.2 12 4 a0) + (1 : Int32)).toInt by omega) (show ((q_I r238.2 12 4 a0) + (1 : Int32)).toInt ≤ 500 by omega)
          have u273 := kp_I u248 e266
          have v274 : q_V d265 = q_V δ := ((show q_V d265 = q_V r238.2 by rw [e266]; rfl)).trans v249
          have v275 := kr_N v250 (show q_R d265 = q_R r238.2 by rw [e266]; rfl)
          have f278 := cb_12_24 i267 k_a0
          have f279 : (q_I d265 12 24 a0).toInt = (q_I r238.2 12 24 a0).toInt := congrArg Int32.toInt (by rw [e266]; exact rI_o (by decide))
          have f280 := cb_12_24 i240 k_a0
          have f281 : (q_I r238.2 12 24 a0).toInt = (q_I r211.2 12 24 a0).toInt := congrArg Int32.toInt (u244 12 24 a0 (by decide))
          have f282 := cb_12_24 i213 k_a0
          have f283 : (q_I r211.2 12 24 a0).toInt = (q_I r18.2 12 24 a0).toInt := congrArg Int32.toInt (u217 12 24 a0 (by decide))
          have f284 := cb_12_24 i20 k_a0
          have f285 : (q_I r18.2 12 24 a0).toInt = (q_I δ 12 24 a0).toInt := congrArg Int32.toInt (u24 12 24 a0 (by decide))
          have f286 := cb_12_26 i267 k_a0
          have f287 : (q_I d265 12 26 a0).toInt = (q_I r238.2 12 26 a0).toInt := congrArg Int32.toInt (by rw [e266]; exact rI_o (by decide))
          have f288 := cb_12_26 i240 k_a0
          have f289 : (q_I r238.2 12 26 a0).toInt = (q_I r211.2 12 26 a0).toInt := congrArg Int32.toInt (u244 12 26 a0 (by decide))
          have f290 := cb_12_26 i213 k_a0
          have f291 : (q_I r211.2 12 26 a0).toInt = (q_I r18.2 12 26 a0).toInt := congrArg Int32.toInt (u217 12 26 a0 (by decide))
          have f292 := cb_12_26 i20 k_a0
          have f293 : (q_I r18.2 12 26 a0).toInt = (q_I δ 12 26 a0).toInt := congrArg Int32.toInt (u24 12 26 a0 (by decide))
          have f294 := cb_12_4 i267 k_a0
          have f295 : (q_I d265 12 4 a0).toInt = ((q_I r238.2 12 4 a0) + (1 : Int32)).toInt := congrArg Int32.toInt (show q_I d265 12 4 a0 = ((q_I r238.2 12 4 a0) + (1 : Int32)) by rw [e266]; exact rI_s)
          have f296 := ti_b (q_I d265 12 7 a0)
          have f297 : (q_I d265 12 7 a0).toInt = (q_I r238.2 12 7 a0).toInt := congrArg Int32.toInt (by rw [e266]; exact rI_o (by decide))
          have f298 := ti_b (q_I r238.2 12 7 a0)
          have f299 : (q_I r238.2 12 7 a0).toInt = (q_I r211.2 12 7 a0).toInt := congrArg Int32.toInt (u244 12 7 a0 (by decide))
          have f300 := ti_b (q_I r211.2 12 7 a0)
          have f301 : (q_I r211.2 12 7 a0).toInt = (q_I r18.2 12 7 a0).toInt := congrArg Int32.toInt (u217 12 7 a0 (by decide))
          have f302 := ti_b (q_I r18.2 12 7 a0)
          have f303 : (q_I r18.2 12 7 a0).toInt = (q_I δ 12 7 a0).toInt := congrArg Int32.toInt (u24 12 7 a0 (by decide))
          have f304 := ti_b (q_I d265 12 5 a0)
          have f305 : (q_I d265 12 5 a0).toInt = (q_I r238.2 12 5 a0).toInt := congrArg Int32.toInt (by rw [e266]; exact rI_o (by decide))
          have f306 := ti_b (q_I r238.2 12 5 a0)
          have f307 : (q_I r238.2 12 5 a0).toInt = (q_I r211.2 12 5 a0).toInt := congrArg Int32.toInt (u244 12 5 a0 (by decide))
          have f308 := ti_b (q_I r211.2 12 5 a0)
          have f309 : (q_I r211.2 12 5 a0).toInt = (q_I r18.2 12 5 a0).toInt := congrArg Int32.toInt (u217 12 5 a0 (by decide))
          have f310 := ti_b (q_I r18.2 12 5 a0)
          have f311 : (q_I r18.2 12 5 a0).toInt = (q_I δ 12 5 a0).toInt := congrArg Int32.toInt (u24 12 5 a0 (by decide))
          refine ok_bind (k_bX12_unit L hN (a0 := a0) hT k_a0 (show (q_I d265 12 24 a0).toInt ≤ 3 by first | assumption | omega) (show (q_I d265 12 26 a0).toInt ≤ (q_I d265 12 4 a0).toInt by first | assumption | omega) (show 0 ≤ (q_I d265 12 7 a0).toInt by first | assumption | omega) (show (q_I d265 12 7 a0).toInt ≤ 7 by first | assumption | omega) (show (q_I d265 12 7 a0).toInt = 7 → (q_I d265 12 5 a0).toInt ≠ -1 by first | assumption | omega) (show 8 - (q_I d265 12 7 a0).toInt ≤ K by first | assumption | omega) i267) (fun r276 hr277 => ?_)
          obtain ⟨i312, ⟨u318, u319, u320⟩, p313, p314, p315, p316, p317⟩ := hr277
          have u321 := kp_t u273 u318
          have v322 : q_V r276 = q_V δ := (u319).trans v274
          have v323 := kr_t v275 u320
          have f324 := cb_12_4 i312 k_a0
          have f325 := ti_b (q_I r276 12 5 a0)
          have f326 := ti_b (q_I r276 12 7 a0)
          have f327 := cb_12_26 i312 k_a0
          refine ok_ite (fun h328 => ?_) (fun h328 => ?_)
          · have c329 : r238.1.toInt = (42 : Int) := o_eq h328
            unfold J_X12_product_62
            have f332 := cb_12_24 i312 k_a0
            have f333 : (q_I r276 12 24 a0).toInt = (q_I d265 12 24 a0).toInt := congrArg Int32.toInt (u318 12 24 a0 (by decide))
            refine ok_bind (k_X12_emit L hN (a0 := a0) (x1 := (8 : Int32)) (x2 := (0 : Int32)) k_a0 (show (q_I r276 12 24 a0).toInt ≤ 3 by first | assumption | omega) (show (q_I r276 12 5 a0).toInt = -1 → (q_I r276 12 26 a0).toInt < 500 by first | assumption | omega) i312) (fun r330 hr331 => ?_)
            obtain ⟨i334, ⟨u338, u339, u340⟩, p335, p336, p337⟩ := hr331
            have u341 := kp_t u321 u338
            have v342 : q_V r330 = q_V δ := (u339).trans v322
            have v343 := kr_t v323 u340
            have f344 := cb_12_26 i334 k_a0
            have f345 := cb_12_24 i334 k_a0
            have f346 : (q_I r330 12 24 a0).toInt = (q_I r276 12 24 a0).toInt := congrArg Int32.toInt (u338 12 24 a0 (by decide))
            have f347 := cb_12_4 i334 k_a0
            have f348 : (q_I r330 12 4 a0).toInt = (q_I r276 12 4 a0).toInt := congrArg Int32.toInt (u338 12 4 a0 (by decide))
            have f349 := ti_b (q_I r330 12 7 a0)
            have f350 : (q_I r330 12 7 a0).toInt = (q_I r276 12 7 a0).toInt := congrArg Int32.toInt (u338 12 7 a0 (by decide))
            have f351 := ti_b (q_I r330 12 5 a0)
            have f352 : (q_I r330 12 5 a0).toInt = (q_I r276 12 5 a0).toInt := congrArg Int32.toInt (u338 12 5 a0 (by decide))
            refine ok_mono (ih r330 i334 (show (q_I r330 12 24 a0).toInt ≤ 3 by first | assumption | omega) (show (q_I r330 12 26 a0).toInt ≤ (q_I r330 12 4 a0).toInt by first | assumption | omega) (show 0 ≤ (q_I r330 12 7 a0).toInt by first | assumption | omega) (show (q_I r330 12 7 a0).toInt ≤ 7 by first | assumption | omega) (show (q_I r330 12 7 a0).toInt = 7 → (q_I r330 12 5 a0).toInt ≠ -1 by first | assumption | omega) (show 8 - (q_I r330 12 7 a0).toInt ≤ K by first | assumption | omega) (show 501 - (q_I r330 12 4 a0).toInt < _ by omega)) (fun r353 hr354 => ?_)
            obtain ⟨i355, ⟨u361, u362, u363⟩, p356, p357, p358, p359, p360⟩ := hr354
            have u364 := kp_t u341 u361
            have v365 : q_V r353 = q_V δ := (u362).trans v342
            have v366 := kr_t v343 u363
            have f367 := cb_12_4 i355 k_a0
            have f368 := ti_b (q_I r353 12 5 a0)
            have f369 := ti_b (q_I r353 12 7 a0)
            have f370 := cb_12_26 i355 k_a0
            exact ⟨by assumption, ⟨kp_w (by decide) u364, v365, kr_w (by decide) v366⟩, by first | assumption | omega, by first | assumption | omega, by first | assumption | omega, by first | assumption | omega, by first | assumption | omega⟩
          · have c371 : r238.1.toInt ≠ (42 : Int) := o_ne h328
            unfold J_X12_product_62
            have f374 := cb_12_24 i312 k_a0
            have f375 : (q_I r276 12 24 a0).toInt = (q_I d265 12 24 a0).toInt := congrArg Int32.toInt (u318 12 24 a0 (by decide))
            refine ok_bind (k_X12_emit L hN (a0 := a0) (x1 := (9 : Int32)) (x2 := (0 : Int32)) k_a0 (show (q_I r276 12 24 a0).toInt ≤ 3 by first | assumption | omega) (show (q_I r276 12 5 a0).toInt = -1 → (q_I r276 12 26 a0).toInt < 500 by first | assumption | omega) i312) (fun r372 hr373 => ?_)
            obtain ⟨i376, ⟨u380, u381, u382⟩, p377, p378, p379⟩ := hr373
            have u383 := kp_t u321 u380
            have v384 : q_V r372 = q_V δ := (u381).trans v322
            have v385 := kr_t v323 u382
            have f386 := cb_12_26 i376 k_a0
            have f387 := cb_12_24 i376 k_a0
            have f388 : (q_I r372 12 24 a0).toInt = (q_I r276 12 24 a0).toInt := congrArg Int32.toInt (u380 12 24 a0 (by decide))
            have f389 := cb_12_4 i376 k_a0
            have f390 : (q_I r372 12 4 a0).toInt = (q_I r276 12 4 a0).toInt := congrArg Int32.toInt (u380 12 4 a0 (by decide))
            have f391 := ti_b (q_I r372 12 7 a0)
            have f392 : (q_I r372 12 7 a0).toInt = (q_I r276 12 7 a0).toInt := congrArg Int32.toInt (u380 12 7 a0 (by decide))
            have f393 := ti_b (q_I r372 12 5 a0)
            have f394 : (q_I r372 12 5 a0).toInt = (q_I r276 12 5 a0).toInt := congrArg Int32.toInt (u380 12 5 a0 (by decide))
            refine ok_mono (ih r372 i376 (show (q_I r372 12 24 a0).toInt ≤ 3 by first | assumption | omega) (show (q_I r372 12 26 a0).toInt ≤ (q_I r372 12 4 a0).toInt by first | assumption | omega) (show 0 ≤ (q_I r372 12 7 a0).toInt by first | assumption | omega) (show (q_I r372 12 7 a0).toInt ≤ 7 by first | assumption | omega) (show (q_I r372 12 7 a0).toInt = 7 → (q_I r372 12 5 a0).toInt ≠ -1 by first | assumption | omega) (show 8 - (q_I r372 12 7 a0).toInt ≤ K by first | assumption | omega) (show 501 - (q_I r372 12 4 a0).toInt < _ by omega)) (fun r395 hr396 => ?_)
            obtain ⟨i397, ⟨u403, u404, u405⟩, p398, p399, p400, p401, p402⟩ := hr396
            have u406 := kp_t u383 u403
            have v407 : q_V r395 = q_V δ := (u404).trans v384
            have v408 := kr_t v385 u405
            have f409 := cb_12_4 i397 k_a0
            have f410 := ti_b (q_I r395 12 5 a0)
            have f411 := ti_b (q_I r395 12 7 a0)
            have f412 := cb_12_26 i397 k_a0
            exact ⟨by assumption, ⟨kp_w (by decide) u406, v407, kr_w (by decide) v408⟩, by first | assumption | omega, by first | assumption | omega, by first | assumption | omega, by first | assumption | omega, by first | assumption | omega⟩
        · have c413 : r211.1.toInt ≠ (37 : Int) := o_ne h236
          unfold J_X12_product_69
          have f414 := ti_b (q_I r211.2 12 5 a0)
          have f415 : (q_I r211.2 12 5 a0).toInt = (q_I r18.2 12 5 a0).toInt := congrArg Int32.toInt (u217 12 5 a0 (by decide))
          have f416 := ti_b (q_I r18.2 12 5 a0)
          have f417 : (q_I r18.2 12 5 a0).toInt = (q_I δ 12 5 a0).toInt := congrArg Int32.toInt (u24 12 5 a0 (by decide))
          have f418 := ti_b (q_I r211.2 12 7 a0)
          have f419 : (q_I r211.2 12 7 a0).toInt = (q_I r18.2 12 7 a0).toInt := congrArg Int32.toInt (u217 12 7 a0 (by decide))
          have f420 := ti_b (q_I r18.2 12 7 a0)
          have f421 : (q_I r18.2 12 7 a0).toInt = (q_I δ 12 7 a0).toInt := congrArg Int32.toInt (u24 12 7 a0 (by decide))
          have f422 := cb_12_26 i213 k_a0
          have f423 : (q_I r211.2 12 26 a0).toInt = (q_I r18.2 12 26 a0).toInt := congrArg Int32.toInt (u217 12 26 a0 (by decide))
          have f424 := cb_12_26 i20 k_a0
          have f425 : (q_I r18.2 12 26 a0).toInt = (q_I δ 12 26 a0).toInt := congrArg Int32.toInt (u24 12 26 a0 (by decide))
          exact ok_some (show RI ad h.1 δ0 r211.2 ∧ (kp [(12, 4), (12, 5), (12, 6), (12, 7), (12, 26)] δ r211.2 ∧ q_V r211.2 = q_V δ ∧ kr ad [116, 117] δ r211.2) ∧ (q_I δ 12 4 a0).toInt ≤ (q_I r211.2 12 4 a0).toInt ∧ ((q_I δ 12 5 a0).toInt ≠ -1 → (q_I r211.2 12 5 a0).toInt ≠ -1) ∧ (q_I r211.2 12 7 a0).toInt = (q_I δ 12 7 a0).toInt ∧ (q_I δ 12 26 a0).toInt ≤ (q_I r211.2 12 26 a0).toInt ∧ (q_I r211.2 12 26 a0).toInt - (q_I δ 12 26 a0).toInt ≤ (q_I r211.2 12 4 a0).toInt - (q_I δ 12 4 a0).toInt from ⟨i213, ⟨kp_w (by decide) u221, v222, kr_w (by decide) v223⟩, by first | assumption | omega, by first | assumption | omega, by first | assumption | omega, by first | assumption | omega, by first | assumption | omega⟩)
set_option maxHeartbeats 4000000 in
theorem k_bX12_product {ad : List Nat} {h : hp} (L : Lay TLx ad h) {δ0 : dp} {N : Nat} (hN : 10000000 ≤ N) {T : Nat → dp → Option (dp)} {K : Int} (hT : ∀ (a0 : Nat) (δ : dp), q_K h.1 a0 = 12 → (q_I δ 12 24 a0).toInt ≤ 3 → (q_I δ 12 26 a0).toInt ≤ (q_I δ 12 4 a0).toInt → 0 ≤ (q_I δ 12 7 a0).toInt → (q_I δ 12 7 a0).toInt ≤ 7 → ((q_I δ 12 7 a0).toInt = 7 → (q_I δ 12 5 a0).toInt ≠ -1) → 8 - (q_I δ 12 7 a0).toInt < K → RI ad h.1 δ0 δ → ok (T a0 δ) (fun r => RI ad h.1 δ0 r ∧ (kp [(12, 4), (12, 5), (12, 6), (12, 7), (12, 26)] δ r ∧ q_V r = q_V δ ∧ kr ad [116, 117] δ r) ∧ (q_I δ 12 4 a0).toInt ≤ (q_I r 12 4 a0).toInt ∧ ((q_I δ 12 5 a0).toInt ≠ -1 → (q_I r 12 5 a0).toInt ≠ -1) ∧ (q_I r 12 7 a0).toInt = (q_I δ 12 7 a0).toInt ∧ (q_I δ 12 26 a0).toInt ≤ (q_I r 12 26 a0).toInt ∧ (q_I r 12 26 a0).toInt - (q_I δ 12 26 a0).toInt ≤ (q_I r 12 4 a0).toInt - (q_I δ 12 4 a0).toInt)) {a0 : Nat} (k_a0 : q_K h.1 a0 = 12) {δ : dp} (z0 : (q_I δ 12 24 a0).toInt ≤ 3) (z1 : (q_I δ 12 26 a0).toInt ≤ (q_I δ 12 4 a0).toInt) (z2 : 0 ≤ (q_I δ 12 7 a0).toInt) (z3 : (q_I δ 12 7 a0).toInt ≤ 7) (z4 : (q_I δ 12 7 a0).toInt = 7 → (q_I δ 12 5 a0).toInt ≠ -1) (z5 : 8 - (q_I δ 12 7 a0).toInt ≤ K) (I : RI ad h.1 δ0 δ) : ok (B_X12_product N h.1 T a0 δ) (fun r => RI ad h.1 δ0 r ∧ (kp [(12, 4), (12, 5), (12, 6), (12, 7), (12, 26)] δ r ∧ q_V r = q_V δ ∧ kr ad [116, 117] δ r) ∧ (q_I δ 12 4 a0).toInt ≤ (q_I r 12 4 a0).toInt ∧ ((q_I δ 12 5 a0).toInt ≠ -1 → (q_I r 12 5 a0).toInt ≠ -1) ∧ (q_I r 12 7 a0).toInt = (q_I δ 12 7 a0).toInt ∧ (q_I δ 12 26 a0).toInt ≤ (q_I r 12 26 a0).toInt ∧ (q_I r 12 26 a0).toInt - (q_I δ 12 26 a0).toInt ≤ (q_I r 12 4 a0).toInt - (q_I δ 12 4 a0).toInt) := by
  unfold B_X12_product
  have f1 := cb_12_24 I k_a0
  have f2 := cb_12_26 I k_a0
  have f3 := cb_12_4 I k_a0
  have f4 := ti_b (q_I δ 12 7 a0)
  have f5 := ti_b (q_I δ 12 5 a0)
  refine ok_bind (k_bX12_unit L hN (a0 := a0) hT k_a0 (show (q_I δ 12 24 a0).toInt ≤ 3 by first | assumption | omega) (show (q_I δ 12 26 a0).toInt ≤ (q_I δ 12 4 a0).toInt by first | assumption | omega) (show 0 ≤ (q_I δ 12 7 a0).toInt by first | assumption | omega) (show (q_I δ 12 7 a0).toInt ≤ 7 by first | assumption | omega) (show (q_I δ 12 7 a0).toInt = 7 → (q_I δ 12 5 a0).toInt ≠ -1 by first | assumption | omega) (show 8 - (q_I δ 12 7 a0).toInt ≤ K by first | assumption | omega) I) (fun r6 hr7 => ?_)
  obtain ⟨i8, ⟨u14, u15, u16⟩, p9, p10, p11, p12, p13⟩ := hr7
  have u17 := kp_t kp_r u14
  have v18 : q_V r6 = q_V δ := (u15).trans rfl
  have v19 := kr_t kr_r u16
  have f20 := cb_12_4 i8 k_a0
  have f21 := ti_b (q_I r6 12 5 a0)
  have f22 := ti_b (q_I r6 12 7 a0)
  have f23 := cb_12_26 i8 k_a0
  have f24 := cb_12_24 i8 k_a0
  have f25 : (q_I r6 12 24 a0).toInt = (q_I δ 12 24 a0).toInt := congrArg Int32.toInt (u14 12 24 a0 (by decide))
  refine ok_mono (kl_X12_product_4 L hN   hT k_a0 _ r6 i8 (show (q_I r6 12 24 a0).toInt ≤ 3 by first | assumption | omega) (show (q_I r6 12 26 a0).toInt ≤ (q_I r6 12 4 a0).toInt by first | assumption | omega) (show 0 ≤ (q_I r6 12 7 a0).toInt by first | assumption | omega) (show (q_I r6 12 7 a0).toInt ≤ 7 by first | assumption | omega) (show (q_I r6 12 7 a0).toInt = 7 → (q_I r6 12 5 a0).toInt ≠ -1 by first | assumption | omega) (show 8 - (q_I r6 12 7 a0).toInt ≤ K by first | assumption | omega) (show 501 - (q_I r6 12 4 a0).toInt < _ by omega)) (fun r26 hr27 => ?_)
  obtain ⟨i28, ⟨u34, u35, u36⟩, p29, p30, p31, p32, p33⟩ := hr27
  have u37 := kp_t u17 u34
  have v38 : q_V r26 = q_V δ := (u35).trans v18
  have v39 := kr_t v19 u36
  have f40 := cb_12_4 i28 k_a0
  have f41 := ti_b (q_I r26 12 5 a0)
  have f42 := ti_b (q_I r26 12 7 a0)
  have f43 := cb_12_26 i28 k_a0
  exact ⟨by assumption, ⟨kp_w (by decide) u37, v38, kr_w (by decide) v39⟩, by first | assumption | omega, by first | assumption | omega, by first | assumption | omega, by first | assumption | omega, by first | assumption | omega⟩
set_option maxHeartbeats 4000000 in
theorem kl_X12_sum_4 {ad : List Nat} {h : hp} (L : Lay TLx ad h) {δ0 : dp} {N : Nat} (hN : 10000000 ≤ N) {T : Nat → dp → Option (dp)} {K : Int} (hT : ∀ (a0 : Nat) (δ : dp), q_K h.1 a0 = 12 → (q_I δ 12 24 a0).toInt ≤ 3 → (q_I δ 12 26 a0).toInt ≤ (q_I δ 12 4 a0).toInt → 0 ≤ (q_I δ 12 7 a0).toInt → (q_I δ 12 7 a0).toInt ≤ 7 → ((q_I δ 12 7 a0).toInt = 7 → (q_I δ 12 5 a0).toInt ≠ -1) → 8 - (q_I δ 12 7 a0).toInt < K → RI ad h.1 δ0 δ → ok (T a0 δ) (fun r => RI ad h.1 δ0 r ∧ (kp [(12, 4), (12, 5), (12, 6), (12, 7), (12, 26)] δ r ∧ q_V r = q_V δ ∧ kr ad [116, 117] δ r) ∧ (q_I δ 12 4 a0).toInt ≤ (q_I r 12 4 a0).toInt ∧ ((q_I δ 12 5 a0).toInt ≠ -1 → (q_I r 12 5 a0).toInt ≠ -1) ∧ (q_I r 12 7 a0).toInt = (q_I δ 12 7 a0).toInt ∧ (q_I δ 12 26 a0).toInt ≤ (q_I r 12 26 a0).toInt ∧ (q_I r 12 26 a0).toInt - (q_I δ 12 26 a0).toInt ≤ (q_I r 12 4 a0).toInt - (q_I δ 12 4 a0).toInt)) {a0 : Nat} (k_a0 : q_K h.1 a0 = 12) : ∀ (n : Nat) (δ : dp), RI ad h.1 δ0 δ → (q_I δ 12 24 a0).toInt ≤ 3 → (q_I δ 12 26 a0).toInt ≤ (q_I δ 12 4 a0).toInt → 0 ≤ (q_I δ 12 7 a0).toInt → (q_I δ 12 7 a0).toInt ≤ 7 → ((q_I δ 12 7 a0).toInt = 7 → (q_I δ 12 5 a0).toInt ≠ -1) → 8 - (q_I δ 12 7 a0).toInt ≤ K → 501 - (q_I δ 12 4 a0).toInt < (n : Int) → ok (L_X12_sum_4 N h.1 T a0 n δ) (fun r => RI ad h.1 δ0 r ∧ (kp [(12, 4), (12, 5), (12, 6), (12, 7), (12, 26)] δ r ∧ q_V r = q_V δ ∧ kr ad [116, 117] δ r) ∧ (q_I δ 12 4 a0).toInt ≤ (q_I r 12 4 a0).toInt ∧ ((q_I δ 12 5 a0).toInt ≠ -1 → (q_I r 12 5 a0).toInt ≠ -1) ∧ (q_I r 12 7 a0).toInt = (q_I δ 12 7 a0).toInt ∧ (q_I δ 12 26 a0).toInt ≤ (q_I r 12 26 a0).toInt ∧ (q_I r 12 26 a0).toInt - (q_I δ 12 26 a0).toInt ≤ (q_I r 12 4 a0).toInt - (q_I δ 12 4 a0).toInt) := by
  intro n
  induction n with
  | zero =>
    intro δ I j0 j1 j2 j3 j4 j5 hm
    have f1 := cb_12_24 I k_a0
    have f2 := cb_12_26 I k_a0
    have f3 := cb_12_4 I k_a0
    have f4 := ti_b (q_I δ 12 7 a0)
    have f5 := ti_b (q_I δ 12 5 a0)
    exfalso; omega
  | succ n ih =>
    intro δ I j0 j1 j2 j3 j4 j5 hm
    unfold L_X12_sum_4
    have f1 := cb_12_24 I k_a0
    have f2 := cb_12_26 I k_a0
    have f3 := cb_12_4 I k_a0
    have f4 := ti_b (q_I δ 12 7 a0)
    have f5 := ti_b (q_I δ 12 5 a0)
    refine ok_bind (k_X12_fine L hN (a0 := a0) k_a0 I) (fun r6 hr7 => ?_)
    obtain ⟨i8, p9, p10, p11⟩ := hr7
    try rw [i8]
    have f12 := bo_t p9
    have f13 := ti_b r6.1
    have f14 := ti_b r6.1
    refine ok_ite (fun h15 => ?_) (fun h15 => ?_)
    · have c16 : r6.1.toInt = (0 : Int) := o_eq h15
      unfold J_X12_sum_69
      exact ok_some (show RI ad h.1 δ0 δ ∧ (kp [(12, 4), (12, 5), (12, 6), (12, 7), (12, 26)] δ δ ∧ q_V δ = q_V δ ∧ kr ad [116, 117] δ δ) ∧ (q_I δ 12 4 a0).toInt ≤ (q_I δ 12 4 a0).toInt ∧ ((q_I δ 12 5 a0).toInt ≠ -1 → (q_I δ 12 5 a0).toInt ≠ -1) ∧ (q_I δ 12 7 a0).toInt = (q_I δ 12 7 a0).toInt ∧ (q_I δ 12 26 a0).toInt ≤ (q_I δ 12 26 a0).toInt ∧ (q_I δ 12 26 a0).toInt - (q_I δ 12 26 a0).toInt ≤ (q_I δ 12 4 a0).toInt - (q_I δ 12 4 a0).toInt from ⟨I, ⟨kp_w (by decide) kp_r, rfl, kr_w (by decide) kr_r⟩, by first | assumption | omega, by first | assumption | omega, by first | assumption | omega, by first | assumption | omega, by first | assumption | omega⟩)
    · have c17 : r6.1.toInt ≠ (0 : Int) := o_ne h15
      refine ok_bind (k_X12_here L hN (a0 := a0) k_a0 I) (fun r18 hr19 => ?_)
      obtain ⟨i20, ⟨u24, u25, u26, u27⟩, p21, p22, p23⟩ := hr19
      have u28 := kp_t kp_r u24
      have v29 : q_V r18.2 = q_V δ := (u25).trans rfl
      have v30 := kr_t kr_r u27
      have f31 := cb_12_4 i20 k_a0
      have f32 : hc ad r18.2 a0 = (q_R r18.2 (Ad ad 101) (q_I r18.2 12 4 a0).toNatClampNeg).toInt := rfl
      have t33 := ti_tn (q_I r18.2 12 4 a0)
      have f34 : (q_R r18.2 (Ad ad 101) (q_I r18.2 12 4 a0).toNatClampNeg).toInt = (q_R δ (Ad ad 101) (q_I r18.2 12 4 a0).toNatClampNeg).toInt := congrArg Int32.toInt (congrFun (u27 101 (by decide) (by decide) (by decide)) _)
      have f35 := ti_b (q_R δ (Ad ad 101) (q_I r18.2 12 4 a0).toNatClampNeg)
      have f36 := ti_b (q_R r18.2 (Ad ad 101) (q_I r18.2 12 4 a0).toNatClampNeg)
      have f37 := ti_b r18.1
      have f38 := cb_12_3 I k_a0
      have f39 : hc ad δ a0 = (q_R δ (Ad ad 101) (q_I δ 12 4 a0).toNatClampNeg).toInt := rfl
      have t40 := ti_tn (q_I δ 12 4 a0)
      have f41 := ti_b (q_R δ (Ad ad 101) (q_I δ 12 4 a0).toNatClampNeg)
      have f42 := ti_b r18.1
      refine ok_ite (fun h43 => ?_) (fun h43 => ?_)
      · have c44 : r18.1.toInt = (43 : Int) := o_eq h43
        unfold J_X12_sum_29
        refine ok_bind (k_X12_here L hN (a0 := a0) k_a0 i20) (fun r45 hr46 => ?_)
        obtain ⟨i47, ⟨u51, u52, u53, u54⟩, p48, p49, p50⟩ := hr46
        have u55 := kp_t u28 u51
        have v56 : q_V r45.2 = q_V δ := (u52).trans v29
        have v57 := kr_t v30 u54
        have f58 := cb_12_4 i47 k_a0
        have f59 : hc ad r45.2 a0 = (q_R r45.2 (Ad ad 101) (q_I r45.2 12 4 a0).toNatClampNeg).toInt := rfl
        have t60 := ti_tn (q_I r45.2 12 4 a0)
        have f61 : (q_R r45.2 (Ad ad 101) (q_I r45.2 12 4 a0).toNatClampNeg).toInt = (q_R r18.2 (Ad ad 101) (q_I r45.2 12 4 a0).toNatClampNeg).toInt := congrArg Int32.toInt (congrFun (u54 101 (by decide) (by decide) (by decide)) _)
        have f62 : (q_R r18.2 (Ad ad 101) (q_I r45.2 12 4 a0).toNatClampNeg).toInt = (q_R δ (Ad ad 101) (q_I r45.2 12 4 a0).toNatClampNeg).toInt := congrArg Int32.toInt (congrFun (u27 101 (by decide) (by decide) (by decide)) _)
        have f63 := ti_b (q_R δ (Ad ad 101) (q_I r45.2 12 4 a0).toNatClampNeg)
        have f64 := ti_b (q_R r18.2 (Ad ad 101) (q_I r45.2 12 4 a0).toNatClampNeg)
        have f65 := ti_b (q_R r45.2 (Ad ad 101) (q_I r45.2 12 4 a0).toNatClampNeg)
        have f66 := ti_b r45.1
        have f67 := cb_12_3 i20 k_a0
        have f68 : (q_I r18.2 12 3 a0).toInt = (q_I δ 12 3 a0).toInt := congrArg Int32.toInt (u24 12 3 a0 (by decide))
        have f69 := ti_b r45.1
        first | (have q74 := te_addc (c := 1) (n := 1) rfl (q_I r45.2 12 4 a0) (by omega) (by omega); obtain ⟨f75, f76, f77⟩ := q74) | (obtain ⟨q74, f75, f76, f77⟩ := ti_addc (c := 1) (n := 1) rfl (q_I r45.2 12 4 a0))
        refine ok_bdv (fun d70 e71 => ?_)
        have i72 : RI ad h.1 δ0 d70 := by rw [e71]; exact cs_12_4 L i47 k_a0 (show 0 ≤ ((q_I r45.2 12 4 a0) + (1 : Int32)).toInt by omega) (show ((q_I r45.2 12 4 a0) + (1 : Int32)).toInt ≤ 500 by omega)
        have u78 := kp_I u55 e71
        have v79 : q_V d70 = q_V δ := ((show q_V d70 = q_V r45.2 by rw [e71]; rfl)).trans v56
        have v80 := kr_N v57 (show q_R d70 = q_R r45.2 by rw [e71]; rfl)
        have f83 := cb_12_24 i72 k_a0
        have f84 : (q_I d70 12 24 a0).toInt = (q_I r45.2 12 24 a0).toInt := congrArg Int32.toInt (by rw [e71]; exact rI_o (by decide))
        have f85 := cb_12_24 i47 k_a0
        have f86 : (q_I r45.2 12 24 a0).toInt = (q_I r18.2 12 24 a0).toInt := congrArg Int32.toInt (u51 12 24 a0 (by decide))
        have f87 := cb_12_24 i20 k_a0
        have f88 : (q_I r18.2 12 24 a0).toInt = (q_I δ 12 24 a0).toInt := congrArg Int32.toInt (u24 12 24 a0 (by decide))
        have f89 := cb_12_26 i72 k_a0
        have f90 : (q_I d70 12 26 a0).toInt = (q_I r45.2 12 26 a0).toInt := congrArg Int32.toInt (by rw [e71]; exact rI_o (by decide))
        have f91 := cb_12_26 i47 k_a0
        have f92 : (q_I r45.2 12 26 a0).toInt = (q_I r18.2 12 26 a0).toInt := congrArg Int32.toInt (u51 12 26 a0 (by decide))
        have f93 := cb_12_26 i20 k_a0
        have f94 : (q_I r18.2 12 26 a0).toInt = (q_I δ 12 26 a0).toInt := congrArg Int32.toInt (u24 12 26 a0 (by decide))
        have f95 := cb_12_4 i72 k_a0
        have f96 : (q_I d70 12 4 a0).toInt = ((q_I r45.2 12 4 a0) + (1 : Int32)).toInt := congrArg Int32.toInt (show q_I d70 12 4 a0 = ((q_I r45.2 12 4 a0) + (1 : Int32)) by rw [e71]; exact rI_s)
        have f97 := ti_b (q_I d70 12 7 a0)
        have f98 : (q_I d70 12 7 a0).toInt = (q_I r45.2 12 7 a0).toInt := congrArg Int32.toInt (by rw [e71]; exact rI_o (by decide))
        have f99 := ti_b (q_I r45.2 12 7 a0)
        have f100 : (q_I r45.2 12 7 a0).toInt = (q_I r18.2 12 7 a0).toInt := congrArg Int32.toInt (u51 12 7 a0 (by decide))
        have f101 := ti_b (q_I r18.2 12 7 a0)
        have f102 : (q_I r18.2 12 7 a0).toInt = (q_I δ 12 7 a0).toInt := congrArg Int32.toInt (u24 12 7 a0 (by decide))
        have f103 := ti_b (q_I d70 12 5 a0)
        have f104 : (q_I d70 12 5 a0).toInt = (q_I r45.2 12 5 a0).toInt := congrArg Int32.toInt (by rw [e71]; exact rI_o (by decide))
        have f105 := ti_b (q_I r45.2 12 5 a0)
        have f106 : (q_I r45.2 12 5 a0).toInt = (q_I r18.2 12 5 a0).toInt := congrArg Int32.toInt (u51 12 5 a0 (by decide))
        have f107 := ti_b (q_I r18.2 12 5 a0)
        have f108 : (q_I r18.2 12 5 a0).toInt = (q_I δ 12 5 a0).toInt := congrArg Int32.toInt (u24 12 5 a0 (by decide))
        refine ok_bind (k_bX12_product L hN (a0 := a0) hT k_a0 (show (q_I d70 12 24 a0).toInt ≤ 3 by first | assumption | omega) (show (q_I d70 12 26 a0).toInt ≤ (q_I d70 12 4 a0).toInt by first | assumption | omega) (show 0 ≤ (q_I d70 12 7 a0).toInt by first | assumption | omega) (show (q_I d70 12 7 a0).toInt ≤ 7 by first | assumption | omega) (show (q_I d70 12 7 a0).toInt = 7 → (q_I d70 12 5 a0).toInt ≠ -1 by first | assumption | omega) (show 8 - (q_I d70 12 7 a0).toInt ≤ K by first | assumption | omega) i72) (fun r81 hr82 => ?_)
        obtain ⟨i109, ⟨u115, u116, u117⟩, p110, p111, p112, p113, p114⟩ := hr82
        have u118 := kp_t u78 u115
        have v119 : q_V r81 = q_V δ := (u116).trans v79
        have v120 := kr_t v80 u117
        have f121 := cb_12_4 i109 k_a0
        have f122 := ti_b (q_I r81 12 5 a0)
        have f123 := ti_b (q_I r81 12 7 a0)
        have f124 := cb_12_26 i109 k_a0
        refine ok_ite (fun h125 => ?_) (fun h125 => ?_)
        · have c126 : r45.1.toInt = (43 : Int) := o_eq h125
          unfold J_X12_sum_62
          have f129 := cb_12_24 i109 k_a0
          have f130 : (q_I r81 12 24 a0).toInt = (q_I d70 12 24 a0).toInt := congrArg Int32.toInt (u115 12 24 a0 (by decide))
          refine ok_bind (k_X12_emit L hN (a0 := a0) (x1 := (6 : Int32)) (x2 := (0 : Int32)) k_a0 (show (q_I r81 12 24 a0).toInt ≤ 3 by first | assumption | omega) (show (q_I r81 12 5 a0).toInt = -1 → (q_I r81 12 26 a0).toInt < 500 by first | assumption | omega) i109) (fun r127 hr128 => ?_)
          obtain ⟨i131, ⟨u135, u136, u137⟩, p132, p133, p134⟩ := hr128
          have u138 := kp_t u118 u135
          have v139 : q_V r127 = q_V δ := (u136).trans v119
          have v140 := kr_t v120 u137
          have f141 := cb_12_26 i131 k_a0
          have f142 := cb_12_24 i131 k_a0
          have f143 : (q_I r127 12 24 a0).toInt = (q_I r81 12 24 a0).toInt := congrArg Int32.toInt (u135 12 24 a0 (by decide))
          have f144 := cb_12_4 i131 k_a0
          have f145 : (q_I r127 12 4 a0).toInt = (q_I r81 12 4 a0).toInt := congrArg Int32.toInt (u135 12 4 a0 (by decide))
          have f146 := ti_b (q_I r127 12 7 a0)
          have f147 : (q_I r127 12 7 a0).toInt = (q_I r81 12 7 a0).toInt := congrArg Int32.toInt (u135 12 7 a0 (by decide))
          have f148 := ti_b (q_I r127 12 5 a0)
          have f149 : (q_I r127 12 5 a0).toInt = (q_I r81 12 5 a0).toInt := congrArg Int32.toInt (u135 12 5 a0 (by decide))
          refine ok_mono (ih r127 i131 (show (q_I r127 12 24 a0).toInt ≤ 3 by first | assumption | omega) (show (q_I r127 12 26 a0).toInt ≤ (q_I r127 12 4 a0).toInt by first | assumption | omega) (show 0 ≤ (q_I r127 12 7 a0).toInt by first | assumption | omega) (show (q_I r127 12 7 a0).toInt ≤ 7 by first | assumption | omega) (show (q_I r127 12 7 a0).toInt = 7 → (q_I r127 12 5 a0).toInt ≠ -1 by first | assumption | omega) (show 8 - (q_I r127 12 7 a0).toInt ≤ K by first | assumption | omega) (show 501 - (q_I r127 12 4 a0).toInt < _ by omega)) (fun r150 hr151 => ?_)
          obtain ⟨i152, ⟨u158, u159, u160⟩, p153, p154, p155, p156, p157⟩ := hr151
          have u161 := kp_t u138 u158
          have v162 : q_V r150 = q_V δ := (u159).trans v139
          have v163 := kr_t v140 u160
          have f164 := cb_12_4 i152 k_a0
          have f165 := ti_b (q_I r150 12 5 a0)
          have f166 := ti_b (q_I r150 12 7 a0)
          have f167 := cb_12_26 i152 k_a0
          exact ⟨by assumption, ⟨kp_w (by decide) u161, v162, kr_w (by decide) v163⟩, by first | assumption | omega, by first | assumption | omega, by first | assumption | omega, by first | assumption | omega, by first | assumption | omega⟩
        · have c168 : r45.1.toInt ≠ (43 : Int) := o_ne h125
          unfold J_X12_sum_62
          have f171 := cb_12_24 i109 k_a0
          have f172 : (q_I r81 12 24 a0).toInt = (q_I d70 12 24 a0).toInt := congrArg Int32.toInt (u115 12 24 a0 (by decide))
          refine ok_bind (k_X12_emit L hN (a0 := a0) (x1 := (7 : Int32)) (x2 := (0 : Int32)) k_a0 (show (q_I r81 12 24 a0).toInt ≤ 3 by first | assumption | omega) (show (q_I r81 12 5 a0).toInt = -1 → (q_I r81 12 26 a0).toInt < 500 by first | assumption | omega) i109) (fun r169 hr170 => ?_)
          obtain ⟨i173, ⟨u177, u178, u179⟩, p174, p175, p176⟩ := hr170
          have u180 := kp_t u118 u177
          have v181 : q_V r169 = q_V δ := (u178).trans v119
          have v182 := kr_t v120 u179
          have f183 := cb_12_26 i173 k_a0
          have f184 := cb_12_24 i173 k_a0
          have f185 : (q_I r169 12 24 a0).toInt = (q_I r81 12 24 a0).toInt := congrArg Int32.toInt (u177 12 24 a0 (by decide))
          have f186 := cb_12_4 i173 k_a0
          have f187 : (q_I r169 12 4 a0).toInt = (q_I r81 12 4 a0).toInt := congrArg Int32.toInt (u177 12 4 a0 (by decide))
          have f188 := ti_b (q_I r169 12 7 a0)
          have f189 : (q_I r169 12 7 a0).toInt = (q_I r81 12 7 a0).toInt := congrArg Int32.toInt (u177 12 7 a0 (by decide))
          have f190 := ti_b (q_I r169 12 5 a0)
          have f191 : (q_I r169 12 5 a0).toInt = (q_I r81 12 5 a0).toInt := congrArg Int32.toInt (u177 12 5 a0 (by decide))
          refine ok_mono (ih r169 i173 (show (q_I r169 12 24 a0).toInt ≤ 3 by first | assumption | omega) (show (q_I r169 12 26 a0).toInt ≤ (q_I r169 12 4 a0).toInt by first | assumption | omega) (show 0 ≤ (q_I r169 12 7 a0).toInt by first | assumption | omega) (show (q_I r169 12 7 a0).toInt ≤ 7 by first | assumption | omega) (show (q_I r169 12 7 a0).toInt = 7 → (q_I r169 12 5 a0).toInt ≠ -1 by first | assumption | omega) (show 8 - (q_I r169 12 7 a0).toInt ≤ K by first | assumption | omega) (show 501 - (q_I r169 12 4 a0).toInt < _ by omega)) (fun r192 hr193 => ?_)
          obtain ⟨i194, ⟨u200, u201, u202⟩, p195, p196, p197, p198, p199⟩ := hr193
          have u203 := kp_t u180 u200
          have v204 : q_V r192 = q_V δ := (u201).trans v181
          have v205 := kr_t v182 u202
          have f206 := cb_12_4 i194 k_a0
          have f207 := ti_b (q_I r192 12 5 a0)
          have f208 := ti_b (q_I r192 12 7 a0)
          have f209 := cb_12_26 i194 k_a0
          exact ⟨by assumption, ⟨kp_w (by decide) u203, v204, kr_w (by decide) v205⟩, by first | assumption | omega, by first | assumption | omega, by first | assumption | omega, by first | assumption | omega, by first | assumption | omega⟩
      · have c210 : r18.1.toInt ≠ (43 : Int) := o_ne h43
        refine ok_bind (k_X12_here L hN (a0 := a0) k_a0 i20) (fun r211 hr212 => ?_)
        obtain ⟨i213, ⟨u217, u218, u219, u220⟩, p214, p215, p216⟩ := hr212
        have u221 := kp_t u28 u217
        have v222 : q_V r211.2 = q_V δ := (u218).trans v29
        have v223 := kr_t v30 u220
        have f224 := cb_12_4 i213 k_a0
        have f225 : hc ad r211.2 a0 = (q_R r211.2 (Ad ad 101) (q_I r211.2 12 4 a0).toNatClampNeg).toInt := rfl
        have t226 := ti_tn (q_I r211.2 12 4 a0)
        have f227 : (q_R r211.2 (Ad ad 101) (q_I r211.2 12 4 a0).toNatClampNeg).toInt = (q_R r18.2 (Ad ad 101) (q_I r211.2 12 4 a0).toNatClampNeg).toInt := congrArg Int32.toInt (congrFun (u220 101 (by decide) (by decide) (by decide)) _)
        have f228 : (q_R r18.2 (Ad ad 101) (q_I r211.2 12 4 a0).toNatClampNeg).toInt = (q_R δ (Ad ad 101) (q_I r211.2 12 4 a0).toNatClampNeg).toInt := congrArg Int32.toInt (congrFun (u27 101 (by decide) (by decide) (by decide)) _)
        have f229 := ti_b (q_R δ (Ad ad 101) (q_I r211.2 12 4 a0).toNatClampNeg)
        have f230 := ti_b (q_R r18.2 (Ad ad 101) (q_I r211.2 12 4 a0).toNatClampNeg)
        have f231 := ti_b (q_R r211.2 (Ad ad 101) (q_I r211.2 12 4 a0).toNatClampNeg)
        have f232 := ti_b r211.1
        have f233 := cb_12_3 i20 k_a0
        have f234 : (q_I r18.2 12 3 a0).toInt = (q_I δ 12 3 a0).toInt := congrArg Int32.toInt (u24 12 3 a0 (by decide))
        have f235 := ti_b r211.1
        refine ok_ite (fun h236 => ?_) (fun h236 => ?_)
        · have c237 : r211.1.toInt = (45 : Int) := o_eq h236
          unfold J_X12_sum_29
          refine ok_bind (k_X12_here L hN (a0 := a0) k_a0 i213) (fun r238 hr239 => ?_)
          obtain ⟨i240, ⟨u244, u245, u246, u247⟩, p241, p242, p243⟩ := hr239
          have u248 := kp_t u221 u244
          have v249 : q_V r238.2 = q_V δ := (u245).trans v222
          have v250 := kr_t v223 u247
          have f251 := cb_12_4 i240 k_a0
          have f252 : hc ad r238.2 a0 = (q_R r238.2 (Ad ad 101) (q_I r238.2 12 4 a0).toNatClampNeg).toInt := rfl
          have t253 := ti_tn (q_I r238.2 12 4 a0)
          have f254 : (q_R r238.2 (Ad ad 101) (q_I r238.2 12 4 a0).toNatClampNeg).toInt = (q_R r211.2 (Ad ad 101) (q_I r238.2 12 4 a0).toNatClampNeg).toInt := congrArg Int32.toInt (congrFun (u247 101 (by decide) (by decide) (by decide)) _)
          have f255 : (q_R r211.2 (Ad ad 101) (q_I r238.2 12 4 a0).toNatClampNeg).toInt = (q_R r18.2 (Ad ad 101) (q_I r238.2 12 4 a0).toNatClampNeg).toInt := congrArg Int32.toInt (congrFun (u220 101 (by decide) (by decide) (by decide)) _)
          have f256 : (q_R r18.2 (Ad ad 101) (q_I r238.2 12 4 a0).toNatClampNeg).toInt = (q_R δ (Ad ad 101) (q_I r238.2 12 4 a0).toNatClampNeg).toInt := congrArg Int32.toInt (congrFun (u27 101 (by decide) (by decide) (by decide)) _)
          have f257 := ti_b (q_R δ (Ad ad 101) (q_I r238.2 12 4 a0).toNatClampNeg)
          have f258 := ti_b (q_R r18.2 (Ad ad 101) (q_I r238.2 12 4 a0).toNatClampNeg)
          have f259 := ti_b (q_R r211.2 (Ad ad 101) (q_I r238.2 12 4 a0).toNatClampNeg)
          have f260 := ti_b (q_R r238.2 (Ad ad 101) (q_I r238.2 12 4 a0).toNatClampNeg)
          have f261 := ti_b r238.1
          have f262 := cb_12_3 i213 k_a0
          have f263 : (q_I r211.2 12 3 a0).toInt = (q_I r18.2 12 3 a0).toInt := congrArg Int32.toInt (u217 12 3 a0 (by decide))
          have f264 := ti_b r238.1
          first | (have q269 := te_addc (c := 1) (n := 1) rfl (q_I r238.2 12 4 a0) (by omega) (by omega); obtain ⟨f270, f271, f272⟩ := q269) | (obtain ⟨q269, f270, f271, f272⟩ := ti_addc (c := 1) (n := 1) rfl (q_I r238.2 12 4 a0))
          refine ok_bdv (fun d265 e266 => ?_)
          have i267 : RI ad h.1 δ0 d265 := by rw [e266]; exact cs_12_4 L i240 k_a0 (show 0 ≤ ((q_I r238.2 12 4 a0) + (1 : Int32)).toInt by omega) (show ((q_I r238.2 12 4 a0) + (1 : Int32)).toInt ≤ 500 by omega)
          have u273 := kp_I u248 e266
          have v274 : q_V d265 = q_V δ := ((show q_V d265 = q_V r238.2 by rw [e266]; rfl)).trans v249
          have v275 := kr_N v250 (show q_R d265 = q_R r238.2 by rw [e266]; rfl)
          have f278 := cb_12_24 i267 k_a0
          have f279 : (q_I d265 12 24 a0).toInt = (q_I r238.2 12 24 a0).toInt := congrArg Int32.toInt (by rw [e266]; exact rI_o (by decide))
          have f280 := cb_12_24 i240 k_a0
          have f281 : (q_I r238.2 12 24 a0).toInt = (q_I r211.2 12 24 a0).toInt := congrArg Int32.toInt (u244 12 24 a0 (by decide))
          have f282 := cb_12_24 i213 k_a0
          have f283 : (q_I r211.2 12 24 a0).toInt = (q_I r18.2 12 24 a0).toInt := congrArg Int32.toInt (u217 12 24 a0 (by decide))
          have f284 := cb_12_24 i20 k_a0
          have f285 : (q_I r18.2 12 24 a0).toInt = (q_I δ 12 24 a0).toInt := congrArg Int32.toInt (u24 12 24 a0 (by decide))
          have f286 := cb_12_26 i267 k_a0
          have f287 : (q_I d265 12 26 a0).toInt = (q_I r238.2 12 26 a0).toInt := congrArg Int32.toInt (by rw [e266]; exact rI_o (by decide))
          have f288 := cb_12_26 i240 k_a0
          have f289 : (q_I r238.2 12 26 a0).toInt = (q_I r211.2 12 26 a0).toInt := congrArg Int32.toInt (u244 12 26 a0 (by decide))
          have f290 := cb_12_26 i213 k_a0
          have f291 : (q_I r211.2 12 26 a0).toInt = (q_I r18.2 12 26 a0).toInt := congrArg Int32.toInt (u217 12 26 a0 (by decide))
          have f292 := cb_12_26 i20 k_a0
          have f293 : (q_I r18.2 12 26 a0).toInt = (q_I δ 12 26 a0).toInt := congrArg Int32.toInt (u24 12 26 a0 (by decide))
          have f294 := cb_12_4 i267 k_a0
          have f295 : (q_I d265 12 4 a0).toInt = ((q_I r238.2 12 4 a0) + (1 : Int32)).toInt := congrArg Int32.toInt (show q_I d265 12 4 a0 = ((q_I r238.2 12 4 a0) + (1 : Int32)) by rw [e266]; exact rI_s)
          have f296 := ti_b (q_I d265 12 7 a0)
          have f297 : (q_I d265 12 7 a0).toInt = (q_I r238.2 12 7 a0).toInt := congrArg Int32.toInt (by rw [e266]; exact rI_o (by decide))
          have f298 := ti_b (q_I r238.2 12 7 a0)
          have f299 : (q_I r238.2 12 7 a0).toInt = (q_I r211.2 12 7 a0).toInt := congrArg Int32.toInt (u244 12 7 a0 (by decide))
          have f300 := ti_b (q_I r211.2 12 7 a0)
          have f301 : (q_I r211.2 12 7 a0).toInt = (q_I r18.2 12 7 a0).toInt := congrArg Int32.toInt (u217 12 7 a0 (by decide))
          have f302 := ti_b (q_I r18.2 12 7 a0)
          have f303 : (q_I r18.2 12 7 a0).toInt = (q_I δ 12 7 a0).toInt := congrArg Int32.toInt (u24 12 7 a0 (by decide))
          have f304 := ti_b (q_I d265 12 5 a0)
          have f305 : (q_I d265 12 5 a0).toInt = (q_I r238.2 12 5 a0).toInt := congrArg Int32.toInt (by rw [e266]; exact rI_o (by decide))
          have f306 := ti_b (q_I r238.2 12 5 a0)
          have f307 : (q_I r238.2 12 5 a0).toInt = (q_I r211.2 12 5 a0).toInt := congrArg Int32.toInt (u244 12 5 a0 (by decide))
          have f308 := ti_b (q_I r211.2 12 5 a0)
          have f309 : (q_I r211.2 12 5 a0).toInt = (q_I r18.2 12 5 a0).toInt := congrArg Int32.toInt (u217 12 5 a0 (by decide))
          have f310 := ti_b (q_I r18.2 12 5 a0)
          have f311 : (q_I r18.2 12 5 a0).toInt = (q_I δ 12 5 a0).toInt := congrArg Int32.toInt (u24 12 5 a0 (by decide))
          refine ok_bind (k_bX12_product L hN (a0 := a0) hT k_a0 (show (q_I d265 12 24 a0).toInt ≤ 3 by first | assumption | omega) (show (q_I d265 12 26 a0).toInt ≤ (q_I d265 12 4 a0).toInt by first | assumption | omega) (show 0 ≤ (q_I d265 12 7 a0).toInt by first | assumption | omega) (show (q_I d265 12 7 a0).toInt ≤ 7 by first | assumption | omega) (show (q_I d265 12 7 a0).toInt = 7 → (q_I d265 12 5 a0).toInt ≠ -1 by first | assumption | omega) (show 8 - (q_I d265 12 7 a0).toInt ≤ K by first | assumption | omega) i267) (fun r276 hr277 => ?_)
          obtain ⟨i312, ⟨u318, u319, u320⟩, p313, p314, p315, p316, p317⟩ := hr277
          have u321 := kp_t u273 u318
          have v322 : q_V r276 = q_V δ := (u319).trans v274
          have v323 := kr_t v275 u320
          have f324 := cb_12_4 i312 k_a0
          have f325 := ti_b (q_I r276 12 5 a0)
          have f326 := ti_b (q_I r276 12 7 a0)
          have f327 := cb_12_26 i312 k_a0
          refine ok_ite (fun h328 => ?_) (fun h328 => ?_)
          · have c329 : r238.1.toInt = (43 : Int) := o_eq h328
            unfold J_X12_sum_62
            have f332 := cb_12_24 i312 k_a0
            have f333 : (q_I r276 12 24 a0).toInt = (q_I d265 12 24 a0).toInt := congrArg Int32.toInt (u318 12 24 a0 (by decide))
            refine ok_bind (k_X12_emit L hN (a0 := a0) (x1 := (6 : Int32)) (x2 := (0 : Int32)) k_a0 (show (q_I r276 12 24 a0).toInt ≤ 3 by first | assumption | omega) (show (q_I r276 12 5 a0).toInt = -1 → (q_I r276 12 26 a0).toInt < 500 by first | assumption | omega) i312) (fun r330 hr331 => ?_)
            obtain ⟨i334, ⟨u338, u339, u340⟩, p335, p336, p337⟩ := hr331
            have u341 := kp_t u321 u338
            have v342 : q_V r330 = q_V δ := (u339).trans v322
            have v343 := kr_t v323 u340
            have f344 := cb_12_26 i334 k_a0
            have f345 := cb_12_24 i334 k_a0
            have f346 : (q_I r330 12 24 a0).toInt = (q_I r276 12 24 a0).toInt := congrArg Int32.toInt (u338 12 24 a0 (by decide))
            have f347 := cb_12_4 i334 k_a0
            have f348 : (q_I r330 12 4 a0).toInt = (q_I r276 12 4 a0).toInt := congrArg Int32.toInt (u338 12 4 a0 (by decide))
            have f349 := ti_b (q_I r330 12 7 a0)
            have f350 : (q_I r330 12 7 a0).toInt = (q_I r276 12 7 a0).toInt := congrArg Int32.toInt (u338 12 7 a0 (by decide))
            have f351 := ti_b (q_I r330 12 5 a0)
            have f352 : (q_I r330 12 5 a0).toInt = (q_I r276 12 5 a0).toInt := congrArg Int32.toInt (u338 12 5 a0 (by decide))
            refine ok_mono (ih r330 i334 (show (q_I r330 12 24 a0).toInt ≤ 3 by first | assumption | omega) (show (q_I r330 12 26 a0).toInt ≤ (q_I r330 12 4 a0).toInt by first | assumption | omega) (show 0 ≤ (q_I r330 12 7 a0).toInt by first | assumption | omega) (show (q_I r330 12 7 a0).toInt ≤ 7 by first | assumption | omega) (show (q_I r330 12 7 a0).toInt = 7 → (q_I r330 12 5 a0).toInt ≠ -1 by first | assumption | omega) (show 8 - (q_I r330 12 7 a0).toInt ≤ K by first | assumption | omega) (show 501 - (q_I r330 12 4 a0).toInt < _ by omega)) (fun r353 hr354 => ?_)
            obtain ⟨i355, ⟨u361, u362, u363⟩, p356, p357, p358, p359, p360⟩ := hr354
            have u364 := kp_t u341 u361
            have v365 : q_V r353 = q_V δ := (u362).trans v342
            have v366 := kr_t v343 u363
            have f367 := cb_12_4 i355 k_a0
            have f368 := ti_b (q_I r353 12 5 a0)
            have f369 := ti_b (q_I r353 12 7 a0)
            have f370 := cb_12_26 i355 k_a0
            exact ⟨by assumption, ⟨kp_w (by decide) u364, v365, kr_w (by decide) v366⟩, by first | assumption | omega, by first | assumption | omega, by first | assumption | omega, by first | assumption | omega, by first | assumption | omega⟩
          · have c371 : r238.1.toInt ≠ (43 : Int) := o_ne h328
            unfold J_X12_sum_62
            have f374 := cb_12_24 i312 k_a0
            have f375 : (q_I r276 12 24 a0).toInt = (q_I d265 12 24 a0).toInt := congrArg Int32.toInt (u318 12 24 a0 (by decide))
            refine ok_bind (k_X12_emit L hN (a0 := a0) (x1 := (7 : Int32)) (x2 := (0 : Int32)) k_a0 (show (q_I r276 12 24 a0).toInt ≤ 3 by first | assumption | omega) (show (q_I r276 12 5 a0).toInt = -1 → (q_I r276 12 26 a0).toInt < 500 by first | assumption | omega) i312) (fun r372 hr373 => ?_)
            obtain ⟨i376, ⟨u380, u381, u382⟩, p377, p378, p379⟩ := hr373
            have u383 := kp_t u321 u380
            have v384 : q_V r372 = q_V δ := (u381).trans v322
            have v385 := kr_t v323 u382
            have f386 := cb_12_26 i376 k_a0
            have f387 := cb_12_24 i376 k_a0
            have f388 : (q_I r372 12 24 a0).toInt = (q_I r276 12 24 a0).toInt := congrArg Int32.toInt (u380 12 24 a0 (by decide))
            have f389 := cb_12_4 i376 k_a0
            have f390 : (q_I r372 12 4 a0).toInt = (q_I r276 12 4 a0).toInt := congrArg Int32.toInt (u380 12 4 a0 (by decide))
            have f391 := ti_b (q_I r372 12 7 a0)
            have f392 : (q_I r372 12 7 a0).toInt = (q_I r276 12 7 a0).toInt := congrArg Int32.toInt (u380 12 7 a0 (by decide))
            have f393 := ti_b (q_I r372 12 5 a0)
            have f394 : (q_I r372 12 5 a0).toInt = (q_I r276 12 5 a0).toInt := congrArg Int32.toInt (u380 12 5 a0 (by decide))
            refine ok_mono (ih r372 i376 (show (q_I r372 12 24 a0).toInt ≤ 3 by first | assumption | omega) (show (q_I r372 12 26 a0).toInt ≤ (q_I r372 12 4 a0).toInt by first | assumption | omega) (show 0 ≤ (q_I r372 12 7 a0).toInt by first | assumption | omega) (show (q_I r372 12 7 a0).toInt ≤ 7 by first | assumption | omega) (show (q_I r372 12 7 a0).toInt = 7 → (q_I r372 12 5 a0).toInt ≠ -1 by first | assumption | omega) (show 8 - (q_I r372 12 7 a0).toInt ≤ K by first | assumption | omega) (show 501 - (q_I r372 12 4 a0).toInt < _ by omega)) (fun r395 hr396 => ?_)
            obtain ⟨i397, ⟨u403, u404, u405⟩, p398, p399, p400, p401, p402⟩ := hr396
            have u406 := kp_t u383 u403
            have v407 : q_V r395 = q_V δ := (u404).trans v384
            have v408 := kr_t v385 u405
            have f409 := cb_12_4 i397 k_a0
            have f410 := ti_b (q_I r395 12 5 a0)
            have f411 := ti_b (q_I r395 12 7 a0)
            have f412 := cb_12_26 i397 k_a0
            exact ⟨by assumption, ⟨kp_w (by decide) u406, v407, kr_w (by decide) v408⟩, by first | assumption | omega, by first | assumption | omega, by first | assumption | omega, by first | assumption | omega, by first | assumption | omega⟩
        · have c413 : r211.1.toInt ≠ (45 : Int) := o_ne h236
          unfold J_X12_sum_69
          have f414 := ti_b (q_I r211.2 12 5 a0)
          have f415 : (q_I r211.2 12 5 a0).toInt = (q_I r18.2 12 5 a0).toInt := congrArg Int32.toInt (u217 12 5 a0 (by decide))
          have f416 := ti_b (q_I r18.2 12 5 a0)
          have f417 : (q_I r18.2 12 5 a0).toInt = (q_I δ 12 5 a0).toInt := congrArg Int32.toInt (u24 12 5 a0 (by decide))
          have f418 := ti_b (q_I r211.2 12 7 a0)
          have f419 : (q_I r211.2 12 7 a0).toInt = (q_I r18.2 12 7 a0).toInt := congrArg Int32.toInt (u217 12 7 a0 (by decide))
          have f420 := ti_b (q_I r18.2 12 7 a0)
          have f421 : (q_I r18.2 12 7 a0).toInt = (q_I δ 12 7 a0).toInt := congrArg Int32.toInt (u24 12 7 a0 (by decide))
          have f422 := cb_12_26 i213 k_a0
          have f423 : (q_I r211.2 12 26 a0).toInt = (q_I r18.2 12 26 a0).toInt := congrArg Int32.toInt (u217 12 26 a0 (by decide))
          have f424 := cb_12_26 i20 k_a0
          have f425 : (q_I r18.2 12 26 a0).toInt = (q_I δ 12 26 a0).toInt := congrArg Int32.toInt (u24 12 26 a0 (by decide))
          exact ok_some (show RI ad h.1 δ0 r211.2 ∧ (kp [(12, 4), (12, 5), (12, 6), (12, 7), (12, 26)] δ r211.2 ∧ q_V r211.2 = q_V δ ∧ kr ad [116, 117] δ r211.2) ∧ (q_I δ 12 4 a0).toInt ≤ (q_I r211.2 12 4 a0).toInt ∧ ((q_I δ 12 5 a0).toInt ≠ -1 → (q_I r211.2 12 5 a0).toInt ≠ -1) ∧ (q_I r211.2 12 7 a0).toInt = (q_I δ 12 7 a0).toInt ∧ (q_I δ 12 26 a0).toInt ≤ (q_I r211.2 12 26 a0).toInt ∧ (q_I r211.2 12 26 a0).toInt - (q_I δ 12 26 a0).toInt ≤ (q_I r211.2 12 4 a0).toInt - (q_I δ 12 4 a0).toInt from ⟨i213, ⟨kp_w (by decide) u221, v222, kr_w (by decide) v223⟩, by first | assumption | omega, by first | assumption | omega, by first | assumption | omega, by first | assumption | omega, by first | assumption | omega⟩)
set_option maxHeartbeats 4000000 in
theorem ke_X12_sum {ad : List Nat} {h : hp} (L : Lay TLx ad h) {δ0 : dp} {N : Nat} (hN : 10000000 ≤ N) : ∀ (k : Nat), ∀ (a0 : Nat) (δ : dp), q_K h.1 a0 = 12 → (q_I δ 12 24 a0).toInt ≤ 3 → (q_I δ 12 26 a0).toInt ≤ (q_I δ 12 4 a0).toInt → 0 ≤ (q_I δ 12 7 a0).toInt → (q_I δ 12 7 a0).toInt ≤ 7 → ((q_I δ 12 7 a0).toInt = 7 → (q_I δ 12 5 a0).toInt ≠ -1) → 8 - (q_I δ 12 7 a0).toInt < (k : Int) → RI ad h.1 δ0 δ → ok (E_X12_sum N h.1 k a0 δ) (fun r => RI ad h.1 δ0 r ∧ (kp [(12, 4), (12, 5), (12, 6), (12, 7), (12, 26)] δ r ∧ q_V r = q_V δ ∧ kr ad [116, 117] δ r) ∧ (q_I δ 12 4 a0).toInt ≤ (q_I r 12 4 a0).toInt ∧ ((q_I δ 12 5 a0).toInt ≠ -1 → (q_I r 12 5 a0).toInt ≠ -1) ∧ (q_I r 12 7 a0).toInt = (q_I δ 12 7 a0).toInt ∧ (q_I δ 12 26 a0).toInt ≤ (q_I r 12 26 a0).toInt ∧ (q_I r 12 26 a0).toInt - (q_I δ 12 26 a0).toInt ≤ (q_I r 12 4 a0).toInt - (q_I δ 12 4 a0).toInt) := by
  intro k
  induction k with
  | zero =>
    intro a0 δ k_a0 z0 z1 z2 z3 z4 hd I
    exfalso; omega
  | succ k ih =>
    intro a0 δ k_a0 z0 z1 z2 z3 z4 hd I
    unfold E_X12_sum B_X12_sum
    have f1 := cb_12_24 I k_a0
    have f2 := cb_12_26 I k_a0
    have f3 := cb_12_4 I k_a0
    have f4 := ti_b (q_I δ 12 7 a0)
    have f5 := ti_b (q_I δ 12 5 a0)
    refine ok_bind (k_bX12_product L hN (a0 := a0) ih k_a0 (show (q_I δ 12 24 a0).toInt ≤ 3 by first | assumption | omega) (show (q_I δ 12 26 a0).toInt ≤ (q_I δ 12 4 a0).toInt by first | assumption | omega) (show 0 ≤ (q_I δ 12 7 a0).toInt by first | assumption | omega) (show (q_I δ 12 7 a0).toInt ≤ 7 by first | assumption | omega) (show (q_I δ 12 7 a0).toInt = 7 → (q_I δ 12 5 a0).toInt ≠ -1 by first | assumption | omega) (show 8 - (q_I δ 12 7 a0).toInt ≤ (k : Int) by first | assumption | omega) I) (fun r6 hr7 => ?_)
    obtain ⟨i8, ⟨u14, u15, u16⟩, p9, p10, p11, p12, p13⟩ := hr7
    have u17 := kp_t kp_r u14
    have v18 : q_V r6 = q_V δ := (u15).trans rfl
    have v19 := kr_t kr_r u16
    have f20 := cb_12_4 i8 k_a0
    have f21 := ti_b (q_I r6 12 5 a0)
    have f22 := ti_b (q_I r6 12 7 a0)
    have f23 := cb_12_26 i8 k_a0
    have f24 := cb_12_24 i8 k_a0
    have f25 : (q_I r6 12 24 a0).toInt = (q_I δ 12 24 a0).toInt := congrArg Int32.toInt (u14 12 24 a0 (by decide))
    refine ok_mono (kl_X12_sum_4 L hN   ih k_a0 _ r6 i8 (show (q_I r6 12 24 a0).toInt ≤ 3 by first | assumption | omega) (show (q_I r6 12 26 a0).toInt ≤ (q_I r6 12 4 a0).toInt by first | assumption | omega) (show 0 ≤ (q_I r6 12 7 a0).toInt by first | assumption | omega) (show (q_I r6 12 7 a0).toInt ≤ 7 by first | assumption | omega) (show (q_I r6 12 7 a0).toInt = 7 → (q_I r6 12 5 a0).toInt ≠ -1 by first | assumption | omega) (show 8 - (q_I r6 12 7 a0).toInt ≤ (k : Int) by first | assumption | omega) (show 501 - (q_I r6 12 4 a0).toInt < _ by omega)) (fun r26 hr27 => ?_)
    obtain ⟨i28, ⟨u34, u35, u36⟩, p29, p30, p31, p32, p33⟩ := hr27
    have u37 := kp_t u17 u34
    have v38 : q_V r26 = q_V δ := (u35).trans v18
    have v39 := kr_t v19 u36
    have f40 := cb_12_4 i28 k_a0
    have f41 := ti_b (q_I r26 12 5 a0)
    have f42 := ti_b (q_I r26 12 7 a0)
    have f43 := cb_12_26 i28 k_a0
    exact ⟨by assumption, ⟨kp_w (by decide) u37, v38, kr_w (by decide) v39⟩, by first | assumption | omega, by first | assumption | omega, by first | assumption | omega, by first | assumption | omega, by first | assumption | omega⟩
set_option maxHeartbeats 4000000 in
theorem k_X12_sum {ad : List Nat} {h : hp} (L : Lay TLx ad h) {δ0 : dp} {N : Nat} (hN : 10000000 ≤ N) {a0 : Nat} (k_a0 : q_K h.1 a0 = 12) {δ : dp} (z0 : (q_I δ 12 24 a0).toInt ≤ 3) (z1 : (q_I δ 12 26 a0).toInt ≤ (q_I δ 12 4 a0).toInt) (z2 : 0 ≤ (q_I δ 12 7 a0).toInt) (z3 : (q_I δ 12 7 a0).toInt ≤ 7) (z4 : (q_I δ 12 7 a0).toInt = 7 → (q_I δ 12 5 a0).toInt ≠ -1) (hd : 8 - (q_I δ 12 7 a0).toInt < 20) (I : RI ad h.1 δ0 δ) : ok (D_X12_sum N h.1 a0 δ) (fun r => RI ad h.1 δ0 r ∧ (kp [(12, 4), (12, 5), (12, 6), (12, 7), (12, 26)] δ r ∧ q_V r = q_V δ ∧ kr ad [116, 117] δ r) ∧ (q_I δ 12 4 a0).toInt ≤ (q_I r 12 4 a0).toInt ∧ ((q_I δ 12 5 a0).toInt ≠ -1 → (q_I r 12 5 a0).toInt ≠ -1) ∧ (q_I r 12 7 a0).toInt = (q_I δ 12 7 a0).toInt ∧ (q_I δ 12 26 a0).toInt ≤ (q_I r 12 26 a0).toInt ∧ (q_I r 12 26 a0).toInt - (q_I δ 12 26 a0).toInt ≤ (q_I r 12 4 a0).toInt - (q_I δ 12 4 a0).toInt) := ke_X12_sum L hN 20 a0 δ k_a0 z0 z1 z2 z3 z4 hd I
set_option maxHeartbeats 4000000 in
theorem k_X12_stepOf {ad : List Nat} {h : hp} (L : Lay TLx ad h) {δ0 : dp} {N : Nat} (hN : 10000000 ≤ N) {x0 : Int32} {δ : dp} (I : RI ad h.1 δ0 δ) : ok (D_X12_stepOf N h.1 x0 δ) (fun r => r.2 = δ ∧ -1 ≤ (r.1).toInt ∧ (r.1).toInt ≤ 5 ∧ ((r.1).toInt = -1 ∨ (x0).toInt ≠ 0)) := by
  unfold D_X12_stepOf
  refine ok_bind (k_X12_of L hN (a0 := 5) (show 5 < 16 by first | assumption | omega) I) (fun r1 hr2 => ?_)
  obtain ⟨i3, p4⟩ := hr2
  try rw [i3]
  have f5 := ti_b r1.1
  have f6 := ti_b r1.1
  have f7 := ti_b x0
  refine ok_ite (fun h8 => ?_) (fun h8 => ?_)
  · have c9 : x0.toInt = r1.1.toInt := o_eq h8
    unfold J_X12_stepOf_79
    exact ok_some (show δ = δ ∧ -1 ≤ (0 : Int) ∧ (0 : Int) ≤ 5 ∧ ((0 : Int) = -1 ∨ (x0).toInt ≠ 0) from ⟨rfl, by first | assumption | omega, by first | assumption | omega, by first | assumption | omega⟩)
  · have c10 : x0.toInt ≠ r1.1.toInt := o_ne h8
    refine ok_bind (k_X12_of L hN (a0 := 6) (show 6 < 16 by first | assumption | omega) I) (fun r11 hr12 => ?_)
    obtain ⟨i13, p14⟩ := hr12
    try rw [i13]
    have f15 := ti_b r11.1
    have f16 := ti_b r11.1
    refine ok_ite (fun h17 => ?_) (fun h17 => ?_)
    · have c18 : x0.toInt = r11.1.toInt := o_eq h17
      unfold J_X12_stepOf_79
      exact ok_some (show δ = δ ∧ -1 ≤ (1 : Int) ∧ (1 : Int) ≤ 5 ∧ ((1 : Int) = -1 ∨ (x0).toInt ≠ 0) from ⟨rfl, by first | assumption | omega, by first | assumption | omega, by first | assumption | omega⟩)
    · have c19 : x0.toInt ≠ r11.1.toInt := o_ne h17
      refine ok_bind (k_X12_of L hN (a0 := 7) (show 7 < 16 by first | assumption | omega) I) (fun r20 hr21 => ?_)
      obtain ⟨i22, p23⟩ := hr21
      try rw [i22]
      have f24 := ti_b r20.1
      have f25 := ti_b r20.1
      refine ok_ite (fun h26 => ?_) (fun h26 => ?_)
      · have c27 : x0.toInt = r20.1.toInt := o_eq h26
        unfold J_X12_stepOf_79
        exact ok_some (show δ = δ ∧ -1 ≤ (2 : Int) ∧ (2 : Int) ≤ 5 ∧ ((2 : Int) = -1 ∨ (x0).toInt ≠ 0) from ⟨rfl, by first | assumption | omega, by first | assumption | omega, by first | assumption | omega⟩)
      · have c28 : x0.toInt ≠ r20.1.toInt := o_ne h26
        refine ok_bind (k_X12_of L hN (a0 := 8) (show 8 < 16 by first | assumption | omega) I) (fun r29 hr30 => ?_)
        obtain ⟨i31, p32⟩ := hr30
        try rw [i31]
        have f33 := ti_b r29.1
        have f34 := ti_b r29.1
        refine ok_ite (fun h35 => ?_) (fun h35 => ?_)
        · have c36 : x0.toInt = r29.1.toInt := o_eq h35
          unfold J_X12_stepOf_79
          exact ok_some (show δ = δ ∧ -1 ≤ (3 : Int) ∧ (3 : Int) ≤ 5 ∧ ((3 : Int) = -1 ∨ (x0).toInt ≠ 0) from ⟨rfl, by first | assumption | omega, by first | assumption | omega, by first | assumption | omega⟩)
        · have c37 : x0.toInt ≠ r29.1.toInt := o_ne h35
          refine ok_bind (k_X12_of L hN (a0 := 9) (show 9 < 16 by first | assumption | omega) I) (fun r38 hr39 => ?_)
          obtain ⟨i40, p41⟩ := hr39
          try rw [i40]
          have f42 := ti_b r38.1
          have f43 := ti_b r38.1
          refine ok_ite (fun h44 => ?_) (fun h44 => ?_)
          · have c45 : x0.toInt = r38.1.toInt := o_eq h44
            unfold J_X12_stepOf_79
            exact ok_some (show δ = δ ∧ -1 ≤ (4 : Int) ∧ (4 : Int) ≤ 5 ∧ ((4 : Int) = -1 ∨ (x0).toInt ≠ 0) from ⟨rfl, by first | assumption | omega, by first | assumption | omega, by first | assumption | omega⟩)
          · have c46 : x0.toInt ≠ r38.1.toInt := o_ne h44
            refine ok_bind (k_X12_of L hN (a0 := 10) (show 10 < 16 by first | assumption | omega) I) (fun r47 hr48 => ?_)
            obtain ⟨i49, p50⟩ := hr48
            try rw [i49]
            have f51 := ti_b r47.1
            have f52 := ti_b r47.1
            refine ok_ite (fun h53 => ?_) (fun h53 => ?_)
            · have c54 : x0.toInt = r47.1.toInt := o_eq h53
              unfold J_X12_stepOf_79
              exact ok_some (show δ = δ ∧ -1 ≤ (5 : Int) ∧ (5 : Int) ≤ 5 ∧ ((5 : Int) = -1 ∨ (x0).toInt ≠ 0) from ⟨rfl, by first | assumption | omega, by first | assumption | omega, by first | assumption | omega⟩)
            · have c55 : x0.toInt ≠ r47.1.toInt := o_ne h53
              unfold J_X12_stepOf_79
              exact ok_some (show δ = δ ∧ -1 ≤ (-1 : Int) ∧ (-1 : Int) ≤ 5 ∧ ((-1 : Int) = -1 ∨ (x0).toInt ≠ 0) from ⟨rfl, by first | assumption | omega, by first | assumption | omega, by first | assumption | omega⟩)
set_option maxHeartbeats 4000000 in
theorem kl_X12_readSteps_0 {ad : List Nat} {h : hp} (L : Lay TLx ad h) {δ0 : dp} {N : Nat} (hN : 10000000 ≤ N) {T : Nat → dp → Option (dp)} {K : Int} (hT : ∀ (a0 : Nat) (δ : dp), q_K h.1 a0 = 12 → (q_I δ 12 24 a0).toInt ≤ 3 → (q_I δ 12 26 a0).toInt ≤ (q_I δ 12 4 a0).toInt → (q_I δ 12 7 a0).toInt = 0 → 4 - (q_I δ 12 27 a0).toInt < K → RI ad h.1 δ0 δ → ok (T a0 δ) (fun r => RI ad h.1 δ0 r ∧ (kp [(12, 4), (12, 5), (12, 6), (12, 7), (12, 25), (12, 26), (12, 27)] δ r ∧ q_V r = q_V δ ∧ kr ad [113, 114, 115, 116, 117] δ r) ∧ (q_I δ 12 4 a0).toInt ≤ (q_I r 12 4 a0).toInt ∧ ((q_I δ 12 5 a0).toInt ≠ -1 → (q_I r 12 5 a0).toInt ≠ -1) ∧ (q_I r 12 7 a0).toInt = (q_I δ 12 7 a0).toInt ∧ (q_I r 12 27 a0).toInt = (q_I δ 12 27 a0).toInt ∧ (q_I r 12 26 a0).toInt ≤ (q_I r 12 4 a0).toInt)) {a0 : Nat} (k_a0 : q_K h.1 a0 = 12) : ∀ (n : Nat) (δ : dp), RI ad h.1 δ0 δ → (q_I δ 12 24 a0).toInt ≤ 3 → (q_I δ 12 26 a0).toInt ≤ (q_I δ 12 4 a0).toInt → (q_I δ 12 7 a0).toInt = 0 → 4 - (q_I δ 12 27 a0).toInt ≤ K → 501 - (q_I δ 12 4 a0).toInt < (n : Int) → ok (L_X12_readSteps_0 N h.1 T a0 n δ) (fun r => RI ad h.1 δ0 r ∧ (kp [(12, 4), (12, 5), (12, 6), (12, 7), (12, 25), (12, 26), (12, 27)] δ r ∧ q_V r = q_V δ ∧ kr ad [113, 114, 115, 116, 117] δ r) ∧ (q_I δ 12 4 a0).toInt ≤ (q_I r 12 4 a0).toInt ∧ ((q_I δ 12 5 a0).toInt ≠ -1 → (q_I r 12 5 a0).toInt ≠ -1) ∧ (q_I r 12 7 a0).toInt = (q_I δ 12 7 a0).toInt ∧ (q_I r 12 27 a0).toInt = (q_I δ 12 27 a0).toInt ∧ (q_I r 12 26 a0).toInt ≤ (q_I r 12 4 a0).toInt) := by
  intro n
  induction n with
  | zero =>
    intro δ I j0 j1 j2 j3 hm
    have f1 := cb_12_24 I k_a0
    have f2 := cb_12_26 I k_a0
    have f3 := cb_12_4 I k_a0
    have f4 := ti_b (q_I δ 12 7 a0)
    have f5 := cb_12_27 I k_a0
    exfalso; omega
  | succ n ih =>
    intro δ I j0 j1 j2 j3 hm
    unfold L_X12_readSteps_0
    have f1 := cb_12_24 I k_a0
    have f2 := cb_12_26 I k_a0
    have f3 := cb_12_4 I k_a0
    have f4 := ti_b (q_I δ 12 7 a0)
    have f5 := cb_12_27 I k_a0
    refine ok_bind (k_X12_fine L hN (a0 := a0) k_a0 I) (fun r6 hr7 => ?_)
    obtain ⟨i8, p9, p10, p11⟩ := hr7
    try rw [i8]
    have f12 := bo_t p9
    have f13 := ti_b r6.1
    have f14 := ti_b (q_I δ 12 5 a0)
    have f15 := ti_b r6.1
    refine ok_ite (fun h16 => ?_) (fun h16 => ?_)
    · have c17 : r6.1.toInt = (0 : Int) := o_eq h16
      unfold J_X12_readSteps_239
      exact ok_some (show RI ad h.1 δ0 δ ∧ (kp [(12, 4), (12, 5), (12, 6), (12, 7), (12, 25), (12, 26), (12, 27)] δ δ ∧ q_V δ = q_V δ ∧ kr ad [113, 114, 115, 116, 117] δ δ) ∧ (q_I δ 12 4 a0).toInt ≤ (q_I δ 12 4 a0).toInt ∧ ((q_I δ 12 5 a0).toInt ≠ -1 → (q_I δ 12 5 a0).toInt ≠ -1) ∧ (q_I δ 12 7 a0).toInt = (q_I δ 12 7 a0).toInt ∧ (q_I δ 12 27 a0).toInt = (q_I δ 12 27 a0).toInt ∧ (q_I δ 12 26 a0).toInt ≤ (q_I δ 12 4 a0).toInt from ⟨I, ⟨kp_w (by decide) kp_r, rfl, kr_w (by decide) kr_r⟩, by first | assumption | omega, by first | assumption | omega, by first | assumption | omega, by first | assumption | omega, by first | assumption | omega⟩)
    · have c18 : r6.1.toInt ≠ (0 : Int) := o_ne h16
      refine ok_bind (k_X12_isMore L hN (a0 := a0) k_a0 I) (fun r19 hr20 => ?_)
      obtain ⟨i21, ⟨u25, u26, u27, u28⟩, p22, p23, p24⟩ := hr20
      have u29 := kp_t kp_r u25
      have v30 : q_V r19.2 = q_V δ := (u26).trans rfl
      have v31 := kr_t kr_r u28
      have f32 := bo_t p22
      have f33 := cb_12_4 i21 k_a0
      have f34 := ti_b r19.1
      have f35 := cb_12_3 I k_a0
      have f36 := ti_b r19.1
      refine ok_ite (fun h37 => ?_) (fun h37 => ?_)
      · have c38 : r19.1.toInt = (0 : Int) := o_eq h37
        unfold J_X12_readSteps_239
        have f39 := ti_b (q_I r19.2 12 5 a0)
        have f40 : (q_I r19.2 12 5 a0).toInt = (q_I δ 12 5 a0).toInt := congrArg Int32.toInt (u25 12 5 a0 (by decide))
        have f41 := ti_b (q_I r19.2 12 7 a0)
        have f42 : (q_I r19.2 12 7 a0).toInt = (q_I δ 12 7 a0).toInt := congrArg Int32.toInt (u25 12 7 a0 (by decide))
        have f43 := cb_12_27 i21 k_a0
        have f44 : (q_I r19.2 12 27 a0).toInt = (q_I δ 12 27 a0).toInt := congrArg Int32.toInt (u25 12 27 a0 (by decide))
        have f45 := cb_12_26 i21 k_a0
        have f46 : (q_I r19.2 12 26 a0).toInt = (q_I δ 12 26 a0).toInt := congrArg Int32.toInt (u25 12 26 a0 (by decide))
        exact ok_some (show RI ad h.1 δ0 r19.2 ∧ (kp [(12, 4), (12, 5), (12, 6), (12, 7), (12, 25), (12, 26), (12, 27)] δ r19.2 ∧ q_V r19.2 = q_V δ ∧ kr ad [113, 114, 115, 116, 117] δ r19.2) ∧ (q_I δ 12 4 a0).toInt ≤ (q_I r19.2 12 4 a0).toInt ∧ ((q_I δ 12 5 a0).toInt ≠ -1 → (q_I r19.2 12 5 a0).toInt ≠ -1) ∧ (q_I r19.2 12 7 a0).toInt = (q_I δ 12 7 a0).toInt ∧ (q_I r19.2 12 27 a0).toInt = (q_I δ 12 27 a0).toInt ∧ (q_I r19.2 12 26 a0).toInt ≤ (q_I r19.2 12 4 a0).toInt from ⟨i21, ⟨kp_w (by decide) u29, v30, kr_w (by decide) v31⟩, by first | assumption | omega, by first | assumption | omega, by first | assumption | omega, by first | assumption | omega, by first | assumption | omega⟩)
      · have c47 : r19.1.toInt ≠ (0 : Int) := o_ne h37
        refine ok_bind (k_X12_here L hN (a0 := a0) k_a0 i21) (fun r48 hr49 => ?_)
        obtain ⟨i50, ⟨u54, u55, u56, u57⟩, p51, p52, p53⟩ := hr49
        have u58 := kp_t u29 u54
        have v59 : q_V r48.2 = q_V δ := (u55).trans v30
        have v60 := kr_t v31 u57
        have f61 := cb_12_4 i50 k_a0
        have f62 : hc ad r48.2 a0 = (q_R r48.2 (Ad ad 101) (q_I r48.2 12 4 a0).toNatClampNeg).toInt := rfl
        have t63 := ti_tn (q_I r48.2 12 4 a0)
        have f64 : (q_R r48.2 (Ad ad 101) (q_I r48.2 12 4 a0).toNatClampNeg).toInt = (q_R r19.2 (Ad ad 101) (q_I r48.2 12 4 a0).toNatClampNeg).toInt := congrArg Int32.toInt (congrFun (u57 101 (by decide) (by decide) (by decide)) _)
        have f65 : (q_R r19.2 (Ad ad 101) (q_I r48.2 12 4 a0).toNatClampNeg).toInt = (q_R δ (Ad ad 101) (q_I r48.2 12 4 a0).toNatClampNeg).toInt := congrArg Int32.toInt (congrFun (u28 101 (by decide) (by decide) (by decide)) _)
        have f66 := ti_b (q_R δ (Ad ad 101) (q_I r48.2 12 4 a0).toNatClampNeg)
        have f67 := ti_b (q_R r19.2 (Ad ad 101) (q_I r48.2 12 4 a0).toNatClampNeg)
        have f68 := ti_b (q_R r48.2 (Ad ad 101) (q_I r48.2 12 4 a0).toNatClampNeg)
        have f69 := ti_b r48.1
        have f70 := cb_12_3 i21 k_a0
        have f71 : (q_I r19.2 12 3 a0).toInt = (q_I δ 12 3 a0).toInt := congrArg Int32.toInt (u25 12 3 a0 (by decide))
        have f72 : hc ad r19.2 a0 = (q_R r19.2 (Ad ad 101) (q_I r19.2 12 4 a0).toNatClampNeg).toInt := rfl
        have t73 := ti_tn (q_I r19.2 12 4 a0)
        have f74 : (q_R r19.2 (Ad ad 101) (q_I r19.2 12 4 a0).toNatClampNeg).toInt = (q_R δ (Ad ad 101) (q_I r19.2 12 4 a0).toNatClampNeg).toInt := congrArg Int32.toInt (congrFun (u28 101 (by decide) (by decide) (by decide)) _)
        have f75 := ti_b (q_R δ (Ad ad 101) (q_I r19.2 12 4 a0).toNatClampNeg)
        have f76 := ti_b (q_R r19.2 (Ad ad 101) (q_I r19.2 12 4 a0).toNatClampNeg)
        have f77 := ti_b r48.1
        refine ok_ite (fun h78 => ?_) (fun h78 => ?_)
        · have c79 : r48.1.toInt = (93 : Int) := o_eq h78
          unfold J_X12_readSteps_239
          have f80 := ti_b (q_I r48.2 12 5 a0)
          have f81 : (q_I r48.2 12 5 a0).toInt = (q_I r19.2 12 5 a0).toInt := congrArg Int32.toInt (u54 12 5 a0 (by decide))
          have f82 := ti_b (q_I r19.2 12 5 a0)
          have f83 : (q_I r19.2 12 5 a0).toInt = (q_I δ 12 5 a0).toInt := congrArg Int32.toInt (u25 12 5 a0 (by decide))
          have f84 := ti_b (q_I r48.2 12 7 a0)
          have f85 : (q_I r48.2 12 7 a0).toInt = (q_I r19.2 12 7 a0).toInt := congrArg Int32.toInt (u54 12 7 a0 (by decide))
          have f86 := ti_b (q_I r19.2 12 7 a0)
          have f87 : (q_I r19.2 12 7 a0).toInt = (q_I δ 12 7 a0).toInt := congrArg Int32.toInt (u25 12 7 a0 (by decide))
          have f88 := cb_12_27 i50 k_a0
          have f89 : (q_I r48.2 12 27 a0).toInt = (q_I r19.2 12 27 a0).toInt := congrArg Int32.toInt (u54 12 27 a0 (by decide))
          have f90 := cb_12_27 i21 k_a0
          have f91 : (q_I r19.2 12 27 a0).toInt = (q_I δ 12 27 a0).toInt := congrArg Int32.toInt (u25 12 27 a0 (by decide))
          have f92 := cb_12_26 i50 k_a0
          have f93 : (q_I r48.2 12 26 a0).toInt = (q_I r19.2 12 26 a0).toInt := congrArg Int32.toInt (u54 12 26 a0 (by decide))
          have f94 := cb_12_26 i21 k_a0
          have f95 : (q_I r19.2 12 26 a0).toInt = (q_I δ 12 26 a0).toInt := congrArg Int32.toInt (u25 12 26 a0 (by decide))
          exact ok_some (show RI ad h.1 δ0 r48.2 ∧ (kp [(12, 4), (12, 5), (12, 6), (12, 7), (12, 25), (12, 26), (12, 27)] δ r48.2 ∧ q_V r48.2 = q_V δ ∧ kr ad [113, 114, 115, 116, 117] δ r48.2) ∧ (q_I δ 12 4 a0).toInt ≤ (q_I r48.2 12 4 a0).toInt ∧ ((q_I δ 12 5 a0).toInt ≠ -1 → (q_I r48.2 12 5 a0).toInt ≠ -1) ∧ (q_I r48.2 12 7 a0).toInt = (q_I δ 12 7 a0).toInt ∧ (q_I r48.2 12 27 a0).toInt = (q_I δ 12 27 a0).toInt ∧ (q_I r48.2 12 26 a0).toInt ≤ (q_I r48.2 12 4 a0).toInt from ⟨i50, ⟨kp_w (by decide) u58, v59, kr_w (by decide) v60⟩, by first | assumption | omega, by first | assumption | omega, by first | assumption | omega, by first | assumption | omega, by first | assumption | omega⟩)
        · have c96 : r48.1.toInt ≠ (93 : Int) := o_ne h78
          refine ok_bind (k_X12_word L hN (a0 := a0) k_a0 i50) (fun r97 hr98 => ?_)
          obtain ⟨i99, ⟨u102, u103, u104, u105⟩, p100, p101⟩ := hr98
          have u106 := kp_t u58 u102
          have v107 : q_V r97.2 = q_V δ := (u103).trans v59
          have v108 := kr_t v60 u105
          have f109 := cb_12_4 i99 k_a0
          have f110 : hc ad r97.2 a0 = (q_R r97.2 (Ad ad 101) (q_I r97.2 12 4 a0).toNatClampNeg).toInt := rfl
          have t111 := ti_tn (q_I r97.2 12 4 a0)
          have f112 : (q_R r97.2 (Ad ad 101) (q_I r97.2 12 4 a0).toNatClampNeg).toInt = (q_R r48.2 (Ad ad 101) (q_I r97.2 12 4 a0).toNatClampNeg).toInt := congrArg Int32.toInt (congrFun (u105 101 (by decide) (by decide) (by decide)) _)
          have f113 : (q_R r48.2 (Ad ad 101) (q_I r97.2 12 4 a0).toNatClampNeg).toInt = (q_R r19.2 (Ad ad 101) (q_I r97.2 12 4 a0).toNatClampNeg).toInt := congrArg Int32.toInt (congrFun (u57 101 (by decide) (by decide) (by decide)) _)
          have f114 : (q_R r19.2 (Ad ad 101) (q_I r97.2 12 4 a0).toNatClampNeg).toInt = (q_R δ (Ad ad 101) (q_I r97.2 12 4 a0).toNatClampNeg).toInt := congrArg Int32.toInt (congrFun (u28 101 (by decide) (by decide) (by decide)) _)
          have f115 := ti_b (q_R δ (Ad ad 101) (q_I r97.2 12 4 a0).toNatClampNeg)
          have f116 := ti_b (q_R r19.2 (Ad ad 101) (q_I r97.2 12 4 a0).toNatClampNeg)
          have f117 := ti_b (q_R r48.2 (Ad ad 101) (q_I r97.2 12 4 a0).toNatClampNeg)
          have f118 := ti_b (q_R r97.2 (Ad ad 101) (q_I r97.2 12 4 a0).toNatClampNeg)
          have f119 := ti_b r97.1
          have f120 := cb_12_3 i50 k_a0
          have f121 : (q_I r48.2 12 3 a0).toInt = (q_I r19.2 12 3 a0).toInt := congrArg Int32.toInt (u54 12 3 a0 (by decide))
          have f122 := ti_b r97.1
          refine ok_bind (k_X12_stepOf L hN (x0 := r97.1)  i99) (fun r123 hr124 => ?_)
          obtain ⟨i125, p126, p127, p128⟩ := hr124
          try rw [i125]
          have f129 := ti_b r123.1
          have f130 := ti_b r123.1
          refine ok_ite (fun h131 => ?_) (fun h131 => ?_)
          · have c132 : r123.1.toInt = (-1 : Int) := o_eq h131
            refine ok_bind (k_X12_wrong L hN (a0 := a0) (x1 := (1 : Int32)) (x2 := (q_I r97.2 12 4 a0)) k_a0 (show 0 ≤ ((q_I r97.2 12 4 a0)).toInt by first | assumption | omega) i99) (fun r133 hr134 => ?_)
            obtain ⟨i135, ⟨u137, u138, u139, u140⟩, p136⟩ := hr134
            have u141 := kp_t u106 u137
            have v142 : q_V r133 = q_V δ := (u138).trans v107
            have v143 := kr_t v108 u140
            have f144 := ti_b (q_I r133 12 5 a0)
            unfold J_X12_readSteps_79
            refine ok_bind (k_X12_fine L hN (a0 := a0) k_a0 i135) (fun r145 hr146 => ?_)
            obtain ⟨i147, p148, p149, p150⟩ := hr146
            try rw [i147]
            have f151 := bo_t p148
            have f152 := ti_b r145.1
            have f153 := ti_b r145.1
            refine ok_ite (fun h154 => ?_) (fun h154 => ?_)
            · have c155 : r145.1.toInt = (0 : Int) := o_eq h154
              have f156 := cb_12_4 i135 k_a0
              have f157 : (q_I r133 12 4 a0).toInt = (q_I r97.2 12 4 a0).toInt := congrArg Int32.toInt (u137 12 4 a0 (by decide))
              have f158 := ti_b (q_I r133 12 7 a0)
              have f159 : (q_I r133 12 7 a0).toInt = (q_I r97.2 12 7 a0).toInt := congrArg Int32.toInt (u137 12 7 a0 (by decide))
              have f160 := ti_b (q_I r97.2 12 7 a0)
              have f161 : (q_I r97.2 12 7 a0).toInt = (q_I r48.2 12 7 a0).toInt := congrArg Int32.toInt (u102 12 7 a0 (by decide))
              have f162 := ti_b (q_I r48.2 12 7 a0)
              have f163 : (q_I r48.2 12 7 a0).toInt = (q_I r19.2 12 7 a0).toInt := congrArg Int32.toInt (u54 12 7 a0 (by decide))
              have f164 := ti_b (q_I r19.2 12 7 a0)
              have f165 : (q_I r19.2 12 7 a0).toInt = (q_I δ 12 7 a0).toInt := congrArg Int32.toInt (u25 12 7 a0 (by decide))
              have f166 := cb_12_27 i135 k_a0
              have f167 : (q_I r133 12 27 a0).toInt = (q_I r97.2 12 27 a0).toInt := congrArg Int32.toInt (u137 12 27 a0 (by decide))
              have f168 := cb_12_27 i99 k_a0
              have f169 : (q_I r97.2 12 27 a0).toInt = (q_I r48.2 12 27 a0).toInt := congrArg Int32.toInt (u102 12 27 a0 (by decide))
              have f170 := cb_12_27 i50 k_a0
              have f171 : (q_I r48.2 12 27 a0).toInt = (q_I r19.2 12 27 a0).toInt := congrArg Int32.toInt (u54 12 27 a0 (by decide))
              have f172 := cb_12_27 i21 k_a0
              have f173 : (q_I r19.2 12 27 a0).toInt = (q_I δ 12 27 a0).toInt := congrArg Int32.toInt (u25 12 27 a0 (by decide))
              have f174 := cb_12_26 i135 k_a0
              have f175 : (q_I r133 12 26 a0).toInt = (q_I r97.2 12 26 a0).toInt := congrArg Int32.toInt (u137 12 26 a0 (by decide))
              have f176 := cb_12_26 i99 k_a0
              have f177 : (q_I r97.2 12 26 a0).toInt = (q_I r48.2 12 26 a0).toInt := congrArg Int32.toInt (u102 12 26 a0 (by decide))
              have f178 := cb_12_26 i50 k_a0
              have f179 : (q_I r48.2 12 26 a0).toInt = (q_I r19.2 12 26 a0).toInt := congrArg Int32.toInt (u54 12 26 a0 (by decide))
              have f180 := cb_12_26 i21 k_a0
              have f181 : (q_I r19.2 12 26 a0).toInt = (q_I δ 12 26 a0).toInt := congrArg Int32.toInt (u25 12 26 a0 (by decide))
              exact ok_some (show RI ad h.1 δ0 r133 ∧ (kp [(12, 4), (12, 5), (12, 6), (12, 7), (12, 25), (12, 26), (12, 27)] δ r133 ∧ q_V r133 = q_V δ ∧ kr ad [113, 114, 115, 116, 117] δ r133) ∧ (q_I δ 12 4 a0).toInt ≤ (q_I r133 12 4 a0).toInt ∧ ((q_I δ 12 5 a0).toInt ≠ -1 → (q_I r133 12 5 a0).toInt ≠ -1) ∧ (q_I r133 12 7 a0).toInt = (q_I δ 12 7 a0).toInt ∧ (q_I r133 12 27 a0).toInt = (q_I δ 12 27 a0).toInt ∧ (q_I r133 12 26 a0).toInt ≤ (q_I r133 12 4 a0).toInt from ⟨i135, ⟨kp_w (by decide) u141, v142, kr_w (by decide) v143⟩, by first | assumption | omega, by first | assumption | omega, by first | assumption | omega, by first | assumption | omega, by first | assumption | omega⟩)
            · have c182 : r145.1.toInt ≠ (0 : Int) := o_ne h154
              refine ok_bind (k_X12_pass L hN (a0 := a0) k_a0 i135) (fun r183 hr184 => ?_)
              obtain ⟨i185, ⟨u188, u189, u190, u191⟩, p186, p187⟩ := hr184
              have u192 := kp_t u141 u188
              have v193 : q_V r183 = q_V δ := (u189).trans v142
              have v194 := kr_t v143 u191
              have f195 := cb_12_4 i135 k_a0
              have f196 : (q_I r133 12 4 a0).toInt = (q_I r97.2 12 4 a0).toInt := congrArg Int32.toInt (u137 12 4 a0 (by decide))
              have f197 := cb_12_4 i185 k_a0
              have f198 : hc ad r133 a0 = (q_R r133 (Ad ad 101) (q_I r133 12 4 a0).toNatClampNeg).toInt := rfl
              have t199 := ti_tn (q_I r133 12 4 a0)
              have f200 : (q_R r133 (Ad ad 101) (q_I r133 12 4 a0).toNatClampNeg).toInt = (q_R r97.2 (Ad ad 101) (q_I r133 12 4 a0).toNatClampNeg).toInt := congrArg Int32.toInt (congrFun (u140 101 (by decide) (by decide) (by decide)) _)
              have f201 : (q_R r97.2 (Ad ad 101) (q_I r133 12 4 a0).toNatClampNeg).toInt = (q_R r48.2 (Ad ad 101) (q_I r133 12 4 a0).toNatClampNeg).toInt := congrArg Int32.toInt (congrFun (u105 101 (by decide) (by decide) (by decide)) _)
              have f202 : (q_R r48.2 (Ad ad 101) (q_I r133 12 4 a0).toNatClampNeg).toInt = (q_R r19.2 (Ad ad 101) (q_I r133 12 4 a0).toNatClampNeg).toInt := congrArg Int32.toInt (congrFun (u57 101 (by decide) (by decide) (by decide)) _)
              have f203 : (q_R r19.2 (Ad ad 101) (q_I r133 12 4 a0).toNatClampNeg).toInt = (q_R δ (Ad ad 101) (q_I r133 12 4 a0).toNatClampNeg).toInt := congrArg Int32.toInt (congrFun (u28 101 (by decide) (by decide) (by decide)) _)
              have f204 := ti_b (q_R δ (Ad ad 101) (q_I r133 12 4 a0).toNatClampNeg)
              have f205 := ti_b (q_R r19.2 (Ad ad 101) (q_I r133 12 4 a0).toNatClampNeg)
              have f206 := ti_b (q_R r48.2 (Ad ad 101) (q_I r133 12 4 a0).toNatClampNeg)
              have f207 := ti_b (q_R r97.2 (Ad ad 101) (q_I r133 12 4 a0).toNatClampNeg)
              have f208 := ti_b (q_R r133 (Ad ad 101) (q_I r133 12 4 a0).toNatClampNeg)
              have f209 := cb_12_3 i135 k_a0
              have f210 : (q_I r133 12 3 a0).toInt = (q_I r97.2 12 3 a0).toInt := congrArg Int32.toInt (u137 12 3 a0 (by decide))
              have f211 := cb_12_3 i99 k_a0
              have f212 : (q_I r97.2 12 3 a0).toInt = (q_I r48.2 12 3 a0).toInt := congrArg Int32.toInt (u102 12 3 a0 (by decide))
              have f216 := cb_12_24 i185 k_a0
              have f217 : (q_I r183 12 24 a0).toInt = (q_I r133 12 24 a0).toInt := congrArg Int32.toInt (u188 12 24 a0 (by decide))
              have f218 := cb_12_24 i135 k_a0
              have f219 : (q_I r133 12 24 a0).toInt = (q_I r97.2 12 24 a0).toInt := congrArg Int32.toInt (u137 12 24 a0 (by decide))
              have f220 := cb_12_24 i99 k_a0
              have f221 : (q_I r97.2 12 24 a0).toInt = (q_I r48.2 12 24 a0).toInt := congrArg Int32.toInt (u102 12 24 a0 (by decide))
              have f222 := cb_12_24 i50 k_a0
              have f223 : (q_I r48.2 12 24 a0).toInt = (q_I r19.2 12 24 a0).toInt := congrArg Int32.toInt (u54 12 24 a0 (by decide))
              have f224 := cb_12_24 i21 k_a0
              have f225 : (q_I r19.2 12 24 a0).toInt = (q_I δ 12 24 a0).toInt := congrArg Int32.toInt (u25 12 24 a0 (by decide))
              first | (have q226 := te_mulc (c := 60) (n := 60) rfl (q_I r183 12 24 a0) (by omega) (by omega); obtain ⟨f227, f228, f229⟩ := q226) | (obtain ⟨q226, f227, f228, f229⟩ := ti_mulc (c := 60) (n := 60) rfl (q_I r183 12 24 a0))
              have f230 := cb_12_25 i185 k_a0
              have f231 : (q_I r183 12 25 a0).toInt = (q_I r133 12 25 a0).toInt := congrArg Int32.toInt (u188 12 25 a0 (by decide))
              have f232 := cb_12_25 i135 k_a0
              have f233 : (q_I r133 12 25 a0).toInt = (q_I r97.2 12 25 a0).toInt := congrArg Int32.toInt (u137 12 25 a0 (by decide))
              have f234 := cb_12_25 i99 k_a0
              have f235 : (q_I r97.2 12 25 a0).toInt = (q_I r48.2 12 25 a0).toInt := congrArg Int32.toInt (u102 12 25 a0 (by decide))
              have f236 := cb_12_25 i50 k_a0
              have f237 : (q_I r48.2 12 25 a0).toInt = (q_I r19.2 12 25 a0).toInt := congrArg Int32.toInt (u54 12 25 a0 (by decide))
              have f238 := cb_12_25 i21 k_a0
              have f239 : (q_I r19.2 12 25 a0).toInt = (q_I δ 12 25 a0).toInt := congrArg Int32.toInt (u25 12 25 a0 (by decide))
              have f240 := cb_12_25 I k_a0
              refine ok_biv (fun vx213 e214 => ?_)
              first | (have q241 := te_add ((60 : Int32) * (q_I r183 12 24 a0)) (q_I r183 12 25 a0) (by omega) (by omega); rw [← e214] at q241; obtain ⟨f242, f243, f244⟩ := q241) | (obtain ⟨q241, f242, f243, f244⟩ : ∃ q : Int, vx213.toInt = ((60 : Int32) * (q_I r183 12 24 a0)).toInt + (q_I r183 12 25 a0).toInt + 4294967296 * q ∧ -2147483648 ≤ vx213.toInt ∧ vx213.toInt ≤ 2147483647 := by rw [e214]; exact ti_add ((60 : Int32) * (q_I r183 12 24 a0)) (q_I r183 12 25 a0))
              first | (have q249 := te_addc (c := 1) (n := 1) rfl (q_I r183 12 25 a0) (by omega) (by omega); obtain ⟨f250, f251, f252⟩ := q249) | (obtain ⟨q249, f250, f251, f252⟩ := ti_addc (c := 1) (n := 1) rfl (q_I r183 12 25 a0))
              refine ok_bdv (fun d245 e246 => ?_)
              have i247 : RI ad h.1 δ0 d245 := by rw [e246]; exact cs_12_25 L i185 k_a0 (show 0 ≤ ((q_I r183 12 25 a0) + (1 : Int32)).toInt by omega) (show ((q_I r183 12 25 a0) + (1 : Int32)).toInt ≤ 60 by omega)
              have u253 := kp_I u192 e246
              have v254 : q_V d245 = q_V δ := ((show q_V d245 = q_V r183 by rw [e246]; rfl)).trans v193
              have v255 := kr_N v194 (show q_R d245 = q_R r183 by rw [e246]; rfl)
              obtain ⟨b256, o257, k258, n259, w260⟩ := gO_12_29 L k_a0
              obtain rfl := gS_12_29 L k_a0 o257
              refine ok_at o257 ?_
              have t261 := ti_tn vx213
              refine ok_gd (fun hc262 => ?_) ?_
              · rcases hc262 with hc262 | hc262
                · have c263 : vx213.toInt < (0 : Int) := o_lt hc262
                  omega
                · omega
              refine ok_bdv (fun d264 e265 => ?_)
              have i266 : RI ad h.1 δ0 d264 := by rw [e265]; exact RI.sR L i247 w260
              have u267 := kp_N u253 (show q_I d264 = q_I d245 by rw [e265]; rfl)
              have v268 : q_V d264 = q_V δ := ((show q_V d264 = q_V d245 by rw [e265]; rfl)).trans v254
              have v269 := kr_s L (by decide) v255 e265
              refine ok_ite (fun h270 => ?_) (fun h270 => ?_)
              · have c271 : r123.1.toInt = (5 : Int) := o_eq h270
                obtain ⟨b272, o273, k274, n275, w276⟩ := gO_12_30 L k_a0
                obtain rfl := gS_12_30 L k_a0 o273
                refine ok_at o273 ?_
                refine ok_bind (k_X12_readNumber L hN (a0 := a0) (x1 := (1 : Int32)) (x2 := (99 : Int32)) k_a0 i266) (fun r277 hr278 => ?_)
                obtain ⟨i279, ⟨u286, u287, u288, u289⟩, p280, p281, p282, p283, p284, p285⟩ := hr278
                have u290 := kp_t u267 u286
                have v291 : q_V r277.2 = q_V δ := (u287).trans v268
                have v292 := kr_t v269 u289
                have f293 := cb_12_4 i266 k_a0
                have f294 : (q_I d264 12 4 a0).toInt = (q_I d245 12 4 a0).toInt := congrArg Int32.toInt (by rw [e265]; rfl)
                have f295 := cb_12_4 i247 k_a0
                have f296 : (q_I d245 12 4 a0).toInt = (q_I r183 12 4 a0).toInt := congrArg Int32.toInt (by rw [e246]; exact rI_o (by decide))
                have f297 := cb_12_4 i279 k_a0
                have f298 := ti_b (q_I d264 12 5 a0)
                have f299 : (q_I d264 12 5 a0).toInt = (q_I d245 12 5 a0).toInt := congrArg Int32.toInt (by rw [e265]; rfl)
                have f300 := ti_b (q_I d245 12 5 a0)
                have f301 : (q_I d245 12 5 a0).toInt = (q_I r183 12 5 a0).toInt := congrArg Int32.toInt (by rw [e246]; exact rI_o (by decide))
                have f302 := ti_b (q_I r183 12 5 a0)
                have f303 : (q_I r183 12 5 a0).toInt = (q_I r133 12 5 a0).toInt := congrArg Int32.toInt (u188 12 5 a0 (by decide))
                have f304 := ti_b (q_I r277.2 12 5 a0)
                have f305 := ti_b r277.1
                replace p285 : ((q_I r277.2 12 5 a0).toInt = -1 → (1 : Int) ≤ (r277.1).toInt ∧ (r277.1).toInt ≤ (99 : Int)) := p285
                have f306 := ti_b r277.1
                refine ok_gd (fun hc307 => ?_) ?_
                · rcases hc307 with hc307 | hc307
                  · have c308 : vx213.toInt < (0 : Int) := o_lt hc307
                    omega
                  · omega
                refine ok_bdv (fun d309 e310 => ?_)
                have i311 : RI ad h.1 δ0 d309 := by rw [e310]; exact RI.sR L i279 w276
                have u312 := kp_N u290 (show q_I d309 = q_I r277.2 by rw [e310]; rfl)
                have v313 : q_V d309 = q_V δ := ((show q_V d309 = q_V r277.2 by rw [e310]; rfl)).trans v291
                have v314 := kr_s L (by decide) v292 e310
                refine ok_bind (k_X12_sign L hN (a0 := a0) (x1 := (91 : Int32)) k_a0 (show (91 : Int) ≠ 0 by first | assumption | omega) i311) (fun r315 hr316 => ?_)
                obtain ⟨i317, ⟨u321, u322, u323, u324⟩, p318, p319, p320⟩ := hr316
                have u325 := kp_t u312 u321
                have v326 : q_V r315 = q_V δ := (u322).trans v313
                have v327 := kr_t v314 u324
                have f328 := cb_12_4 i311 k_a0
                have f329 : (q_I d309 12 4 a0).toInt = (q_I r277.2 12 4 a0).toInt := congrArg Int32.toInt (by rw [e310]; rfl)
                have f330 := cb_12_4 i317 k_a0
                have f331 := ti_b (q_I d309 12 5 a0)
                have f332 : (q_I d309 12 5 a0).toInt = (q_I r277.2 12 5 a0).toInt := congrArg Int32.toInt (by rw [e310]; rfl)
                have f333 := ti_b (q_I r315 12 5 a0)
                have f337 := cb_12_27 i317 k_a0
                have f338 : (q_I r315 12 27 a0).toInt = (q_I d309 12 27 a0).toInt := congrArg Int32.toInt (u321 12 27 a0 (by decide))
                have f339 := cb_12_27 i311 k_a0
                have f340 : (q_I d309 12 27 a0).toInt = (q_I r277.2 12 27 a0).toInt := congrArg Int32.toInt (by rw [e310]; rfl)
                have f341 := cb_12_27 i279 k_a0
                have f342 : (q_I r277.2 12 27 a0).toInt = (q_I d264 12 27 a0).toInt := congrArg Int32.toInt (u286 12 27 a0 (by decide))
                have f343 := cb_12_27 i266 k_a0
                have f344 : (q_I d264 12 27 a0).toInt = (q_I d245 12 27 a0).toInt := congrArg Int32.toInt (by rw [e265]; rfl)
                have f345 := cb_12_27 i247 k_a0
                have f346 : (q_I d245 12 27 a0).toInt = (q_I r183 12 27 a0).toInt := congrArg Int32.toInt (by rw [e246]; exact rI_o (by decide))
                have f347 := cb_12_27 i185 k_a0
                have f348 : (q_I r183 12 27 a0).toInt = (q_I r133 12 27 a0).toInt := congrArg Int32.toInt (u188 12 27 a0 (by decide))
                have f349 := cb_12_27 i135 k_a0
                have f350 : (q_I r133 12 27 a0).toInt = (q_I r97.2 12 27 a0).toInt := congrArg Int32.toInt (u137 12 27 a0 (by decide))
                have f351 := cb_12_27 i99 k_a0
                have f352 : (q_I r97.2 12 27 a0).toInt = (q_I r48.2 12 27 a0).toInt := congrArg Int32.toInt (u102 12 27 a0 (by decide))
                have f353 := cb_12_27 i50 k_a0
                have f354 : (q_I r48.2 12 27 a0).toInt = (q_I r19.2 12 27 a0).toInt := congrArg Int32.toInt (u54 12 27 a0 (by decide))
                have f355 := cb_12_27 i21 k_a0
                have f356 : (q_I r19.2 12 27 a0).toInt = (q_I δ 12 27 a0).toInt := congrArg Int32.toInt (u25 12 27 a0 (by decide))
                first | (have q358 := te_addc (c := 1) (n := 1) rfl (q_I r315 12 27 a0) (by omega) (by omega); obtain ⟨f359, f360, f361⟩ := q358) | (obtain ⟨q358, f359, f360, f361⟩ := ti_addc (c := 1) (n := 1) rfl (q_I r315 12 27 a0))
                refine ok_bdv (fun d334 e335 => ?_)
                have i336 : RI ad h.1 δ0 d334 := by rw [e335]; exact cs_12_27 L i317 k_a0 (show 0 ≤ ((q_I r315 12 27 a0) + (1 : Int32)).toInt by omega) (show ((q_I r315 12 27 a0) + (1 : Int32)).toInt ≤ 3 by omega)
                have u362 := kp_I u325 e335
                have v363 : q_V d334 = q_V δ := ((show q_V d334 = q_V r315 by rw [e335]; rfl)).trans v326
                have v364 := kr_N v327 (show q_R d334 = q_R r315 by rw [e335]; rfl)
                have f367 := cb_12_24 i336 k_a0
                have f368 : (q_I d334 12 24 a0).toInt = (q_I r315 12 24 a0).toInt := congrArg Int32.toInt (by rw [e335]; exact rI_o (by decide))
                have f369 := cb_12_24 i317 k_a0
                have f370 : (q_I r315 12 24 a0).toInt = (q_I d309 12 24 a0).toInt := congrArg Int32.toInt (u321 12 24 a0 (by decide))
                have f371 := cb_12_24 i311 k_a0
                have f372 : (q_I d309 12 24 a0).toInt = (q_I r277.2 12 24 a0).toInt := congrArg Int32.toInt (by rw [e310]; rfl)
                have f373 := cb_12_24 i279 k_a0
                have f374 : (q_I r277.2 12 24 a0).toInt = (q_I d264 12 24 a0).toInt := congrArg Int32.toInt (u286 12 24 a0 (by decide))
                have f375 := cb_12_24 i266 k_a0
                have f376 : (q_I d264 12 24 a0).toInt = (q_I d245 12 24 a0).toInt := congrArg Int32.toInt (by rw [e265]; rfl)
                have f377 := cb_12_24 i247 k_a0
                have f378 : (q_I d245 12 24 a0).toInt = (q_I r183 12 24 a0).toInt := congrArg Int32.toInt (by rw [e246]; exact rI_o (by decide))
                have f379 := cb_12_26 i336 k_a0
                have f380 : (q_I d334 12 26 a0).toInt = (q_I r315 12 26 a0).toInt := congrArg Int32.toInt (by rw [e335]; exact rI_o (by decide))
                have f381 := cb_12_26 i317 k_a0
                have f382 : (q_I r315 12 26 a0).toInt = (q_I d309 12 26 a0).toInt := congrArg Int32.toInt (u321 12 26 a0 (by decide))
                have f383 := cb_12_26 i311 k_a0
                have f384 : (q_I d309 12 26 a0).toInt = (q_I r277.2 12 26 a0).toInt := congrArg Int32.toInt (by rw [e310]; rfl)
                have f385 := cb_12_26 i279 k_a0
                have f386 : (q_I r277.2 12 26 a0).toInt = (q_I d264 12 26 a0).toInt := congrArg Int32.toInt (u286 12 26 a0 (by decide))
                have f387 := cb_12_26 i266 k_a0
                have f388 : (q_I d264 12 26 a0).toInt = (q_I d245 12 26 a0).toInt := congrArg Int32.toInt (by rw [e265]; rfl)
                have f389 := cb_12_26 i247 k_a0
                have f390 : (q_I d245 12 26 a0).toInt = (q_I r183 12 26 a0).toInt := congrArg Int32.toInt (by rw [e246]; exact rI_o (by decide))
                have f391 := cb_12_26 i185 k_a0
                have f392 : (q_I r183 12 26 a0).toInt = (q_I r133 12 26 a0).toInt := congrArg Int32.toInt (u188 12 26 a0 (by decide))
                have f393 := cb_12_26 i135 k_a0
                have f394 : (q_I r133 12 26 a0).toInt = (q_I r97.2 12 26 a0).toInt := congrArg Int32.toInt (u137 12 26 a0 (by decide))
                have f395 := cb_12_26 i99 k_a0
                have f396 : (q_I r97.2 12 26 a0).toInt = (q_I r48.2 12 26 a0).toInt := congrArg Int32.toInt (u102 12 26 a0 (by decide))
                have f397 := cb_12_26 i50 k_a0
                have f398 : (q_I r48.2 12 26 a0).toInt = (q_I r19.2 12 26 a0).toInt := congrArg Int32.toInt (u54 12 26 a0 (by decide))
                have f399 := cb_12_26 i21 k_a0
                have f400 : (q_I r19.2 12 26 a0).toInt = (q_I δ 12 26 a0).toInt := congrArg Int32.toInt (u25 12 26 a0 (by decide))
                have f401 := cb_12_4 i336 k_a0
                have f402 : (q_I d334 12 4 a0).toInt = (q_I r315 12 4 a0).toInt := congrArg Int32.toInt (by rw [e335]; exact rI_o (by decide))
                have f403 := ti_b (q_I d334 12 7 a0)
                have f404 : (q_I d334 12 7 a0).toInt = (q_I r315 12 7 a0).toInt := congrArg Int32.toInt (by rw [e335]; exact rI_o (by decide))
                have f405 := ti_b (q_I r315 12 7 a0)
                have f406 : (q_I r315 12 7 a0).toInt = (q_I d309 12 7 a0).toInt := congrArg Int32.toInt (u321 12 7 a0 (by decide))
                have f407 := ti_b (q_I d309 12 7 a0)
                have f408 : (q_I d309 12 7 a0).toInt = (q_I r277.2 12 7 a0).toInt := congrArg Int32.toInt (by rw [e310]; rfl)
                have f409 := ti_b (q_I r277.2 12 7 a0)
                have f410 : (q_I r277.2 12 7 a0).toInt = (q_I d264 12 7 a0).toInt := congrArg Int32.toInt (u286 12 7 a0 (by decide))
                have f411 := ti_b (q_I d264 12 7 a0)
                have f412 : (q_I d264 12 7 a0).toInt = (q_I d245 12 7 a0).toInt := congrArg Int32.toInt (by rw [e265]; rfl)
                have f413 := ti_b (q_I d245 12 7 a0)
                have f414 : (q_I d245 12 7 a0).toInt = (q_I r183 12 7 a0).toInt := congrArg Int32.toInt (by rw [e246]; exact rI_o (by decide))
                have f415 := ti_b (q_I r183 12 7 a0)
                have f416 : (q_I r183 12 7 a0).toInt = (q_I r133 12 7 a0).toInt := congrArg Int32.toInt (u188 12 7 a0 (by decide))
                have f417 := ti_b (q_I r133 12 7 a0)
                have f418 : (q_I r133 12 7 a0).toInt = (q_I r97.2 12 7 a0).toInt := congrArg Int32.toInt (u137 12 7 a0 (by decide))
                have f419 := ti_b (q_I r97.2 12 7 a0)
                have f420 : (q_I r97.2 12 7 a0).toInt = (q_I r48.2 12 7 a0).toInt := congrArg Int32.toInt (u102 12 7 a0 (by decide))
                have f421 := ti_b (q_I r48.2 12 7 a0)
                have f422 : (q_I r48.2 12 7 a0).toInt = (q_I r19.2 12 7 a0).toInt := congrArg Int32.toInt (u54 12 7 a0 (by decide))
                have f423 := ti_b (q_I r19.2 12 7 a0)
                have f424 : (q_I r19.2 12 7 a0).toInt = (q_I δ 12 7 a0).toInt := congrArg Int32.toInt (u25 12 7 a0 (by decide))
                have f425 := cb_12_27 i336 k_a0
                have f426 : (q_I d334 12 27 a0).toInt = ((q_I r315 12 27 a0) + (1 : Int32)).toInt := congrArg Int32.toInt (show q_I d334 12 27 a0 = ((q_I r315 12 27 a0) + (1 : Int32)) by rw [e335]; exact rI_s)
                refine ok_bind (hT a0 d334 k_a0 (show (q_I d334 12 24 a0).toInt ≤ 3 by first | assumption | omega) (show (q_I d334 12 26 a0).toInt ≤ (q_I d334 12 4 a0).toInt by first | assumption | omega) (show (q_I d334 12 7 a0).toInt = 0 by first | assumption | omega) (show 4 - (q_I d334 12 27 a0).toInt < _ by first | assumption | omega) i336) (fun r365 hr366 => ?_)
                obtain ⟨i427, ⟨u433, u434, u435⟩, p428, p429, p430, p431, p432⟩ := hr366
                have u436 := kp_t u362 u433
                have v437 : q_V r365 = q_V δ := (u434).trans v363
                have v438 := kr_t v364 u435
                have f439 := cb_12_4 i427 k_a0
                have f440 := ti_b (q_I d334 12 5 a0)
                have f441 : (q_I d334 12 5 a0).toInt = (q_I r315 12 5 a0).toInt := congrArg Int32.toInt (by rw [e335]; exact rI_o (by decide))
                have f442 := ti_b (q_I r365 12 5 a0)
                have f443 := ti_b (q_I r365 12 7 a0)
                have f444 := cb_12_27 i427 k_a0
                have f445 := cb_12_26 i427 k_a0
                first | (have q450 := te_subc (c := 1) (n := 1) rfl (q_I r365 12 27 a0) (by omega) (by omega); obtain ⟨f451, f452, f453⟩ := q450) | (obtain ⟨q450, f451, f452, f453⟩ := ti_subc (c := 1) (n := 1) rfl (q_I r365 12 27 a0))
                refine ok_bdv (fun d446 e447 => ?_)
                have i448 : RI ad h.1 δ0 d446 := by rw [e447]; exact cs_12_27 L i427 k_a0 (show 0 ≤ ((q_I r365 12 27 a0) - (1 : Int32)).toInt by omega) (show ((q_I r365 12 27 a0) - (1 : Int32)).toInt ≤ 3 by omega)
                have u454 := kp_I u436 e447
                have v455 : q_V d446 = q_V δ := ((show q_V d446 = q_V r365 by rw [e447]; rfl)).trans v437
                have v456 := kr_N v438 (show q_R d446 = q_R r365 by rw [e447]; rfl)
                refine ok_bind (k_X12_sign L hN (a0 := a0) (x1 := (93 : Int32)) k_a0 (show (93 : Int) ≠ 0 by first | assumption | omega) i448) (fun r457 hr458 => ?_)
                obtain ⟨i459, ⟨u463, u464, u465, u466⟩, p460, p461, p462⟩ := hr458
                have u467 := kp_t u454 u463
                have v468 : q_V r457 = q_V δ := (u464).trans v455
                have v469 := kr_t v456 u466
                have f470 := cb_12_4 i448 k_a0
                have f471 : (q_I d446 12 4 a0).toInt = (q_I r365 12 4 a0).toInt := congrArg Int32.toInt (by rw [e447]; exact rI_o (by decide))
                have f472 := cb_12_4 i459 k_a0
                have f473 := ti_b (q_I d446 12 5 a0)
                have f474 : (q_I d446 12 5 a0).toInt = (q_I r365 12 5 a0).toInt := congrArg Int32.toInt (by rw [e447]; exact rI_o (by decide))
                have f475 := ti_b (q_I r457 12 5 a0)
                obtain ⟨b476, o477, k478, n479, w480⟩ := gO_12_31 L k_a0
                obtain rfl := gS_12_31 L k_a0 o477
                refine ok_at o477 ?_
                refine ok_gd (fun hc481 => ?_) ?_
                · rcases hc481 with hc481 | hc481
                  · have c482 : vx213.toInt < (0 : Int) := o_lt hc481
                    omega
                  · omega
                refine ok_bdv (fun d483 e484 => ?_)
                have i485 : RI ad h.1 δ0 d483 := by rw [e484]; exact RI.sR L i459 w480
                have u486 := kp_N u467 (show q_I d483 = q_I r457 by rw [e484]; rfl)
                have v487 : q_V d483 = q_V δ := ((show q_V d483 = q_V r457 by rw [e484]; rfl)).trans v468
                have v488 := kr_s L (by decide) v469 e484
                unfold J_X12_readSteps_236
                have f489 := cb_12_24 i485 k_a0
                have f490 : (q_I d483 12 24 a0).toInt = (q_I r457 12 24 a0).toInt := congrArg Int32.toInt (by rw [e484]; rfl)
                have f491 := cb_12_24 i459 k_a0
                have f492 : (q_I r457 12 24 a0).toInt = (q_I d446 12 24 a0).toInt := congrArg Int32.toInt (u463 12 24 a0 (by decide))
                have f493 := cb_12_24 i448 k_a0
                have f494 : (q_I d446 12 24 a0).toInt = (q_I r365 12 24 a0).toInt := congrArg Int32.toInt (by rw [e447]; exact rI_o (by decide))
                have f495 := cb_12_24 i427 k_a0
                have f496 : (q_I r365 12 24 a0).toInt = (q_I d334 12 24 a0).toInt := congrArg Int32.toInt (u433 12 24 a0 (by decide))
                have f497 := cb_12_26 i485 k_a0
                have f498 : (q_I d483 12 26 a0).toInt = (q_I r457 12 26 a0).toInt := congrArg Int32.toInt (by rw [e484]; rfl)
                have f499 := cb_12_26 i459 k_a0
                have f500 : (q_I r457 12 26 a0).toInt = (q_I d446 12 26 a0).toInt := congrArg Int32.toInt (u463 12 26 a0 (by decide))
                have f501 := cb_12_26 i448 k_a0
                have f502 : (q_I d446 12 26 a0).toInt = (q_I r365 12 26 a0).toInt := congrArg Int32.toInt (by rw [e447]; exact rI_o (by decide))
                have f503 := cb_12_4 i485 k_a0
                have f504 : (q_I d483 12 4 a0).toInt = (q_I r457 12 4 a0).toInt := congrArg Int32.toInt (by rw [e484]; rfl)
                have f505 := ti_b (q_I d483 12 7 a0)
                have f506 : (q_I d483 12 7 a0).toInt = (q_I r457 12 7 a0).toInt := congrArg Int32.toInt (by rw [e484]; rfl)
                have f507 := ti_b (q_I r457 12 7 a0)
                have f508 : (q_I r457 12 7 a0).toInt = (q_I d446 12 7 a0).toInt := congrArg Int32.toInt (u463 12 7 a0 (by decide))
                have f509 := ti_b (q_I d446 12 7 a0)
                have f510 : (q_I d446 12 7 a0).toInt = (q_I r365 12 7 a0).toInt := congrArg Int32.toInt (by rw [e447]; exact rI_o (by decide))
                have f511 := cb_12_27 i485 k_a0
                have f512 : (q_I d483 12 27 a0).toInt = (q_I r457 12 27 a0).toInt := congrArg Int32.toInt (by rw [e484]; rfl)
                have f513 := cb_12_27 i459 k_a0
                have f514 : (q_I r457 12 27 a0).toInt = (q_I d446 12 27 a0).toInt := congrArg Int32.toInt (u463 12 27 a0 (by decide))
                have f515 := cb_12_27 i448 k_a0
                have f516 : (q_I d446 12 27 a0).toInt = ((q_I r365 12 27 a0) - (1 : Int32)).toInt := congrArg Int32.toInt (show q_I d446 12 27 a0 = ((q_I r365 12 27 a0) - (1 : Int32)) by rw [e447]; exact rI_s)
                refine ok_mono (ih d483 i485 (show (q_I d483 12 24 a0).toInt ≤ 3 by first | assumption | omega) (show (q_I d483 12 26 a0).toInt ≤ (q_I d483 12 4 a0).toInt by first | assumption | omega) (show (q_I d483 12 7 a0).toInt = 0 by first | assumption | omega) (show 4 - (q_I d483 12 27 a0).toInt ≤ K by first | assumption | omega) (show 501 - (q_I d483 12 4 a0).toInt < _ by omega)) (fun r517 hr518 => ?_)
                obtain ⟨i519, ⟨u525, u526, u527⟩, p520, p521, p522, p523, p524⟩ := hr518
                have u528 := kp_t u486 u525
                have v529 : q_V r517 = q_V δ := (u526).trans v487
                have v530 := kr_t v488 u527
                have f531 := cb_12_4 i519 k_a0
                have f532 := ti_b (q_I d483 12 5 a0)
                have f533 : (q_I d483 12 5 a0).toInt = (q_I r457 12 5 a0).toInt := congrArg Int32.toInt (by rw [e484]; rfl)
                have f534 := ti_b (q_I r517 12 5 a0)
                have f535 := ti_b (q_I r517 12 7 a0)
                have f536 := cb_12_27 i519 k_a0
                have f537 := cb_12_26 i519 k_a0
                exact ⟨by assumption, ⟨kp_w (by decide) u528, v529, kr_w (by decide) v530⟩, by first | assumption | omega, by first | assumption | omega, by first | assumption | omega, by first | assumption | omega, by first | assumption | omega⟩
              · have c538 : r123.1.toInt ≠ (5 : Int) := o_ne h270
                obtain ⟨b539, o540, k541, n542, w543⟩ := gO_12_30 L k_a0
                obtain rfl := gS_12_30 L k_a0 o540
                refine ok_at o540 ?_
                refine ok_gd (fun hc544 => ?_) ?_
                · rcases hc544 with hc544 | hc544
                  · have c545 : vx213.toInt < (0 : Int) := o_lt hc544
                    omega
                  · omega
                refine ok_bdv (fun d546 e547 => ?_)
                have i548 : RI ad h.1 δ0 d546 := by rw [e547]; exact RI.sR L i266 w543
                have u549 := kp_N u267 (show q_I d546 = q_I d264 by rw [e547]; rfl)
                have v550 : q_V d546 = q_V δ := ((show q_V d546 = q_V d264 by rw [e547]; rfl)).trans v268
                have v551 := kr_s L (by decide) v269 e547
                have f554 := cb_12_24 i548 k_a0
                have f555 : (q_I d546 12 24 a0).toInt = (q_I d264 12 24 a0).toInt := congrArg Int32.toInt (by rw [e547]; rfl)
                have f556 := cb_12_24 i266 k_a0
                have f557 : (q_I d264 12 24 a0).toInt = (q_I d245 12 24 a0).toInt := congrArg Int32.toInt (by rw [e265]; rfl)
                have f558 := cb_12_24 i247 k_a0
                have f559 : (q_I d245 12 24 a0).toInt = (q_I r183 12 24 a0).toInt := congrArg Int32.toInt (by rw [e246]; exact rI_o (by decide))
                have f560 := cb_12_26 i548 k_a0
                have f561 : (q_I d546 12 26 a0).toInt = (q_I d264 12 26 a0).toInt := congrArg Int32.toInt (by rw [e547]; rfl)
                have f562 := cb_12_26 i266 k_a0
                have f563 : (q_I d264 12 26 a0).toInt = (q_I d245 12 26 a0).toInt := congrArg Int32.toInt (by rw [e265]; rfl)
                have f564 := cb_12_26 i247 k_a0
                have f565 : (q_I d245 12 26 a0).toInt = (q_I r183 12 26 a0).toInt := congrArg Int32.toInt (by rw [e246]; exact rI_o (by decide))
                have f566 := cb_12_26 i185 k_a0
                have f567 : (q_I r183 12 26 a0).toInt = (q_I r133 12 26 a0).toInt := congrArg Int32.toInt (u188 12 26 a0 (by decide))
                have f568 := cb_12_26 i135 k_a0
                have f569 : (q_I r133 12 26 a0).toInt = (q_I r97.2 12 26 a0).toInt := congrArg Int32.toInt (u137 12 26 a0 (by decide))
                have f570 := cb_12_26 i99 k_a0
                have f571 : (q_I r97.2 12 26 a0).toInt = (q_I r48.2 12 26 a0).toInt := congrArg Int32.toInt (u102 12 26 a0 (by decide))
                have f572 := cb_12_26 i50 k_a0
                have f573 : (q_I r48.2 12 26 a0).toInt = (q_I r19.2 12 26 a0).toInt := congrArg Int32.toInt (u54 12 26 a0 (by decide))
                have f574 := cb_12_26 i21 k_a0
                have f575 : (q_I r19.2 12 26 a0).toInt = (q_I δ 12 26 a0).toInt := congrArg Int32.toInt (u25 12 26 a0 (by decide))
                have f576 := cb_12_4 i548 k_a0
                have f577 : (q_I d546 12 4 a0).toInt = (q_I d264 12 4 a0).toInt := congrArg Int32.toInt (by rw [e547]; rfl)
                have f578 := cb_12_4 i266 k_a0
                have f579 : (q_I d264 12 4 a0).toInt = (q_I d245 12 4 a0).toInt := congrArg Int32.toInt (by rw [e265]; rfl)
                have f580 := cb_12_4 i247 k_a0
                have f581 : (q_I d245 12 4 a0).toInt = (q_I r183 12 4 a0).toInt := congrArg Int32.toInt (by rw [e246]; exact rI_o (by decide))
                have f582 := ti_b (q_I d546 12 7 a0)
                have f583 : (q_I d546 12 7 a0).toInt = (q_I d264 12 7 a0).toInt := congrArg Int32.toInt (by rw [e547]; rfl)
                have f584 := ti_b (q_I d264 12 7 a0)
                have f585 : (q_I d264 12 7 a0).toInt = (q_I d245 12 7 a0).toInt := congrArg Int32.toInt (by rw [e265]; rfl)
                have f586 := ti_b (q_I d245 12 7 a0)
                have f587 : (q_I d245 12 7 a0).toInt = (q_I r183 12 7 a0).toInt := congrArg Int32.toInt (by rw [e246]; exact rI_o (by decide))
                have f588 := ti_b (q_I r183 12 7 a0)
                have f589 : (q_I r183 12 7 a0).toInt = (q_I r133 12 7 a0).toInt := congrArg Int32.toInt (u188 12 7 a0 (by decide))
                have f590 := ti_b (q_I r133 12 7 a0)
                have f591 : (q_I r133 12 7 a0).toInt = (q_I r97.2 12 7 a0).toInt := congrArg Int32.toInt (u137 12 7 a0 (by decide))
                have f592 := ti_b (q_I r97.2 12 7 a0)
                have f593 : (q_I r97.2 12 7 a0).toInt = (q_I r48.2 12 7 a0).toInt := congrArg Int32.toInt (u102 12 7 a0 (by decide))
                have f594 := ti_b (q_I r48.2 12 7 a0)
                have f595 : (q_I r48.2 12 7 a0).toInt = (q_I r19.2 12 7 a0).toInt := congrArg Int32.toInt (u54 12 7 a0 (by decide))
                have f596 := ti_b (q_I r19.2 12 7 a0)
                have f597 : (q_I r19.2 12 7 a0).toInt = (q_I δ 12 7 a0).toInt := congrArg Int32.toInt (u25 12 7 a0 (by decide))
                have f598 := ti_b (q_I d546 12 5 a0)
                have f599 : (q_I d546 12 5 a0).toInt = (q_I d264 12 5 a0).toInt := congrArg Int32.toInt (by rw [e547]; rfl)
                have f600 := ti_b (q_I d264 12 5 a0)
                have f601 : (q_I d264 12 5 a0).toInt = (q_I d245 12 5 a0).toInt := congrArg Int32.toInt (by rw [e265]; rfl)
                have f602 := ti_b (q_I d245 12 5 a0)
                have f603 : (q_I d245 12 5 a0).toInt = (q_I r183 12 5 a0).toInt := congrArg Int32.toInt (by rw [e246]; exact rI_o (by decide))
                have f604 := ti_b (q_I r183 12 5 a0)
                have f605 : (q_I r183 12 5 a0).toInt = (q_I r133 12 5 a0).toInt := congrArg Int32.toInt (u188 12 5 a0 (by decide))
                refine ok_bind (k_X12_sum L hN (a0 := a0) k_a0 (show (q_I d546 12 24 a0).toInt ≤ 3 by first | assumption | omega) (show (q_I d546 12 26 a0).toInt ≤ (q_I d546 12 4 a0).toInt by first | assumption | omega) (show 0 ≤ (q_I d546 12 7 a0).toInt by first | assumption | omega) (show (q_I d546 12 7 a0).toInt ≤ 7 by first | assumption | omega) (show (q_I d546 12 7 a0).toInt = 7 → (q_I d546 12 5 a0).toInt ≠ -1 by first | assumption | omega) (show 8 - (q_I d546 12 7 a0).toInt < 20 by first | assumption | omega) i548) (fun r552 hr553 => ?_)
                obtain ⟨i606, ⟨u612, u613, u614⟩, p607, p608, p609, p610, p611⟩ := hr553
                have u615 := kp_t u549 u612
                have v616 : q_V r552 = q_V δ := (u613).trans v550
                have v617 := kr_t v551 u614
                have f618 := cb_12_4 i606 k_a0
                have f619 := ti_b (q_I r552 12 5 a0)
                have f620 := ti_b (q_I r552 12 7 a0)
                have f621 := cb_12_26 i606 k_a0
                obtain ⟨b622, o623, k624, n625, w626⟩ := gO_12_31 L k_a0
                obtain rfl := gS_12_31 L k_a0 o623
                refine ok_at o623 ?_
                refine ok_gd (fun hc627 => ?_) ?_
                · rcases hc627 with hc627 | hc627
                  · have c628 : vx213.toInt < (0 : Int) := o_lt hc627
                    omega
                  · omega
                refine ok_bdv (fun d629 e630 => ?_)
                have i631 : RI ad h.1 δ0 d629 := by rw [e630]; exact RI.sR L i606 w626
                have u632 := kp_N u615 (show q_I d629 = q_I r552 by rw [e630]; rfl)
                have v633 : q_V d629 = q_V δ := ((show q_V d629 = q_V r552 by rw [e630]; rfl)).trans v616
                have v634 := kr_s L (by decide) v617 e630
                refine ok_bind (k_X12_sign L hN (a0 := a0) (x1 := (59 : Int32)) k_a0 (show (59 : Int) ≠ 0 by first | assumption | omega) i631) (fun r635 hr636 => ?_)
                obtain ⟨i637, ⟨u641, u642, u643, u644⟩, p638, p639, p640⟩ := hr636
                have u645 := kp_t u632 u641
                have v646 : q_V r635 = q_V δ := (u642).trans v633
                have v647 := kr_t v634 u644
                have f648 := cb_12_4 i631 k_a0
                have f649 : (q_I d629 12 4 a0).toInt = (q_I r552 12 4 a0).toInt := congrArg Int32.toInt (by rw [e630]; rfl)
                have f650 := cb_12_4 i637 k_a0
                have f651 := ti_b (q_I d629 12 5 a0)
                have f652 : (q_I d629 12 5 a0).toInt = (q_I r552 12 5 a0).toInt := congrArg Int32.toInt (by rw [e630]; rfl)
                have f653 := ti_b (q_I r635 12 5 a0)
                unfold J_X12_readSteps_236
                have f654 := cb_12_24 i637 k_a0
                have f655 : (q_I r635 12 24 a0).toInt = (q_I d629 12 24 a0).toInt := congrArg Int32.toInt (u641 12 24 a0 (by decide))
                have f656 := cb_12_24 i631 k_a0
                have f657 : (q_I d629 12 24 a0).toInt = (q_I r552 12 24 a0).toInt := congrArg Int32.toInt (by rw [e630]; rfl)
                have f658 := cb_12_24 i606 k_a0
                have f659 : (q_I r552 12 24 a0).toInt = (q_I d546 12 24 a0).toInt := congrArg Int32.toInt (u612 12 24 a0 (by decide))
                have f660 := cb_12_26 i637 k_a0
                have f661 : (q_I r635 12 26 a0).toInt = (q_I d629 12 26 a0).toInt := congrArg Int32.toInt (u641 12 26 a0 (by decide))
                have f662 := cb_12_26 i631 k_a0
                have f663 : (q_I d629 12 26 a0).toInt = (q_I r552 12 26 a0).toInt := congrArg Int32.toInt (by rw [e630]; rfl)
                have f664 := ti_b (q_I r635 12 7 a0)
                have f665 : (q_I r635 12 7 a0).toInt = (q_I d629 12 7 a0).toInt := congrArg Int32.toInt (u641 12 7 a0 (by decide))
                have f666 := ti_b (q_I d629 12 7 a0)
                have f667 : (q_I d629 12 7 a0).toInt = (q_I r552 12 7 a0).toInt := congrArg Int32.toInt (by rw [e630]; rfl)
                have f668 := cb_12_27 i637 k_a0
                have f669 : (q_I r635 12 27 a0).toInt = (q_I d629 12 27 a0).toInt := congrArg Int32.toInt (u641 12 27 a0 (by decide))
                have f670 := cb_12_27 i631 k_a0
                have f671 : (q_I d629 12 27 a0).toInt = (q_I r552 12 27 a0).toInt := congrArg Int32.toInt (by rw [e630]; rfl)
                have f672 := cb_12_27 i606 k_a0
                have f673 : (q_I r552 12 27 a0).toInt = (q_I d546 12 27 a0).toInt := congrArg Int32.toInt (u612 12 27 a0 (by decide))
                have f674 := cb_12_27 i548 k_a0
                have f675 : (q_I d546 12 27 a0).toInt = (q_I d264 12 27 a0).toInt := congrArg Int32.toInt (by rw [e547]; rfl)
                have f676 := cb_12_27 i266 k_a0
                have f677 : (q_I d264 12 27 a0).toInt = (q_I d245 12 27 a0).toInt := congrArg Int32.toInt (by rw [e265]; rfl)
                have f678 := cb_12_27 i247 k_a0
                have f679 : (q_I d245 12 27 a0).toInt = (q_I r183 12 27 a0).toInt := congrArg Int32.toInt (by rw [e246]; exact rI_o (by decide))
                have f680 := cb_12_27 i185 k_a0
                have f681 : (q_I r183 12 27 a0).toInt = (q_I r133 12 27 a0).toInt := congrArg Int32.toInt (u188 12 27 a0 (by decide))
                have f682 := cb_12_27 i135 k_a0
                have f683 : (q_I r133 12 27 a0).toInt = (q_I r97.2 12 27 a0).toInt := congrArg Int32.toInt (u137 12 27 a0 (by decide))
                have f684 := cb_12_27 i99 k_a0
                have f685 : (q_I r97.2 12 27 a0).toInt = (q_I r48.2 12 27 a0).toInt := congrArg Int32.toInt (u102 12 27 a0 (by decide))
                have f686 := cb_12_27 i50 k_a0
                have f687 : (q_I r48.2 12 27 a0).toInt = (q_I r19.2 12 27 a0).toInt := congrArg Int32.toInt (u54 12 27 a0 (by decide))
                have f688 := cb_12_27 i21 k_a0
                have f689 : (q_I r19.2 12 27 a0).toInt = (q_I δ 12 27 a0).toInt := congrArg Int32.toInt (u25 12 27 a0 (by decide))
                refine ok_mono (ih r635 i637 (show (q_I r635 12 24 a0).toInt ≤ 3 by first | assumption | omega) (show (q_I r635 12 26 a0).toInt ≤ (q_I r635 12 4 a0).toInt by first | assumption | omega) (show (q_I r635 12 7 a0).toInt = 0 by first | assumption | omega) (show 4 - (q_I r635 12 27 a0).toInt ≤ K by first | assumption | omega) (show 501 - (q_I r635 12 4 a0).toInt < _ by omega)) (fun r690 hr691 => ?_)
                obtain ⟨i692, ⟨u698, u699, u700⟩, p693, p694, p695, p696, p697⟩ := hr691
                have u701 := kp_t u645 u698
                have v702 : q_V r690 = q_V δ := (u699).trans v646
                have v703 := kr_t v647 u700
                have f704 := cb_12_4 i692 k_a0
                have f705 := ti_b (q_I r690 12 5 a0)
                have f706 := ti_b (q_I r690 12 7 a0)
                have f707 := cb_12_27 i692 k_a0
                have f708 := cb_12_26 i692 k_a0
                exact ⟨by assumption, ⟨kp_w (by decide) u701, v702, kr_w (by decide) v703⟩, by first | assumption | omega, by first | assumption | omega, by first | assumption | omega, by first | assumption | omega, by first | assumption | omega⟩
          · have c709 : r123.1.toInt ≠ (-1 : Int) := o_ne h131
            have f710 := cb_12_25 i99 k_a0
            have f711 : (q_I r97.2 12 25 a0).toInt = (q_I r48.2 12 25 a0).toInt := congrArg Int32.toInt (u102 12 25 a0 (by decide))
            have f712 := cb_12_25 i50 k_a0
            have f713 : (q_I r48.2 12 25 a0).toInt = (q_I r19.2 12 25 a0).toInt := congrArg Int32.toInt (u54 12 25 a0 (by decide))
            have f714 := cb_12_25 i21 k_a0
            have f715 : (q_I r19.2 12 25 a0).toInt = (q_I δ 12 25 a0).toInt := congrArg Int32.toInt (u25 12 25 a0 (by decide))
            have f716 := cb_12_25 I k_a0
            refine ok_ite (fun h717 => ?_) (fun h717 => ?_)
            · have c718 : (q_I r97.2 12 25 a0).toInt = (60 : Int) := o_eq h717
              unfold J_X12_readSteps_70
              refine ok_bind (k_X12_wrong L hN (a0 := a0) (x1 := (3 : Int32)) (x2 := (q_I r97.2 12 4 a0)) k_a0 (show 0 ≤ ((q_I r97.2 12 4 a0)).toInt by first | assumption | omega) i99) (fun r719 hr720 => ?_)
              obtain ⟨i721, ⟨u723, u724, u725, u726⟩, p722⟩ := hr720
              have u727 := kp_t u106 u723
              have v728 : q_V r719 = q_V δ := (u724).trans v107
              have v729 := kr_t v108 u726
              have f730 := ti_b (q_I r719 12 5 a0)
              unfold J_X12_readSteps_79
              refine ok_bind (k_X12_fine L hN (a0 := a0) k_a0 i721) (fun r731 hr732 => ?_)
              obtain ⟨i733, p734, p735, p736⟩ := hr732
              try rw [i733]
              have f737 := bo_t p734
              have f738 := ti_b r731.1
              have f739 := ti_b r731.1
              refine ok_ite (fun h740 => ?_) (fun h740 => ?_)
              · have c741 : r731.1.toInt = (0 : Int) := o_eq h740
                have f742 := cb_12_4 i721 k_a0
                have f743 : (q_I r719 12 4 a0).toInt = (q_I r97.2 12 4 a0).toInt := congrArg Int32.toInt (u723 12 4 a0 (by decide))
                have f744 := ti_b (q_I r719 12 7 a0)
                have f745 : (q_I r719 12 7 a0).toInt = (q_I r97.2 12 7 a0).toInt := congrArg Int32.toInt (u723 12 7 a0 (by decide))
                have f746 := ti_b (q_I r97.2 12 7 a0)
                have f747 : (q_I r97.2 12 7 a0).toInt = (q_I r48.2 12 7 a0).toInt := congrArg Int32.toInt (u102 12 7 a0 (by decide))
                have f748 := ti_b (q_I r48.2 12 7 a0)
                have f749 : (q_I r48.2 12 7 a0).toInt = (q_I r19.2 12 7 a0).toInt := congrArg Int32.toInt (u54 12 7 a0 (by decide))
                have f750 := ti_b (q_I r19.2 12 7 a0)
                have f751 : (q_I r19.2 12 7 a0).toInt = (q_I δ 12 7 a0).toInt := congrArg Int32.toInt (u25 12 7 a0 (by decide))
                have f752 := cb_12_27 i721 k_a0
                have f753 : (q_I r719 12 27 a0).toInt = (q_I r97.2 12 27 a0).toInt := congrArg Int32.toInt (u723 12 27 a0 (by decide))
                have f754 := cb_12_27 i99 k_a0
                have f755 : (q_I r97.2 12 27 a0).toInt = (q_I r48.2 12 27 a0).toInt := congrArg Int32.toInt (u102 12 27 a0 (by decide))
                have f756 := cb_12_27 i50 k_a0
                have f757 : (q_I r48.2 12 27 a0).toInt = (q_I r19.2 12 27 a0).toInt := congrArg Int32.toInt (u54 12 27 a0 (by decide))
                have f758 := cb_12_27 i21 k_a0
                have f759 : (q_I r19.2 12 27 a0).toInt = (q_I δ 12 27 a0).toInt := congrArg Int32.toInt (u25 12 27 a0 (by decide))
                have f760 := cb_12_26 i721 k_a0
                have f761 : (q_I r719 12 26 a0).toInt = (q_I r97.2 12 26 a0).toInt := congrArg Int32.toInt (u723 12 26 a0 (by decide))
                have f762 := cb_12_26 i99 k_a0
                have f763 : (q_I r97.2 12 26 a0).toInt = (q_I r48.2 12 26 a0).toInt := congrArg Int32.toInt (u102 12 26 a0 (by decide))
                have f764 := cb_12_26 i50 k_a0
                have f765 : (q_I r48.2 12 26 a0).toInt = (q_I r19.2 12 26 a0).toInt := congrArg Int32.toInt (u54 12 26 a0 (by decide))
                have f766 := cb_12_26 i21 k_a0
                have f767 : (q_I r19.2 12 26 a0).toInt = (q_I δ 12 26 a0).toInt := congrArg Int32.toInt (u25 12 26 a0 (by decide))
                exact ok_some (show RI ad h.1 δ0 r719 ∧ (kp [(12, 4), (12, 5), (12, 6), (12, 7), (12, 25), (12, 26), (12, 27)] δ r719 ∧ q_V r719 = q_V δ ∧ kr ad [113, 114, 115, 116, 117] δ r719) ∧ (q_I δ 12 4 a0).toInt ≤ (q_I r719 12 4 a0).toInt ∧ ((q_I δ 12 5 a0).toInt ≠ -1 → (q_I r719 12 5 a0).toInt ≠ -1) ∧ (q_I r719 12 7 a0).toInt = (q_I δ 12 7 a0).toInt ∧ (q_I r719 12 27 a0).toInt = (q_I δ 12 27 a0).toInt ∧ (q_I r719 12 26 a0).toInt ≤ (q_I r719 12 4 a0).toInt from ⟨i721, ⟨kp_w (by decide) u727, v728, kr_w (by decide) v729⟩, by first | assumption | omega, by first | assumption | omega, by first | assumption | omega, by first | assumption | omega, by first | assumption | omega⟩)
              · have c768 : r731.1.toInt ≠ (0 : Int) := o_ne h740
                refine ok_bind (k_X12_pass L hN (a0 := a0) k_a0 i721) (fun r769 hr770 => ?_)
                obtain ⟨i771, ⟨u774, u775, u776, u777⟩, p772, p773⟩ := hr770
                have u778 := kp_t u727 u774
                have v779 : q_V r769 = q_V δ := (u775).trans v728
                have v780 := kr_t v729 u777
                have f781 := cb_12_4 i721 k_a0
                have f782 : (q_I r719 12 4 a0).toInt = (q_I r97.2 12 4 a0).toInt := congrArg Int32.toInt (u723 12 4 a0 (by decide))
                have f783 := cb_12_4 i771 k_a0
                have f784 : hc ad r719 a0 = (q_R r719 (Ad ad 101) (q_I r719 12 4 a0).toNatClampNeg).toInt := rfl
                have t785 := ti_tn (q_I r719 12 4 a0)
                have f786 : (q_R r719 (Ad ad 101) (q_I r719 12 4 a0).toNatClampNeg).toInt = (q_R r97.2 (Ad ad 101) (q_I r719 12 4 a0).toNatClampNeg).toInt := congrArg Int32.toInt (congrFun (u726 101 (by decide) (by decide) (by decide)) _)
                have f787 : (q_R r97.2 (Ad ad 101) (q_I r719 12 4 a0).toNatClampNeg).toInt = (q_R r48.2 (Ad ad 101) (q_I r719 12 4 a0).toNatClampNeg).toInt := congrArg Int32.toInt (congrFun (u105 101 (by decide) (by decide) (by decide)) _)
                have f788 : (q_R r48.2 (Ad ad 101) (q_I r719 12 4 a0).toNatClampNeg).toInt = (q_R r19.2 (Ad ad 101) (q_I r719 12 4 a0).toNatClampNeg).toInt := congrArg Int32.toInt (congrFun (u57 101 (by decide) (by decide) (by decide)) _)
                have f789 : (q_R r19.2 (Ad ad 101) (q_I r719 12 4 a0).toNatClampNeg).toInt = (q_R δ (Ad ad 101) (q_I r719 12 4 a0).toNatClampNeg).toInt := congrArg Int32.toInt (congrFun (u28 101 (by decide) (by decide) (by decide)) _)
                have f790 := ti_b (q_R δ (Ad ad 101) (q_I r719 12 4 a0).toNatClampNeg)
                have f791 := ti_b (q_R r19.2 (Ad ad 101) (q_I r719 12 4 a0).toNatClampNeg)
                have f792 := ti_b (q_R r48.2 (Ad ad 101) (q_I r719 12 4 a0).toNatClampNeg)
                have f793 := ti_b (q_R r97.2 (Ad ad 101) (q_I r719 12 4 a0).toNatClampNeg)
                have f794 := ti_b (q_R r719 (Ad ad 101) (q_I r719 12 4 a0).toNatClampNeg)
                have f795 := cb_12_3 i721 k_a0
                have f796 : (q_I r719 12 3 a0).toInt = (q_I r97.2 12 3 a0).toInt := congrArg Int32.toInt (u723 12 3 a0 (by decide))
                have f797 := cb_12_3 i99 k_a0
                have f798 : (q_I r97.2 12 3 a0).toInt = (q_I r48.2 12 3 a0).toInt := congrArg Int32.toInt (u102 12 3 a0 (by decide))
                have f802 := cb_12_24 i771 k_a0
                have f803 : (q_I r769 12 24 a0).toInt = (q_I r719 12 24 a0).toInt := congrArg Int32.toInt (u774 12 24 a0 (by decide))
                have f804 := cb_12_24 i721 k_a0
                have f805 : (q_I r719 12 24 a0).toInt = (q_I r97.2 12 24 a0).toInt := congrArg Int32.toInt (u723 12 24 a0 (by decide))
                have f806 := cb_12_24 i99 k_a0
                have f807 : (q_I r97.2 12 24 a0).toInt = (q_I r48.2 12 24 a0).toInt := congrArg Int32.toInt (u102 12 24 a0 (by decide))
                have f808 := cb_12_24 i50 k_a0
                have f809 : (q_I r48.2 12 24 a0).toInt = (q_I r19.2 12 24 a0).toInt := congrArg Int32.toInt (u54 12 24 a0 (by decide))
                have f810 := cb_12_24 i21 k_a0
                have f811 : (q_I r19.2 12 24 a0).toInt = (q_I δ 12 24 a0).toInt := congrArg Int32.toInt (u25 12 24 a0 (by decide))
                first | (have q812 := te_mulc (c := 60) (n := 60) rfl (q_I r769 12 24 a0) (by omega) (by omega); obtain ⟨f813, f814, f815⟩ := q812) | (obtain ⟨q812, f813, f814, f815⟩ := ti_mulc (c := 60) (n := 60) rfl (q_I r769 12 24 a0))
                have f816 := cb_12_25 i771 k_a0
                have f817 : (q_I r769 12 25 a0).toInt = (q_I r719 12 25 a0).toInt := congrArg Int32.toInt (u774 12 25 a0 (by decide))
                have f818 := cb_12_25 i721 k_a0
                have f819 : (q_I r719 12 25 a0).toInt = (q_I r97.2 12 25 a0).toInt := congrArg Int32.toInt (u723 12 25 a0 (by decide))
                refine ok_biv (fun vx799 e800 => ?_)
                first | (have q820 := te_add ((60 : Int32) * (q_I r769 12 24 a0)) (q_I r769 12 25 a0) (by omega) (by omega); rw [← e800] at q820; obtain ⟨f821, f822, f823⟩ := q820) | (obtain ⟨q820, f821, f822, f823⟩ : ∃ q : Int, vx799.toInt = ((60 : Int32) * (q_I r769 12 24 a0)).toInt + (q_I r769 12 25 a0).toInt + 4294967296 * q ∧ -2147483648 ≤ vx799.toInt ∧ vx799.toInt ≤ 2147483647 := by rw [e800]; exact ti_add ((60 : Int32) * (q_I r769 12 24 a0)) (q_I r769 12 25 a0))
                first | (have q828 := te_addc (c := 1) (n := 1) rfl (q_I r769 12 25 a0) (by omega) (by omega); obtain ⟨f829, f830, f831⟩ := q828) | (obtain ⟨q828, f829, f830, f831⟩ := ti_addc (c := 1) (n := 1) rfl (q_I r769 12 25 a0))
                refine ok_bdv (fun d824 e825 => ?_)
                have i826 : RI ad h.1 δ0 d824 := by rw [e825]; exact cs_12_25 L i771 k_a0 (show 0 ≤ ((q_I r769 12 25 a0) + (1 : Int32)).toInt by omega) (show ((q_I r769 12 25 a0) + (1 : Int32)).toInt ≤ 60 by omega)
                have u832 := kp_I u778 e825
                have v833 : q_V d824 = q_V δ := ((show q_V d824 = q_V r769 by rw [e825]; rfl)).trans v779
                have v834 := kr_N v780 (show q_R d824 = q_R r769 by rw [e825]; rfl)
                obtain ⟨b835, o836, k837, n838, w839⟩ := gO_12_29 L k_a0
                obtain rfl := gS_12_29 L k_a0 o836
                refine ok_at o836 ?_
                have t840 := ti_tn vx799
                refine ok_gd (fun hc841 => ?_) ?_
                · rcases hc841 with hc841 | hc841
                  · have c842 : vx799.toInt < (0 : Int) := o_lt hc841
                    omega
                  · omega
                refine ok_bdv (fun d843 e844 => ?_)
                have i845 : RI ad h.1 δ0 d843 := by rw [e844]; exact RI.sR L i826 w839
                have u846 := kp_N u832 (show q_I d843 = q_I d824 by rw [e844]; rfl)
                have v847 : q_V d843 = q_V δ := ((show q_V d843 = q_V d824 by rw [e844]; rfl)).trans v833
                have v848 := kr_s L (by decide) v834 e844
                refine ok_ite (fun h849 => ?_) (fun h849 => ?_)
                · have c850 : r123.1.toInt = (5 : Int) := o_eq h849
                  obtain ⟨b851, o852, k853, n854, w855⟩ := gO_12_30 L k_a0
                  obtain rfl := gS_12_30 L k_a0 o852
                  refine ok_at o852 ?_
                  refine ok_bind (k_X12_readNumber L hN (a0 := a0) (x1 := (1 : Int32)) (x2 := (99 : Int32)) k_a0 i845) (fun r856 hr857 => ?_)
                  obtain ⟨i858, ⟨u865, u866, u867, u868⟩, p859, p860, p861, p862, p863, p864⟩ := hr857
                  have u869 := kp_t u846 u865
                  have v870 : q_V r856.2 = q_V δ := (u866).trans v847
                  have v871 := kr_t v848 u868
                  have f872 := cb_12_4 i845 k_a0
                  have f873 : (q_I d843 12 4 a0).toInt = (q_I d824 12 4 a0).toInt := congrArg Int32.toInt (by rw [e844]; rfl)
                  have f874 := cb_12_4 i826 k_a0
                  have f875 : (q_I d824 12 4 a0).toInt = (q_I r769 12 4 a0).toInt := congrArg Int32.toInt (by rw [e825]; exact rI_o (by decide))
                  have f876 := cb_12_4 i858 k_a0
                  have f877 := ti_b (q_I d843 12 5 a0)
                  have f878 : (q_I d843 12 5 a0).toInt = (q_I d824 12 5 a0).toInt := congrArg Int32.toInt (by rw [e844]; rfl)
                  have f879 := ti_b (q_I d824 12 5 a0)
                  have f880 : (q_I d824 12 5 a0).toInt = (q_I r769 12 5 a0).toInt := congrArg Int32.toInt (by rw [e825]; exact rI_o (by decide))
                  have f881 := ti_b (q_I r769 12 5 a0)
                  have f882 : (q_I r769 12 5 a0).toInt = (q_I r719 12 5 a0).toInt := congrArg Int32.toInt (u774 12 5 a0 (by decide))
                  have f883 := ti_b (q_I r856.2 12 5 a0)
                  have f884 := ti_b r856.1
                  replace p864 : ((q_I r856.2 12 5 a0).toInt = -1 → (1 : Int) ≤ (r856.1).toInt ∧ (r856.1).toInt ≤ (99 : Int)) := p864
                  have f885 := ti_b r856.1
                  refine ok_gd (fun hc886 => ?_) ?_
                  · rcases hc886 with hc886 | hc886
                    · have c887 : vx799.toInt < (0 : Int) := o_lt hc886
                      omega
                    · omega
                  refine ok_bdv (fun d888 e889 => ?_)
                  have i890 : RI ad h.1 δ0 d888 := by rw [e889]; exact RI.sR L i858 w855
                  have u891 := kp_N u869 (show q_I d888 = q_I r856.2 by rw [e889]; rfl)
                  have v892 : q_V d888 = q_V δ := ((show q_V d888 = q_V r856.2 by rw [e889]; rfl)).trans v870
                  have v893 := kr_s L (by decide) v871 e889
                  refine ok_bind (k_X12_sign L hN (a0 := a0) (x1 := (91 : Int32)) k_a0 (show (91 : Int) ≠ 0 by first | assumption | omega) i890) (fun r894 hr895 => ?_)
                  obtain ⟨i896, ⟨u900, u901, u902, u903⟩, p897, p898, p899⟩ := hr895
                  have u904 := kp_t u891 u900
                  have v905 : q_V r894 = q_V δ := (u901).trans v892
                  have v906 := kr_t v893 u903
                  have f907 := cb_12_4 i890 k_a0
                  have f908 : (q_I d888 12 4 a0).toInt = (q_I r856.2 12 4 a0).toInt := congrArg Int32.toInt (by rw [e889]; rfl)
                  have f909 := cb_12_4 i896 k_a0
                  have f910 := ti_b (q_I d888 12 5 a0)
                  have f911 : (q_I d888 12 5 a0).toInt = (q_I r856.2 12 5 a0).toInt := congrArg Int32.toInt (by rw [e889]; rfl)
                  have f912 := ti_b (q_I r894 12 5 a0)
                  have f916 := cb_12_27 i896 k_a0
                  have f917 : (q_I r894 12 27 a0).toInt = (q_I d888 12 27 a0).toInt := congrArg Int32.toInt (u900 12 27 a0 (by decide))
                  have f918 := cb_12_27 i890 k_a0
                  have f919 : (q_I d888 12 27 a0).toInt = (q_I r856.2 12 27 a0).toInt := congrArg Int32.toInt (by rw [e889]; rfl)
                  have f920 := cb_12_27 i858 k_a0
                  have f921 : (q_I r856.2 12 27 a0).toInt = (q_I d843 12 27 a0).toInt := congrArg Int32.toInt (u865 12 27 a0 (by decide))
                  have f922 := cb_12_27 i845 k_a0
                  have f923 : (q_I d843 12 27 a0).toInt = (q_I d824 12 27 a0).toInt := congrArg Int32.toInt (by rw [e844]; rfl)
                  have f924 := cb_12_27 i826 k_a0
                  have f925 : (q_I d824 12 27 a0).toInt = (q_I r769 12 27 a0).toInt := congrArg Int32.toInt (by rw [e825]; exact rI_o (by decide))
                  have f926 := cb_12_27 i771 k_a0
                  have f927 : (q_I r769 12 27 a0).toInt = (q_I r719 12 27 a0).toInt := congrArg Int32.toInt (u774 12 27 a0 (by decide))
                  have f928 := cb_12_27 i721 k_a0
                  have f929 : (q_I r719 12 27 a0).toInt = (q_I r97.2 12 27 a0).toInt := congrArg Int32.toInt (u723 12 27 a0 (by decide))
                  have f930 := cb_12_27 i99 k_a0
                  have f931 : (q_I r97.2 12 27 a0).toInt = (q_I r48.2 12 27 a0).toInt := congrArg Int32.toInt (u102 12 27 a0 (by decide))
                  have f932 := cb_12_27 i50 k_a0
                  have f933 : (q_I r48.2 12 27 a0).toInt = (q_I r19.2 12 27 a0).toInt := congrArg Int32.toInt (u54 12 27 a0 (by decide))
                  have f934 := cb_12_27 i21 k_a0
                  have f935 : (q_I r19.2 12 27 a0).toInt = (q_I δ 12 27 a0).toInt := congrArg Int32.toInt (u25 12 27 a0 (by decide))
                  first | (have q937 := te_addc (c := 1) (n := 1) rfl (q_I r894 12 27 a0) (by omega) (by omega); obtain ⟨f938, f939, f940⟩ := q937) | (obtain ⟨q937, f938, f939, f940⟩ := ti_addc (c := 1) (n := 1) rfl (q_I r894 12 27 a0))
                  refine ok_bdv (fun d913 e914 => ?_)
                  have i915 : RI ad h.1 δ0 d913 := by rw [e914]; exact cs_12_27 L i896 k_a0 (show 0 ≤ ((q_I r894 12 27 a0) + (1 : Int32)).toInt by omega) (show ((q_I r894 12 27 a0) + (1 : Int32)).toInt ≤ 3 by omega)
                  have u941 := kp_I u904 e914
                  have v942 : q_V d913 = q_V δ := ((show q_V d913 = q_V r894 by rw [e914]; rfl)).trans v905
                  have v943 := kr_N v906 (show q_R d913 = q_R r894 by rw [e914]; rfl)
                  have f946 := cb_12_24 i915 k_a0
                  have f947 : (q_I d913 12 24 a0).toInt = (q_I r894 12 24 a0).toInt := congrArg Int32.toInt (by rw [e914]; exact rI_o (by decide))
                  have f948 := cb_12_24 i896 k_a0
                  have f949 : (q_I r894 12 24 a0).toInt = (q_I d888 12 24 a0).toInt := congrArg Int32.toInt (u900 12 24 a0 (by decide))
                  have f950 := cb_12_24 i890 k_a0
                  have f951 : (q_I d888 12 24 a0).toInt = (q_I r856.2 12 24 a0).toInt := congrArg Int32.toInt (by rw [e889]; rfl)
                  have f952 := cb_12_24 i858 k_a0
                  have f953 : (q_I r856.2 12 24 a0).toInt = (q_I d843 12 24 a0).toInt := congrArg Int32.toInt (u865 12 24 a0 (by decide))
                  have f954 := cb_12_24 i845 k_a0
                  have f955 : (q_I d843 12 24 a0).toInt = (q_I d824 12 24 a0).toInt := congrArg Int32.toInt (by rw [e844]; rfl)
                  have f956 := cb_12_24 i826 k_a0
                  have f957 : (q_I d824 12 24 a0).toInt = (q_I r769 12 24 a0).toInt := congrArg Int32.toInt (by rw [e825]; exact rI_o (by decide))
                  have f958 := cb_12_26 i915 k_a0
                  have f959 : (q_I d913 12 26 a0).toInt = (q_I r894 12 26 a0).toInt := congrArg Int32.toInt (by rw [e914]; exact rI_o (by decide))
                  have f960 := cb_12_26 i896 k_a0
                  have f961 : (q_I r894 12 26 a0).toInt = (q_I d888 12 26 a0).toInt := congrArg Int32.toInt (u900 12 26 a0 (by decide))
                  have f962 := cb_12_26 i890 k_a0
                  have f963 : (q_I d888 12 26 a0).toInt = (q_I r856.2 12 26 a0).toInt := congrArg Int32.toInt (by rw [e889]; rfl)
                  have f964 := cb_12_26 i858 k_a0
                  have f965 : (q_I r856.2 12 26 a0).toInt = (q_I d843 12 26 a0).toInt := congrArg Int32.toInt (u865 12 26 a0 (by decide))
                  have f966 := cb_12_26 i845 k_a0
                  have f967 : (q_I d843 12 26 a0).toInt = (q_I d824 12 26 a0).toInt := congrArg Int32.toInt (by rw [e844]; rfl)
                  have f968 := cb_12_26 i826 k_a0
                  have f969 : (q_I d824 12 26 a0).toInt = (q_I r769 12 26 a0).toInt := congrArg Int32.toInt (by rw [e825]; exact rI_o (by decide))
                  have f970 := cb_12_26 i771 k_a0
                  have f971 : (q_I r769 12 26 a0).toInt = (q_I r719 12 26 a0).toInt := congrArg Int32.toInt (u774 12 26 a0 (by decide))
                  have f972 := cb_12_26 i721 k_a0
                  have f973 : (q_I r719 12 26 a0).toInt = (q_I r97.2 12 26 a0).toInt := congrArg Int32.toInt (u723 12 26 a0 (by decide))
                  have f974 := cb_12_26 i99 k_a0
                  have f975 : (q_I r97.2 12 26 a0).toInt = (q_I r48.2 12 26 a0).toInt := congrArg Int32.toInt (u102 12 26 a0 (by decide))
                  have f976 := cb_12_26 i50 k_a0
                  have f977 : (q_I r48.2 12 26 a0).toInt = (q_I r19.2 12 26 a0).toInt := congrArg Int32.toInt (u54 12 26 a0 (by decide))
                  have f978 := cb_12_26 i21 k_a0
                  have f979 : (q_I r19.2 12 26 a0).toInt = (q_I δ 12 26 a0).toInt := congrArg Int32.toInt (u25 12 26 a0 (by decide))
                  have f980 := cb_12_4 i915 k_a0
                  have f981 : (q_I d913 12 4 a0).toInt = (q_I r894 12 4 a0).toInt := congrArg Int32.toInt (by rw [e914]; exact rI_o (by decide))
                  have f982 := ti_b (q_I d913 12 7 a0)
                  have f983 : (q_I d913 12 7 a0).toInt = (q_I r894 12 7 a0).toInt := congrArg Int32.toInt (by rw [e914]; exact rI_o (by decide))
                  have f984 := ti_b (q_I r894 12 7 a0)
                  have f985 : (q_I r894 12 7 a0).toInt = (q_I d888 12 7 a0).toInt := congrArg Int32.toInt (u900 12 7 a0 (by decide))
                  have f986 := ti_b (q_I d888 12 7 a0)
                  have f987 : (q_I d888 12 7 a0).toInt = (q_I r856.2 12 7 a0).toInt := congrArg Int32.toInt (by rw [e889]; rfl)
                  have f988 := ti_b (q_I r856.2 12 7 a0)
                  have f989 : (q_I r856.2 12 7 a0).toInt = (q_I d843 12 7 a0).toInt := congrArg Int32.toInt (u865 12 7 a0 (by decide))
                  have f990 := ti_b (q_I d843 12 7 a0)
                  have f991 : (q_I d843 12 7 a0).toInt = (q_I d824 12 7 a0).toInt := congrArg Int32.toInt (by rw [e844]; rfl)
                  have f992 := ti_b (q_I d824 12 7 a0)
                  have f993 : (q_I d824 12 7 a0).toInt = (q_I r769 12 7 a0).toInt := congrArg Int32.toInt (by rw [e825]; exact rI_o (by decide))
                  have f994 := ti_b (q_I r769 12 7 a0)
                  have f995 : (q_I r769 12 7 a0).toInt = (q_I r719 12 7 a0).toInt := congrArg Int32.toInt (u774 12 7 a0 (by decide))
                  have f996 := ti_b (q_I r719 12 7 a0)
                  have f997 : (q_I r719 12 7 a0).toInt = (q_I r97.2 12 7 a0).toInt := congrArg Int32.toInt (u723 12 7 a0 (by decide))
                  have f998 := ti_b (q_I r97.2 12 7 a0)
                  have f999 : (q_I r97.2 12 7 a0).toInt = (q_I r48.2 12 7 a0).toInt := congrArg Int32.toInt (u102 12 7 a0 (by decide))
                  have f1000 := ti_b (q_I r48.2 12 7 a0)
                  have f1001 : (q_I r48.2 12 7 a0).toInt = (q_I r19.2 12 7 a0).toInt := congrArg Int32.toInt (u54 12 7 a0 (by decide))
                  have f1002 := ti_b (q_I r19.2 12 7 a0)
                  have f1003 : (q_I r19.2 12 7 a0).toInt = (q_I δ 12 7 a0).toInt := congrArg Int32.toInt (u25 12 7 a0 (by decide))
                  have f1004 := cb_12_27 i915 k_a0
                  have f1005 : (q_I d913 12 27 a0).toInt = ((q_I r894 12 27 a0) + (1 : Int32)).toInt := congrArg Int32.toInt (show q_I d913 12 27 a0 = ((q_I r894 12 27 a0) + (1 : Int32)) by rw [e914]; exact rI_s)
                  refine ok_bind (hT a0 d913 k_a0 (show (q_I d913 12 24 a0).toInt ≤ 3 by first | assumption | omega) (show (q_I d913 12 26 a0).toInt ≤ (q_I d913 12 4 a0).toInt by first | assumption | omega) (show (q_I d913 12 7 a0).toInt = 0 by first | assumption | omega) (show 4 - (q_I d913 12 27 a0).toInt < _ by first | assumption | omega) i915) (fun r944 hr945 => ?_)
                  obtain ⟨i1006, ⟨u1012, u1013, u1014⟩, p1007, p1008, p1009, p1010, p1011⟩ := hr945
                  have u1015 := kp_t u941 u1012
                  have v1016 : q_V r944 = q_V δ := (u1013).trans v942
                  have v1017 := kr_t v943 u1014
                  have f1018 := cb_12_4 i1006 k_a0
                  have f1019 := ti_b (q_I d913 12 5 a0)
                  have f1020 : (q_I d913 12 5 a0).toInt = (q_I r894 12 5 a0).toInt := congrArg Int32.toInt (by rw [e914]; exact rI_o (by decide))
                  have f1021 := ti_b (q_I r944 12 5 a0)
                  have f1022 := ti_b (q_I r944 12 7 a0)
                  have f1023 := cb_12_27 i1006 k_a0
                  have f1024 := cb_12_26 i1006 k_a0
                  first | (have q1029 := te_subc (c := 1) (n := 1) rfl (q_I r944 12 27 a0) (by omega) (by omega); obtain ⟨f1030, f1031, f1032⟩ := q1029) | (obtain ⟨q1029, f1030, f1031, f1032⟩ := ti_subc (c := 1) (n := 1) rfl (q_I r944 12 27 a0))
                  refine ok_bdv (fun d1025 e1026 => ?_)
                  have i1027 : RI ad h.1 δ0 d1025 := by rw [e1026]; exact cs_12_27 L i1006 k_a0 (show 0 ≤ ((q_I r944 12 27 a0) - (1 : Int32)).toInt by omega) (show ((q_I r944 12 27 a0) - (1 : Int32)).toInt ≤ 3 by omega)
                  have u1033 := kp_I u1015 e1026
                  have v1034 : q_V d1025 = q_V δ := ((show q_V d1025 = q_V r944 by rw [e1026]; rfl)).trans v1016
                  have v1035 := kr_N v1017 (show q_R d1025 = q_R r944 by rw [e1026]; rfl)
                  refine ok_bind (k_X12_sign L hN (a0 := a0) (x1 := (93 : Int32)) k_a0 (show (93 : Int) ≠ 0 by first | assumption | omega) i1027) (fun r1036 hr1037 => ?_)
                  obtain ⟨i1038, ⟨u1042, u1043, u1044, u1045⟩, p1039, p1040, p1041⟩ := hr1037
                  have u1046 := kp_t u1033 u1042
                  have v1047 : q_V r1036 = q_V δ := (u1043).trans v1034
                  have v1048 := kr_t v1035 u1045
                  have f1049 := cb_12_4 i1027 k_a0
                  have f1050 : (q_I d1025 12 4 a0).toInt = (q_I r944 12 4 a0).toInt := congrArg Int32.toInt (by rw [e1026]; exact rI_o (by decide))
                  have f1051 := cb_12_4 i1038 k_a0
                  have f1052 := ti_b (q_I d1025 12 5 a0)
                  have f1053 : (q_I d1025 12 5 a0).toInt = (q_I r944 12 5 a0).toInt := congrArg Int32.toInt (by rw [e1026]; exact rI_o (by decide))
                  have f1054 := ti_b (q_I r1036 12 5 a0)
                  obtain ⟨b1055, o1056, k1057, n1058, w1059⟩ := gO_12_31 L k_a0
                  obtain rfl := gS_12_31 L k_a0 o1056
                  refine ok_at o1056 ?_
                  refine ok_gd (fun hc1060 => ?_) ?_
                  · rcases hc1060 with hc1060 | hc1060
                    · have c1061 : vx799.toInt < (0 : Int) := o_lt hc1060
                      omega
                    · omega
                  refine ok_bdv (fun d1062 e1063 => ?_)
                  have i1064 : RI ad h.1 δ0 d1062 := by rw [e1063]; exact RI.sR L i1038 w1059
                  have u1065 := kp_N u1046 (show q_I d1062 = q_I r1036 by rw [e1063]; rfl)
                  have v1066 : q_V d1062 = q_V δ := ((show q_V d1062 = q_V r1036 by rw [e1063]; rfl)).trans v1047
                  have v1067 := kr_s L (by decide) v1048 e1063
                  unfold J_X12_readSteps_236
                  have f1068 := cb_12_24 i1064 k_a0
                  have f1069 : (q_I d1062 12 24 a0).toInt = (q_I r1036 12 24 a0).toInt := congrArg Int32.toInt (by rw [e1063]; rfl)
                  have f1070 := cb_12_24 i1038 k_a0
                  have f1071 : (q_I r1036 12 24 a0).toInt = (q_I d1025 12 24 a0).toInt := congrArg Int32.toInt (u1042 12 24 a0 (by decide))
                  have f1072 := cb_12_24 i1027 k_a0
                  have f1073 : (q_I d1025 12 24 a0).toInt = (q_I r944 12 24 a0).toInt := congrArg Int32.toInt (by rw [e1026]; exact rI_o (by decide))
                  have f1074 := cb_12_24 i1006 k_a0
                  have f1075 : (q_I r944 12 24 a0).toInt = (q_I d913 12 24 a0).toInt := congrArg Int32.toInt (u1012 12 24 a0 (by decide))
                  have f1076 := cb_12_26 i1064 k_a0
                  have f1077 : (q_I d1062 12 26 a0).toInt = (q_I r1036 12 26 a0).toInt := congrArg Int32.toInt (by rw [e1063]; rfl)
                  have f1078 := cb_12_26 i1038 k_a0
                  have f1079 : (q_I r1036 12 26 a0).toInt = (q_I d1025 12 26 a0).toInt := congrArg Int32.toInt (u1042 12 26 a0 (by decide))
                  have f1080 := cb_12_26 i1027 k_a0
                  have f1081 : (q_I d1025 12 26 a0).toInt = (q_I r944 12 26 a0).toInt := congrArg Int32.toInt (by rw [e1026]; exact rI_o (by decide))
                  have f1082 := cb_12_4 i1064 k_a0
                  have f1083 : (q_I d1062 12 4 a0).toInt = (q_I r1036 12 4 a0).toInt := congrArg Int32.toInt (by rw [e1063]; rfl)
                  have f1084 := ti_b (q_I d1062 12 7 a0)
                  have f1085 : (q_I d1062 12 7 a0).toInt = (q_I r1036 12 7 a0).toInt := congrArg Int32.toInt (by rw [e1063]; rfl)
                  have f1086 := ti_b (q_I r1036 12 7 a0)
                  have f1087 : (q_I r1036 12 7 a0).toInt = (q_I d1025 12 7 a0).toInt := congrArg Int32.toInt (u1042 12 7 a0 (by decide))
                  have f1088 := ti_b (q_I d1025 12 7 a0)
                  have f1089 : (q_I d1025 12 7 a0).toInt = (q_I r944 12 7 a0).toInt := congrArg Int32.toInt (by rw [e1026]; exact rI_o (by decide))
                  have f1090 := cb_12_27 i1064 k_a0
                  have f1091 : (q_I d1062 12 27 a0).toInt = (q_I r1036 12 27 a0).toInt := congrArg Int32.toInt (by rw [e1063]; rfl)
                  have f1092 := cb_12_27 i1038 k_a0
                  have f1093 : (q_I r1036 12 27 a0).toInt = (q_I d1025 12 27 a0).toInt := congrArg Int32.toInt (u1042 12 27 a0 (by decide))
                  have f1094 := cb_12_27 i1027 k_a0
                  have f1095 : (q_I d1025 12 27 a0).toInt = ((q_I r944 12 27 a0) - (1 : Int32)).toInt := congrArg Int32.toInt (show q_I d1025 12 27 a0 = ((q_I r944 12 27 a0) - (1 : Int32)) by rw [e1026]; exact rI_s)
                  refine ok_mono (ih d1062 i1064 (show (q_I d1062 12 24 a0).toInt ≤ 3 by first | assumption | omega) (show (q_I d1062 12 26 a0).toInt ≤ (q_I d1062 12 4 a0).toInt by first | assumption | omega) (show (q_I d1062 12 7 a0).toInt = 0 by first | assumption | omega) (show 4 - (q_I d1062 12 27 a0).toInt ≤ K by first | assumption | omega) (show 501 - (q_I d1062 12 4 a0).toInt < _ by omega)) (fun r1096 hr1097 => ?_)
                  obtain ⟨i1098, ⟨u1104, u1105, u1106⟩, p1099, p1100, p1101, p1102, p1103⟩ := hr1097
                  have u1107 := kp_t u1065 u1104
                  have v1108 : q_V r1096 = q_V δ := (u1105).trans v1066
                  have v1109 := kr_t v1067 u1106
                  have f1110 := cb_12_4 i1098 k_a0
                  have f1111 := ti_b (q_I d1062 12 5 a0)
                  have f1112 : (q_I d1062 12 5 a0).toInt = (q_I r1036 12 5 a0).toInt := congrArg Int32.toInt (by rw [e1063]; rfl)
                  have f1113 := ti_b (q_I r1096 12 5 a0)
                  have f1114 := ti_b (q_I r1096 12 7 a0)
                  have f1115 := cb_12_27 i1098 k_a0
                  have f1116 := cb_12_26 i1098 k_a0
                  exact ⟨by assumption, ⟨kp_w (by decide) u1107, v1108, kr_w (by decide) v1109⟩, by first | assumption | omega, by first | assumption | omega, by first | assumption | omega, by first | assumption | omega, by first | assumption | omega⟩
                · have c1117 : r123.1.toInt ≠ (5 : Int) := o_ne h849
                  obtain ⟨b1118, o1119, k1120, n1121, w1122⟩ := gO_12_30 L k_a0
                  obtain rfl := gS_12_30 L k_a0 o1119
                  refine ok_at o1119 ?_
                  refine ok_gd (fun hc1123 => ?_) ?_
                  · rcases hc1123 with hc1123 | hc1123
                    · have c1124 : vx799.toInt < (0 : Int) := o_lt hc1123
                      omega
                    · omega
                  refine ok_bdv (fun d1125 e1126 => ?_)
                  have i1127 : RI ad h.1 δ0 d1125 := by rw [e1126]; exact RI.sR L i845 w1122
                  have u1128 := kp_N u846 (show q_I d1125 = q_I d843 by rw [e1126]; rfl)
                  have v1129 : q_V d1125 = q_V δ := ((show q_V d1125 = q_V d843 by rw [e1126]; rfl)).trans v847
                  have v1130 := kr_s L (by decide) v848 e1126
                  have f1133 := cb_12_24 i1127 k_a0
                  have f1134 : (q_I d1125 12 24 a0).toInt = (q_I d843 12 24 a0).toInt := congrArg Int32.toInt (by rw [e1126]; rfl)
                  have f1135 := cb_12_24 i845 k_a0
                  have f1136 : (q_I d843 12 24 a0).toInt = (q_I d824 12 24 a0).toInt := congrArg Int32.toInt (by rw [e844]; rfl)
                  have f1137 := cb_12_24 i826 k_a0
                  have f1138 : (q_I d824 12 24 a0).toInt = (q_I r769 12 24 a0).toInt := congrArg Int32.toInt (by rw [e825]; exact rI_o (by decide))
                  have f1139 := cb_12_26 i1127 k_a0
                  have f1140 : (q_I d1125 12 26 a0).toInt = (q_I d843 12 26 a0).toInt := congrArg Int32.toInt (by rw [e1126]; rfl)
                  have f1141 := cb_12_26 i845 k_a0
                  have f1142 : (q_I d843 12 26 a0).toInt = (q_I d824 12 26 a0).toInt := congrArg Int32.toInt (by rw [e844]; rfl)
                  have f1143 := cb_12_26 i826 k_a0
                  have f1144 : (q_I d824 12 26 a0).toInt = (q_I r769 12 26 a0).toInt := congrArg Int32.toInt (by rw [e825]; exact rI_o (by decide))
                  have f1145 := cb_12_26 i771 k_a0
                  have f1146 : (q_I r769 12 26 a0).toInt = (q_I r719 12 26 a0).toInt := congrArg Int32.toInt (u774 12 26 a0 (by decide))
                  have f1147 := cb_12_26 i721 k_a0
                  have f1148 : (q_I r719 12 26 a0).toInt = (q_I r97.2 12 26 a0).toInt := congrArg Int32.toInt (u723 12 26 a0 (by decide))
                  have f1149 := cb_12_26 i99 k_a0
                  have f1150 : (q_I r97.2 12 26 a0).toInt = (q_I r48.2 12 26 a0).toInt := congrArg Int32.toInt (u102 12 26 a0 (by decide))
                  have f1151 := cb_12_26 i50 k_a0
                  have f1152 : (q_I r48.2 12 26 a0).toInt = (q_I r19.2 12 26 a0).toInt := congrArg Int32.toInt (u54 12 26 a0 (by decide))
                  have f1153 := cb_12_26 i21 k_a0
                  have f1154 : (q_I r19.2 12 26 a0).toInt = (q_I δ 12 26 a0).toInt := congrArg Int32.toInt (u25 12 26 a0 (by decide))
                  have f1155 := cb_12_4 i1127 k_a0
                  have f1156 : (q_I d1125 12 4 a0).toInt = (q_I d843 12 4 a0).toInt := congrArg Int32.toInt (by rw [e1126]; rfl)
                  have f1157 := cb_12_4 i845 k_a0
                  have f1158 : (q_I d843 12 4 a0).toInt = (q_I d824 12 4 a0).toInt := congrArg Int32.toInt (by rw [e844]; rfl)
                  have f1159 := cb_12_4 i826 k_a0
                  have f1160 : (q_I d824 12 4 a0).toInt = (q_I r769 12 4 a0).toInt := congrArg Int32.toInt (by rw [e825]; exact rI_o (by decide))
                  have f1161 := ti_b (q_I d1125 12 7 a0)
                  have f1162 : (q_I d1125 12 7 a0).toInt = (q_I d843 12 7 a0).toInt := congrArg Int32.toInt (by rw [e1126]; rfl)
                  have f1163 := ti_b (q_I d843 12 7 a0)
                  have f1164 : (q_I d843 12 7 a0).toInt = (q_I d824 12 7 a0).toInt := congrArg Int32.toInt (by rw [e844]; rfl)
                  have f1165 := ti_b (q_I d824 12 7 a0)
                  have f1166 : (q_I d824 12 7 a0).toInt = (q_I r769 12 7 a0).toInt := congrArg Int32.toInt (by rw [e825]; exact rI_o (by decide))
                  have f1167 := ti_b (q_I r769 12 7 a0)
                  have f1168 : (q_I r769 12 7 a0).toInt = (q_I r719 12 7 a0).toInt := congrArg Int32.toInt (u774 12 7 a0 (by decide))
                  have f1169 := ti_b (q_I r719 12 7 a0)
                  have f1170 : (q_I r719 12 7 a0).toInt = (q_I r97.2 12 7 a0).toInt := congrArg Int32.toInt (u723 12 7 a0 (by decide))
                  have f1171 := ti_b (q_I r97.2 12 7 a0)
                  have f1172 : (q_I r97.2 12 7 a0).toInt = (q_I r48.2 12 7 a0).toInt := congrArg Int32.toInt (u102 12 7 a0 (by decide))
                  have f1173 := ti_b (q_I r48.2 12 7 a0)
                  have f1174 : (q_I r48.2 12 7 a0).toInt = (q_I r19.2 12 7 a0).toInt := congrArg Int32.toInt (u54 12 7 a0 (by decide))
                  have f1175 := ti_b (q_I r19.2 12 7 a0)
                  have f1176 : (q_I r19.2 12 7 a0).toInt = (q_I δ 12 7 a0).toInt := congrArg Int32.toInt (u25 12 7 a0 (by decide))
                  have f1177 := ti_b (q_I d1125 12 5 a0)
                  have f1178 : (q_I d1125 12 5 a0).toInt = (q_I d843 12 5 a0).toInt := congrArg Int32.toInt (by rw [e1126]; rfl)
                  have f1179 := ti_b (q_I d843 12 5 a0)
                  have f1180 : (q_I d843 12 5 a0).toInt = (q_I d824 12 5 a0).toInt := congrArg Int32.toInt (by rw [e844]; rfl)
                  have f1181 := ti_b (q_I d824 12 5 a0)
                  have f1182 : (q_I d824 12 5 a0).toInt = (q_I r769 12 5 a0).toInt := congrArg Int32.toInt (by rw [e825]; exact rI_o (by decide))
                  have f1183 := ti_b (q_I r769 12 5 a0)
                  have f1184 : (q_I r769 12 5 a0).toInt = (q_I r719 12 5 a0).toInt := congrArg Int32.toInt (u774 12 5 a0 (by decide))
                  refine ok_bind (k_X12_sum L hN (a0 := a0) k_a0 (show (q_I d1125 12 24 a0).toInt ≤ 3 by first | assumption | omega) (show (q_I d1125 12 26 a0).toInt ≤ (q_I d1125 12 4 a0).toInt by first | assumption | omega) (show 0 ≤ (q_I d1125 12 7 a0).toInt by first | assumption | omega) (show (q_I d1125 12 7 a0).toInt ≤ 7 by first | assumption | omega) (show (q_I d1125 12 7 a0).toInt = 7 → (q_I d1125 12 5 a0).toInt ≠ -1 by first | assumption | omega) (show 8 - (q_I d1125 12 7 a0).toInt < 20 by first | assumption | omega) i1127) (fun r1131 hr1132 => ?_)
                  obtain ⟨i1185, ⟨u1191, u1192, u1193⟩, p1186, p1187, p1188, p1189, p1190⟩ := hr1132
                  have u1194 := kp_t u1128 u1191
                  have v1195 : q_V r1131 = q_V δ := (u1192).trans v1129
                  have v1196 := kr_t v1130 u1193
                  have f1197 := cb_12_4 i1185 k_a0
                  have f1198 := ti_b (q_I r1131 12 5 a0)
                  have f1199 := ti_b (q_I r1131 12 7 a0)
                  have f1200 := cb_12_26 i1185 k_a0
                  obtain ⟨b1201, o1202, k1203, n1204, w1205⟩ := gO_12_31 L k_a0
                  obtain rfl := gS_12_31 L k_a0 o1202
                  refine ok_at o1202 ?_
                  refine ok_gd (fun hc1206 => ?_) ?_
                  · rcases hc1206 with hc1206 | hc1206
                    · have c1207 : vx799.toInt < (0 : Int) := o_lt hc1206
                      omega
                    · omega
                  refine ok_bdv (fun d1208 e1209 => ?_)
                  have i1210 : RI ad h.1 δ0 d1208 := by rw [e1209]; exact RI.sR L i1185 w1205
                  have u1211 := kp_N u1194 (show q_I d1208 = q_I r1131 by rw [e1209]; rfl)
                  have v1212 : q_V d1208 = q_V δ := ((show q_V d1208 = q_V r1131 by rw [e1209]; rfl)).trans v1195
                  have v1213 := kr_s L (by decide) v1196 e1209
                  refine ok_bind (k_X12_sign L hN (a0 := a0) (x1 := (59 : Int32)) k_a0 (show (59 : Int) ≠ 0 by first | assumption | omega) i1210) (fun r1214 hr1215 => ?_)
                  obtain ⟨i1216, ⟨u1220, u1221, u1222, u1223⟩, p1217, p1218, p1219⟩ := hr1215
                  have u1224 := kp_t u1211 u1220
                  have v1225 : q_V r1214 = q_V δ := (u1221).trans v1212
                  have v1226 := kr_t v1213 u1223
                  have f1227 := cb_12_4 i1210 k_a0
                  have f1228 : (q_I d1208 12 4 a0).toInt = (q_I r1131 12 4 a0).toInt := congrArg Int32.toInt (by rw [e1209]; rfl)
                  have f1229 := cb_12_4 i1216 k_a0
                  have f1230 := ti_b (q_I d1208 12 5 a0)
                  have f1231 : (q_I d1208 12 5 a0).toInt = (q_I r1131 12 5 a0).toInt := congrArg Int32.toInt (by rw [e1209]; rfl)
                  have f1232 := ti_b (q_I r1214 12 5 a0)
                  unfold J_X12_readSteps_236
                  have f1233 := cb_12_24 i1216 k_a0
                  have f1234 : (q_I r1214 12 24 a0).toInt = (q_I d1208 12 24 a0).toInt := congrArg Int32.toInt (u1220 12 24 a0 (by decide))
                  have f1235 := cb_12_24 i1210 k_a0
                  have f1236 : (q_I d1208 12 24 a0).toInt = (q_I r1131 12 24 a0).toInt := congrArg Int32.toInt (by rw [e1209]; rfl)
                  have f1237 := cb_12_24 i1185 k_a0
                  have f1238 : (q_I r1131 12 24 a0).toInt = (q_I d1125 12 24 a0).toInt := congrArg Int32.toInt (u1191 12 24 a0 (by decide))
                  have f1239 := cb_12_26 i1216 k_a0
                  have f1240 : (q_I r1214 12 26 a0).toInt = (q_I d1208 12 26 a0).toInt := congrArg Int32.toInt (u1220 12 26 a0 (by decide))
                  have f1241 := cb_12_26 i1210 k_a0
                  have f1242 : (q_I d1208 12 26 a0).toInt = (q_I r1131 12 26 a0).toInt := congrArg Int32.toInt (by rw [e1209]; rfl)
                  have f1243 := ti_b (q_I r1214 12 7 a0)
                  have f1244 : (q_I r1214 12 7 a0).toInt = (q_I d1208 12 7 a0).toInt := congrArg Int32.toInt (u1220 12 7 a0 (by decide))
                  have f1245 := ti_b (q_I d1208 12 7 a0)
                  have f1246 : (q_I d1208 12 7 a0).toInt = (q_I r1131 12 7 a0).toInt := congrArg Int32.toInt (by rw [e1209]; rfl)
                  have f1247 := cb_12_27 i1216 k_a0
                  have f1248 : (q_I r1214 12 27 a0).toInt = (q_I d1208 12 27 a0).toInt := congrArg Int32.toInt (u1220 12 27 a0 (by decide))
                  have f1249 := cb_12_27 i1210 k_a0
                  have f1250 : (q_I d1208 12 27 a0).toInt = (q_I r1131 12 27 a0).toInt := congrArg Int32.toInt (by rw [e1209]; rfl)
                  have f1251 := cb_12_27 i1185 k_a0
                  have f1252 : (q_I r1131 12 27 a0).toInt = (q_I d1125 12 27 a0).toInt := congrArg Int32.toInt (u1191 12 27 a0 (by decide))
                  have f1253 := cb_12_27 i1127 k_a0
                  have f1254 : (q_I d1125 12 27 a0).toInt = (q_I d843 12 27 a0).toInt := congrArg Int32.toInt (by rw [e1126]; rfl)
                  have f1255 := cb_12_27 i845 k_a0
                  have f1256 : (q_I d843 12 27 a0).toInt = (q_I d824 12 27 a0).toInt := congrArg Int32.toInt (by rw [e844]; rfl)
                  have f1257 := cb_12_27 i826 k_a0
                  have f1258 : (q_I d824 12 27 a0).toInt = (q_I r769 12 27 a0).toInt := congrArg Int32.toInt (by rw [e825]; exact rI_o (by decide))
                  have f1259 := cb_12_27 i771 k_a0
                  have f1260 : (q_I r769 12 27 a0).toInt = (q_I r719 12 27 a0).toInt := congrArg Int32.toInt (u774 12 27 a0 (by decide))
                  have f1261 := cb_12_27 i721 k_a0
                  have f1262 : (q_I r719 12 27 a0).toInt = (q_I r97.2 12 27 a0).toInt := congrArg Int32.toInt (u723 12 27 a0 (by decide))
                  have f1263 := cb_12_27 i99 k_a0
                  have f1264 : (q_I r97.2 12 27 a0).toInt = (q_I r48.2 12 27 a0).toInt := congrArg Int32.toInt (u102 12 27 a0 (by decide))
                  have f1265 := cb_12_27 i50 k_a0
                  have f1266 : (q_I r48.2 12 27 a0).toInt = (q_I r19.2 12 27 a0).toInt := congrArg Int32.toInt (u54 12 27 a0 (by decide))
                  have f1267 := cb_12_27 i21 k_a0
                  have f1268 : (q_I r19.2 12 27 a0).toInt = (q_I δ 12 27 a0).toInt := congrArg Int32.toInt (u25 12 27 a0 (by decide))
                  refine ok_mono (ih r1214 i1216 (show (q_I r1214 12 24 a0).toInt ≤ 3 by first | assumption | omega) (show (q_I r1214 12 26 a0).toInt ≤ (q_I r1214 12 4 a0).toInt by first | assumption | omega) (show (q_I r1214 12 7 a0).toInt = 0 by first | assumption | omega) (show 4 - (q_I r1214 12 27 a0).toInt ≤ K by first | assumption | omega) (show 501 - (q_I r1214 12 4 a0).toInt < _ by omega)) (fun r1269 hr1270 => ?_)
                  obtain ⟨i1271, ⟨u1277, u1278, u1279⟩, p1272, p1273, p1274, p1275, p1276⟩ := hr1270
                  have u1280 := kp_t u1224 u1277
                  have v1281 : q_V r1269 = q_V δ := (u1278).trans v1225
                  have v1282 := kr_t v1226 u1279
                  have f1283 := cb_12_4 i1271 k_a0
                  have f1284 := ti_b (q_I r1269 12 5 a0)
                  have f1285 := ti_b (q_I r1269 12 7 a0)
                  have f1286 := cb_12_27 i1271 k_a0
                  have f1287 := cb_12_26 i1271 k_a0
                  exact ⟨by assumption, ⟨kp_w (by decide) u1280, v1281, kr_w (by decide) v1282⟩, by first | assumption | omega, by first | assumption | omega, by first | assumption | omega, by first | assumption | omega, by first | assumption | omega⟩
            · have c1288 : (q_I r97.2 12 25 a0).toInt ≠ (60 : Int) := o_ne h717
              refine ok_ite (fun h1289 => ?_) (fun h1289 => ?_)
              · have c1290 : r123.1.toInt = (5 : Int) := o_eq h1289
                have f1291 := cb_12_27 i99 k_a0
                have f1292 : (q_I r97.2 12 27 a0).toInt = (q_I r48.2 12 27 a0).toInt := congrArg Int32.toInt (u102 12 27 a0 (by decide))
                have f1293 := cb_12_27 i50 k_a0
                have f1294 : (q_I r48.2 12 27 a0).toInt = (q_I r19.2 12 27 a0).toInt := congrArg Int32.toInt (u54 12 27 a0 (by decide))
                have f1295 := cb_12_27 i21 k_a0
                have f1296 : (q_I r19.2 12 27 a0).toInt = (q_I δ 12 27 a0).toInt := congrArg Int32.toInt (u25 12 27 a0 (by decide))
                refine ok_ite (fun h1297 => ?_) (fun h1297 => ?_)
                · have c1298 : (q_I r97.2 12 27 a0).toInt = (3 : Int) := o_eq h1297
                  unfold J_X12_readSteps_70
                  refine ok_bind (k_X12_wrong L hN (a0 := a0) (x1 := (3 : Int32)) (x2 := (q_I r97.2 12 4 a0)) k_a0 (show 0 ≤ ((q_I r97.2 12 4 a0)).toInt by first | assumption | omega) i99) (fun r1299 hr1300 => ?_)
                  obtain ⟨i1301, ⟨u1303, u1304, u1305, u1306⟩, p1302⟩ := hr1300
                  have u1307 := kp_t u106 u1303
                  have v1308 : q_V r1299 = q_V δ := (u1304).trans v107
                  have v1309 := kr_t v108 u1306
                  have f1310 := ti_b (q_I r1299 12 5 a0)
                  unfold J_X12_readSteps_79
                  refine ok_bind (k_X12_fine L hN (a0 := a0) k_a0 i1301) (fun r1311 hr1312 => ?_)
                  obtain ⟨i1313, p1314, p1315, p1316⟩ := hr1312
                  try rw [i1313]
                  have f1317 := bo_t p1314
                  have f1318 := ti_b r1311.1
                  have f1319 := ti_b r1311.1
                  refine ok_ite (fun h1320 => ?_) (fun h1320 => ?_)
                  · have c1321 : r1311.1.toInt = (0 : Int) := o_eq h1320
                    have f1322 := cb_12_4 i1301 k_a0
                    have f1323 : (q_I r1299 12 4 a0).toInt = (q_I r97.2 12 4 a0).toInt := congrArg Int32.toInt (u1303 12 4 a0 (by decide))
                    have f1324 := ti_b (q_I r1299 12 7 a0)
                    have f1325 : (q_I r1299 12 7 a0).toInt = (q_I r97.2 12 7 a0).toInt := congrArg Int32.toInt (u1303 12 7 a0 (by decide))
                    have f1326 := ti_b (q_I r97.2 12 7 a0)
                    have f1327 : (q_I r97.2 12 7 a0).toInt = (q_I r48.2 12 7 a0).toInt := congrArg Int32.toInt (u102 12 7 a0 (by decide))
                    have f1328 := ti_b (q_I r48.2 12 7 a0)
                    have f1329 : (q_I r48.2 12 7 a0).toInt = (q_I r19.2 12 7 a0).toInt := congrArg Int32.toInt (u54 12 7 a0 (by decide))
                    have f1330 := ti_b (q_I r19.2 12 7 a0)
                    have f1331 : (q_I r19.2 12 7 a0).toInt = (q_I δ 12 7 a0).toInt := congrArg Int32.toInt (u25 12 7 a0 (by decide))
                    have f1332 := cb_12_27 i1301 k_a0
                    have f1333 : (q_I r1299 12 27 a0).toInt = (q_I r97.2 12 27 a0).toInt := congrArg Int32.toInt (u1303 12 27 a0 (by decide))
                    have f1334 := cb_12_26 i1301 k_a0
                    have f1335 : (q_I r1299 12 26 a0).toInt = (q_I r97.2 12 26 a0).toInt := congrArg Int32.toInt (u1303 12 26 a0 (by decide))
                    have f1336 := cb_12_26 i99 k_a0
                    have f1337 : (q_I r97.2 12 26 a0).toInt = (q_I r48.2 12 26 a0).toInt := congrArg Int32.toInt (u102 12 26 a0 (by decide))
                    have f1338 := cb_12_26 i50 k_a0
                    have f1339 : (q_I r48.2 12 26 a0).toInt = (q_I r19.2 12 26 a0).toInt := congrArg Int32.toInt (u54 12 26 a0 (by decide))
                    have f1340 := cb_12_26 i21 k_a0
                    have f1341 : (q_I r19.2 12 26 a0).toInt = (q_I δ 12 26 a0).toInt := congrArg Int32.toInt (u25 12 26 a0 (by decide))
                    exact ok_some (show RI ad h.1 δ0 r1299 ∧ (kp [(12, 4), (12, 5), (12, 6), (12, 7), (12, 25), (12, 26), (12, 27)] δ r1299 ∧ q_V r1299 = q_V δ ∧ kr ad [113, 114, 115, 116, 117] δ r1299) ∧ (q_I δ 12 4 a0).toInt ≤ (q_I r1299 12 4 a0).toInt ∧ ((q_I δ 12 5 a0).toInt ≠ -1 → (q_I r1299 12 5 a0).toInt ≠ -1) ∧ (q_I r1299 12 7 a0).toInt = (q_I δ 12 7 a0).toInt ∧ (q_I r1299 12 27 a0).toInt = (q_I δ 12 27 a0).toInt ∧ (q_I r1299 12 26 a0).toInt ≤ (q_I r1299 12 4 a0).toInt from ⟨i1301, ⟨kp_w (by decide) u1307, v1308, kr_w (by decide) v1309⟩, by first | assumption | omega, by first | assumption | omega, by first | assumption | omega, by first | assumption | omega, by first | assumption | omega⟩)
                  · have c1342 : r1311.1.toInt ≠ (0 : Int) := o_ne h1320
                    refine ok_bind (k_X12_pass L hN (a0 := a0) k_a0 i1301) (fun r1343 hr1344 => ?_)
                    obtain ⟨i1345, ⟨u1348, u1349, u1350, u1351⟩, p1346, p1347⟩ := hr1344
                    have u1352 := kp_t u1307 u1348
                    have v1353 : q_V r1343 = q_V δ := (u1349).trans v1308
                    have v1354 := kr_t v1309 u1351
                    have f1355 := cb_12_4 i1301 k_a0
                    have f1356 : (q_I r1299 12 4 a0).toInt = (q_I r97.2 12 4 a0).toInt := congrArg Int32.toInt (u1303 12 4 a0 (by decide))
                    have f1357 := cb_12_4 i1345 k_a0
                    have f1358 : hc ad r1299 a0 = (q_R r1299 (Ad ad 101) (q_I r1299 12 4 a0).toNatClampNeg).toInt := rfl
                    have t1359 := ti_tn (q_I r1299 12 4 a0)
                    have f1360 : (q_R r1299 (Ad ad 101) (q_I r1299 12 4 a0).toNatClampNeg).toInt = (q_R r97.2 (Ad ad 101) (q_I r1299 12 4 a0).toNatClampNeg).toInt := congrArg Int32.toInt (congrFun (u1306 101 (by decide) (by decide) (by decide)) _)
                    have f1361 : (q_R r97.2 (Ad ad 101) (q_I r1299 12 4 a0).toNatClampNeg).toInt = (q_R r48.2 (Ad ad 101) (q_I r1299 12 4 a0).toNatClampNeg).toInt := congrArg Int32.toInt (congrFun (u105 101 (by decide) (by decide) (by decide)) _)
                    have f1362 : (q_R r48.2 (Ad ad 101) (q_I r1299 12 4 a0).toNatClampNeg).toInt = (q_R r19.2 (Ad ad 101) (q_I r1299 12 4 a0).toNatClampNeg).toInt := congrArg Int32.toInt (congrFun (u57 101 (by decide) (by decide) (by decide)) _)
                    have f1363 : (q_R r19.2 (Ad ad 101) (q_I r1299 12 4 a0).toNatClampNeg).toInt = (q_R δ (Ad ad 101) (q_I r1299 12 4 a0).toNatClampNeg).toInt := congrArg Int32.toInt (congrFun (u28 101 (by decide) (by decide) (by decide)) _)
                    have f1364 := ti_b (q_R δ (Ad ad 101) (q_I r1299 12 4 a0).toNatClampNeg)
                    have f1365 := ti_b (q_R r19.2 (Ad ad 101) (q_I r1299 12 4 a0).toNatClampNeg)
                    have f1366 := ti_b (q_R r48.2 (Ad ad 101) (q_I r1299 12 4 a0).toNatClampNeg)
                    have f1367 := ti_b (q_R r97.2 (Ad ad 101) (q_I r1299 12 4 a0).toNatClampNeg)
                    have f1368 := ti_b (q_R r1299 (Ad ad 101) (q_I r1299 12 4 a0).toNatClampNeg)
                    have f1369 := cb_12_3 i1301 k_a0
                    have f1370 : (q_I r1299 12 3 a0).toInt = (q_I r97.2 12 3 a0).toInt := congrArg Int32.toInt (u1303 12 3 a0 (by decide))
                    have f1371 := cb_12_3 i99 k_a0
                    have f1372 : (q_I r97.2 12 3 a0).toInt = (q_I r48.2 12 3 a0).toInt := congrArg Int32.toInt (u102 12 3 a0 (by decide))
                    have f1376 := cb_12_24 i1345 k_a0
                    have f1377 : (q_I r1343 12 24 a0).toInt = (q_I r1299 12 24 a0).toInt := congrArg Int32.toInt (u1348 12 24 a0 (by decide))
                    have f1378 := cb_12_24 i1301 k_a0
                    have f1379 : (q_I r1299 12 24 a0).toInt = (q_I r97.2 12 24 a0).toInt := congrArg Int32.toInt (u1303 12 24 a0 (by decide))
                    have f1380 := cb_12_24 i99 k_a0
                    have f1381 : (q_I r97.2 12 24 a0).toInt = (q_I r48.2 12 24 a0).toInt := congrArg Int32.toInt (u102 12 24 a0 (by decide))
                    have f1382 := cb_12_24 i50 k_a0
                    have f1383 : (q_I r48.2 12 24 a0).toInt = (q_I r19.2 12 24 a0).toInt := congrArg Int32.toInt (u54 12 24 a0 (by decide))
                    have f1384 := cb_12_24 i21 k_a0
                    have f1385 : (q_I r19.2 12 24 a0).toInt = (q_I δ 12 24 a0).toInt := congrArg Int32.toInt (u25 12 24 a0 (by decide))
                    first | (have q1386 := te_mulc (c := 60) (n := 60) rfl (q_I r1343 12 24 a0) (by omega) (by omega); obtain ⟨f1387, f1388, f1389⟩ := q1386) | (obtain ⟨q1386, f1387, f1388, f1389⟩ := ti_mulc (c := 60) (n := 60) rfl (q_I r1343 12 24 a0))
                    have f1390 := cb_12_25 i1345 k_a0
                    have f1391 : (q_I r1343 12 25 a0).toInt = (q_I r1299 12 25 a0).toInt := congrArg Int32.toInt (u1348 12 25 a0 (by decide))
                    have f1392 := cb_12_25 i1301 k_a0
                    have f1393 : (q_I r1299 12 25 a0).toInt = (q_I r97.2 12 25 a0).toInt := congrArg Int32.toInt (u1303 12 25 a0 (by decide))
                    refine ok_biv (fun vx1373 e1374 => ?_)
                    first | (have q1394 := te_add ((60 : Int32) * (q_I r1343 12 24 a0)) (q_I r1343 12 25 a0) (by omega) (by omega); rw [← e1374] at q1394; obtain ⟨f1395, f1396, f1397⟩ := q1394) | (obtain ⟨q1394, f1395, f1396, f1397⟩ : ∃ q : Int, vx1373.toInt = ((60 : Int32) * (q_I r1343 12 24 a0)).toInt + (q_I r1343 12 25 a0).toInt + 4294967296 * q ∧ -2147483648 ≤ vx1373.toInt ∧ vx1373.toInt ≤ 2147483647 := by rw [e1374]; exact ti_add ((60 : Int32) * (q_I r1343 12 24 a0)) (q_I r1343 12 25 a0))
                    first | (have q1402 := te_addc (c := 1) (n := 1) rfl (q_I r1343 12 25 a0) (by omega) (by omega); obtain ⟨f1403, f1404, f1405⟩ := q1402) | (obtain ⟨q1402, f1403, f1404, f1405⟩ := ti_addc (c := 1) (n := 1) rfl (q_I r1343 12 25 a0))
                    refine ok_bdv (fun d1398 e1399 => ?_)
                    have i1400 : RI ad h.1 δ0 d1398 := by rw [e1399]; exact cs_12_25 L i1345 k_a0 (show 0 ≤ ((q_I r1343 12 25 a0) + (1 : Int32)).toInt by omega) (show ((q_I r1343 12 25 a0) + (1 : Int32)).toInt ≤ 60 by omega)
                    have u1406 := kp_I u1352 e1399
                    have v1407 : q_V d1398 = q_V δ := ((show q_V d1398 = q_V r1343 by rw [e1399]; rfl)).trans v1353
                    have v1408 := kr_N v1354 (show q_R d1398 = q_R r1343 by rw [e1399]; rfl)
                    obtain ⟨b1409, o1410, k1411, n1412, w1413⟩ := gO_12_29 L k_a0
                    obtain rfl := gS_12_29 L k_a0 o1410
                    refine ok_at o1410 ?_
                    have t1414 := ti_tn vx1373
                    refine ok_gd (fun hc1415 => ?_) ?_
                    · rcases hc1415 with hc1415 | hc1415
                      · have c1416 : vx1373.toInt < (0 : Int) := o_lt hc1415
                        omega
                      · omega
                    refine ok_bdv (fun d1417 e1418 => ?_)
                    have i1419 : RI ad h.1 δ0 d1417 := by rw [e1418]; exact RI.sR L i1400 w1413
                    have u1420 := kp_N u1406 (show q_I d1417 = q_I d1398 by rw [e1418]; rfl)
                    have v1421 : q_V d1417 = q_V δ := ((show q_V d1417 = q_V d1398 by rw [e1418]; rfl)).trans v1407
                    have v1422 := kr_s L (by decide) v1408 e1418
                    refine ok_ite (fun h1423 => ?_) (fun h1423 => ?_)
                    · have c1424 : r123.1.toInt = (5 : Int) := o_eq h1423
                      obtain ⟨b1425, o1426, k1427, n1428, w1429⟩ := gO_12_30 L k_a0
                      obtain rfl := gS_12_30 L k_a0 o1426
                      refine ok_at o1426 ?_
                      refine ok_bind (k_X12_readNumber L hN (a0 := a0) (x1 := (1 : Int32)) (x2 := (99 : Int32)) k_a0 i1419) (fun r1430 hr1431 => ?_)
                      obtain ⟨i1432, ⟨u1439, u1440, u1441, u1442⟩, p1433, p1434, p1435, p1436, p1437, p1438⟩ := hr1431
                      have u1443 := kp_t u1420 u1439
                      have v1444 : q_V r1430.2 = q_V δ := (u1440).trans v1421
                      have v1445 := kr_t v1422 u1442
                      have f1446 := cb_12_4 i1419 k_a0
                      have f1447 : (q_I d1417 12 4 a0).toInt = (q_I d1398 12 4 a0).toInt := congrArg Int32.toInt (by rw [e1418]; rfl)
                      have f1448 := cb_12_4 i1400 k_a0
                      have f1449 : (q_I d1398 12 4 a0).toInt = (q_I r1343 12 4 a0).toInt := congrArg Int32.toInt (by rw [e1399]; exact rI_o (by decide))
                      have f1450 := cb_12_4 i1432 k_a0
                      have f1451 := ti_b (q_I d1417 12 5 a0)
                      have f1452 : (q_I d1417 12 5 a0).toInt = (q_I d1398 12 5 a0).toInt := congrArg Int32.toInt (by rw [e1418]; rfl)
                      have f1453 := ti_b (q_I d1398 12 5 a0)
                      have f1454 : (q_I d1398 12 5 a0).toInt = (q_I r1343 12 5 a0).toInt := congrArg Int32.toInt (by rw [e1399]; exact rI_o (by decide))
                      have f1455 := ti_b (q_I r1343 12 5 a0)
                      have f1456 : (q_I r1343 12 5 a0).toInt = (q_I r1299 12 5 a0).toInt := congrArg Int32.toInt (u1348 12 5 a0 (by decide))
                      have f1457 := ti_b (q_I r1430.2 12 5 a0)
                      have f1458 := ti_b r1430.1
                      replace p1438 : ((q_I r1430.2 12 5 a0).toInt = -1 → (1 : Int) ≤ (r1430.1).toInt ∧ (r1430.1).toInt ≤ (99 : Int)) := p1438
                      have f1459 := ti_b r1430.1
                      refine ok_gd (fun hc1460 => ?_) ?_
                      · rcases hc1460 with hc1460 | hc1460
                        · have c1461 : vx1373.toInt < (0 : Int) := o_lt hc1460
                          omega
                        · omega
                      refine ok_bdv (fun d1462 e1463 => ?_)
                      have i1464 : RI ad h.1 δ0 d1462 := by rw [e1463]; exact RI.sR L i1432 w1429
                      have u1465 := kp_N u1443 (show q_I d1462 = q_I r1430.2 by rw [e1463]; rfl)
                      have v1466 : q_V d1462 = q_V δ := ((show q_V d1462 = q_V r1430.2 by rw [e1463]; rfl)).trans v1444
                      have v1467 := kr_s L (by decide) v1445 e1463
                      refine ok_bind (k_X12_sign L hN (a0 := a0) (x1 := (91 : Int32)) k_a0 (show (91 : Int) ≠ 0 by first | assumption | omega) i1464) (fun r1468 hr1469 => ?_)
                      obtain ⟨i1470, ⟨u1474, u1475, u1476, u1477⟩, p1471, p1472, p1473⟩ := hr1469
                      have u1478 := kp_t u1465 u1474
                      have v1479 : q_V r1468 = q_V δ := (u1475).trans v1466
                      have v1480 := kr_t v1467 u1477
                      have f1481 := cb_12_4 i1464 k_a0
                      have f1482 : (q_I d1462 12 4 a0).toInt = (q_I r1430.2 12 4 a0).toInt := congrArg Int32.toInt (by rw [e1463]; rfl)
                      have f1483 := cb_12_4 i1470 k_a0
                      have f1484 := ti_b (q_I d1462 12 5 a0)
                      have f1485 : (q_I d1462 12 5 a0).toInt = (q_I r1430.2 12 5 a0).toInt := congrArg Int32.toInt (by rw [e1463]; rfl)
                      have f1486 := ti_b (q_I r1468 12 5 a0)
                      have f1490 := cb_12_27 i1470 k_a0
                      have f1491 : (q_I r1468 12 27 a0).toInt = (q_I d1462 12 27 a0).toInt := congrArg Int32.toInt (u1474 12 27 a0 (by decide))
                      have f1492 := cb_12_27 i1464 k_a0
                      have f1493 : (q_I d1462 12 27 a0).toInt = (q_I r1430.2 12 27 a0).toInt := congrArg Int32.toInt (by rw [e1463]; rfl)
                      have f1494 := cb_12_27 i1432 k_a0
                      have f1495 : (q_I r1430.2 12 27 a0).toInt = (q_I d1417 12 27 a0).toInt := congrArg Int32.toInt (u1439 12 27 a0 (by decide))
                      have f1496 := cb_12_27 i1419 k_a0
                      have f1497 : (q_I d1417 12 27 a0).toInt = (q_I d1398 12 27 a0).toInt := congrArg Int32.toInt (by rw [e1418]; rfl)
                      have f1498 := cb_12_27 i1400 k_a0
                      have f1499 : (q_I d1398 12 27 a0).toInt = (q_I r1343 12 27 a0).toInt := congrArg Int32.toInt (by rw [e1399]; exact rI_o (by decide))
                      have f1500 := cb_12_27 i1345 k_a0
                      have f1501 : (q_I r1343 12 27 a0).toInt = (q_I r1299 12 27 a0).toInt := congrArg Int32.toInt (u1348 12 27 a0 (by decide))
                      have f1502 := cb_12_27 i1301 k_a0
                      have f1503 : (q_I r1299 12 27 a0).toInt = (q_I r97.2 12 27 a0).toInt := congrArg Int32.toInt (u1303 12 27 a0 (by decide))
                      first | (have q1505 := te_addc (c := 1) (n := 1) rfl (q_I r1468 12 27 a0) (by omega) (by omega); obtain ⟨f1506, f1507, f1508⟩ := q1505) | (obtain ⟨q1505, f1506, f1507, f1508⟩ := ti_addc (c := 1) (n := 1) rfl (q_I r1468 12 27 a0))
                      refine ok_bdv (fun d1487 e1488 => ?_)
                      have i1489 : RI ad h.1 δ0 d1487 := by rw [e1488]; exact cs_12_27 L i1470 k_a0 (show 0 ≤ ((q_I r1468 12 27 a0) + (1 : Int32)).toInt by omega) (show ((q_I r1468 12 27 a0) + (1 : Int32)).toInt ≤ 3 by omega)
                      have u1509 := kp_I u1478 e1488
                      have v1510 : q_V d1487 = q_V δ := ((show q_V d1487 = q_V r1468 by rw [e1488]; rfl)).trans v1479
                      have v1511 := kr_N v1480 (show q_R d1487 = q_R r1468 by rw [e1488]; rfl)
                      have f1514 := cb_12_24 i1489 k_a0
                      have f1515 : (q_I d1487 12 24 a0).toInt = (q_I r1468 12 24 a0).toInt := congrArg Int32.toInt (by rw [e1488]; exact rI_o (by decide))
                      have f1516 := cb_12_24 i1470 k_a0
                      have f1517 : (q_I r1468 12 24 a0).toInt = (q_I d1462 12 24 a0).toInt := congrArg Int32.toInt (u1474 12 24 a0 (by decide))
                      have f1518 := cb_12_24 i1464 k_a0
                      have f1519 : (q_I d1462 12 24 a0).toInt = (q_I r1430.2 12 24 a0).toInt := congrArg Int32.toInt (by rw [e1463]; rfl)
                      have f1520 := cb_12_24 i1432 k_a0
                      have f1521 : (q_I r1430.2 12 24 a0).toInt = (q_I d1417 12 24 a0).toInt := congrArg Int32.toInt (u1439 12 24 a0 (by decide))
                      have f1522 := cb_12_24 i1419 k_a0
                      have f1523 : (q_I d1417 12 24 a0).toInt = (q_I d1398 12 24 a0).toInt := congrArg Int32.toInt (by rw [e1418]; rfl)
                      have f1524 := cb_12_24 i1400 k_a0
                      have f1525 : (q_I d1398 12 24 a0).toInt = (q_I r1343 12 24 a0).toInt := congrArg Int32.toInt (by rw [e1399]; exact rI_o (by decide))
                      have f1526 := cb_12_26 i1489 k_a0
                      have f1527 : (q_I d1487 12 26 a0).toInt = (q_I r1468 12 26 a0).toInt := congrArg Int32.toInt (by rw [e1488]; exact rI_o (by decide))
                      have f1528 := cb_12_26 i1470 k_a0
                      have f1529 : (q_I r1468 12 26 a0).toInt = (q_I d1462 12 26 a0).toInt := congrArg Int32.toInt (u1474 12 26 a0 (by decide))
                      have f1530 := cb_12_26 i1464 k_a0
                      have f1531 : (q_I d1462 12 26 a0).toInt = (q_I r1430.2 12 26 a0).toInt := congrArg Int32.toInt (by rw [e1463]; rfl)
                      have f1532 := cb_12_26 i1432 k_a0
                      have f1533 : (q_I r1430.2 12 26 a0).toInt = (q_I d1417 12 26 a0).toInt := congrArg Int32.toInt (u1439 12 26 a0 (by decide))
                      have f1534 := cb_12_26 i1419 k_a0
                      have f1535 : (q_I d1417 12 26 a0).toInt = (q_I d1398 12 26 a0).toInt := congrArg Int32.toInt (by rw [e1418]; rfl)
                      have f1536 := cb_12_26 i1400 k_a0
                      have f1537 : (q_I d1398 12 26 a0).toInt = (q_I r1343 12 26 a0).toInt := congrArg Int32.toInt (by rw [e1399]; exact rI_o (by decide))
                      have f1538 := cb_12_26 i1345 k_a0
                      have f1539 : (q_I r1343 12 26 a0).toInt = (q_I r1299 12 26 a0).toInt := congrArg Int32.toInt (u1348 12 26 a0 (by decide))
                      have f1540 := cb_12_26 i1301 k_a0
                      have f1541 : (q_I r1299 12 26 a0).toInt = (q_I r97.2 12 26 a0).toInt := congrArg Int32.toInt (u1303 12 26 a0 (by decide))
                      have f1542 := cb_12_26 i99 k_a0
                      have f1543 : (q_I r97.2 12 26 a0).toInt = (q_I r48.2 12 26 a0).toInt := congrArg Int32.toInt (u102 12 26 a0 (by decide))
                      have f1544 := cb_12_26 i50 k_a0
                      have f1545 : (q_I r48.2 12 26 a0).toInt = (q_I r19.2 12 26 a0).toInt := congrArg Int32.toInt (u54 12 26 a0 (by decide))
                      have f1546 := cb_12_26 i21 k_a0
                      have f1547 : (q_I r19.2 12 26 a0).toInt = (q_I δ 12 26 a0).toInt := congrArg Int32.toInt (u25 12 26 a0 (by decide))
                      have f1548 := cb_12_4 i1489 k_a0
                      have f1549 : (q_I d1487 12 4 a0).toInt = (q_I r1468 12 4 a0).toInt := congrArg Int32.toInt (by rw [e1488]; exact rI_o (by decide))
                      have f1550 := ti_b (q_I d1487 12 7 a0)
                      have f1551 : (q_I d1487 12 7 a0).toInt = (q_I r1468 12 7 a0).toInt := congrArg Int32.toInt (by rw [e1488]; exact rI_o (by decide))
                      have f1552 := ti_b (q_I r1468 12 7 a0)
                      have f1553 : (q_I r1468 12 7 a0).toInt = (q_I d1462 12 7 a0).toInt := congrArg Int32.toInt (u1474 12 7 a0 (by decide))
                      have f1554 := ti_b (q_I d1462 12 7 a0)
                      have f1555 : (q_I d1462 12 7 a0).toInt = (q_I r1430.2 12 7 a0).toInt := congrArg Int32.toInt (by rw [e1463]; rfl)
                      have f1556 := ti_b (q_I r1430.2 12 7 a0)
                      have f1557 : (q_I r1430.2 12 7 a0).toInt = (q_I d1417 12 7 a0).toInt := congrArg Int32.toInt (u1439 12 7 a0 (by decide))
                      have f1558 := ti_b (q_I d1417 12 7 a0)
                      have f1559 : (q_I d1417 12 7 a0).toInt = (q_I d1398 12 7 a0).toInt := congrArg Int32.toInt (by rw [e1418]; rfl)
                      have f1560 := ti_b (q_I d1398 12 7 a0)
                      have f1561 : (q_I d1398 12 7 a0).toInt = (q_I r1343 12 7 a0).toInt := congrArg Int32.toInt (by rw [e1399]; exact rI_o (by decide))
                      have f1562 := ti_b (q_I r1343 12 7 a0)
                      have f1563 : (q_I r1343 12 7 a0).toInt = (q_I r1299 12 7 a0).toInt := congrArg Int32.toInt (u1348 12 7 a0 (by decide))
                      have f1564 := ti_b (q_I r1299 12 7 a0)
                      have f1565 : (q_I r1299 12 7 a0).toInt = (q_I r97.2 12 7 a0).toInt := congrArg Int32.toInt (u1303 12 7 a0 (by decide))
                      have f1566 := ti_b (q_I r97.2 12 7 a0)
                      have f1567 : (q_I r97.2 12 7 a0).toInt = (q_I r48.2 12 7 a0).toInt := congrArg Int32.toInt (u102 12 7 a0 (by decide))
                      have f1568 := ti_b (q_I r48.2 12 7 a0)
                      have f1569 : (q_I r48.2 12 7 a0).toInt = (q_I r19.2 12 7 a0).toInt := congrArg Int32.toInt (u54 12 7 a0 (by decide))
                      have f1570 := ti_b (q_I r19.2 12 7 a0)
                      have f1571 : (q_I r19.2 12 7 a0).toInt = (q_I δ 12 7 a0).toInt := congrArg Int32.toInt (u25 12 7 a0 (by decide))
                      have f1572 := cb_12_27 i1489 k_a0
                      have f1573 : (q_I d1487 12 27 a0).toInt = ((q_I r1468 12 27 a0) + (1 : Int32)).toInt := congrArg Int32.toInt (show q_I d1487 12 27 a0 = ((q_I r1468 12 27 a0) + (1 : Int32)) by rw [e1488]; exact rI_s)
                      refine ok_bind (hT a0 d1487 k_a0 (show (q_I d1487 12 24 a0).toInt ≤ 3 by first | assumption | omega) (show (q_I d1487 12 26 a0).toInt ≤ (q_I d1487 12 4 a0).toInt by first | assumption | omega) (show (q_I d1487 12 7 a0).toInt = 0 by first | assumption | omega) (show 4 - (q_I d1487 12 27 a0).toInt < _ by first | assumption | omega) i1489) (fun r1512 hr1513 => ?_)
                      obtain ⟨i1574, ⟨u1580, u1581, u1582⟩, p1575, p1576, p1577, p1578, p1579⟩ := hr1513
                      have u1583 := kp_t u1509 u1580
                      have v1584 : q_V r1512 = q_V δ := (u1581).trans v1510
                      have v1585 := kr_t v1511 u1582
                      have f1586 := cb_12_4 i1574 k_a0
                      have f1587 := ti_b (q_I d1487 12 5 a0)
                      have f1588 : (q_I d1487 12 5 a0).toInt = (q_I r1468 12 5 a0).toInt := congrArg Int32.toInt (by rw [e1488]; exact rI_o (by decide))
                      have f1589 := ti_b (q_I r1512 12 5 a0)
                      have f1590 := ti_b (q_I r1512 12 7 a0)
                      have f1591 := cb_12_27 i1574 k_a0
                      have f1592 := cb_12_26 i1574 k_a0
                      first | (have q1597 := te_subc (c := 1) (n := 1) rfl (q_I r1512 12 27 a0) (by omega) (by omega); obtain ⟨f1598, f1599, f1600⟩ := q1597) | (obtain ⟨q1597, f1598, f1599, f1600⟩ := ti_subc (c := 1) (n := 1) rfl (q_I r1512 12 27 a0))
                      refine ok_bdv (fun d1593 e1594 => ?_)
                      have i1595 : RI ad h.1 δ0 d1593 := by rw [e1594]; exact cs_12_27 L i1574 k_a0 (show 0 ≤ ((q_I r1512 12 27 a0) - (1 : Int32)).toInt by omega) (show ((q_I r1512 12 27 a0) - (1 : Int32)).toInt ≤ 3 by omega)
                      have u1601 := kp_I u1583 e1594
                      have v1602 : q_V d1593 = q_V δ := ((show q_V d1593 = q_V r1512 by rw [e1594]; rfl)).trans v1584
                      have v1603 := kr_N v1585 (show q_R d1593 = q_R r1512 by rw [e1594]; rfl)
                      refine ok_bind (k_X12_sign L hN (a0 := a0) (x1 := (93 : Int32)) k_a0 (show (93 : Int) ≠ 0 by first | assumption | omega) i1595) (fun r1604 hr1605 => ?_)
                      obtain ⟨i1606, ⟨u1610, u1611, u1612, u1613⟩, p1607, p1608, p1609⟩ := hr1605
                      have u1614 := kp_t u1601 u1610
                      have v1615 : q_V r1604 = q_V δ := (u1611).trans v1602
                      have v1616 := kr_t v1603 u1613
                      have f1617 := cb_12_4 i1595 k_a0
                      have f1618 : (q_I d1593 12 4 a0).toInt = (q_I r1512 12 4 a0).toInt := congrArg Int32.toInt (by rw [e1594]; exact rI_o (by decide))
                      have f1619 := cb_12_4 i1606 k_a0
                      have f1620 := ti_b (q_I d1593 12 5 a0)
                      have f1621 : (q_I d1593 12 5 a0).toInt = (q_I r1512 12 5 a0).toInt := congrArg Int32.toInt (by rw [e1594]; exact rI_o (by decide))
                      have f1622 := ti_b (q_I r1604 12 5 a0)
                      obtain ⟨b1623, o1624, k1625, n1626, w1627⟩ := gO_12_31 L k_a0
                      obtain rfl := gS_12_31 L k_a0 o1624
                      refine ok_at o1624 ?_
                      refine ok_gd (fun hc1628 => ?_) ?_
                      · rcases hc1628 with hc1628 | hc1628
                        · have c1629 : vx1373.toInt < (0 : Int) := o_lt hc1628
                          omega
                        · omega
                      refine ok_bdv (fun d1630 e1631 => ?_)
                      have i1632 : RI ad h.1 δ0 d1630 := by rw [e1631]; exact RI.sR L i1606 w1627
                      have u1633 := kp_N u1614 (show q_I d1630 = q_I r1604 by rw [e1631]; rfl)
                      have v1634 : q_V d1630 = q_V δ := ((show q_V d1630 = q_V r1604 by rw [e1631]; rfl)).trans v1615
                      have v1635 := kr_s L (by decide) v1616 e1631
                      unfold J_X12_readSteps_236
                      have f1636 := cb_12_24 i1632 k_a0
                      have f1637 : (q_I d1630 12 24 a0).toInt = (q_I r1604 12 24 a0).toInt := congrArg Int32.toInt (by rw [e1631]; rfl)
                      have f1638 := cb_12_24 i1606 k_a0
                      have f1639 : (q_I r1604 12 24 a0).toInt = (q_I d1593 12 24 a0).toInt := congrArg Int32.toInt (u1610 12 24 a0 (by decide))
                      have f1640 := cb_12_24 i1595 k_a0
                      have f1641 : (q_I d1593 12 24 a0).toInt = (q_I r1512 12 24 a0).toInt := congrArg Int32.toInt (by rw [e1594]; exact rI_o (by decide))
                      have f1642 := cb_12_24 i1574 k_a0
                      have f1643 : (q_I r1512 12 24 a0).toInt = (q_I d1487 12 24 a0).toInt := congrArg Int32.toInt (u1580 12 24 a0 (by decide))
                      have f1644 := cb_12_26 i1632 k_a0
                      have f1645 : (q_I d1630 12 26 a0).toInt = (q_I r1604 12 26 a0).toInt := congrArg Int32.toInt (by rw [e1631]; rfl)
                      have f1646 := cb_12_26 i1606 k_a0
                      have f1647 : (q_I r1604 12 26 a0).toInt = (q_I d1593 12 26 a0).toInt := congrArg Int32.toInt (u1610 12 26 a0 (by decide))
                      have f1648 := cb_12_26 i1595 k_a0
                      have f1649 : (q_I d1593 12 26 a0).toInt = (q_I r1512 12 26 a0).toInt := congrArg Int32.toInt (by rw [e1594]; exact rI_o (by decide))
                      have f1650 := cb_12_4 i1632 k_a0
                      have f1651 : (q_I d1630 12 4 a0).toInt = (q_I r1604 12 4 a0).toInt := congrArg Int32.toInt (by rw [e1631]; rfl)
                      have f1652 := ti_b (q_I d1630 12 7 a0)
                      have f1653 : (q_I d1630 12 7 a0).toInt = (q_I r1604 12 7 a0).toInt := congrArg Int32.toInt (by rw [e1631]; rfl)
                      have f1654 := ti_b (q_I r1604 12 7 a0)
                      have f1655 : (q_I r1604 12 7 a0).toInt = (q_I d1593 12 7 a0).toInt := congrArg Int32.toInt (u1610 12 7 a0 (by decide))
                      have f1656 := ti_b (q_I d1593 12 7 a0)
                      have f1657 : (q_I d1593 12 7 a0).toInt = (q_I r1512 12 7 a0).toInt := congrArg Int32.toInt (by rw [e1594]; exact rI_o (by decide))
                      have f1658 := cb_12_27 i1632 k_a0
                      have f1659 : (q_I d1630 12 27 a0).toInt = (q_I r1604 12 27 a0).toInt := congrArg Int32.toInt (by rw [e1631]; rfl)
                      have f1660 := cb_12_27 i1606 k_a0
                      have f1661 : (q_I r1604 12 27 a0).toInt = (q_I d1593 12 27 a0).toInt := congrArg Int32.toInt (u1610 12 27 a0 (by decide))
                      have f1662 := cb_12_27 i1595 k_a0
                      have f1663 : (q_I d1593 12 27 a0).toInt = ((q_I r1512 12 27 a0) - (1 : Int32)).toInt := congrArg Int32.toInt (show q_I d1593 12 27 a0 = ((q_I r1512 12 27 a0) - (1 : Int32)) by rw [e1594]; exact rI_s)
                      refine ok_mono (ih d1630 i1632 (show (q_I d1630 12 24 a0).toInt ≤ 3 by first | assumption | omega) (show (q_I d1630 12 26 a0).toInt ≤ (q_I d1630 12 4 a0).toInt by first | assumption | omega) (show (q_I d1630 12 7 a0).toInt = 0 by first | assumption | omega) (show 4 - (q_I d1630 12 27 a0).toInt ≤ K by first | assumption | omega) (show 501 - (q_I d1630 12 4 a0).toInt < _ by omega)) (fun r1664 hr1665 => ?_)
                      obtain ⟨i1666, ⟨u1672, u1673, u1674⟩, p1667, p1668, p1669, p1670, p1671⟩ := hr1665
                      have u1675 := kp_t u1633 u1672
                      have v1676 : q_V r1664 = q_V δ := (u1673).trans v1634
                      have v1677 := kr_t v1635 u1674
                      have f1678 := cb_12_4 i1666 k_a0
                      have f1679 := ti_b (q_I d1630 12 5 a0)
                      have f1680 : (q_I d1630 12 5 a0).toInt = (q_I r1604 12 5 a0).toInt := congrArg Int32.toInt (by rw [e1631]; rfl)
                      have f1681 := ti_b (q_I r1664 12 5 a0)
                      have f1682 := ti_b (q_I r1664 12 7 a0)
                      have f1683 := cb_12_27 i1666 k_a0
                      have f1684 := cb_12_26 i1666 k_a0
                      exact ⟨by assumption, ⟨kp_w (by decide) u1675, v1676, kr_w (by decide) v1677⟩, by first | assumption | omega, by first | assumption | omega, by first | assumption | omega, by first | assumption | omega, by first | assumption | omega⟩
                    · have c1685 : r123.1.toInt ≠ (5 : Int) := o_ne h1423
                      obtain ⟨b1686, o1687, k1688, n1689, w1690⟩ := gO_12_30 L k_a0
                      obtain rfl := gS_12_30 L k_a0 o1687
                      refine ok_at o1687 ?_
                      refine ok_gd (fun hc1691 => ?_) ?_
                      · rcases hc1691 with hc1691 | hc1691
                        · have c1692 : vx1373.toInt < (0 : Int) := o_lt hc1691
                          omega
                        · omega
                      refine ok_bdv (fun d1693 e1694 => ?_)
                      have i1695 : RI ad h.1 δ0 d1693 := by rw [e1694]; exact RI.sR L i1419 w1690
                      have u1696 := kp_N u1420 (show q_I d1693 = q_I d1417 by rw [e1694]; rfl)
                      have v1697 : q_V d1693 = q_V δ := ((show q_V d1693 = q_V d1417 by rw [e1694]; rfl)).trans v1421
                      have v1698 := kr_s L (by decide) v1422 e1694
                      have f1701 := cb_12_24 i1695 k_a0
                      have f1702 : (q_I d1693 12 24 a0).toInt = (q_I d1417 12 24 a0).toInt := congrArg Int32.toInt (by rw [e1694]; rfl)
                      have f1703 := cb_12_24 i1419 k_a0
                      have f1704 : (q_I d1417 12 24 a0).toInt = (q_I d1398 12 24 a0).toInt := congrArg Int32.toInt (by rw [e1418]; rfl)
                      have f1705 := cb_12_24 i1400 k_a0
                      have f1706 : (q_I d1398 12 24 a0).toInt = (q_I r1343 12 24 a0).toInt := congrArg Int32.toInt (by rw [e1399]; exact rI_o (by decide))
                      have f1707 := cb_12_26 i1695 k_a0
                      have f1708 : (q_I d1693 12 26 a0).toInt = (q_I d1417 12 26 a0).toInt := congrArg Int32.toInt (by rw [e1694]; rfl)
                      have f1709 := cb_12_26 i1419 k_a0
                      have f1710 : (q_I d1417 12 26 a0).toInt = (q_I d1398 12 26 a0).toInt := congrArg Int32.toInt (by rw [e1418]; rfl)
                      have f1711 := cb_12_26 i1400 k_a0
                      have f1712 : (q_I d1398 12 26 a0).toInt = (q_I r1343 12 26 a0).toInt := congrArg Int32.toInt (by rw [e1399]; exact rI_o (by decide))
                      have f1713 := cb_12_26 i1345 k_a0
                      have f1714 : (q_I r1343 12 26 a0).toInt = (q_I r1299 12 26 a0).toInt := congrArg Int32.toInt (u1348 12 26 a0 (by decide))
                      have f1715 := cb_12_26 i1301 k_a0
                      have f1716 : (q_I r1299 12 26 a0).toInt = (q_I r97.2 12 26 a0).toInt := congrArg Int32.toInt (u1303 12 26 a0 (by decide))
                      have f1717 := cb_12_26 i99 k_a0
                      have f1718 : (q_I r97.2 12 26 a0).toInt = (q_I r48.2 12 26 a0).toInt := congrArg Int32.toInt (u102 12 26 a0 (by decide))
                      have f1719 := cb_12_26 i50 k_a0
                      have f1720 : (q_I r48.2 12 26 a0).toInt = (q_I r19.2 12 26 a0).toInt := congrArg Int32.toInt (u54 12 26 a0 (by decide))
                      have f1721 := cb_12_26 i21 k_a0
                      have f1722 : (q_I r19.2 12 26 a0).toInt = (q_I δ 12 26 a0).toInt := congrArg Int32.toInt (u25 12 26 a0 (by decide))
                      have f1723 := cb_12_4 i1695 k_a0
                      have f1724 : (q_I d1693 12 4 a0).toInt = (q_I d1417 12 4 a0).toInt := congrArg Int32.toInt (by rw [e1694]; rfl)
                      have f1725 := cb_12_4 i1419 k_a0
                      have f1726 : (q_I d1417 12 4 a0).toInt = (q_I d1398 12 4 a0).toInt := congrArg Int32.toInt (by rw [e1418]; rfl)
                      have f1727 := cb_12_4 i1400 k_a0
                      have f1728 : (q_I d1398 12 4 a0).toInt = (q_I r1343 12 4 a0).toInt := congrArg Int32.toInt (by rw [e1399]; exact rI_o (by decide))
                      have f1729 := ti_b (q_I d1693 12 7 a0)
                      have f1730 : (q_I d1693 12 7 a0).toInt = (q_I d1417 12 7 a0).toInt := congrArg Int32.toInt (by rw [e1694]; rfl)
                      have f1731 := ti_b (q_I d1417 12 7 a0)
                      have f1732 : (q_I d1417 12 7 a0).toInt = (q_I d1398 12 7 a0).toInt := congrArg Int32.toInt (by rw [e1418]; rfl)
                      have f1733 := ti_b (q_I d1398 12 7 a0)
                      have f1734 : (q_I d1398 12 7 a0).toInt = (q_I r1343 12 7 a0).toInt := congrArg Int32.toInt (by rw [e1399]; exact rI_o (by decide))
                      have f1735 := ti_b (q_I r1343 12 7 a0)
                      have f1736 : (q_I r1343 12 7 a0).toInt = (q_I r1299 12 7 a0).toInt := congrArg Int32.toInt (u1348 12 7 a0 (by decide))
                      have f1737 := ti_b (q_I r1299 12 7 a0)
                      have f1738 : (q_I r1299 12 7 a0).toInt = (q_I r97.2 12 7 a0).toInt := congrArg Int32.toInt (u1303 12 7 a0 (by decide))
                      have f1739 := ti_b (q_I r97.2 12 7 a0)
                      have f1740 : (q_I r97.2 12 7 a0).toInt = (q_I r48.2 12 7 a0).toInt := congrArg Int32.toInt (u102 12 7 a0 (by decide))
                      have f1741 := ti_b (q_I r48.2 12 7 a0)
                      have f1742 : (q_I r48.2 12 7 a0).toInt = (q_I r19.2 12 7 a0).toInt := congrArg Int32.toInt (u54 12 7 a0 (by decide))
                      have f1743 := ti_b (q_I r19.2 12 7 a0)
                      have f1744 : (q_I r19.2 12 7 a0).toInt = (q_I δ 12 7 a0).toInt := congrArg Int32.toInt (u25 12 7 a0 (by decide))
                      have f1745 := ti_b (q_I d1693 12 5 a0)
                      have f1746 : (q_I d1693 12 5 a0).toInt = (q_I d1417 12 5 a0).toInt := congrArg Int32.toInt (by rw [e1694]; rfl)
                      have f1747 := ti_b (q_I d1417 12 5 a0)
                      have f1748 : (q_I d1417 12 5 a0).toInt = (q_I d1398 12 5 a0).toInt := congrArg Int32.toInt (by rw [e1418]; rfl)
                      have f1749 := ti_b (q_I d1398 12 5 a0)
                      have f1750 : (q_I d1398 12 5 a0).toInt = (q_I r1343 12 5 a0).toInt := congrArg Int32.toInt (by rw [e1399]; exact rI_o (by decide))
                      have f1751 := ti_b (q_I r1343 12 5 a0)
                      have f1752 : (q_I r1343 12 5 a0).toInt = (q_I r1299 12 5 a0).toInt := congrArg Int32.toInt (u1348 12 5 a0 (by decide))
                      refine ok_bind (k_X12_sum L hN (a0 := a0) k_a0 (show (q_I d1693 12 24 a0).toInt ≤ 3 by first | assumption | omega) (show (q_I d1693 12 26 a0).toInt ≤ (q_I d1693 12 4 a0).toInt by first | assumption | omega) (show 0 ≤ (q_I d1693 12 7 a0).toInt by first | assumption | omega) (show (q_I d1693 12 7 a0).toInt ≤ 7 by first | assumption | omega) (show (q_I d1693 12 7 a0).toInt = 7 → (q_I d1693 12 5 a0).toInt ≠ -1 by first | assumption | omega) (show 8 - (q_I d1693 12 7 a0).toInt < 20 by first | assumption | omega) i1695) (fun r1699 hr1700 => ?_)
                      obtain ⟨i1753, ⟨u1759, u1760, u1761⟩, p1754, p1755, p1756, p1757, p1758⟩ := hr1700
                      have u1762 := kp_t u1696 u1759
                      have v1763 : q_V r1699 = q_V δ := (u1760).trans v1697
                      have v1764 := kr_t v1698 u1761
                      have f1765 := cb_12_4 i1753 k_a0
                      have f1766 := ti_b (q_I r1699 12 5 a0)
                      have f1767 := ti_b (q_I r1699 12 7 a0)
                      have f1768 := cb_12_26 i1753 k_a0
                      obtain ⟨b1769, o1770, k1771, n1772, w1773⟩ := gO_12_31 L k_a0
                      obtain rfl := gS_12_31 L k_a0 o1770
                      refine ok_at o1770 ?_
                      refine ok_gd (fun hc1774 => ?_) ?_
                      · rcases hc1774 with hc1774 | hc1774
                        · have c1775 : vx1373.toInt < (0 : Int) := o_lt hc1774
                          omega
                        · omega
                      refine ok_bdv (fun d1776 e1777 => ?_)
                      have i1778 : RI ad h.1 δ0 d1776 := by rw [e1777]; exact RI.sR L i1753 w1773
                      have u1779 := kp_N u1762 (show q_I d1776 = q_I r1699 by rw [e1777]; rfl)
                      have v1780 : q_V d1776 = q_V δ := ((show q_V d1776 = q_V r1699 by rw [e1777]; rfl)).trans v1763
                      have v1781 := kr_s L (by decide) v1764 e1777
                      refine ok_bind (k_X12_sign L hN (a0 := a0) (x1 := (59 : Int32)) k_a0 (show (59 : Int) ≠ 0 by first | assumption | omega) i1778) (fun r1782 hr1783 => ?_)
                      obtain ⟨i1784, ⟨u1788, u1789, u1790, u1791⟩, p1785, p1786, p1787⟩ := hr1783
                      have u1792 := kp_t u1779 u1788
                      have v1793 : q_V r1782 = q_V δ := (u1789).trans v1780
                      have v1794 := kr_t v1781 u1791
                      have f1795 := cb_12_4 i1778 k_a0
                      have f1796 : (q_I d1776 12 4 a0).toInt = (q_I r1699 12 4 a0).toInt := congrArg Int32.toInt (by rw [e1777]; rfl)
                      have f1797 := cb_12_4 i1784 k_a0
                      have f1798 := ti_b (q_I d1776 12 5 a0)
                      have f1799 : (q_I d1776 12 5 a0).toInt = (q_I r1699 12 5 a0).toInt := congrArg Int32.toInt (by rw [e1777]; rfl)
                      have f1800 := ti_b (q_I r1782 12 5 a0)
                      unfold J_X12_readSteps_236
                      have f1801 := cb_12_24 i1784 k_a0
                      have f1802 : (q_I r1782 12 24 a0).toInt = (q_I d1776 12 24 a0).toInt := congrArg Int32.toInt (u1788 12 24 a0 (by decide))
                      have f1803 := cb_12_24 i1778 k_a0
                      have f1804 : (q_I d1776 12 24 a0).toInt = (q_I r1699 12 24 a0).toInt := congrArg Int32.toInt (by rw [e1777]; rfl)
                      have f1805 := cb_12_24 i1753 k_a0
                      have f1806 : (q_I r1699 12 24 a0).toInt = (q_I d1693 12 24 a0).toInt := congrArg Int32.toInt (u1759 12 24 a0 (by decide))
                      have f1807 := cb_12_26 i1784 k_a0
                      have f1808 : (q_I r1782 12 26 a0).toInt = (q_I d1776 12 26 a0).toInt := congrArg Int32.toInt (u1788 12 26 a0 (by decide))
                      have f1809 := cb_12_26 i1778 k_a0
                      have f1810 : (q_I d1776 12 26 a0).toInt = (q_I r1699 12 26 a0).toInt := congrArg Int32.toInt (by rw [e1777]; rfl)
                      have f1811 := ti_b (q_I r1782 12 7 a0)
                      have f1812 : (q_I r1782 12 7 a0).toInt = (q_I d1776 12 7 a0).toInt := congrArg Int32.toInt (u1788 12 7 a0 (by decide))
                      have f1813 := ti_b (q_I d1776 12 7 a0)
                      have f1814 : (q_I d1776 12 7 a0).toInt = (q_I r1699 12 7 a0).toInt := congrArg Int32.toInt (by rw [e1777]; rfl)
                      have f1815 := cb_12_27 i1784 k_a0
                      have f1816 : (q_I r1782 12 27 a0).toInt = (q_I d1776 12 27 a0).toInt := congrArg Int32.toInt (u1788 12 27 a0 (by decide))
                      have f1817 := cb_12_27 i1778 k_a0
                      have f1818 : (q_I d1776 12 27 a0).toInt = (q_I r1699 12 27 a0).toInt := congrArg Int32.toInt (by rw [e1777]; rfl)
                      have f1819 := cb_12_27 i1753 k_a0
                      have f1820 : (q_I r1699 12 27 a0).toInt = (q_I d1693 12 27 a0).toInt := congrArg Int32.toInt (u1759 12 27 a0 (by decide))
                      have f1821 := cb_12_27 i1695 k_a0
                      have f1822 : (q_I d1693 12 27 a0).toInt = (q_I d1417 12 27 a0).toInt := congrArg Int32.toInt (by rw [e1694]; rfl)
                      have f1823 := cb_12_27 i1419 k_a0
                      have f1824 : (q_I d1417 12 27 a0).toInt = (q_I d1398 12 27 a0).toInt := congrArg Int32.toInt (by rw [e1418]; rfl)
                      have f1825 := cb_12_27 i1400 k_a0
                      have f1826 : (q_I d1398 12 27 a0).toInt = (q_I r1343 12 27 a0).toInt := congrArg Int32.toInt (by rw [e1399]; exact rI_o (by decide))
                      have f1827 := cb_12_27 i1345 k_a0
                      have f1828 : (q_I r1343 12 27 a0).toInt = (q_I r1299 12 27 a0).toInt := congrArg Int32.toInt (u1348 12 27 a0 (by decide))
                      have f1829 := cb_12_27 i1301 k_a0
                      have f1830 : (q_I r1299 12 27 a0).toInt = (q_I r97.2 12 27 a0).toInt := congrArg Int32.toInt (u1303 12 27 a0 (by decide))
                      refine ok_mono (ih r1782 i1784 (show (q_I r1782 12 24 a0).toInt ≤ 3 by first | assumption | omega) (show (q_I r1782 12 26 a0).toInt ≤ (q_I r1782 12 4 a0).toInt by first | assumption | omega) (show (q_I r1782 12 7 a0).toInt = 0 by first | assumption | omega) (show 4 - (q_I r1782 12 27 a0).toInt ≤ K by first | assumption | omega) (show 501 - (q_I r1782 12 4 a0).toInt < _ by omega)) (fun r1831 hr1832 => ?_)
                      obtain ⟨i1833, ⟨u1839, u1840, u1841⟩, p1834, p1835, p1836, p1837, p1838⟩ := hr1832
                      have u1842 := kp_t u1792 u1839
                      have v1843 : q_V r1831 = q_V δ := (u1840).trans v1793
                      have v1844 := kr_t v1794 u1841
                      have f1845 := cb_12_4 i1833 k_a0
                      have f1846 := ti_b (q_I r1831 12 5 a0)
                      have f1847 := ti_b (q_I r1831 12 7 a0)
                      have f1848 := cb_12_27 i1833 k_a0
                      have f1849 := cb_12_26 i1833 k_a0
                      exact ⟨by assumption, ⟨kp_w (by decide) u1842, v1843, kr_w (by decide) v1844⟩, by first | assumption | omega, by first | assumption | omega, by first | assumption | omega, by first | assumption | omega, by first | assumption | omega⟩
                · have c1850 : (q_I r97.2 12 27 a0).toInt ≠ (3 : Int) := o_ne h1297
                  unfold J_X12_readSteps_79
                  refine ok_bind (k_X12_fine L hN (a0 := a0) k_a0 i99) (fun r1851 hr1852 => ?_)
                  obtain ⟨i1853, p1854, p1855, p1856⟩ := hr1852
                  try rw [i1853]
                  have f1857 := bo_t p1854
                  have f1858 := ti_b r1851.1
                  have f1859 := ti_b (q_I r97.2 12 5 a0)
                  have f1860 : (q_I r97.2 12 5 a0).toInt = (q_I r48.2 12 5 a0).toInt := congrArg Int32.toInt (u102 12 5 a0 (by decide))
                  have f1861 := ti_b (q_I r48.2 12 5 a0)
                  have f1862 : (q_I r48.2 12 5 a0).toInt = (q_I r19.2 12 5 a0).toInt := congrArg Int32.toInt (u54 12 5 a0 (by decide))
                  have f1863 := ti_b (q_I r19.2 12 5 a0)
                  have f1864 : (q_I r19.2 12 5 a0).toInt = (q_I δ 12 5 a0).toInt := congrArg Int32.toInt (u25 12 5 a0 (by decide))
                  have f1865 := ti_b r1851.1
                  refine ok_ite (fun h1866 => ?_) (fun h1866 => ?_)
                  · have c1867 : r1851.1.toInt = (0 : Int) := o_eq h1866
                    have f1868 := ti_b (q_I r97.2 12 7 a0)
                    have f1869 : (q_I r97.2 12 7 a0).toInt = (q_I r48.2 12 7 a0).toInt := congrArg Int32.toInt (u102 12 7 a0 (by decide))
                    have f1870 := ti_b (q_I r48.2 12 7 a0)
                    have f1871 : (q_I r48.2 12 7 a0).toInt = (q_I r19.2 12 7 a0).toInt := congrArg Int32.toInt (u54 12 7 a0 (by decide))
                    have f1872 := ti_b (q_I r19.2 12 7 a0)
                    have f1873 : (q_I r19.2 12 7 a0).toInt = (q_I δ 12 7 a0).toInt := congrArg Int32.toInt (u25 12 7 a0 (by decide))
                    have f1874 := cb_12_26 i99 k_a0
                    have f1875 : (q_I r97.2 12 26 a0).toInt = (q_I r48.2 12 26 a0).toInt := congrArg Int32.toInt (u102 12 26 a0 (by decide))
                    have f1876 := cb_12_26 i50 k_a0
                    have f1877 : (q_I r48.2 12 26 a0).toInt = (q_I r19.2 12 26 a0).toInt := congrArg Int32.toInt (u54 12 26 a0 (by decide))
                    have f1878 := cb_12_26 i21 k_a0
                    have f1879 : (q_I r19.2 12 26 a0).toInt = (q_I δ 12 26 a0).toInt := congrArg Int32.toInt (u25 12 26 a0 (by decide))
                    exact ok_some (show RI ad h.1 δ0 r97.2 ∧ (kp [(12, 4), (12, 5), (12, 6), (12, 7), (12, 25), (12, 26), (12, 27)] δ r97.2 ∧ q_V r97.2 = q_V δ ∧ kr ad [113, 114, 115, 116, 117] δ r97.2) ∧ (q_I δ 12 4 a0).toInt ≤ (q_I r97.2 12 4 a0).toInt ∧ ((q_I δ 12 5 a0).toInt ≠ -1 → (q_I r97.2 12 5 a0).toInt ≠ -1) ∧ (q_I r97.2 12 7 a0).toInt = (q_I δ 12 7 a0).toInt ∧ (q_I r97.2 12 27 a0).toInt = (q_I δ 12 27 a0).toInt ∧ (q_I r97.2 12 26 a0).toInt ≤ (q_I r97.2 12 4 a0).toInt from ⟨i99, ⟨kp_w (by decide) u106, v107, kr_w (by decide) v108⟩, by first | assumption | omega, by first | assumption | omega, by first | assumption | omega, by first | assumption | omega, by first | assumption | omega⟩)
                  · have c1880 : r1851.1.toInt ≠ (0 : Int) := o_ne h1866
                    refine ok_bind (k_X12_pass L hN (a0 := a0) k_a0 i99) (fun r1881 hr1882 => ?_)
                    obtain ⟨i1883, ⟨u1886, u1887, u1888, u1889⟩, p1884, p1885⟩ := hr1882
                    have u1890 := kp_t u106 u1886
                    have v1891 : q_V r1881 = q_V δ := (u1887).trans v107
                    have v1892 := kr_t v108 u1889
                    have f1893 := cb_12_4 i1883 k_a0
                    have f1894 := cb_12_3 i99 k_a0
                    have f1895 : (q_I r97.2 12 3 a0).toInt = (q_I r48.2 12 3 a0).toInt := congrArg Int32.toInt (u102 12 3 a0 (by decide))
                    have f1899 := cb_12_24 i1883 k_a0
                    have f1900 : (q_I r1881 12 24 a0).toInt = (q_I r97.2 12 24 a0).toInt := congrArg Int32.toInt (u1886 12 24 a0 (by decide))
                    have f1901 := cb_12_24 i99 k_a0
                    have f1902 : (q_I r97.2 12 24 a0).toInt = (q_I r48.2 12 24 a0).toInt := congrArg Int32.toInt (u102 12 24 a0 (by decide))
                    have f1903 := cb_12_24 i50 k_a0
                    have f1904 : (q_I r48.2 12 24 a0).toInt = (q_I r19.2 12 24 a0).toInt := congrArg Int32.toInt (u54 12 24 a0 (by decide))
                    have f1905 := cb_12_24 i21 k_a0
                    have f1906 : (q_I r19.2 12 24 a0).toInt = (q_I δ 12 24 a0).toInt := congrArg Int32.toInt (u25 12 24 a0 (by decide))
                    first | (have q1907 := te_mulc (c := 60) (n := 60) rfl (q_I r1881 12 24 a0) (by omega) (by omega); obtain ⟨f1908, f1909, f1910⟩ := q1907) | (obtain ⟨q1907, f1908, f1909, f1910⟩ := ti_mulc (c := 60) (n := 60) rfl (q_I r1881 12 24 a0))
                    have f1911 := cb_12_25 i1883 k_a0
                    have f1912 : (q_I r1881 12 25 a0).toInt = (q_I r97.2 12 25 a0).toInt := congrArg Int32.toInt (u1886 12 25 a0 (by decide))
                    refine ok_biv (fun vx1896 e1897 => ?_)
                    first | (have q1913 := te_add ((60 : Int32) * (q_I r1881 12 24 a0)) (q_I r1881 12 25 a0) (by omega) (by omega); rw [← e1897] at q1913; obtain ⟨f1914, f1915, f1916⟩ := q1913) | (obtain ⟨q1913, f1914, f1915, f1916⟩ : ∃ q : Int, vx1896.toInt = ((60 : Int32) * (q_I r1881 12 24 a0)).toInt + (q_I r1881 12 25 a0).toInt + 4294967296 * q ∧ -2147483648 ≤ vx1896.toInt ∧ vx1896.toInt ≤ 2147483647 := by rw [e1897]; exact ti_add ((60 : Int32) * (q_I r1881 12 24 a0)) (q_I r1881 12 25 a0))
                    first | (have q1921 := te_addc (c := 1) (n := 1) rfl (q_I r1881 12 25 a0) (by omega) (by omega); obtain ⟨f1922, f1923, f1924⟩ := q1921) | (obtain ⟨q1921, f1922, f1923, f1924⟩ := ti_addc (c := 1) (n := 1) rfl (q_I r1881 12 25 a0))
                    refine ok_bdv (fun d1917 e1918 => ?_)
                    have i1919 : RI ad h.1 δ0 d1917 := by rw [e1918]; exact cs_12_25 L i1883 k_a0 (show 0 ≤ ((q_I r1881 12 25 a0) + (1 : Int32)).toInt by omega) (show ((q_I r1881 12 25 a0) + (1 : Int32)).toInt ≤ 60 by omega)
                    have u1925 := kp_I u1890 e1918
                    have v1926 : q_V d1917 = q_V δ := ((show q_V d1917 = q_V r1881 by rw [e1918]; rfl)).trans v1891
                    have v1927 := kr_N v1892 (show q_R d1917 = q_R r1881 by rw [e1918]; rfl)
                    obtain ⟨b1928, o1929, k1930, n1931, w1932⟩ := gO_12_29 L k_a0
                    obtain rfl := gS_12_29 L k_a0 o1929
                    refine ok_at o1929 ?_
                    have t1933 := ti_tn vx1896
                    refine ok_gd (fun hc1934 => ?_) ?_
                    · rcases hc1934 with hc1934 | hc1934
                      · have c1935 : vx1896.toInt < (0 : Int) := o_lt hc1934
                        omega
                      · omega
                    refine ok_bdv (fun d1936 e1937 => ?_)
                    have i1938 : RI ad h.1 δ0 d1936 := by rw [e1937]; exact RI.sR L i1919 w1932
                    have u1939 := kp_N u1925 (show q_I d1936 = q_I d1917 by rw [e1937]; rfl)
                    have v1940 : q_V d1936 = q_V δ := ((show q_V d1936 = q_V d1917 by rw [e1937]; rfl)).trans v1926
                    have v1941 := kr_s L (by decide) v1927 e1937
                    refine ok_ite (fun h1942 => ?_) (fun h1942 => ?_)
                    · have c1943 : r123.1.toInt = (5 : Int) := o_eq h1942
                      obtain ⟨b1944, o1945, k1946, n1947, w1948⟩ := gO_12_30 L k_a0
                      obtain rfl := gS_12_30 L k_a0 o1945
                      refine ok_at o1945 ?_
                      refine ok_bind (k_X12_readNumber L hN (a0 := a0) (x1 := (1 : Int32)) (x2 := (99 : Int32)) k_a0 i1938) (fun r1949 hr1950 => ?_)
                      obtain ⟨i1951, ⟨u1958, u1959, u1960, u1961⟩, p1952, p1953, p1954, p1955, p1956, p1957⟩ := hr1950
                      have u1962 := kp_t u1939 u1958
                      have v1963 : q_V r1949.2 = q_V δ := (u1959).trans v1940
                      have v1964 := kr_t v1941 u1961
                      have f1965 := cb_12_4 i1938 k_a0
                      have f1966 : (q_I d1936 12 4 a0).toInt = (q_I d1917 12 4 a0).toInt := congrArg Int32.toInt (by rw [e1937]; rfl)
                      have f1967 := cb_12_4 i1919 k_a0
                      have f1968 : (q_I d1917 12 4 a0).toInt = (q_I r1881 12 4 a0).toInt := congrArg Int32.toInt (by rw [e1918]; exact rI_o (by decide))
                      have f1969 := cb_12_4 i1951 k_a0
                      have f1970 := ti_b (q_I d1936 12 5 a0)
                      have f1971 : (q_I d1936 12 5 a0).toInt = (q_I d1917 12 5 a0).toInt := congrArg Int32.toInt (by rw [e1937]; rfl)
                      have f1972 := ti_b (q_I d1917 12 5 a0)
                      have f1973 : (q_I d1917 12 5 a0).toInt = (q_I r1881 12 5 a0).toInt := congrArg Int32.toInt (by rw [e1918]; exact rI_o (by decide))
                      have f1974 := ti_b (q_I r1881 12 5 a0)
                      have f1975 : (q_I r1881 12 5 a0).toInt = (q_I r97.2 12 5 a0).toInt := congrArg Int32.toInt (u1886 12 5 a0 (by decide))
                      have f1976 := ti_b (q_I r1949.2 12 5 a0)
                      have f1977 := ti_b r1949.1
                      replace p1957 : ((q_I r1949.2 12 5 a0).toInt = -1 → (1 : Int) ≤ (r1949.1).toInt ∧ (r1949.1).toInt ≤ (99 : Int)) := p1957
                      have f1978 := ti_b r1949.1
                      refine ok_gd (fun hc1979 => ?_) ?_
                      · rcases hc1979 with hc1979 | hc1979
                        · have c1980 : vx1896.toInt < (0 : Int) := o_lt hc1979
                          omega
                        · omega
                      refine ok_bdv (fun d1981 e1982 => ?_)
                      have i1983 : RI ad h.1 δ0 d1981 := by rw [e1982]; exact RI.sR L i1951 w1948
                      have u1984 := kp_N u1962 (show q_I d1981 = q_I r1949.2 by rw [e1982]; rfl)
                      have v1985 : q_V d1981 = q_V δ := ((show q_V d1981 = q_V r1949.2 by rw [e1982]; rfl)).trans v1963
                      have v1986 := kr_s L (by decide) v1964 e1982
                      refine ok_bind (k_X12_sign L hN (a0 := a0) (x1 := (91 : Int32)) k_a0 (show (91 : Int) ≠ 0 by first | assumption | omega) i1983) (fun r1987 hr1988 => ?_)
                      obtain ⟨i1989, ⟨u1993, u1994, u1995, u1996⟩, p1990, p1991, p1992⟩ := hr1988
                      have u1997 := kp_t u1984 u1993
                      have v1998 : q_V r1987 = q_V δ := (u1994).trans v1985
                      have v1999 := kr_t v1986 u1996
                      have f2000 := cb_12_4 i1983 k_a0
                      have f2001 : (q_I d1981 12 4 a0).toInt = (q_I r1949.2 12 4 a0).toInt := congrArg Int32.toInt (by rw [e1982]; rfl)
                      have f2002 := cb_12_4 i1989 k_a0
                      have f2003 := ti_b (q_I d1981 12 5 a0)
                      have f2004 : (q_I d1981 12 5 a0).toInt = (q_I r1949.2 12 5 a0).toInt := congrArg Int32.toInt (by rw [e1982]; rfl)
                      have f2005 := ti_b (q_I r1987 12 5 a0)
                      have f2009 := cb_12_27 i1989 k_a0
                      have f2010 : (q_I r1987 12 27 a0).toInt = (q_I d1981 12 27 a0).toInt := congrArg Int32.toInt (u1993 12 27 a0 (by decide))
                      have f2011 := cb_12_27 i1983 k_a0
                      have f2012 : (q_I d1981 12 27 a0).toInt = (q_I r1949.2 12 27 a0).toInt := congrArg Int32.toInt (by rw [e1982]; rfl)
                      have f2013 := cb_12_27 i1951 k_a0
                      have f2014 : (q_I r1949.2 12 27 a0).toInt = (q_I d1936 12 27 a0).toInt := congrArg Int32.toInt (u1958 12 27 a0 (by decide))
                      have f2015 := cb_12_27 i1938 k_a0
                      have f2016 : (q_I d1936 12 27 a0).toInt = (q_I d1917 12 27 a0).toInt := congrArg Int32.toInt (by rw [e1937]; rfl)
                      have f2017 := cb_12_27 i1919 k_a0
                      have f2018 : (q_I d1917 12 27 a0).toInt = (q_I r1881 12 27 a0).toInt := congrArg Int32.toInt (by rw [e1918]; exact rI_o (by decide))
                      have f2019 := cb_12_27 i1883 k_a0
                      have f2020 : (q_I r1881 12 27 a0).toInt = (q_I r97.2 12 27 a0).toInt := congrArg Int32.toInt (u1886 12 27 a0 (by decide))
                      first | (have q2022 := te_addc (c := 1) (n := 1) rfl (q_I r1987 12 27 a0) (by omega) (by omega); obtain ⟨f2023, f2024, f2025⟩ := q2022) | (obtain ⟨q2022, f2023, f2024, f2025⟩ := ti_addc (c := 1) (n := 1) rfl (q_I r1987 12 27 a0))
                      refine ok_bdv (fun d2006 e2007 => ?_)
                      have i2008 : RI ad h.1 δ0 d2006 := by rw [e2007]; exact cs_12_27 L i1989 k_a0 (show 0 ≤ ((q_I r1987 12 27 a0) + (1 : Int32)).toInt by omega) (show ((q_I r1987 12 27 a0) + (1 : Int32)).toInt ≤ 3 by omega)
                      have u2026 := kp_I u1997 e2007
                      have v2027 : q_V d2006 = q_V δ := ((show q_V d2006 = q_V r1987 by rw [e2007]; rfl)).trans v1998
                      have v2028 := kr_N v1999 (show q_R d2006 = q_R r1987 by rw [e2007]; rfl)
                      have f2031 := cb_12_24 i2008 k_a0
                      have f2032 : (q_I d2006 12 24 a0).toInt = (q_I r1987 12 24 a0).toInt := congrArg Int32.toInt (by rw [e2007]; exact rI_o (by decide))
                      have f2033 := cb_12_24 i1989 k_a0
                      have f2034 : (q_I r1987 12 24 a0).toInt = (q_I d1981 12 24 a0).toInt := congrArg Int32.toInt (u1993 12 24 a0 (by decide))
                      have f2035 := cb_12_24 i1983 k_a0
                      have f2036 : (q_I d1981 12 24 a0).toInt = (q_I r1949.2 12 24 a0).toInt := congrArg Int32.toInt (by rw [e1982]; rfl)
                      have f2037 := cb_12_24 i1951 k_a0
                      have f2038 : (q_I r1949.2 12 24 a0).toInt = (q_I d1936 12 24 a0).toInt := congrArg Int32.toInt (u1958 12 24 a0 (by decide))
                      have f2039 := cb_12_24 i1938 k_a0
                      have f2040 : (q_I d1936 12 24 a0).toInt = (q_I d1917 12 24 a0).toInt := congrArg Int32.toInt (by rw [e1937]; rfl)
                      have f2041 := cb_12_24 i1919 k_a0
                      have f2042 : (q_I d1917 12 24 a0).toInt = (q_I r1881 12 24 a0).toInt := congrArg Int32.toInt (by rw [e1918]; exact rI_o (by decide))
                      have f2043 := cb_12_26 i2008 k_a0
                      have f2044 : (q_I d2006 12 26 a0).toInt = (q_I r1987 12 26 a0).toInt := congrArg Int32.toInt (by rw [e2007]; exact rI_o (by decide))
                      have f2045 := cb_12_26 i1989 k_a0
                      have f2046 : (q_I r1987 12 26 a0).toInt = (q_I d1981 12 26 a0).toInt := congrArg Int32.toInt (u1993 12 26 a0 (by decide))
                      have f2047 := cb_12_26 i1983 k_a0
                      have f2048 : (q_I d1981 12 26 a0).toInt = (q_I r1949.2 12 26 a0).toInt := congrArg Int32.toInt (by rw [e1982]; rfl)
                      have f2049 := cb_12_26 i1951 k_a0
                      have f2050 : (q_I r1949.2 12 26 a0).toInt = (q_I d1936 12 26 a0).toInt := congrArg Int32.toInt (u1958 12 26 a0 (by decide))
                      have f2051 := cb_12_26 i1938 k_a0
                      have f2052 : (q_I d1936 12 26 a0).toInt = (q_I d1917 12 26 a0).toInt := congrArg Int32.toInt (by rw [e1937]; rfl)
                      have f2053 := cb_12_26 i1919 k_a0
                      have f2054 : (q_I d1917 12 26 a0).toInt = (q_I r1881 12 26 a0).toInt := congrArg Int32.toInt (by rw [e1918]; exact rI_o (by decide))
                      have f2055 := cb_12_26 i1883 k_a0
                      have f2056 : (q_I r1881 12 26 a0).toInt = (q_I r97.2 12 26 a0).toInt := congrArg Int32.toInt (u1886 12 26 a0 (by decide))
                      have f2057 := cb_12_26 i99 k_a0
                      have f2058 : (q_I r97.2 12 26 a0).toInt = (q_I r48.2 12 26 a0).toInt := congrArg Int32.toInt (u102 12 26 a0 (by decide))
                      have f2059 := cb_12_26 i50 k_a0
                      have f2060 : (q_I r48.2 12 26 a0).toInt = (q_I r19.2 12 26 a0).toInt := congrArg Int32.toInt (u54 12 26 a0 (by decide))
                      have f2061 := cb_12_26 i21 k_a0
                      have f2062 : (q_I r19.2 12 26 a0).toInt = (q_I δ 12 26 a0).toInt := congrArg Int32.toInt (u25 12 26 a0 (by decide))
                      have f2063 := cb_12_4 i2008 k_a0
                      have f2064 : (q_I d2006 12 4 a0).toInt = (q_I r1987 12 4 a0).toInt := congrArg Int32.toInt (by rw [e2007]; exact rI_o (by decide))
                      have f2065 := ti_b (q_I d2006 12 7 a0)
                      have f2066 : (q_I d2006 12 7 a0).toInt = (q_I r1987 12 7 a0).toInt := congrArg Int32.toInt (by rw [e2007]; exact rI_o (by decide))
                      have f2067 := ti_b (q_I r1987 12 7 a0)
                      have f2068 : (q_I r1987 12 7 a0).toInt = (q_I d1981 12 7 a0).toInt := congrArg Int32.toInt (u1993 12 7 a0 (by decide))
                      have f2069 := ti_b (q_I d1981 12 7 a0)
                      have f2070 : (q_I d1981 12 7 a0).toInt = (q_I r1949.2 12 7 a0).toInt := congrArg Int32.toInt (by rw [e1982]; rfl)
                      have f2071 := ti_b (q_I r1949.2 12 7 a0)
                      have f2072 : (q_I r1949.2 12 7 a0).toInt = (q_I d1936 12 7 a0).toInt := congrArg Int32.toInt (u1958 12 7 a0 (by decide))
                      have f2073 := ti_b (q_I d1936 12 7 a0)
                      have f2074 : (q_I d1936 12 7 a0).toInt = (q_I d1917 12 7 a0).toInt := congrArg Int32.toInt (by rw [e1937]; rfl)
                      have f2075 := ti_b (q_I d1917 12 7 a0)
                      have f2076 : (q_I d1917 12 7 a0).toInt = (q_I r1881 12 7 a0).toInt := congrArg Int32.toInt (by rw [e1918]; exact rI_o (by decide))
                      have f2077 := ti_b (q_I r1881 12 7 a0)
                      have f2078 : (q_I r1881 12 7 a0).toInt = (q_I r97.2 12 7 a0).toInt := congrArg Int32.toInt (u1886 12 7 a0 (by decide))
                      have f2079 := ti_b (q_I r97.2 12 7 a0)
                      have f2080 : (q_I r97.2 12 7 a0).toInt = (q_I r48.2 12 7 a0).toInt := congrArg Int32.toInt (u102 12 7 a0 (by decide))
                      have f2081 := ti_b (q_I r48.2 12 7 a0)
                      have f2082 : (q_I r48.2 12 7 a0).toInt = (q_I r19.2 12 7 a0).toInt := congrArg Int32.toInt (u54 12 7 a0 (by decide))
                      have f2083 := ti_b (q_I r19.2 12 7 a0)
                      have f2084 : (q_I r19.2 12 7 a0).toInt = (q_I δ 12 7 a0).toInt := congrArg Int32.toInt (u25 12 7 a0 (by decide))
                      have f2085 := cb_12_27 i2008 k_a0
                      have f2086 : (q_I d2006 12 27 a0).toInt = ((q_I r1987 12 27 a0) + (1 : Int32)).toInt := congrArg Int32.toInt (show q_I d2006 12 27 a0 = ((q_I r1987 12 27 a0) + (1 : Int32)) by rw [e2007]; exact rI_s)
                      refine ok_bind (hT a0 d2006 k_a0 (show (q_I d2006 12 24 a0).toInt ≤ 3 by first | assumption | omega) (show (q_I d2006 12 26 a0).toInt ≤ (q_I d2006 12 4 a0).toInt by first | assumption | omega) (show (q_I d2006 12 7 a0).toInt = 0 by first | assumption | omega) (show 4 - (q_I d2006 12 27 a0).toInt < _ by first | assumption | omega) i2008) (fun r2029 hr2030 => ?_)
                      obtain ⟨i2087, ⟨u2093, u2094, u2095⟩, p2088, p2089, p2090, p2091, p2092⟩ := hr2030
                      have u2096 := kp_t u2026 u2093
                      have v2097 : q_V r2029 = q_V δ := (u2094).trans v2027
                      have v2098 := kr_t v2028 u2095
                      have f2099 := cb_12_4 i2087 k_a0
                      have f2100 := ti_b (q_I d2006 12 5 a0)
                      have f2101 : (q_I d2006 12 5 a0).toInt = (q_I r1987 12 5 a0).toInt := congrArg Int32.toInt (by rw [e2007]; exact rI_o (by decide))
                      have f2102 := ti_b (q_I r2029 12 5 a0)
                      have f2103 := ti_b (q_I r2029 12 7 a0)
                      have f2104 := cb_12_27 i2087 k_a0
                      have f2105 := cb_12_26 i2087 k_a0
                      first | (have q2110 := te_subc (c := 1) (n := 1) rfl (q_I r2029 12 27 a0) (by omega) (by omega); obtain ⟨f2111, f2112, f2113⟩ := q2110) | (obtain ⟨q2110, f2111, f2112, f2113⟩ := ti_subc (c := 1) (n := 1) rfl (q_I r2029 12 27 a0))
                      refine ok_bdv (fun d2106 e2107 => ?_)
                      have i2108 : RI ad h.1 δ0 d2106 := by rw [e2107]; exact cs_12_27 L i2087 k_a0 (show 0 ≤ ((q_I r2029 12 27 a0) - (1 : Int32)).toInt by omega) (show ((q_I r2029 12 27 a0) - (1 : Int32)).toInt ≤ 3 by omega)
                      have u2114 := kp_I u2096 e2107
                      have v2115 : q_V d2106 = q_V δ := ((show q_V d2106 = q_V r2029 by rw [e2107]; rfl)).trans v2097
                      have v2116 := kr_N v2098 (show q_R d2106 = q_R r2029 by rw [e2107]; rfl)
                      refine ok_bind (k_X12_sign L hN (a0 := a0) (x1 := (93 : Int32)) k_a0 (show (93 : Int) ≠ 0 by first | assumption | omega) i2108) (fun r2117 hr2118 => ?_)
                      obtain ⟨i2119, ⟨u2123, u2124, u2125, u2126⟩, p2120, p2121, p2122⟩ := hr2118
                      have u2127 := kp_t u2114 u2123
                      have v2128 : q_V r2117 = q_V δ := (u2124).trans v2115
                      have v2129 := kr_t v2116 u2126
                      have f2130 := cb_12_4 i2108 k_a0
                      have f2131 : (q_I d2106 12 4 a0).toInt = (q_I r2029 12 4 a0).toInt := congrArg Int32.toInt (by rw [e2107]; exact rI_o (by decide))
                      have f2132 := cb_12_4 i2119 k_a0
                      have f2133 := ti_b (q_I d2106 12 5 a0)
                      have f2134 : (q_I d2106 12 5 a0).toInt = (q_I r2029 12 5 a0).toInt := congrArg Int32.toInt (by rw [e2107]; exact rI_o (by decide))
                      have f2135 := ti_b (q_I r2117 12 5 a0)
                      obtain ⟨b2136, o2137, k2138, n2139, w2140⟩ := gO_12_31 L k_a0
                      obtain rfl := gS_12_31 L k_a0 o2137
                      refine ok_at o2137 ?_
                      refine ok_gd (fun hc2141 => ?_) ?_
                      · rcases hc2141 with hc2141 | hc2141
                        · have c2142 : vx1896.toInt < (0 : Int) := o_lt hc2141
                          omega
                        · omega
                      refine ok_bdv (fun d2143 e2144 => ?_)
                      have i2145 : RI ad h.1 δ0 d2143 := by rw [e2144]; exact RI.sR L i2119 w2140
                      have u2146 := kp_N u2127 (show q_I d2143 = q_I r2117 by rw [e2144]; rfl)
                      have v2147 : q_V d2143 = q_V δ := ((show q_V d2143 = q_V r2117 by rw [e2144]; rfl)).trans v2128
                      have v2148 := kr_s L (by decide) v2129 e2144
                      unfold J_X12_readSteps_236
                      have f2149 := cb_12_24 i2145 k_a0
                      have f2150 : (q_I d2143 12 24 a0).toInt = (q_I r2117 12 24 a0).toInt := congrArg Int32.toInt (by rw [e2144]; rfl)
                      have f2151 := cb_12_24 i2119 k_a0
                      have f2152 : (q_I r2117 12 24 a0).toInt = (q_I d2106 12 24 a0).toInt := congrArg Int32.toInt (u2123 12 24 a0 (by decide))
                      have f2153 := cb_12_24 i2108 k_a0
                      have f2154 : (q_I d2106 12 24 a0).toInt = (q_I r2029 12 24 a0).toInt := congrArg Int32.toInt (by rw [e2107]; exact rI_o (by decide))
                      have f2155 := cb_12_24 i2087 k_a0
                      have f2156 : (q_I r2029 12 24 a0).toInt = (q_I d2006 12 24 a0).toInt := congrArg Int32.toInt (u2093 12 24 a0 (by decide))
                      have f2157 := cb_12_26 i2145 k_a0
                      have f2158 : (q_I d2143 12 26 a0).toInt = (q_I r2117 12 26 a0).toInt := congrArg Int32.toInt (by rw [e2144]; rfl)
                      have f2159 := cb_12_26 i2119 k_a0
                      have f2160 : (q_I r2117 12 26 a0).toInt = (q_I d2106 12 26 a0).toInt := congrArg Int32.toInt (u2123 12 26 a0 (by decide))
                      have f2161 := cb_12_26 i2108 k_a0
                      have f2162 : (q_I d2106 12 26 a0).toInt = (q_I r2029 12 26 a0).toInt := congrArg Int32.toInt (by rw [e2107]; exact rI_o (by decide))
                      have f2163 := cb_12_4 i2145 k_a0
                      have f2164 : (q_I d2143 12 4 a0).toInt = (q_I r2117 12 4 a0).toInt := congrArg Int32.toInt (by rw [e2144]; rfl)
                      have f2165 := ti_b (q_I d2143 12 7 a0)
                      have f2166 : (q_I d2143 12 7 a0).toInt = (q_I r2117 12 7 a0).toInt := congrArg Int32.toInt (by rw [e2144]; rfl)
                      have f2167 := ti_b (q_I r2117 12 7 a0)
                      have f2168 : (q_I r2117 12 7 a0).toInt = (q_I d2106 12 7 a0).toInt := congrArg Int32.toInt (u2123 12 7 a0 (by decide))
                      have f2169 := ti_b (q_I d2106 12 7 a0)
                      have f2170 : (q_I d2106 12 7 a0).toInt = (q_I r2029 12 7 a0).toInt := congrArg Int32.toInt (by rw [e2107]; exact rI_o (by decide))
                      have f2171 := cb_12_27 i2145 k_a0
                      have f2172 : (q_I d2143 12 27 a0).toInt = (q_I r2117 12 27 a0).toInt := congrArg Int32.toInt (by rw [e2144]; rfl)
                      have f2173 := cb_12_27 i2119 k_a0
                      have f2174 : (q_I r2117 12 27 a0).toInt = (q_I d2106 12 27 a0).toInt := congrArg Int32.toInt (u2123 12 27 a0 (by decide))
                      have f2175 := cb_12_27 i2108 k_a0
                      have f2176 : (q_I d2106 12 27 a0).toInt = ((q_I r2029 12 27 a0) - (1 : Int32)).toInt := congrArg Int32.toInt (show q_I d2106 12 27 a0 = ((q_I r2029 12 27 a0) - (1 : Int32)) by rw [e2107]; exact rI_s)
                      refine ok_mono (ih d2143 i2145 (show (q_I d2143 12 24 a0).toInt ≤ 3 by first | assumption | omega) (show (q_I d2143 12 26 a0).toInt ≤ (q_I d2143 12 4 a0).toInt by first | assumption | omega) (show (q_I d2143 12 7 a0).toInt = 0 by first | assumption | omega) (show 4 - (q_I d2143 12 27 a0).toInt ≤ K by first | assumption | omega) (show 501 - (q_I d2143 12 4 a0).toInt < _ by omega)) (fun r2177 hr2178 => ?_)
                      obtain ⟨i2179, ⟨u2185, u2186, u2187⟩, p2180, p2181, p2182, p2183, p2184⟩ := hr2178
                      have u2188 := kp_t u2146 u2185
                      have v2189 : q_V r2177 = q_V δ := (u2186).trans v2147
                      have v2190 := kr_t v2148 u2187
                      have f2191 := cb_12_4 i2179 k_a0
                      have f2192 := ti_b (q_I d2143 12 5 a0)
                      have f2193 : (q_I d2143 12 5 a0).toInt = (q_I r2117 12 5 a0).toInt := congrArg Int32.toInt (by rw [e2144]; rfl)
                      have f2194 := ti_b (q_I r2177 12 5 a0)
                      have f2195 := ti_b (q_I r2177 12 7 a0)
                      have f2196 := cb_12_27 i2179 k_a0
                      have f2197 := cb_12_26 i2179 k_a0
                      exact ⟨by assumption, ⟨kp_w (by decide) u2188, v2189, kr_w (by decide) v2190⟩, by first | assumption | omega, by first | assumption | omega, by first | assumption | omega, by first | assumption | omega, by first | assumption | omega⟩
                    · have c2198 : r123.1.toInt ≠ (5 : Int) := o_ne h1942
                      obtain ⟨b2199, o2200, k2201, n2202, w2203⟩ := gO_12_30 L k_a0
                      obtain rfl := gS_12_30 L k_a0 o2200
                      refine ok_at o2200 ?_
                      refine ok_gd (fun hc2204 => ?_) ?_
                      · rcases hc2204 with hc2204 | hc2204
                        · have c2205 : vx1896.toInt < (0 : Int) := o_lt hc2204
                          omega
                        · omega
                      refine ok_bdv (fun d2206 e2207 => ?_)
                      have i2208 : RI ad h.1 δ0 d2206 := by rw [e2207]; exact RI.sR L i1938 w2203
                      have u2209 := kp_N u1939 (show q_I d2206 = q_I d1936 by rw [e2207]; rfl)
                      have v2210 : q_V d2206 = q_V δ := ((show q_V d2206 = q_V d1936 by rw [e2207]; rfl)).trans v1940
                      have v2211 := kr_s L (by decide) v1941 e2207
                      have f2214 := cb_12_24 i2208 k_a0
                      have f2215 : (q_I d2206 12 24 a0).toInt = (q_I d1936 12 24 a0).toInt := congrArg Int32.toInt (by rw [e2207]; rfl)
                      have f2216 := cb_12_24 i1938 k_a0
                      have f2217 : (q_I d1936 12 24 a0).toInt = (q_I d1917 12 24 a0).toInt := congrArg Int32.toInt (by rw [e1937]; rfl)
                      have f2218 := cb_12_24 i1919 k_a0
                      have f2219 : (q_I d1917 12 24 a0).toInt = (q_I r1881 12 24 a0).toInt := congrArg Int32.toInt (by rw [e1918]; exact rI_o (by decide))
                      have f2220 := cb_12_26 i2208 k_a0
                      have f2221 : (q_I d2206 12 26 a0).toInt = (q_I d1936 12 26 a0).toInt := congrArg Int32.toInt (by rw [e2207]; rfl)
                      have f2222 := cb_12_26 i1938 k_a0
                      have f2223 : (q_I d1936 12 26 a0).toInt = (q_I d1917 12 26 a0).toInt := congrArg Int32.toInt (by rw [e1937]; rfl)
                      have f2224 := cb_12_26 i1919 k_a0
                      have f2225 : (q_I d1917 12 26 a0).toInt = (q_I r1881 12 26 a0).toInt := congrArg Int32.toInt (by rw [e1918]; exact rI_o (by decide))
                      have f2226 := cb_12_26 i1883 k_a0
                      have f2227 : (q_I r1881 12 26 a0).toInt = (q_I r97.2 12 26 a0).toInt := congrArg Int32.toInt (u1886 12 26 a0 (by decide))
                      have f2228 := cb_12_26 i99 k_a0
                      have f2229 : (q_I r97.2 12 26 a0).toInt = (q_I r48.2 12 26 a0).toInt := congrArg Int32.toInt (u102 12 26 a0 (by decide))
                      have f2230 := cb_12_26 i50 k_a0
                      have f2231 : (q_I r48.2 12 26 a0).toInt = (q_I r19.2 12 26 a0).toInt := congrArg Int32.toInt (u54 12 26 a0 (by decide))
                      have f2232 := cb_12_26 i21 k_a0
                      have f2233 : (q_I r19.2 12 26 a0).toInt = (q_I δ 12 26 a0).toInt := congrArg Int32.toInt (u25 12 26 a0 (by decide))
                      have f2234 := cb_12_4 i2208 k_a0
                      have f2235 : (q_I d2206 12 4 a0).toInt = (q_I d1936 12 4 a0).toInt := congrArg Int32.toInt (by rw [e2207]; rfl)
                      have f2236 := cb_12_4 i1938 k_a0
                      have f2237 : (q_I d1936 12 4 a0).toInt = (q_I d1917 12 4 a0).toInt := congrArg Int32.toInt (by rw [e1937]; rfl)
                      have f2238 := cb_12_4 i1919 k_a0
                      have f2239 : (q_I d1917 12 4 a0).toInt = (q_I r1881 12 4 a0).toInt := congrArg Int32.toInt (by rw [e1918]; exact rI_o (by decide))
                      have f2240 := ti_b (q_I d2206 12 7 a0)
                      have f2241 : (q_I d2206 12 7 a0).toInt = (q_I d1936 12 7 a0).toInt := congrArg Int32.toInt (by rw [e2207]; rfl)
                      have f2242 := ti_b (q_I d1936 12 7 a0)
                      have f2243 : (q_I d1936 12 7 a0).toInt = (q_I d1917 12 7 a0).toInt := congrArg Int32.toInt (by rw [e1937]; rfl)
                      have f2244 := ti_b (q_I d1917 12 7 a0)
                      have f2245 : (q_I d1917 12 7 a0).toInt = (q_I r1881 12 7 a0).toInt := congrArg Int32.toInt (by rw [e1918]; exact rI_o (by decide))
                      have f2246 := ti_b (q_I r1881 12 7 a0)
                      have f2247 : (q_I r1881 12 7 a0).toInt = (q_I r97.2 12 7 a0).toInt := congrArg Int32.toInt (u1886 12 7 a0 (by decide))
                      have f2248 := ti_b (q_I r97.2 12 7 a0)
                      have f2249 : (q_I r97.2 12 7 a0).toInt = (q_I r48.2 12 7 a0).toInt := congrArg Int32.toInt (u102 12 7 a0 (by decide))
                      have f2250 := ti_b (q_I r48.2 12 7 a0)
                      have f2251 : (q_I r48.2 12 7 a0).toInt = (q_I r19.2 12 7 a0).toInt := congrArg Int32.toInt (u54 12 7 a0 (by decide))
                      have f2252 := ti_b (q_I r19.2 12 7 a0)
                      have f2253 : (q_I r19.2 12 7 a0).toInt = (q_I δ 12 7 a0).toInt := congrArg Int32.toInt (u25 12 7 a0 (by decide))
                      have f2254 := ti_b (q_I d2206 12 5 a0)
                      have f2255 : (q_I d2206 12 5 a0).toInt = (q_I d1936 12 5 a0).toInt := congrArg Int32.toInt (by rw [e2207]; rfl)
                      have f2256 := ti_b (q_I d1936 12 5 a0)
                      have f2257 : (q_I d1936 12 5 a0).toInt = (q_I d1917 12 5 a0).toInt := congrArg Int32.toInt (by rw [e1937]; rfl)
                      have f2258 := ti_b (q_I d1917 12 5 a0)
                      have f2259 : (q_I d1917 12 5 a0).toInt = (q_I r1881 12 5 a0).toInt := congrArg Int32.toInt (by rw [e1918]; exact rI_o (by decide))
                      have f2260 := ti_b (q_I r1881 12 5 a0)
                      have f2261 : (q_I r1881 12 5 a0).toInt = (q_I r97.2 12 5 a0).toInt := congrArg Int32.toInt (u1886 12 5 a0 (by decide))
                      refine ok_bind (k_X12_sum L hN (a0 := a0) k_a0 (show (q_I d2206 12 24 a0).toInt ≤ 3 by first | assumption | omega) (show (q_I d2206 12 26 a0).toInt ≤ (q_I d2206 12 4 a0).toInt by first | assumption | omega) (show 0 ≤ (q_I d2206 12 7 a0).toInt by first | assumption | omega) (show (q_I d2206 12 7 a0).toInt ≤ 7 by first | assumption | omega) (show (q_I d2206 12 7 a0).toInt = 7 → (q_I d2206 12 5 a0).toInt ≠ -1 by first | assumption | omega) (show 8 - (q_I d2206 12 7 a0).toInt < 20 by first | assumption | omega) i2208) (fun r2212 hr2213 => ?_)
                      obtain ⟨i2262, ⟨u2268, u2269, u2270⟩, p2263, p2264, p2265, p2266, p2267⟩ := hr2213
                      have u2271 := kp_t u2209 u2268
                      have v2272 : q_V r2212 = q_V δ := (u2269).trans v2210
                      have v2273 := kr_t v2211 u2270
                      have f2274 := cb_12_4 i2262 k_a0
                      have f2275 := ti_b (q_I r2212 12 5 a0)
                      have f2276 := ti_b (q_I r2212 12 7 a0)
                      have f2277 := cb_12_26 i2262 k_a0
                      obtain ⟨b2278, o2279, k2280, n2281, w2282⟩ := gO_12_31 L k_a0
                      obtain rfl := gS_12_31 L k_a0 o2279
                      refine ok_at o2279 ?_
                      refine ok_gd (fun hc2283 => ?_) ?_
                      · rcases hc2283 with hc2283 | hc2283
                        · have c2284 : vx1896.toInt < (0 : Int) := o_lt hc2283
                          omega
                        · omega
                      refine ok_bdv (fun d2285 e2286 => ?_)
                      have i2287 : RI ad h.1 δ0 d2285 := by rw [e2286]; exact RI.sR L i2262 w2282
                      have u2288 := kp_N u2271 (show q_I d2285 = q_I r2212 by rw [e2286]; rfl)
                      have v2289 : q_V d2285 = q_V δ := ((show q_V d2285 = q_V r2212 by rw [e2286]; rfl)).trans v2272
                      have v2290 := kr_s L (by decide) v2273 e2286
                      refine ok_bind (k_X12_sign L hN (a0 := a0) (x1 := (59 : Int32)) k_a0 (show (59 : Int) ≠ 0 by first | assumption | omega) i2287) (fun r2291 hr2292 => ?_)
                      obtain ⟨i2293, ⟨u2297, u2298, u2299, u2300⟩, p2294, p2295, p2296⟩ := hr2292
                      have u2301 := kp_t u2288 u2297
                      have v2302 : q_V r2291 = q_V δ := (u2298).trans v2289
                      have v2303 := kr_t v2290 u2300
                      have f2304 := cb_12_4 i2287 k_a0
                      have f2305 : (q_I d2285 12 4 a0).toInt = (q_I r2212 12 4 a0).toInt := congrArg Int32.toInt (by rw [e2286]; rfl)
                      have f2306 := cb_12_4 i2293 k_a0
                      have f2307 := ti_b (q_I d2285 12 5 a0)
                      have f2308 : (q_I d2285 12 5 a0).toInt = (q_I r2212 12 5 a0).toInt := congrArg Int32.toInt (by rw [e2286]; rfl)
                      have f2309 := ti_b (q_I r2291 12 5 a0)
                      unfold J_X12_readSteps_236
                      have f2310 := cb_12_24 i2293 k_a0
                      have f2311 : (q_I r2291 12 24 a0).toInt = (q_I d2285 12 24 a0).toInt := congrArg Int32.toInt (u2297 12 24 a0 (by decide))
                      have f2312 := cb_12_24 i2287 k_a0
                      have f2313 : (q_I d2285 12 24 a0).toInt = (q_I r2212 12 24 a0).toInt := congrArg Int32.toInt (by rw [e2286]; rfl)
                      have f2314 := cb_12_24 i2262 k_a0
                      have f2315 : (q_I r2212 12 24 a0).toInt = (q_I d2206 12 24 a0).toInt := congrArg Int32.toInt (u2268 12 24 a0 (by decide))
                      have f2316 := cb_12_26 i2293 k_a0
                      have f2317 : (q_I r2291 12 26 a0).toInt = (q_I d2285 12 26 a0).toInt := congrArg Int32.toInt (u2297 12 26 a0 (by decide))
                      have f2318 := cb_12_26 i2287 k_a0
                      have f2319 : (q_I d2285 12 26 a0).toInt = (q_I r2212 12 26 a0).toInt := congrArg Int32.toInt (by rw [e2286]; rfl)
                      have f2320 := ti_b (q_I r2291 12 7 a0)
                      have f2321 : (q_I r2291 12 7 a0).toInt = (q_I d2285 12 7 a0).toInt := congrArg Int32.toInt (u2297 12 7 a0 (by decide))
                      have f2322 := ti_b (q_I d2285 12 7 a0)
                      have f2323 : (q_I d2285 12 7 a0).toInt = (q_I r2212 12 7 a0).toInt := congrArg Int32.toInt (by rw [e2286]; rfl)
                      have f2324 := cb_12_27 i2293 k_a0
                      have f2325 : (q_I r2291 12 27 a0).toInt = (q_I d2285 12 27 a0).toInt := congrArg Int32.toInt (u2297 12 27 a0 (by decide))
                      have f2326 := cb_12_27 i2287 k_a0
                      have f2327 : (q_I d2285 12 27 a0).toInt = (q_I r2212 12 27 a0).toInt := congrArg Int32.toInt (by rw [e2286]; rfl)
                      have f2328 := cb_12_27 i2262 k_a0
                      have f2329 : (q_I r2212 12 27 a0).toInt = (q_I d2206 12 27 a0).toInt := congrArg Int32.toInt (u2268 12 27 a0 (by decide))
                      have f2330 := cb_12_27 i2208 k_a0
                      have f2331 : (q_I d2206 12 27 a0).toInt = (q_I d1936 12 27 a0).toInt := congrArg Int32.toInt (by rw [e2207]; rfl)
                      have f2332 := cb_12_27 i1938 k_a0
                      have f2333 : (q_I d1936 12 27 a0).toInt = (q_I d1917 12 27 a0).toInt := congrArg Int32.toInt (by rw [e1937]; rfl)
                      have f2334 := cb_12_27 i1919 k_a0
                      have f2335 : (q_I d1917 12 27 a0).toInt = (q_I r1881 12 27 a0).toInt := congrArg Int32.toInt (by rw [e1918]; exact rI_o (by decide))
                      have f2336 := cb_12_27 i1883 k_a0
                      have f2337 : (q_I r1881 12 27 a0).toInt = (q_I r97.2 12 27 a0).toInt := congrArg Int32.toInt (u1886 12 27 a0 (by decide))
                      refine ok_mono (ih r2291 i2293 (show (q_I r2291 12 24 a0).toInt ≤ 3 by first | assumption | omega) (show (q_I r2291 12 26 a0).toInt ≤ (q_I r2291 12 4 a0).toInt by first | assumption | omega) (show (q_I r2291 12 7 a0).toInt = 0 by first | assumption | omega) (show 4 - (q_I r2291 12 27 a0).toInt ≤ K by first | assumption | omega) (show 501 - (q_I r2291 12 4 a0).toInt < _ by omega)) (fun r2338 hr2339 => ?_)
                      obtain ⟨i2340, ⟨u2346, u2347, u2348⟩, p2341, p2342, p2343, p2344, p2345⟩ := hr2339
                      have u2349 := kp_t u2301 u2346
                      have v2350 : q_V r2338 = q_V δ := (u2347).trans v2302
                      have v2351 := kr_t v2303 u2348
                      have f2352 := cb_12_4 i2340 k_a0
                      have f2353 := ti_b (q_I r2338 12 5 a0)
                      have f2354 := ti_b (q_I r2338 12 7 a0)
                      have f2355 := cb_12_27 i2340 k_a0
                      have f2356 := cb_12_26 i2340 k_a0
                      exact ⟨by assumption, ⟨kp_w (by decide) u2349, v2350, kr_w (by decide) v2351⟩, by first | assumption | omega, by first | assumption | omega, by first | assumption | omega, by first | assumption | omega, by first | assumption | omega⟩
              · have c2357 : r123.1.toInt ≠ (5 : Int) := o_ne h1289
                unfold J_X12_readSteps_79
                refine ok_bind (k_X12_fine L hN (a0 := a0) k_a0 i99) (fun r2358 hr2359 => ?_)
                obtain ⟨i2360, p2361, p2362, p2363⟩ := hr2359
                try rw [i2360]
                have f2364 := bo_t p2361
                have f2365 := ti_b r2358.1
                have f2366 := ti_b (q_I r97.2 12 5 a0)
                have f2367 : (q_I r97.2 12 5 a0).toInt = (q_I r48.2 12 5 a0).toInt := congrArg Int32.toInt (u102 12 5 a0 (by decide))
                have f2368 := ti_b (q_I r48.2 12 5 a0)
                have f2369 : (q_I r48.2 12 5 a0).toInt = (q_I r19.2 12 5 a0).toInt := congrArg Int32.toInt (u54 12 5 a0 (by decide))
                have f2370 := ti_b (q_I r19.2 12 5 a0)
                have f2371 : (q_I r19.2 12 5 a0).toInt = (q_I δ 12 5 a0).toInt := congrArg Int32.toInt (u25 12 5 a0 (by decide))
                have f2372 := ti_b r2358.1
                refine ok_ite (fun h2373 => ?_) (fun h2373 => ?_)
                · have c2374 : r2358.1.toInt = (0 : Int) := o_eq h2373
                  have f2375 := ti_b (q_I r97.2 12 7 a0)
                  have f2376 : (q_I r97.2 12 7 a0).toInt = (q_I r48.2 12 7 a0).toInt := congrArg Int32.toInt (u102 12 7 a0 (by decide))
                  have f2377 := ti_b (q_I r48.2 12 7 a0)
                  have f2378 : (q_I r48.2 12 7 a0).toInt = (q_I r19.2 12 7 a0).toInt := congrArg Int32.toInt (u54 12 7 a0 (by decide))
                  have f2379 := ti_b (q_I r19.2 12 7 a0)
                  have f2380 : (q_I r19.2 12 7 a0).toInt = (q_I δ 12 7 a0).toInt := congrArg Int32.toInt (u25 12 7 a0 (by decide))
                  have f2381 := cb_12_27 i99 k_a0
                  have f2382 : (q_I r97.2 12 27 a0).toInt = (q_I r48.2 12 27 a0).toInt := congrArg Int32.toInt (u102 12 27 a0 (by decide))
                  have f2383 := cb_12_27 i50 k_a0
                  have f2384 : (q_I r48.2 12 27 a0).toInt = (q_I r19.2 12 27 a0).toInt := congrArg Int32.toInt (u54 12 27 a0 (by decide))
                  have f2385 := cb_12_27 i21 k_a0
                  have f2386 : (q_I r19.2 12 27 a0).toInt = (q_I δ 12 27 a0).toInt := congrArg Int32.toInt (u25 12 27 a0 (by decide))
                  have f2387 := cb_12_26 i99 k_a0
                  have f2388 : (q_I r97.2 12 26 a0).toInt = (q_I r48.2 12 26 a0).toInt := congrArg Int32.toInt (u102 12 26 a0 (by decide))
                  have f2389 := cb_12_26 i50 k_a0
                  have f2390 : (q_I r48.2 12 26 a0).toInt = (q_I r19.2 12 26 a0).toInt := congrArg Int32.toInt (u54 12 26 a0 (by decide))
                  have f2391 := cb_12_26 i21 k_a0
                  have f2392 : (q_I r19.2 12 26 a0).toInt = (q_I δ 12 26 a0).toInt := congrArg Int32.toInt (u25 12 26 a0 (by decide))
                  exact ok_some (show RI ad h.1 δ0 r97.2 ∧ (kp [(12, 4), (12, 5), (12, 6), (12, 7), (12, 25), (12, 26), (12, 27)] δ r97.2 ∧ q_V r97.2 = q_V δ ∧ kr ad [113, 114, 115, 116, 117] δ r97.2) ∧ (q_I δ 12 4 a0).toInt ≤ (q_I r97.2 12 4 a0).toInt ∧ ((q_I δ 12 5 a0).toInt ≠ -1 → (q_I r97.2 12 5 a0).toInt ≠ -1) ∧ (q_I r97.2 12 7 a0).toInt = (q_I δ 12 7 a0).toInt ∧ (q_I r97.2 12 27 a0).toInt = (q_I δ 12 27 a0).toInt ∧ (q_I r97.2 12 26 a0).toInt ≤ (q_I r97.2 12 4 a0).toInt from ⟨i99, ⟨kp_w (by decide) u106, v107, kr_w (by decide) v108⟩, by first | assumption | omega, by first | assumption | omega, by first | assumption | omega, by first | assumption | omega, by first | assumption | omega⟩)
                · have c2393 : r2358.1.toInt ≠ (0 : Int) := o_ne h2373
                  refine ok_bind (k_X12_pass L hN (a0 := a0) k_a0 i99) (fun r2394 hr2395 => ?_)
                  obtain ⟨i2396, ⟨u2399, u2400, u2401, u2402⟩, p2397, p2398⟩ := hr2395
                  have u2403 := kp_t u106 u2399
                  have v2404 : q_V r2394 = q_V δ := (u2400).trans v107
                  have v2405 := kr_t v108 u2402
                  have f2406 := cb_12_4 i2396 k_a0
                  have f2407 := cb_12_3 i99 k_a0
                  have f2408 : (q_I r97.2 12 3 a0).toInt = (q_I r48.2 12 3 a0).toInt := congrArg Int32.toInt (u102 12 3 a0 (by decide))
                  have f2412 := cb_12_24 i2396 k_a0
                  have f2413 : (q_I r2394 12 24 a0).toInt = (q_I r97.2 12 24 a0).toInt := congrArg Int32.toInt (u2399 12 24 a0 (by decide))
                  have f2414 := cb_12_24 i99 k_a0
                  have f2415 : (q_I r97.2 12 24 a0).toInt = (q_I r48.2 12 24 a0).toInt := congrArg Int32.toInt (u102 12 24 a0 (by decide))
                  have f2416 := cb_12_24 i50 k_a0
                  have f2417 : (q_I r48.2 12 24 a0).toInt = (q_I r19.2 12 24 a0).toInt := congrArg Int32.toInt (u54 12 24 a0 (by decide))
                  have f2418 := cb_12_24 i21 k_a0
                  have f2419 : (q_I r19.2 12 24 a0).toInt = (q_I δ 12 24 a0).toInt := congrArg Int32.toInt (u25 12 24 a0 (by decide))
                  first | (have q2420 := te_mulc (c := 60) (n := 60) rfl (q_I r2394 12 24 a0) (by omega) (by omega); obtain ⟨f2421, f2422, f2423⟩ := q2420) | (obtain ⟨q2420, f2421, f2422, f2423⟩ := ti_mulc (c := 60) (n := 60) rfl (q_I r2394 12 24 a0))
                  have f2424 := cb_12_25 i2396 k_a0
                  have f2425 : (q_I r2394 12 25 a0).toInt = (q_I r97.2 12 25 a0).toInt := congrArg Int32.toInt (u2399 12 25 a0 (by decide))
                  refine ok_biv (fun vx2409 e2410 => ?_)
                  first | (have q2426 := te_add ((60 : Int32) * (q_I r2394 12 24 a0)) (q_I r2394 12 25 a0) (by omega) (by omega); rw [← e2410] at q2426; obtain ⟨f2427, f2428, f2429⟩ := q2426) | (obtain ⟨q2426, f2427, f2428, f2429⟩ : ∃ q : Int, vx2409.toInt = ((60 : Int32) * (q_I r2394 12 24 a0)).toInt + (q_I r2394 12 25 a0).toInt + 4294967296 * q ∧ -2147483648 ≤ vx2409.toInt ∧ vx2409.toInt ≤ 2147483647 := by rw [e2410]; exact ti_add ((60 : Int32) * (q_I r2394 12 24 a0)) (q_I r2394 12 25 a0))
                  first | (have q2434 := te_addc (c := 1) (n := 1) rfl (q_I r2394 12 25 a0) (by omega) (by omega); obtain ⟨f2435, f2436, f2437⟩ := q2434) | (obtain ⟨q2434, f2435, f2436, f2437⟩ := ti_addc (c := 1) (n := 1) rfl (q_I r2394 12 25 a0))
                  refine ok_bdv (fun d2430 e2431 => ?_)
                  have i2432 : RI ad h.1 δ0 d2430 := by rw [e2431]; exact cs_12_25 L i2396 k_a0 (show 0 ≤ ((q_I r2394 12 25 a0) + (1 : Int32)).toInt by omega) (show ((q_I r2394 12 25 a0) + (1 : Int32)).toInt ≤ 60 by omega)
                  have u2438 := kp_I u2403 e2431
                  have v2439 : q_V d2430 = q_V δ := ((show q_V d2430 = q_V r2394 by rw [e2431]; rfl)).trans v2404
                  have v2440 := kr_N v2405 (show q_R d2430 = q_R r2394 by rw [e2431]; rfl)
                  obtain ⟨b2441, o2442, k2443, n2444, w2445⟩ := gO_12_29 L k_a0
                  obtain rfl := gS_12_29 L k_a0 o2442
                  refine ok_at o2442 ?_
                  have t2446 := ti_tn vx2409
                  refine ok_gd (fun hc2447 => ?_) ?_
                  · rcases hc2447 with hc2447 | hc2447
                    · have c2448 : vx2409.toInt < (0 : Int) := o_lt hc2447
                      omega
                    · omega
                  refine ok_bdv (fun d2449 e2450 => ?_)
                  have i2451 : RI ad h.1 δ0 d2449 := by rw [e2450]; exact RI.sR L i2432 w2445
                  have u2452 := kp_N u2438 (show q_I d2449 = q_I d2430 by rw [e2450]; rfl)
                  have v2453 : q_V d2449 = q_V δ := ((show q_V d2449 = q_V d2430 by rw [e2450]; rfl)).trans v2439
                  have v2454 := kr_s L (by decide) v2440 e2450
                  refine ok_ite (fun h2455 => ?_) (fun h2455 => ?_)
                  · have c2456 : r123.1.toInt = (5 : Int) := o_eq h2455
                    obtain ⟨b2457, o2458, k2459, n2460, w2461⟩ := gO_12_30 L k_a0
                    obtain rfl := gS_12_30 L k_a0 o2458
                    refine ok_at o2458 ?_
                    refine ok_bind (k_X12_readNumber L hN (a0 := a0) (x1 := (1 : Int32)) (x2 := (99 : Int32)) k_a0 i2451) (fun r2462 hr2463 => ?_)
                    obtain ⟨i2464, ⟨u2471, u2472, u2473, u2474⟩, p2465, p2466, p2467, p2468, p2469, p2470⟩ := hr2463
                    have u2475 := kp_t u2452 u2471
                    have v2476 : q_V r2462.2 = q_V δ := (u2472).trans v2453
                    have v2477 := kr_t v2454 u2474
                    have f2478 := cb_12_4 i2451 k_a0
                    have f2479 : (q_I d2449 12 4 a0).toInt = (q_I d2430 12 4 a0).toInt := congrArg Int32.toInt (by rw [e2450]; rfl)
                    have f2480 := cb_12_4 i2432 k_a0
                    have f2481 : (q_I d2430 12 4 a0).toInt = (q_I r2394 12 4 a0).toInt := congrArg Int32.toInt (by rw [e2431]; exact rI_o (by decide))
                    have f2482 := cb_12_4 i2464 k_a0
                    have f2483 := ti_b (q_I d2449 12 5 a0)
                    have f2484 : (q_I d2449 12 5 a0).toInt = (q_I d2430 12 5 a0).toInt := congrArg Int32.toInt (by rw [e2450]; rfl)
                    have f2485 := ti_b (q_I d2430 12 5 a0)
                    have f2486 : (q_I d2430 12 5 a0).toInt = (q_I r2394 12 5 a0).toInt := congrArg Int32.toInt (by rw [e2431]; exact rI_o (by decide))
                    have f2487 := ti_b (q_I r2394 12 5 a0)
                    have f2488 : (q_I r2394 12 5 a0).toInt = (q_I r97.2 12 5 a0).toInt := congrArg Int32.toInt (u2399 12 5 a0 (by decide))
                    have f2489 := ti_b (q_I r2462.2 12 5 a0)
                    have f2490 := ti_b r2462.1
                    replace p2470 : ((q_I r2462.2 12 5 a0).toInt = -1 → (1 : Int) ≤ (r2462.1).toInt ∧ (r2462.1).toInt ≤ (99 : Int)) := p2470
                    have f2491 := ti_b r2462.1
                    refine ok_gd (fun hc2492 => ?_) ?_
                    · rcases hc2492 with hc2492 | hc2492
                      · have c2493 : vx2409.toInt < (0 : Int) := o_lt hc2492
                        omega
                      · omega
                    refine ok_bdv (fun d2494 e2495 => ?_)
                    have i2496 : RI ad h.1 δ0 d2494 := by rw [e2495]; exact RI.sR L i2464 w2461
                    have u2497 := kp_N u2475 (show q_I d2494 = q_I r2462.2 by rw [e2495]; rfl)
                    have v2498 : q_V d2494 = q_V δ := ((show q_V d2494 = q_V r2462.2 by rw [e2495]; rfl)).trans v2476
                    have v2499 := kr_s L (by decide) v2477 e2495
                    refine ok_bind (k_X12_sign L hN (a0 := a0) (x1 := (91 : Int32)) k_a0 (show (91 : Int) ≠ 0 by first | assumption | omega) i2496) (fun r2500 hr2501 => ?_)
                    obtain ⟨i2502, ⟨u2506, u2507, u2508, u2509⟩, p2503, p2504, p2505⟩ := hr2501
                    have u2510 := kp_t u2497 u2506
                    have v2511 : q_V r2500 = q_V δ := (u2507).trans v2498
                    have v2512 := kr_t v2499 u2509
                    have f2513 := cb_12_4 i2496 k_a0
                    have f2514 : (q_I d2494 12 4 a0).toInt = (q_I r2462.2 12 4 a0).toInt := congrArg Int32.toInt (by rw [e2495]; rfl)
                    have f2515 := cb_12_4 i2502 k_a0
                    have f2516 := ti_b (q_I d2494 12 5 a0)
                    have f2517 : (q_I d2494 12 5 a0).toInt = (q_I r2462.2 12 5 a0).toInt := congrArg Int32.toInt (by rw [e2495]; rfl)
                    have f2518 := ti_b (q_I r2500 12 5 a0)
                    have f2522 := cb_12_27 i2502 k_a0
                    have f2523 : (q_I r2500 12 27 a0).toInt = (q_I d2494 12 27 a0).toInt := congrArg Int32.toInt (u2506 12 27 a0 (by decide))
                    have f2524 := cb_12_27 i2496 k_a0
                    have f2525 : (q_I d2494 12 27 a0).toInt = (q_I r2462.2 12 27 a0).toInt := congrArg Int32.toInt (by rw [e2495]; rfl)
                    have f2526 := cb_12_27 i2464 k_a0
                    have f2527 : (q_I r2462.2 12 27 a0).toInt = (q_I d2449 12 27 a0).toInt := congrArg Int32.toInt (u2471 12 27 a0 (by decide))
                    have f2528 := cb_12_27 i2451 k_a0
                    have f2529 : (q_I d2449 12 27 a0).toInt = (q_I d2430 12 27 a0).toInt := congrArg Int32.toInt (by rw [e2450]; rfl)
                    have f2530 := cb_12_27 i2432 k_a0
                    have f2531 : (q_I d2430 12 27 a0).toInt = (q_I r2394 12 27 a0).toInt := congrArg Int32.toInt (by rw [e2431]; exact rI_o (by decide))
                    have f2532 := cb_12_27 i2396 k_a0
                    have f2533 : (q_I r2394 12 27 a0).toInt = (q_I r97.2 12 27 a0).toInt := congrArg Int32.toInt (u2399 12 27 a0 (by decide))
                    have f2534 := cb_12_27 i99 k_a0
                    have f2535 : (q_I r97.2 12 27 a0).toInt = (q_I r48.2 12 27 a0).toInt := congrArg Int32.toInt (u102 12 27 a0 (by decide))
                    have f2536 := cb_12_27 i50 k_a0
                    have f2537 : (q_I r48.2 12 27 a0).toInt = (q_I r19.2 12 27 a0).toInt := congrArg Int32.toInt (u54 12 27 a0 (by decide))
                    have f2538 := cb_12_27 i21 k_a0
                    have f2539 : (q_I r19.2 12 27 a0).toInt = (q_I δ 12 27 a0).toInt := congrArg Int32.toInt (u25 12 27 a0 (by decide))
                    first | (have q2541 := te_addc (c := 1) (n := 1) rfl (q_I r2500 12 27 a0) (by omega) (by omega); obtain ⟨f2542, f2543, f2544⟩ := q2541) | (obtain ⟨q2541, f2542, f2543, f2544⟩ := ti_addc (c := 1) (n := 1) rfl (q_I r2500 12 27 a0))
                    refine ok_bdv (fun d2519 e2520 => ?_)
                    have i2521 : RI ad h.1 δ0 d2519 := by rw [e2520]; exact cs_12_27 L i2502 k_a0 (show 0 ≤ ((q_I r2500 12 27 a0) + (1 : Int32)).toInt by omega) (show ((q_I r2500 12 27 a0) + (1 : Int32)).toInt ≤ 3 by omega)
                    have u2545 := kp_I u2510 e2520
                    have v2546 : q_V d2519 = q_V δ := ((show q_V d2519 = q_V r2500 by rw [e2520]; rfl)).trans v2511
                    have v2547 := kr_N v2512 (show q_R d2519 = q_R r2500 by rw [e2520]; rfl)
                    have f2550 := cb_12_24 i2521 k_a0
                    have f2551 : (q_I d2519 12 24 a0).toInt = (q_I r2500 12 24 a0).toInt := congrArg Int32.toInt (by rw [e2520]; exact rI_o (by decide))
                    have f2552 := cb_12_24 i2502 k_a0
                    have f2553 : (q_I r2500 12 24 a0).toInt = (q_I d2494 12 24 a0).toInt := congrArg Int32.toInt (u2506 12 24 a0 (by decide))
                    have f2554 := cb_12_24 i2496 k_a0
                    have f2555 : (q_I d2494 12 24 a0).toInt = (q_I r2462.2 12 24 a0).toInt := congrArg Int32.toInt (by rw [e2495]; rfl)
                    have f2556 := cb_12_24 i2464 k_a0
                    have f2557 : (q_I r2462.2 12 24 a0).toInt = (q_I d2449 12 24 a0).toInt := congrArg Int32.toInt (u2471 12 24 a0 (by decide))
                    have f2558 := cb_12_24 i2451 k_a0
                    have f2559 : (q_I d2449 12 24 a0).toInt = (q_I d2430 12 24 a0).toInt := congrArg Int32.toInt (by rw [e2450]; rfl)
                    have f2560 := cb_12_24 i2432 k_a0
                    have f2561 : (q_I d2430 12 24 a0).toInt = (q_I r2394 12 24 a0).toInt := congrArg Int32.toInt (by rw [e2431]; exact rI_o (by decide))
                    have f2562 := cb_12_26 i2521 k_a0
                    have f2563 : (q_I d2519 12 26 a0).toInt = (q_I r2500 12 26 a0).toInt := congrArg Int32.toInt (by rw [e2520]; exact rI_o (by decide))
                    have f2564 := cb_12_26 i2502 k_a0
                    have f2565 : (q_I r2500 12 26 a0).toInt = (q_I d2494 12 26 a0).toInt := congrArg Int32.toInt (u2506 12 26 a0 (by decide))
                    have f2566 := cb_12_26 i2496 k_a0
                    have f2567 : (q_I d2494 12 26 a0).toInt = (q_I r2462.2 12 26 a0).toInt := congrArg Int32.toInt (by rw [e2495]; rfl)
                    have f2568 := cb_12_26 i2464 k_a0
                    have f2569 : (q_I r2462.2 12 26 a0).toInt = (q_I d2449 12 26 a0).toInt := congrArg Int32.toInt (u2471 12 26 a0 (by decide))
                    have f2570 := cb_12_26 i2451 k_a0
                    have f2571 : (q_I d2449 12 26 a0).toInt = (q_I d2430 12 26 a0).toInt := congrArg Int32.toInt (by rw [e2450]; rfl)
                    have f2572 := cb_12_26 i2432 k_a0
                    have f2573 : (q_I d2430 12 26 a0).toInt = (q_I r2394 12 26 a0).toInt := congrArg Int32.toInt (by rw [e2431]; exact rI_o (by decide))
                    have f2574 := cb_12_26 i2396 k_a0
                    have f2575 : (q_I r2394 12 26 a0).toInt = (q_I r97.2 12 26 a0).toInt := congrArg Int32.toInt (u2399 12 26 a0 (by decide))
                    have f2576 := cb_12_26 i99 k_a0
                    have f2577 : (q_I r97.2 12 26 a0).toInt = (q_I r48.2 12 26 a0).toInt := congrArg Int32.toInt (u102 12 26 a0 (by decide))
                    have f2578 := cb_12_26 i50 k_a0
                    have f2579 : (q_I r48.2 12 26 a0).toInt = (q_I r19.2 12 26 a0).toInt := congrArg Int32.toInt (u54 12 26 a0 (by decide))
                    have f2580 := cb_12_26 i21 k_a0
                    have f2581 : (q_I r19.2 12 26 a0).toInt = (q_I δ 12 26 a0).toInt := congrArg Int32.toInt (u25 12 26 a0 (by decide))
                    have f2582 := cb_12_4 i2521 k_a0
                    have f2583 : (q_I d2519 12 4 a0).toInt = (q_I r2500 12 4 a0).toInt := congrArg Int32.toInt (by rw [e2520]; exact rI_o (by decide))
                    have f2584 := ti_b (q_I d2519 12 7 a0)
                    have f2585 : (q_I d2519 12 7 a0).toInt = (q_I r2500 12 7 a0).toInt := congrArg Int32.toInt (by rw [e2520]; exact rI_o (by decide))
                    have f2586 := ti_b (q_I r2500 12 7 a0)
                    have f2587 : (q_I r2500 12 7 a0).toInt = (q_I d2494 12 7 a0).toInt := congrArg Int32.toInt (u2506 12 7 a0 (by decide))
                    have f2588 := ti_b (q_I d2494 12 7 a0)
                    have f2589 : (q_I d2494 12 7 a0).toInt = (q_I r2462.2 12 7 a0).toInt := congrArg Int32.toInt (by rw [e2495]; rfl)
                    have f2590 := ti_b (q_I r2462.2 12 7 a0)
                    have f2591 : (q_I r2462.2 12 7 a0).toInt = (q_I d2449 12 7 a0).toInt := congrArg Int32.toInt (u2471 12 7 a0 (by decide))
                    have f2592 := ti_b (q_I d2449 12 7 a0)
                    have f2593 : (q_I d2449 12 7 a0).toInt = (q_I d2430 12 7 a0).toInt := congrArg Int32.toInt (by rw [e2450]; rfl)
                    have f2594 := ti_b (q_I d2430 12 7 a0)
                    have f2595 : (q_I d2430 12 7 a0).toInt = (q_I r2394 12 7 a0).toInt := congrArg Int32.toInt (by rw [e2431]; exact rI_o (by decide))
                    have f2596 := ti_b (q_I r2394 12 7 a0)
                    have f2597 : (q_I r2394 12 7 a0).toInt = (q_I r97.2 12 7 a0).toInt := congrArg Int32.toInt (u2399 12 7 a0 (by decide))
                    have f2598 := ti_b (q_I r97.2 12 7 a0)
                    have f2599 : (q_I r97.2 12 7 a0).toInt = (q_I r48.2 12 7 a0).toInt := congrArg Int32.toInt (u102 12 7 a0 (by decide))
                    have f2600 := ti_b (q_I r48.2 12 7 a0)
                    have f2601 : (q_I r48.2 12 7 a0).toInt = (q_I r19.2 12 7 a0).toInt := congrArg Int32.toInt (u54 12 7 a0 (by decide))
                    have f2602 := ti_b (q_I r19.2 12 7 a0)
                    have f2603 : (q_I r19.2 12 7 a0).toInt = (q_I δ 12 7 a0).toInt := congrArg Int32.toInt (u25 12 7 a0 (by decide))
                    have f2604 := cb_12_27 i2521 k_a0
                    have f2605 : (q_I d2519 12 27 a0).toInt = ((q_I r2500 12 27 a0) + (1 : Int32)).toInt := congrArg Int32.toInt (show q_I d2519 12 27 a0 = ((q_I r2500 12 27 a0) + (1 : Int32)) by rw [e2520]; exact rI_s)
                    refine ok_bind (hT a0 d2519 k_a0 (show (q_I d2519 12 24 a0).toInt ≤ 3 by first | assumption | omega) (show (q_I d2519 12 26 a0).toInt ≤ (q_I d2519 12 4 a0).toInt by first | assumption | omega) (show (q_I d2519 12 7 a0).toInt = 0 by first | assumption | omega) (show 4 - (q_I d2519 12 27 a0).toInt < _ by first | assumption | omega) i2521) (fun r2548 hr2549 => ?_)
                    obtain ⟨i2606, ⟨u2612, u2613, u2614⟩, p2607, p2608, p2609, p2610, p2611⟩ := hr2549
                    have u2615 := kp_t u2545 u2612
                    have v2616 : q_V r2548 = q_V δ := (u2613).trans v2546
                    have v2617 := kr_t v2547 u2614
                    have f2618 := cb_12_4 i2606 k_a0
                    have f2619 := ti_b (q_I d2519 12 5 a0)
                    have f2620 : (q_I d2519 12 5 a0).toInt = (q_I r2500 12 5 a0).toInt := congrArg Int32.toInt (by rw [e2520]; exact rI_o (by decide))
                    have f2621 := ti_b (q_I r2548 12 5 a0)
                    have f2622 := ti_b (q_I r2548 12 7 a0)
                    have f2623 := cb_12_27 i2606 k_a0
                    have f2624 := cb_12_26 i2606 k_a0
                    first | (have q2629 := te_subc (c := 1) (n := 1) rfl (q_I r2548 12 27 a0) (by omega) (by omega); obtain ⟨f2630, f2631, f2632⟩ := q2629) | (obtain ⟨q2629, f2630, f2631, f2632⟩ := ti_subc (c := 1) (n := 1) rfl (q_I r2548 12 27 a0))
                    refine ok_bdv (fun d2625 e2626 => ?_)
                    have i2627 : RI ad h.1 δ0 d2625 := by rw [e2626]; exact cs_12_27 L i2606 k_a0 (show 0 ≤ ((q_I r2548 12 27 a0) - (1 : Int32)).toInt by omega) (show ((q_I r2548 12 27 a0) - (1 : Int32)).toInt ≤ 3 by omega)
                    have u2633 := kp_I u2615 e2626
                    have v2634 : q_V d2625 = q_V δ := ((show q_V d2625 = q_V r2548 by rw [e2626]; rfl)).trans v2616
                    have v2635 := kr_N v2617 (show q_R d2625 = q_R r2548 by rw [e2626]; rfl)
                    refine ok_bind (k_X12_sign L hN (a0 := a0) (x1 := (93 : Int32)) k_a0 (show (93 : Int) ≠ 0 by first | assumption | omega) i2627) (fun r2636 hr2637 => ?_)
                    obtain ⟨i2638, ⟨u2642, u2643, u2644, u2645⟩, p2639, p2640, p2641⟩ := hr2637
                    have u2646 := kp_t u2633 u2642
                    have v2647 : q_V r2636 = q_V δ := (u2643).trans v2634
                    have v2648 := kr_t v2635 u2645
                    have f2649 := cb_12_4 i2627 k_a0
                    have f2650 : (q_I d2625 12 4 a0).toInt = (q_I r2548 12 4 a0).toInt := congrArg Int32.toInt (by rw [e2626]; exact rI_o (by decide))
                    have f2651 := cb_12_4 i2638 k_a0
                    have f2652 := ti_b (q_I d2625 12 5 a0)
                    have f2653 : (q_I d2625 12 5 a0).toInt = (q_I r2548 12 5 a0).toInt := congrArg Int32.toInt (by rw [e2626]; exact rI_o (by decide))
                    have f2654 := ti_b (q_I r2636 12 5 a0)
                    obtain ⟨b2655, o2656, k2657, n2658, w2659⟩ := gO_12_31 L k_a0
                    obtain rfl := gS_12_31 L k_a0 o2656
                    refine ok_at o2656 ?_
                    refine ok_gd (fun hc2660 => ?_) ?_
                    · rcases hc2660 with hc2660 | hc2660
                      · have c2661 : vx2409.toInt < (0 : Int) := o_lt hc2660
                        omega
                      · omega
                    refine ok_bdv (fun d2662 e2663 => ?_)
                    have i2664 : RI ad h.1 δ0 d2662 := by rw [e2663]; exact RI.sR L i2638 w2659
                    have u2665 := kp_N u2646 (show q_I d2662 = q_I r2636 by rw [e2663]; rfl)
                    have v2666 : q_V d2662 = q_V δ := ((show q_V d2662 = q_V r2636 by rw [e2663]; rfl)).trans v2647
                    have v2667 := kr_s L (by decide) v2648 e2663
                    unfold J_X12_readSteps_236
                    have f2668 := cb_12_24 i2664 k_a0
                    have f2669 : (q_I d2662 12 24 a0).toInt = (q_I r2636 12 24 a0).toInt := congrArg Int32.toInt (by rw [e2663]; rfl)
                    have f2670 := cb_12_24 i2638 k_a0
                    have f2671 : (q_I r2636 12 24 a0).toInt = (q_I d2625 12 24 a0).toInt := congrArg Int32.toInt (u2642 12 24 a0 (by decide))
                    have f2672 := cb_12_24 i2627 k_a0
                    have f2673 : (q_I d2625 12 24 a0).toInt = (q_I r2548 12 24 a0).toInt := congrArg Int32.toInt (by rw [e2626]; exact rI_o (by decide))
                    have f2674 := cb_12_24 i2606 k_a0
                    have f2675 : (q_I r2548 12 24 a0).toInt = (q_I d2519 12 24 a0).toInt := congrArg Int32.toInt (u2612 12 24 a0 (by decide))
                    have f2676 := cb_12_26 i2664 k_a0
                    have f2677 : (q_I d2662 12 26 a0).toInt = (q_I r2636 12 26 a0).toInt := congrArg Int32.toInt (by rw [e2663]; rfl)
                    have f2678 := cb_12_26 i2638 k_a0
                    have f2679 : (q_I r2636 12 26 a0).toInt = (q_I d2625 12 26 a0).toInt := congrArg Int32.toInt (u2642 12 26 a0 (by decide))
                    have f2680 := cb_12_26 i2627 k_a0
                    have f2681 : (q_I d2625 12 26 a0).toInt = (q_I r2548 12 26 a0).toInt := congrArg Int32.toInt (by rw [e2626]; exact rI_o (by decide))
                    have f2682 := cb_12_4 i2664 k_a0
                    have f2683 : (q_I d2662 12 4 a0).toInt = (q_I r2636 12 4 a0).toInt := congrArg Int32.toInt (by rw [e2663]; rfl)
                    have f2684 := ti_b (q_I d2662 12 7 a0)
                    have f2685 : (q_I d2662 12 7 a0).toInt = (q_I r2636 12 7 a0).toInt := congrArg Int32.toInt (by rw [e2663]; rfl)
                    have f2686 := ti_b (q_I r2636 12 7 a0)
                    have f2687 : (q_I r2636 12 7 a0).toInt = (q_I d2625 12 7 a0).toInt := congrArg Int32.toInt (u2642 12 7 a0 (by decide))
                    have f2688 := ti_b (q_I d2625 12 7 a0)
                    have f2689 : (q_I d2625 12 7 a0).toInt = (q_I r2548 12 7 a0).toInt := congrArg Int32.toInt (by rw [e2626]; exact rI_o (by decide))
                    have f2690 := cb_12_27 i2664 k_a0
                    have f2691 : (q_I d2662 12 27 a0).toInt = (q_I r2636 12 27 a0).toInt := congrArg Int32.toInt (by rw [e2663]; rfl)
                    have f2692 := cb_12_27 i2638 k_a0
                    have f2693 : (q_I r2636 12 27 a0).toInt = (q_I d2625 12 27 a0).toInt := congrArg Int32.toInt (u2642 12 27 a0 (by decide))
                    have f2694 := cb_12_27 i2627 k_a0
                    have f2695 : (q_I d2625 12 27 a0).toInt = ((q_I r2548 12 27 a0) - (1 : Int32)).toInt := congrArg Int32.toInt (show q_I d2625 12 27 a0 = ((q_I r2548 12 27 a0) - (1 : Int32)) by rw [e2626]; exact rI_s)
                    refine ok_mono (ih d2662 i2664 (show (q_I d2662 12 24 a0).toInt ≤ 3 by first | assumption | omega) (show (q_I d2662 12 26 a0).toInt ≤ (q_I d2662 12 4 a0).toInt by first | assumption | omega) (show (q_I d2662 12 7 a0).toInt = 0 by first | assumption | omega) (show 4 - (q_I d2662 12 27 a0).toInt ≤ K by first | assumption | omega) (show 501 - (q_I d2662 12 4 a0).toInt < _ by omega)) (fun r2696 hr2697 => ?_)
                    obtain ⟨i2698, ⟨u2704, u2705, u2706⟩, p2699, p2700, p2701, p2702, p2703⟩ := hr2697
                    have u2707 := kp_t u2665 u2704
                    have v2708 : q_V r2696 = q_V δ := (u2705).trans v2666
                    have v2709 := kr_t v2667 u2706
                    have f2710 := cb_12_4 i2698 k_a0
                    have f2711 := ti_b (q_I d2662 12 5 a0)
                    have f2712 : (q_I d2662 12 5 a0).toInt = (q_I r2636 12 5 a0).toInt := congrArg Int32.toInt (by rw [e2663]; rfl)
                    have f2713 := ti_b (q_I r2696 12 5 a0)
                    have f2714 := ti_b (q_I r2696 12 7 a0)
                    have f2715 := cb_12_27 i2698 k_a0
                    have f2716 := cb_12_26 i2698 k_a0
                    exact ⟨by assumption, ⟨kp_w (by decide) u2707, v2708, kr_w (by decide) v2709⟩, by first | assumption | omega, by first | assumption | omega, by first | assumption | omega, by first | assumption | omega, by first | assumption | omega⟩
                  · have c2717 : r123.1.toInt ≠ (5 : Int) := o_ne h2455
                    obtain ⟨b2718, o2719, k2720, n2721, w2722⟩ := gO_12_30 L k_a0
                    obtain rfl := gS_12_30 L k_a0 o2719
                    refine ok_at o2719 ?_
                    refine ok_gd (fun hc2723 => ?_) ?_
                    · rcases hc2723 with hc2723 | hc2723
                      · have c2724 : vx2409.toInt < (0 : Int) := o_lt hc2723
                        omega
                      · omega
                    refine ok_bdv (fun d2725 e2726 => ?_)
                    have i2727 : RI ad h.1 δ0 d2725 := by rw [e2726]; exact RI.sR L i2451 w2722
                    have u2728 := kp_N u2452 (show q_I d2725 = q_I d2449 by rw [e2726]; rfl)
                    have v2729 : q_V d2725 = q_V δ := ((show q_V d2725 = q_V d2449 by rw [e2726]; rfl)).trans v2453
                    have v2730 := kr_s L (by decide) v2454 e2726
                    have f2733 := cb_12_24 i2727 k_a0
                    have f2734 : (q_I d2725 12 24 a0).toInt = (q_I d2449 12 24 a0).toInt := congrArg Int32.toInt (by rw [e2726]; rfl)
                    have f2735 := cb_12_24 i2451 k_a0
                    have f2736 : (q_I d2449 12 24 a0).toInt = (q_I d2430 12 24 a0).toInt := congrArg Int32.toInt (by rw [e2450]; rfl)
                    have f2737 := cb_12_24 i2432 k_a0
                    have f2738 : (q_I d2430 12 24 a0).toInt = (q_I r2394 12 24 a0).toInt := congrArg Int32.toInt (by rw [e2431]; exact rI_o (by decide))
                    have f2739 := cb_12_26 i2727 k_a0
                    have f2740 : (q_I d2725 12 26 a0).toInt = (q_I d2449 12 26 a0).toInt := congrArg Int32.toInt (by rw [e2726]; rfl)
                    have f2741 := cb_12_26 i2451 k_a0
                    have f2742 : (q_I d2449 12 26 a0).toInt = (q_I d2430 12 26 a0).toInt := congrArg Int32.toInt (by rw [e2450]; rfl)
                    have f2743 := cb_12_26 i2432 k_a0
                    have f2744 : (q_I d2430 12 26 a0).toInt = (q_I r2394 12 26 a0).toInt := congrArg Int32.toInt (by rw [e2431]; exact rI_o (by decide))
                    have f2745 := cb_12_26 i2396 k_a0
                    have f2746 : (q_I r2394 12 26 a0).toInt = (q_I r97.2 12 26 a0).toInt := congrArg Int32.toInt (u2399 12 26 a0 (by decide))
                    have f2747 := cb_12_26 i99 k_a0
                    have f2748 : (q_I r97.2 12 26 a0).toInt = (q_I r48.2 12 26 a0).toInt := congrArg Int32.toInt (u102 12 26 a0 (by decide))
                    have f2749 := cb_12_26 i50 k_a0
                    have f2750 : (q_I r48.2 12 26 a0).toInt = (q_I r19.2 12 26 a0).toInt := congrArg Int32.toInt (u54 12 26 a0 (by decide))
                    have f2751 := cb_12_26 i21 k_a0
                    have f2752 : (q_I r19.2 12 26 a0).toInt = (q_I δ 12 26 a0).toInt := congrArg Int32.toInt (u25 12 26 a0 (by decide))
                    have f2753 := cb_12_4 i2727 k_a0
                    have f2754 : (q_I d2725 12 4 a0).toInt = (q_I d2449 12 4 a0).toInt := congrArg Int32.toInt (by rw [e2726]; rfl)
                    have f2755 := cb_12_4 i2451 k_a0
                    have f2756 : (q_I d2449 12 4 a0).toInt = (q_I d2430 12 4 a0).toInt := congrArg Int32.toInt (by rw [e2450]; rfl)
                    have f2757 := cb_12_4 i2432 k_a0
                    have f2758 : (q_I d2430 12 4 a0).toInt = (q_I r2394 12 4 a0).toInt := congrArg Int32.toInt (by rw [e2431]; exact rI_o (by decide))
                    have f2759 := ti_b (q_I d2725 12 7 a0)
                    have f2760 : (q_I d2725 12 7 a0).toInt = (q_I d2449 12 7 a0).toInt := congrArg Int32.toInt (by rw [e2726]; rfl)
                    have f2761 := ti_b (q_I d2449 12 7 a0)
                    have f2762 : (q_I d2449 12 7 a0).toInt = (q_I d2430 12 7 a0).toInt := congrArg Int32.toInt (by rw [e2450]; rfl)
                    have f2763 := ti_b (q_I d2430 12 7 a0)
                    have f2764 : (q_I d2430 12 7 a0).toInt = (q_I r2394 12 7 a0).toInt := congrArg Int32.toInt (by rw [e2431]; exact rI_o (by decide))
                    have f2765 := ti_b (q_I r2394 12 7 a0)
                    have f2766 : (q_I r2394 12 7 a0).toInt = (q_I r97.2 12 7 a0).toInt := congrArg Int32.toInt (u2399 12 7 a0 (by decide))
                    have f2767 := ti_b (q_I r97.2 12 7 a0)
                    have f2768 : (q_I r97.2 12 7 a0).toInt = (q_I r48.2 12 7 a0).toInt := congrArg Int32.toInt (u102 12 7 a0 (by decide))
                    have f2769 := ti_b (q_I r48.2 12 7 a0)
                    have f2770 : (q_I r48.2 12 7 a0).toInt = (q_I r19.2 12 7 a0).toInt := congrArg Int32.toInt (u54 12 7 a0 (by decide))
                    have f2771 := ti_b (q_I r19.2 12 7 a0)
                    have f2772 : (q_I r19.2 12 7 a0).toInt = (q_I δ 12 7 a0).toInt := congrArg Int32.toInt (u25 12 7 a0 (by decide))
                    have f2773 := ti_b (q_I d2725 12 5 a0)
                    have f2774 : (q_I d2725 12 5 a0).toInt = (q_I d2449 12 5 a0).toInt := congrArg Int32.toInt (by rw [e2726]; rfl)
                    have f2775 := ti_b (q_I d2449 12 5 a0)
                    have f2776 : (q_I d2449 12 5 a0).toInt = (q_I d2430 12 5 a0).toInt := congrArg Int32.toInt (by rw [e2450]; rfl)
                    have f2777 := ti_b (q_I d2430 12 5 a0)
                    have f2778 : (q_I d2430 12 5 a0).toInt = (q_I r2394 12 5 a0).toInt := congrArg Int32.toInt (by rw [e2431]; exact rI_o (by decide))
                    have f2779 := ti_b (q_I r2394 12 5 a0)
                    have f2780 : (q_I r2394 12 5 a0).toInt = (q_I r97.2 12 5 a0).toInt := congrArg Int32.toInt (u2399 12 5 a0 (by decide))
                    refine ok_bind (k_X12_sum L hN (a0 := a0) k_a0 (show (q_I d2725 12 24 a0).toInt ≤ 3 by first | assumption | omega) (show (q_I d2725 12 26 a0).toInt ≤ (q_I d2725 12 4 a0).toInt by first | assumption | omega) (show 0 ≤ (q_I d2725 12 7 a0).toInt by first | assumption | omega) (show (q_I d2725 12 7 a0).toInt ≤ 7 by first | assumption | omega) (show (q_I d2725 12 7 a0).toInt = 7 → (q_I d2725 12 5 a0).toInt ≠ -1 by first | assumption | omega) (show 8 - (q_I d2725 12 7 a0).toInt < 20 by first | assumption | omega) i2727) (fun r2731 hr2732 => ?_)
                    obtain ⟨i2781, ⟨u2787, u2788, u2789⟩, p2782, p2783, p2784, p2785, p2786⟩ := hr2732
                    have u2790 := kp_t u2728 u2787
                    have v2791 : q_V r2731 = q_V δ := (u2788).trans v2729
                    have v2792 := kr_t v2730 u2789
                    have f2793 := cb_12_4 i2781 k_a0
                    have f2794 := ti_b (q_I r2731 12 5 a0)
                    have f2795 := ti_b (q_I r2731 12 7 a0)
                    have f2796 := cb_12_26 i2781 k_a0
                    obtain ⟨b2797, o2798, k2799, n2800, w2801⟩ := gO_12_31 L k_a0
                    obtain rfl := gS_12_31 L k_a0 o2798
                    refine ok_at o2798 ?_
                    refine ok_gd (fun hc2802 => ?_) ?_
                    · rcases hc2802 with hc2802 | hc2802
                      · have c2803 : vx2409.toInt < (0 : Int) := o_lt hc2802
                        omega
                      · omega
                    refine ok_bdv (fun d2804 e2805 => ?_)
                    have i2806 : RI ad h.1 δ0 d2804 := by rw [e2805]; exact RI.sR L i2781 w2801
                    have u2807 := kp_N u2790 (show q_I d2804 = q_I r2731 by rw [e2805]; rfl)
                    have v2808 : q_V d2804 = q_V δ := ((show q_V d2804 = q_V r2731 by rw [e2805]; rfl)).trans v2791
                    have v2809 := kr_s L (by decide) v2792 e2805
                    refine ok_bind (k_X12_sign L hN (a0 := a0) (x1 := (59 : Int32)) k_a0 (show (59 : Int) ≠ 0 by first | assumption | omega) i2806) (fun r2810 hr2811 => ?_)
                    obtain ⟨i2812, ⟨u2816, u2817, u2818, u2819⟩, p2813, p2814, p2815⟩ := hr2811
                    have u2820 := kp_t u2807 u2816
                    have v2821 : q_V r2810 = q_V δ := (u2817).trans v2808
                    have v2822 := kr_t v2809 u2819
                    have f2823 := cb_12_4 i2806 k_a0
                    have f2824 : (q_I d2804 12 4 a0).toInt = (q_I r2731 12 4 a0).toInt := congrArg Int32.toInt (by rw [e2805]; rfl)
                    have f2825 := cb_12_4 i2812 k_a0
                    have f2826 := ti_b (q_I d2804 12 5 a0)
                    have f2827 : (q_I d2804 12 5 a0).toInt = (q_I r2731 12 5 a0).toInt := congrArg Int32.toInt (by rw [e2805]; rfl)
                    have f2828 := ti_b (q_I r2810 12 5 a0)
                    unfold J_X12_readSteps_236
                    have f2829 := cb_12_24 i2812 k_a0
                    have f2830 : (q_I r2810 12 24 a0).toInt = (q_I d2804 12 24 a0).toInt := congrArg Int32.toInt (u2816 12 24 a0 (by decide))
                    have f2831 := cb_12_24 i2806 k_a0
                    have f2832 : (q_I d2804 12 24 a0).toInt = (q_I r2731 12 24 a0).toInt := congrArg Int32.toInt (by rw [e2805]; rfl)
                    have f2833 := cb_12_24 i2781 k_a0
                    have f2834 : (q_I r2731 12 24 a0).toInt = (q_I d2725 12 24 a0).toInt := congrArg Int32.toInt (u2787 12 24 a0 (by decide))
                    have f2835 := cb_12_26 i2812 k_a0
                    have f2836 : (q_I r2810 12 26 a0).toInt = (q_I d2804 12 26 a0).toInt := congrArg Int32.toInt (u2816 12 26 a0 (by decide))
                    have f2837 := cb_12_26 i2806 k_a0
                    have f2838 : (q_I d2804 12 26 a0).toInt = (q_I r2731 12 26 a0).toInt := congrArg Int32.toInt (by rw [e2805]; rfl)
                    have f2839 := ti_b (q_I r2810 12 7 a0)
                    have f2840 : (q_I r2810 12 7 a0).toInt = (q_I d2804 12 7 a0).toInt := congrArg Int32.toInt (u2816 12 7 a0 (by decide))
                    have f2841 := ti_b (q_I d2804 12 7 a0)
                    have f2842 : (q_I d2804 12 7 a0).toInt = (q_I r2731 12 7 a0).toInt := congrArg Int32.toInt (by rw [e2805]; rfl)
                    have f2843 := cb_12_27 i2812 k_a0
                    have f2844 : (q_I r2810 12 27 a0).toInt = (q_I d2804 12 27 a0).toInt := congrArg Int32.toInt (u2816 12 27 a0 (by decide))
                    have f2845 := cb_12_27 i2806 k_a0
                    have f2846 : (q_I d2804 12 27 a0).toInt = (q_I r2731 12 27 a0).toInt := congrArg Int32.toInt (by rw [e2805]; rfl)
                    have f2847 := cb_12_27 i2781 k_a0
                    have f2848 : (q_I r2731 12 27 a0).toInt = (q_I d2725 12 27 a0).toInt := congrArg Int32.toInt (u2787 12 27 a0 (by decide))
                    have f2849 := cb_12_27 i2727 k_a0
                    have f2850 : (q_I d2725 12 27 a0).toInt = (q_I d2449 12 27 a0).toInt := congrArg Int32.toInt (by rw [e2726]; rfl)
                    have f2851 := cb_12_27 i2451 k_a0
                    have f2852 : (q_I d2449 12 27 a0).toInt = (q_I d2430 12 27 a0).toInt := congrArg Int32.toInt (by rw [e2450]; rfl)
                    have f2853 := cb_12_27 i2432 k_a0
                    have f2854 : (q_I d2430 12 27 a0).toInt = (q_I r2394 12 27 a0).toInt := congrArg Int32.toInt (by rw [e2431]; exact rI_o (by decide))
                    have f2855 := cb_12_27 i2396 k_a0
                    have f2856 : (q_I r2394 12 27 a0).toInt = (q_I r97.2 12 27 a0).toInt := congrArg Int32.toInt (u2399 12 27 a0 (by decide))
                    have f2857 := cb_12_27 i99 k_a0
                    have f2858 : (q_I r97.2 12 27 a0).toInt = (q_I r48.2 12 27 a0).toInt := congrArg Int32.toInt (u102 12 27 a0 (by decide))
                    have f2859 := cb_12_27 i50 k_a0
                    have f2860 : (q_I r48.2 12 27 a0).toInt = (q_I r19.2 12 27 a0).toInt := congrArg Int32.toInt (u54 12 27 a0 (by decide))
                    have f2861 := cb_12_27 i21 k_a0
                    have f2862 : (q_I r19.2 12 27 a0).toInt = (q_I δ 12 27 a0).toInt := congrArg Int32.toInt (u25 12 27 a0 (by decide))
                    refine ok_mono (ih r2810 i2812 (show (q_I r2810 12 24 a0).toInt ≤ 3 by first | assumption | omega) (show (q_I r2810 12 26 a0).toInt ≤ (q_I r2810 12 4 a0).toInt by first | assumption | omega) (show (q_I r2810 12 7 a0).toInt = 0 by first | assumption | omega) (show 4 - (q_I r2810 12 27 a0).toInt ≤ K by first | assumption | omega) (show 501 - (q_I r2810 12 4 a0).toInt < _ by omega)) (fun r2863 hr2864 => ?_)
                    obtain ⟨i2865, ⟨u2871, u2872, u2873⟩, p2866, p2867, p2868, p2869, p2870⟩ := hr2864
                    have u2874 := kp_t u2820 u2871
                    have v2875 : q_V r2863 = q_V δ := (u2872).trans v2821
                    have v2876 := kr_t v2822 u2873
                    have f2877 := cb_12_4 i2865 k_a0
                    have f2878 := ti_b (q_I r2863 12 5 a0)
                    have f2879 := ti_b (q_I r2863 12 7 a0)
                    have f2880 := cb_12_27 i2865 k_a0
                    have f2881 := cb_12_26 i2865 k_a0
                    exact ⟨by assumption, ⟨kp_w (by decide) u2874, v2875, kr_w (by decide) v2876⟩, by first | assumption | omega, by first | assumption | omega, by first | assumption | omega, by first | assumption | omega, by first | assumption | omega⟩
set_option maxHeartbeats 4000000 in
theorem ke_X12_readSteps {ad : List Nat} {h : hp} (L : Lay TLx ad h) {δ0 : dp} {N : Nat} (hN : 10000000 ≤ N) : ∀ (k : Nat), ∀ (a0 : Nat) (δ : dp), q_K h.1 a0 = 12 → (q_I δ 12 24 a0).toInt ≤ 3 → (q_I δ 12 26 a0).toInt ≤ (q_I δ 12 4 a0).toInt → (q_I δ 12 7 a0).toInt = 0 → 4 - (q_I δ 12 27 a0).toInt < (k : Int) → RI ad h.1 δ0 δ → ok (E_X12_readSteps N h.1 k a0 δ) (fun r => RI ad h.1 δ0 r ∧ (kp [(12, 4), (12, 5), (12, 6), (12, 7), (12, 25), (12, 26), (12, 27)] δ r ∧ q_V r = q_V δ ∧ kr ad [113, 114, 115, 116, 117] δ r) ∧ (q_I δ 12 4 a0).toInt ≤ (q_I r 12 4 a0).toInt ∧ ((q_I δ 12 5 a0).toInt ≠ -1 → (q_I r 12 5 a0).toInt ≠ -1) ∧ (q_I r 12 7 a0).toInt = (q_I δ 12 7 a0).toInt ∧ (q_I r 12 27 a0).toInt = (q_I δ 12 27 a0).toInt ∧ (q_I r 12 26 a0).toInt ≤ (q_I r 12 4 a0).toInt) := by
  intro k
  induction k with
  | zero =>
    intro a0 δ k_a0 z0 z1 z2 hd I
    exfalso; omega
  | succ k ih =>
    intro a0 δ k_a0 z0 z1 z2 hd I
    unfold E_X12_readSteps B_X12_readSteps
    have f1 := cb_12_24 I k_a0
    have f2 := cb_12_26 I k_a0
    have f3 := cb_12_4 I k_a0
    have f4 := ti_b (q_I δ 12 7 a0)
    have f5 := cb_12_27 I k_a0
    refine ok_mono (kl_X12_readSteps_0 L hN   ih k_a0 _ δ I (show (q_I δ 12 24 a0).toInt ≤ 3 by first | assumption | omega) (show (q_I δ 12 26 a0).toInt ≤ (q_I δ 12 4 a0).toInt by first | assumption | omega) (show (q_I δ 12 7 a0).toInt = 0 by first | assumption | omega) (show 4 - (q_I δ 12 27 a0).toInt ≤ (k : Int) by first | assumption | omega) (show 501 - (q_I δ 12 4 a0).toInt < _ by omega)) (fun r6 hr7 => ?_)
    obtain ⟨i8, ⟨u14, u15, u16⟩, p9, p10, p11, p12, p13⟩ := hr7
    have u17 := kp_t kp_r u14
    have v18 : q_V r6 = q_V δ := (u15).trans rfl
    have v19 := kr_t kr_r u16
    have f20 := cb_12_4 i8 k_a0
    have f21 := ti_b (q_I δ 12 5 a0)
    have f22 := ti_b (q_I r6 12 5 a0)
    have f23 := ti_b (q_I r6 12 7 a0)
    have f24 := cb_12_27 i8 k_a0
    have f25 := cb_12_26 i8 k_a0
    exact ⟨by assumption, ⟨kp_w (by decide) u17, v18, kr_w (by decide) v19⟩, by first | assumption | omega, by first | assumption | omega, by first | assumption | omega, by first | assumption | omega, by first | assumption | omega⟩
set_option maxHeartbeats 4000000 in
theorem k_X12_readSteps {ad : List Nat} {h : hp} (L : Lay TLx ad h) {δ0 : dp} {N : Nat} (hN : 10000000 ≤ N) {a0 : Nat} (k_a0 : q_K h.1 a0 = 12) {δ : dp} (z0 : (q_I δ 12 24 a0).toInt ≤ 3) (z1 : (q_I δ 12 26 a0).toInt ≤ (q_I δ 12 4 a0).toInt) (z2 : (q_I δ 12 7 a0).toInt = 0) (hd : 4 - (q_I δ 12 27 a0).toInt < 20) (I : RI ad h.1 δ0 δ) : ok (D_X12_readSteps N h.1 a0 δ) (fun r => RI ad h.1 δ0 r ∧ (kp [(12, 4), (12, 5), (12, 6), (12, 7), (12, 25), (12, 26), (12, 27)] δ r ∧ q_V r = q_V δ ∧ kr ad [113, 114, 115, 116, 117] δ r) ∧ (q_I δ 12 4 a0).toInt ≤ (q_I r 12 4 a0).toInt ∧ ((q_I δ 12 5 a0).toInt ≠ -1 → (q_I r 12 5 a0).toInt ≠ -1) ∧ (q_I r 12 7 a0).toInt = (q_I δ 12 7 a0).toInt ∧ (q_I r 12 27 a0).toInt = (q_I δ 12 27 a0).toInt ∧ (q_I r 12 26 a0).toInt ≤ (q_I r 12 4 a0).toInt) := ke_X12_readSteps L hN 20 a0 δ k_a0 z0 z1 z2 hd I
set_option maxHeartbeats 4000000 in
theorem k_X12_thief {ad : List Nat} {h : hp} (L : Lay TLx ad h) {δ0 : dp} {N : Nat} (hN : 10000000 ≤ N) {a0 : Nat} {x1 : Int32} (k_a0 : q_K h.1 a0 = 12) {δ : dp} (I : RI ad h.1 δ0 δ) : ok (D_X12_thief N h.1 a0 x1 δ) (fun r => RI ad h.1 δ0 r.2 ∧ (kp [(12, 0), (12, 2), (12, 3), (12, 4), (12, 5), (12, 6), (12, 7), (12, 8), (12, 24), (12, 25), (12, 26), (12, 27)] δ r.2 ∧ q_V r.2 = q_V δ ∧ kr ad [100, 112, 113, 114, 115, 116, 117] δ r.2) ∧ (0 ≤ (x1).toInt ∧ (x1).toInt ≤ (q_I δ 12 2 a0).toInt → (q_I r.2 12 2 a0).toInt = 0) ∧ ((x1).toInt < 0 ∨ (q_I δ 12 2 a0).toInt < (x1).toInt → (q_I r.2 12 2 a0).toInt = (q_I δ 12 2 a0).toInt)) := by
  unfold D_X12_thief
  refine ok_bdv (fun d1 e2 => ?_)
  have i3 : RI ad h.1 δ0 d1 := by rw [e2]; exact cs_12_0 L I
  have u4 := kp_I kp_r e2
  have v5 : q_V d1 = q_V δ := ((show q_V d1 = q_V δ by rw [e2]; rfl)).trans rfl
  have v6 := kr_N kr_r (show q_R d1 = q_R δ by rw [e2]; rfl)
  have f7 := ti_b x1
  refine ok_ite (fun h8 => ?_) (fun h8 => ?_)
  · have c9 : x1.toInt < (0 : Int) := o_lt h8
    unfold J_X12_thief_22
    unfold J_X12_thief_23
    refine ok_bind (k_X12_may L hN (a0 := a0) (x1 := (0 : Int32)) (x2 := (1 : Int32)) (x3 := (2 : Int32)) k_a0 (show (1 : Int) ≠ 0 by first | assumption | omega) (show 0 ≤ (2 : Int) by first | assumption | omega) (show (2 : Int) ≤ 2 by first | assumption | omega) i3) (fun r10 hr11 => ?_)
    obtain ⟨i12, ⟨u16, u17, u18⟩, p13, p14, p15⟩ := hr11
    have u19 := kp_t u4 u16
    have v20 : q_V r10.2 = q_V δ := (u17).trans v5
    have v21 := kr_t v6 u18
    have f22 := bo_t p13
    have f23 := ti_b r10.1
    replace p14 : ((r10.1).toInt = 1 → (0 : Int) ≠ 0) := p14
    have f24 := ti_b (q_I d1 12 0 a0)
    have f25 : (q_I d1 12 0 a0).toInt = (0 : Int) := congrArg Int32.toInt (show q_I d1 12 0 a0 = (0 : Int32) by rw [e2]; exact rI_s)
    replace p15 : ((q_I d1 12 0 a0).toInt = 0 → (r10.1).toInt = 0 → (0 : Int) = 0) := p15
    have f26 := ti_b r10.1
    refine ok_ite (fun h27 => ?_) (fun h27 => ?_)
    · have c28 : r10.1.toInt = (0 : Int) := o_eq h27
      have f29 := cb_12_2 I k_a0
      have f30 := cb_12_2 i12 k_a0
      have f31 : (q_I r10.2 12 2 a0).toInt = (q_I d1 12 2 a0).toInt := congrArg Int32.toInt (u16 12 2 a0 (by decide))
      have f32 := cb_12_2 i3 k_a0
      have f33 : (q_I d1 12 2 a0).toInt = (q_I δ 12 2 a0).toInt := congrArg Int32.toInt (by rw [e2]; exact rI_o (by decide))
      exact ok_some (show RI ad h.1 δ0 r10.2 ∧ (kp [(12, 0), (12, 2), (12, 3), (12, 4), (12, 5), (12, 6), (12, 7), (12, 8), (12, 24), (12, 25), (12, 26), (12, 27)] δ r10.2 ∧ q_V r10.2 = q_V δ ∧ kr ad [100, 112, 113, 114, 115, 116, 117] δ r10.2) ∧ (0 ≤ (x1).toInt ∧ (x1).toInt ≤ (q_I δ 12 2 a0).toInt → (q_I r10.2 12 2 a0).toInt = 0) ∧ ((x1).toInt < 0 ∨ (q_I δ 12 2 a0).toInt < (x1).toInt → (q_I r10.2 12 2 a0).toInt = (q_I δ 12 2 a0).toInt) from ⟨i12, ⟨kp_w (by decide) u19, v20, kr_w (by decide) v21⟩, by first | assumption | omega, by first | assumption | omega⟩)
    · have c34 : r10.1.toInt ≠ (0 : Int) := o_ne h27
      refine ok_bind (k_X12_begins L hN (a0 := a0) (x1 := x1) k_a0 (show 0 ≤ (x1).toInt by first | assumption | omega) (show (x1).toInt ≤ 500 by first | assumption | omega) i12) (fun r35 hr36 => ?_)
      obtain ⟨i37, ⟨u43, u44, u45, u46⟩, p38, p39, p40, p41, p42⟩ := hr36
      have u47 := kp_t u19 u43
      have v48 : q_V r35 = q_V δ := (u44).trans v20
      have v49 := kr_t v21 u46
      have f50 := cb_12_2 i37 k_a0
      have f51 := cb_12_4 i37 k_a0
      have f52 := cb_12_3 i37 k_a0
      have f53 := ti_b (q_I r35 12 5 a0)
      have f54 := ti_b (q_I r35 12 7 a0)
      have f55 := cb_12_24 i37 k_a0
      have f56 : (q_I r35 12 24 a0).toInt = (q_I r10.2 12 24 a0).toInt := congrArg Int32.toInt (u43 12 24 a0 (by decide))
      have f57 := cb_12_24 i12 k_a0
      have f58 : (q_I r10.2 12 24 a0).toInt = (q_I d1 12 24 a0).toInt := congrArg Int32.toInt (u16 12 24 a0 (by decide))
      have f59 := cb_12_24 i3 k_a0
      have f60 : (q_I d1 12 24 a0).toInt = (q_I δ 12 24 a0).toInt := congrArg Int32.toInt (by rw [e2]; exact rI_o (by decide))
      have f61 := cb_12_24 I k_a0
      refine ok_ite (fun h62 => ?_) (fun h62 => ?_)
      · have c63 : (q_I r35 12 24 a0).toInt = (4 : Int) := o_eq h62
        have f64 := cb_12_2 I k_a0
        exact ok_some (show RI ad h.1 δ0 r35 ∧ (kp [(12, 0), (12, 2), (12, 3), (12, 4), (12, 5), (12, 6), (12, 7), (12, 8), (12, 24), (12, 25), (12, 26), (12, 27)] δ r35 ∧ q_V r35 = q_V δ ∧ kr ad [100, 112, 113, 114, 115, 116, 117] δ r35) ∧ (0 ≤ (x1).toInt ∧ (x1).toInt ≤ (q_I δ 12 2 a0).toInt → (q_I r35 12 2 a0).toInt = 0) ∧ ((x1).toInt < 0 ∨ (q_I δ 12 2 a0).toInt < (x1).toInt → (q_I r35 12 2 a0).toInt = (q_I δ 12 2 a0).toInt) from ⟨i37, ⟨kp_w (by decide) u47, v48, kr_w (by decide) v49⟩, by first | assumption | omega, by first | assumption | omega⟩)
      · have c65 : (q_I r35 12 24 a0).toInt ≠ (4 : Int) := o_ne h62
        refine ok_bdv (fun d66 e67 => ?_)
        have i68 : RI ad h.1 δ0 d66 := by rw [e67]; exact cs_12_25 L i37 k_a0 (show 0 ≤ (0 : Int) by omega) (show (0 : Int) ≤ 60 by omega)
        have u69 := kp_I u47 e67
        have v70 : q_V d66 = q_V δ := ((show q_V d66 = q_V r35 by rw [e67]; rfl)).trans v48
        have v71 := kr_N v49 (show q_R d66 = q_R r35 by rw [e67]; rfl)
        refine ok_bdv (fun d72 e73 => ?_)
        have i74 : RI ad h.1 δ0 d72 := by rw [e73]; exact cs_12_26 L i68 k_a0 (show 0 ≤ (0 : Int) by omega) (show (0 : Int) ≤ 500 by omega)
        have u75 := kp_I u69 e73
        have v76 : q_V d72 = q_V δ := ((show q_V d72 = q_V d66 by rw [e73]; rfl)).trans v70
        have v77 := kr_N v71 (show q_R d72 = q_R d66 by rw [e73]; rfl)
        refine ok_bdv (fun d78 e79 => ?_)
        have i80 : RI ad h.1 δ0 d78 := by rw [e79]; exact cs_12_27 L i74 k_a0 (show 0 ≤ (0 : Int) by omega) (show (0 : Int) ≤ 3 by omega)
        have u81 := kp_I u75 e79
        have v82 : q_V d78 = q_V δ := ((show q_V d78 = q_V d72 by rw [e79]; rfl)).trans v76
        have v83 := kr_N v77 (show q_R d78 = q_R d72 by rw [e79]; rfl)
        refine ok_bind (k_X12_isMore L hN (a0 := a0) k_a0 i80) (fun r84 hr85 => ?_)
        obtain ⟨i86, ⟨u90, u91, u92, u93⟩, p87, p88, p89⟩ := hr85
        have u94 := kp_t u81 u90
        have v95 : q_V r84.2 = q_V δ := (u91).trans v82
        have v96 := kr_t v83 u93
        have f97 := bo_t p87
        have f98 := cb_12_4 i80 k_a0
        have f99 : (q_I d78 12 4 a0).toInt = (q_I d72 12 4 a0).toInt := congrArg Int32.toInt (by rw [e79]; exact rI_o (by decide))
        have f100 := cb_12_4 i74 k_a0
        have f101 : (q_I d72 12 4 a0).toInt = (q_I d66 12 4 a0).toInt := congrArg Int32.toInt (by rw [e73]; exact rI_o (by decide))
        have f102 := cb_12_4 i68 k_a0
        have f103 : (q_I d66 12 4 a0).toInt = (q_I r35 12 4 a0).toInt := congrArg Int32.toInt (by rw [e67]; exact rI_o (by decide))
        have f104 := cb_12_4 i86 k_a0
        have f105 := ti_b r84.1
        have f106 := cb_12_3 i80 k_a0
        have f107 : (q_I d78 12 3 a0).toInt = (q_I d72 12 3 a0).toInt := congrArg Int32.toInt (by rw [e79]; exact rI_o (by decide))
        have f108 := cb_12_3 i74 k_a0
        have f109 : (q_I d72 12 3 a0).toInt = (q_I d66 12 3 a0).toInt := congrArg Int32.toInt (by rw [e73]; exact rI_o (by decide))
        have f110 := cb_12_3 i68 k_a0
        have f111 : (q_I d66 12 3 a0).toInt = (q_I r35 12 3 a0).toInt := congrArg Int32.toInt (by rw [e67]; exact rI_o (by decide))
        have f112 := ti_b r84.1
        refine ok_ite (fun h113 => ?_) (fun h113 => ?_)
        · have c114 : r84.1.toInt = (0 : Int) := o_eq h113
          have f117 := cb_12_3 i86 k_a0
          have f118 : (q_I r84.2 12 3 a0).toInt = (q_I d78 12 3 a0).toInt := congrArg Int32.toInt (u90 12 3 a0 (by decide))
          refine ok_bind (k_X12_wrong L hN (a0 := a0) (x1 := (1 : Int32)) (x2 := (q_I r84.2 12 3 a0)) k_a0 (show 0 ≤ ((q_I r84.2 12 3 a0)).toInt by first | assumption | omega) i86) (fun r115 hr116 => ?_)
          obtain ⟨i119, ⟨u121, u122, u123, u124⟩, p120⟩ := hr116
          have u125 := kp_t u94 u121
          have v126 : q_V r115 = q_V δ := (u122).trans v95
          have v127 := kr_t v96 u124
          have f128 := ti_b (q_I r115 12 5 a0)
          unfold J_X12_thief_79
          have f131 := cb_12_24 i119 k_a0
          have f132 : (q_I r115 12 24 a0).toInt = (q_I r84.2 12 24 a0).toInt := congrArg Int32.toInt (u121 12 24 a0 (by decide))
          have f133 := cb_12_24 i86 k_a0
          have f134 : (q_I r84.2 12 24 a0).toInt = (q_I d78 12 24 a0).toInt := congrArg Int32.toInt (u90 12 24 a0 (by decide))
          have f135 := cb_12_24 i80 k_a0
          have f136 : (q_I d78 12 24 a0).toInt = (q_I d72 12 24 a0).toInt := congrArg Int32.toInt (by rw [e79]; exact rI_o (by decide))
          have f137 := cb_12_24 i74 k_a0
          have f138 : (q_I d72 12 24 a0).toInt = (q_I d66 12 24 a0).toInt := congrArg Int32.toInt (by rw [e73]; exact rI_o (by decide))
          have f139 := cb_12_24 i68 k_a0
          have f140 : (q_I d66 12 24 a0).toInt = (q_I r35 12 24 a0).toInt := congrArg Int32.toInt (by rw [e67]; exact rI_o (by decide))
          have f141 := cb_12_26 i119 k_a0
          have f142 : (q_I r115 12 26 a0).toInt = (q_I r84.2 12 26 a0).toInt := congrArg Int32.toInt (u121 12 26 a0 (by decide))
          have f143 := cb_12_26 i86 k_a0
          have f144 : (q_I r84.2 12 26 a0).toInt = (q_I d78 12 26 a0).toInt := congrArg Int32.toInt (u90 12 26 a0 (by decide))
          have f145 := cb_12_26 i80 k_a0
          have f146 : (q_I d78 12 26 a0).toInt = (q_I d72 12 26 a0).toInt := congrArg Int32.toInt (by rw [e79]; exact rI_o (by decide))
          have f147 := cb_12_26 i74 k_a0
          have f148 : (q_I d72 12 26 a0).toInt = (0 : Int) := congrArg Int32.toInt (show q_I d72 12 26 a0 = (0 : Int32) by rw [e73]; exact rI_s)
          have f149 := cb_12_4 i119 k_a0
          have f150 : (q_I r115 12 4 a0).toInt = (q_I r84.2 12 4 a0).toInt := congrArg Int32.toInt (u121 12 4 a0 (by decide))
          have f151 := ti_b (q_I r115 12 7 a0)
          have f152 : (q_I r115 12 7 a0).toInt = (q_I r84.2 12 7 a0).toInt := congrArg Int32.toInt (u121 12 7 a0 (by decide))
          have f153 := ti_b (q_I r84.2 12 7 a0)
          have f154 : (q_I r84.2 12 7 a0).toInt = (q_I d78 12 7 a0).toInt := congrArg Int32.toInt (u90 12 7 a0 (by decide))
          have f155 := ti_b (q_I d78 12 7 a0)
          have f156 : (q_I d78 12 7 a0).toInt = (q_I d72 12 7 a0).toInt := congrArg Int32.toInt (by rw [e79]; exact rI_o (by decide))
          have f157 := ti_b (q_I d72 12 7 a0)
          have f158 : (q_I d72 12 7 a0).toInt = (q_I d66 12 7 a0).toInt := congrArg Int32.toInt (by rw [e73]; exact rI_o (by decide))
          have f159 := ti_b (q_I d66 12 7 a0)
          have f160 : (q_I d66 12 7 a0).toInt = (q_I r35 12 7 a0).toInt := congrArg Int32.toInt (by rw [e67]; exact rI_o (by decide))
          have f161 := cb_12_27 i119 k_a0
          have f162 : (q_I r115 12 27 a0).toInt = (q_I r84.2 12 27 a0).toInt := congrArg Int32.toInt (u121 12 27 a0 (by decide))
          have f163 := cb_12_27 i86 k_a0
          have f164 : (q_I r84.2 12 27 a0).toInt = (q_I d78 12 27 a0).toInt := congrArg Int32.toInt (u90 12 27 a0 (by decide))
          have f165 := cb_12_27 i80 k_a0
          have f166 : (q_I d78 12 27 a0).toInt = (0 : Int) := congrArg Int32.toInt (show q_I d78 12 27 a0 = (0 : Int32) by rw [e79]; exact rI_s)
          refine ok_bind (k_X12_readSteps L hN (a0 := a0) k_a0 (show (q_I r115 12 24 a0).toInt ≤ 3 by first | assumption | omega) (show (q_I r115 12 26 a0).toInt ≤ (q_I r115 12 4 a0).toInt by first | assumption | omega) (show (q_I r115 12 7 a0).toInt = 0 by first | assumption | omega) (show 4 - (q_I r115 12 27 a0).toInt < 20 by first | assumption | omega) i119) (fun r129 hr130 => ?_)
          obtain ⟨i167, ⟨u173, u174, u175⟩, p168, p169, p170, p171, p172⟩ := hr130
          have u176 := kp_t u125 u173
          have v177 : q_V r129 = q_V δ := (u174).trans v126
          have v178 := kr_t v127 u175
          have f179 := cb_12_4 i167 k_a0
          have f180 := ti_b (q_I r129 12 5 a0)
          have f181 := ti_b (q_I r129 12 7 a0)
          have f182 := cb_12_27 i167 k_a0
          have f183 := cb_12_26 i167 k_a0
          refine ok_bind (k_X12_fine L hN (a0 := a0) k_a0 i167) (fun r184 hr185 => ?_)
          obtain ⟨i186, p187, p188, p189⟩ := hr185
          try rw [i186]
          have f190 := bo_t p187
          have f191 := ti_b r184.1
          have f192 := ti_b r184.1
          refine ok_ite (fun h193 => ?_) (fun h193 => ?_)
          · have c194 : r184.1.toInt = (0 : Int) := o_eq h193
            unfold J_X12_thief_106
            refine ok_bind (k_X12_result L hN (a0 := a0) (x1 := (q_I r129 12 24 a0)) k_a0 i167) (fun r195 hr196 => ?_)
            obtain ⟨i197, ⟨u198, u199, u200, u201⟩⟩ := hr196
            have u202 := kp_t u176 u198
            have v203 : q_V r195.2 = q_V δ := (u199).trans v177
            have v204 := kr_t v178 u201
            have f205 := ti_b r195.1
            have f206 := cb_12_24 i197 k_a0
            have f207 : (q_I r195.2 12 24 a0).toInt = (q_I r129 12 24 a0).toInt := congrArg Int32.toInt (u198 12 24 a0 (by decide))
            have f208 := cb_12_24 i167 k_a0
            have f209 : (q_I r129 12 24 a0).toInt = (q_I r115 12 24 a0).toInt := congrArg Int32.toInt (u173 12 24 a0 (by decide))
            refine ok_ite (fun h210 => ?_) (fun h210 => ?_)
            · have c211 : r195.1.toInt = (q_I r195.2 12 24 a0).toInt := o_eq h210
              obtain ⟨b212, o213, k214, n215⟩ := gO_12_28 L k_a0
              obtain rfl := gS_12_28 L k_a0 o213
              refine ok_at o213 ?_
              have t216 := ti_tn (q_I r195.2 12 24 a0)
              refine ok_gd (fun hc217 => ?_) ?_
              · rcases hc217 with hc217 | hc217
                · have c218 : (q_I r195.2 12 24 a0).toInt < (0 : Int) := o_lt hc217
                  omega
                · omega
              have f222 := cb_12_25 i197 k_a0
              have f223 : (q_I r195.2 12 25 a0).toInt = (q_I r129 12 25 a0).toInt := congrArg Int32.toInt (u198 12 25 a0 (by decide))
              have f224 := cb_12_25 i167 k_a0
              refine ok_bdv (fun d219 e220 => ?_)
              have i221 : RI ad h.1 δ0 d219 := by rw [e220]; exact cr_112 L i197 (show 0 ≤ (q_I r195.2 12 25 a0).toInt by omega) (show (q_I r195.2 12 25 a0).toInt ≤ 60 by omega)
              have u225 := kp_N u202 (show q_I d219 = q_I r195.2 by rw [e220]; rfl)
              have v226 : q_V d219 = q_V δ := ((show q_V d219 = q_V r195.2 by rw [e220]; rfl)).trans v203
              have v227 := kr_s L (by decide) v204 e220
              have f231 := cb_12_24 i221 k_a0
              have f232 : (q_I d219 12 24 a0).toInt = (q_I r195.2 12 24 a0).toInt := congrArg Int32.toInt (by rw [e220]; rfl)
              first | (have q234 := te_addc (c := 1) (n := 1) rfl (q_I d219 12 24 a0) (by omega) (by omega); obtain ⟨f235, f236, f237⟩ := q234) | (obtain ⟨q234, f235, f236, f237⟩ := ti_addc (c := 1) (n := 1) rfl (q_I d219 12 24 a0))
              refine ok_bdv (fun d228 e229 => ?_)
              have i230 : RI ad h.1 δ0 d228 := by rw [e229]; exact cs_12_24 L i221 k_a0 (show 0 ≤ ((q_I d219 12 24 a0) + (1 : Int32)).toInt by omega) (show ((q_I d219 12 24 a0) + (1 : Int32)).toInt ≤ 4 by omega)
              have u238 := kp_I u225 e229
              have v239 : q_V d228 = q_V δ := ((show q_V d228 = q_V d219 by rw [e229]; rfl)).trans v226
              have v240 := kr_N v227 (show q_R d228 = q_R d219 by rw [e229]; rfl)
              unfold J_X12_thief_146
              have f241 := cb_12_2 I k_a0
              have f242 := cb_12_2 i230 k_a0
              have f243 : (q_I d228 12 2 a0).toInt = (q_I d219 12 2 a0).toInt := congrArg Int32.toInt (by rw [e229]; exact rI_o (by decide))
              have f244 := cb_12_2 i221 k_a0
              have f245 : (q_I d219 12 2 a0).toInt = (q_I r195.2 12 2 a0).toInt := congrArg Int32.toInt (by rw [e220]; rfl)
              have f246 := cb_12_2 i197 k_a0
              have f247 : (q_I r195.2 12 2 a0).toInt = (q_I r129 12 2 a0).toInt := congrArg Int32.toInt (u198 12 2 a0 (by decide))
              have f248 := cb_12_2 i167 k_a0
              have f249 : (q_I r129 12 2 a0).toInt = (q_I r115 12 2 a0).toInt := congrArg Int32.toInt (u173 12 2 a0 (by decide))
              have f250 := cb_12_2 i119 k_a0
              have f251 : (q_I r115 12 2 a0).toInt = (q_I r84.2 12 2 a0).toInt := congrArg Int32.toInt (u121 12 2 a0 (by decide))
              have f252 := cb_12_2 i86 k_a0
              have f253 : (q_I r84.2 12 2 a0).toInt = (q_I d78 12 2 a0).toInt := congrArg Int32.toInt (u90 12 2 a0 (by decide))
              have f254 := cb_12_2 i80 k_a0
              have f255 : (q_I d78 12 2 a0).toInt = (q_I d72 12 2 a0).toInt := congrArg Int32.toInt (by rw [e79]; exact rI_o (by decide))
              have f256 := cb_12_2 i74 k_a0
              have f257 : (q_I d72 12 2 a0).toInt = (q_I d66 12 2 a0).toInt := congrArg Int32.toInt (by rw [e73]; exact rI_o (by decide))
              have f258 := cb_12_2 i68 k_a0
              have f259 : (q_I d66 12 2 a0).toInt = (q_I r35 12 2 a0).toInt := congrArg Int32.toInt (by rw [e67]; exact rI_o (by decide))
              exact ok_some (show RI ad h.1 δ0 d228 ∧ (kp [(12, 0), (12, 2), (12, 3), (12, 4), (12, 5), (12, 6), (12, 7), (12, 8), (12, 24), (12, 25), (12, 26), (12, 27)] δ d228 ∧ q_V d228 = q_V δ ∧ kr ad [100, 112, 113, 114, 115, 116, 117] δ d228) ∧ (0 ≤ (x1).toInt ∧ (x1).toInt ≤ (q_I δ 12 2 a0).toInt → (q_I d228 12 2 a0).toInt = 0) ∧ ((x1).toInt < 0 ∨ (q_I δ 12 2 a0).toInt < (x1).toInt → (q_I d228 12 2 a0).toInt = (q_I δ 12 2 a0).toInt) from ⟨i230, ⟨kp_w (by decide) u238, v239, kr_w (by decide) v240⟩, by first | assumption | omega, by first | assumption | omega⟩)
            · have c260 : r195.1.toInt ≠ (q_I r195.2 12 24 a0).toInt := o_ne h210
              unfold J_X12_thief_146
              have f261 := cb_12_2 I k_a0
              have f262 := cb_12_2 i197 k_a0
              have f263 : (q_I r195.2 12 2 a0).toInt = (q_I r129 12 2 a0).toInt := congrArg Int32.toInt (u198 12 2 a0 (by decide))
              have f264 := cb_12_2 i167 k_a0
              have f265 : (q_I r129 12 2 a0).toInt = (q_I r115 12 2 a0).toInt := congrArg Int32.toInt (u173 12 2 a0 (by decide))
              have f266 := cb_12_2 i119 k_a0
              have f267 : (q_I r115 12 2 a0).toInt = (q_I r84.2 12 2 a0).toInt := congrArg Int32.toInt (u121 12 2 a0 (by decide))
              have f268 := cb_12_2 i86 k_a0
              have f269 : (q_I r84.2 12 2 a0).toInt = (q_I d78 12 2 a0).toInt := congrArg Int32.toInt (u90 12 2 a0 (by decide))
              have f270 := cb_12_2 i80 k_a0
              have f271 : (q_I d78 12 2 a0).toInt = (q_I d72 12 2 a0).toInt := congrArg Int32.toInt (by rw [e79]; exact rI_o (by decide))
              have f272 := cb_12_2 i74 k_a0
              have f273 : (q_I d72 12 2 a0).toInt = (q_I d66 12 2 a0).toInt := congrArg Int32.toInt (by rw [e73]; exact rI_o (by decide))
              have f274 := cb_12_2 i68 k_a0
              have f275 : (q_I d66 12 2 a0).toInt = (q_I r35 12 2 a0).toInt := congrArg Int32.toInt (by rw [e67]; exact rI_o (by decide))
              exact ok_some (show RI ad h.1 δ0 r195.2 ∧ (kp [(12, 0), (12, 2), (12, 3), (12, 4), (12, 5), (12, 6), (12, 7), (12, 8), (12, 24), (12, 25), (12, 26), (12, 27)] δ r195.2 ∧ q_V r195.2 = q_V δ ∧ kr ad [100, 112, 113, 114, 115, 116, 117] δ r195.2) ∧ (0 ≤ (x1).toInt ∧ (x1).toInt ≤ (q_I δ 12 2 a0).toInt → (q_I r195.2 12 2 a0).toInt = 0) ∧ ((x1).toInt < 0 ∨ (q_I δ 12 2 a0).toInt < (x1).toInt → (q_I r195.2 12 2 a0).toInt = (q_I δ 12 2 a0).toInt) from ⟨i197, ⟨kp_w (by decide) u202, v203, kr_w (by decide) v204⟩, by first | assumption | omega, by first | assumption | omega⟩)
          · have c276 : r184.1.toInt ≠ (0 : Int) := o_ne h193
            refine ok_bind (k_X12_isMore L hN (a0 := a0) k_a0 i167) (fun r277 hr278 => ?_)
            obtain ⟨i279, ⟨u283, u284, u285, u286⟩, p280, p281, p282⟩ := hr278
            have u287 := kp_t u176 u283
            have v288 : q_V r277.2 = q_V δ := (u284).trans v177
            have v289 := kr_t v178 u286
            have f290 := bo_t p280
            have f291 := cb_12_4 i279 k_a0
            have f292 := ti_b r277.1
            have f293 := cb_12_3 i167 k_a0
            have f294 : (q_I r129 12 3 a0).toInt = (q_I r115 12 3 a0).toInt := congrArg Int32.toInt (u173 12 3 a0 (by decide))
            have f295 := cb_12_3 i119 k_a0
            have f296 : (q_I r115 12 3 a0).toInt = (q_I r84.2 12 3 a0).toInt := congrArg Int32.toInt (u121 12 3 a0 (by decide))
            have f297 := ti_b r277.1
            refine ok_ite (fun h298 => ?_) (fun h298 => ?_)
            · have c299 : r277.1.toInt = (0 : Int) := o_eq h298
              unfold J_X12_thief_106
              refine ok_bind (k_X12_result L hN (a0 := a0) (x1 := (q_I r277.2 12 24 a0)) k_a0 i279) (fun r300 hr301 => ?_)
              obtain ⟨i302, ⟨u303, u304, u305, u306⟩⟩ := hr301
              have u307 := kp_t u287 u303
              have v308 : q_V r300.2 = q_V δ := (u304).trans v288
              have v309 := kr_t v289 u306
              have f310 := ti_b r300.1
              have f311 := cb_12_24 i302 k_a0
              have f312 : (q_I r300.2 12 24 a0).toInt = (q_I r277.2 12 24 a0).toInt := congrArg Int32.toInt (u303 12 24 a0 (by decide))
              have f313 := cb_12_24 i279 k_a0
              have f314 : (q_I r277.2 12 24 a0).toInt = (q_I r129 12 24 a0).toInt := congrArg Int32.toInt (u283 12 24 a0 (by decide))
              have f315 := cb_12_24 i167 k_a0
              have f316 : (q_I r129 12 24 a0).toInt = (q_I r115 12 24 a0).toInt := congrArg Int32.toInt (u173 12 24 a0 (by decide))
              refine ok_ite (fun h317 => ?_) (fun h317 => ?_)
              · have c318 : r300.1.toInt = (q_I r300.2 12 24 a0).toInt := o_eq h317
                obtain ⟨b319, o320, k321, n322⟩ := gO_12_28 L k_a0
                obtain rfl := gS_12_28 L k_a0 o320
                refine ok_at o320 ?_
                have t323 := ti_tn (q_I r300.2 12 24 a0)
                refine ok_gd (fun hc324 => ?_) ?_
                · rcases hc324 with hc324 | hc324
                  · have c325 : (q_I r300.2 12 24 a0).toInt < (0 : Int) := o_lt hc324
                    omega
                  · omega
                have f329 := cb_12_25 i302 k_a0
                have f330 : (q_I r300.2 12 25 a0).toInt = (q_I r277.2 12 25 a0).toInt := congrArg Int32.toInt (u303 12 25 a0 (by decide))
                have f331 := cb_12_25 i279 k_a0
                have f332 : (q_I r277.2 12 25 a0).toInt = (q_I r129 12 25 a0).toInt := congrArg Int32.toInt (u283 12 25 a0 (by decide))
                have f333 := cb_12_25 i167 k_a0
                refine ok_bdv (fun d326 e327 => ?_)
                have i328 : RI ad h.1 δ0 d326 := by rw [e327]; exact cr_112 L i302 (show 0 ≤ (q_I r300.2 12 25 a0).toInt by omega) (show (q_I r300.2 12 25 a0).toInt ≤ 60 by omega)
                have u334 := kp_N u307 (show q_I d326 = q_I r300.2 by rw [e327]; rfl)
                have v335 : q_V d326 = q_V δ := ((show q_V d326 = q_V r300.2 by rw [e327]; rfl)).trans v308
                have v336 := kr_s L (by decide) v309 e327
                have f340 := cb_12_24 i328 k_a0
                have f341 : (q_I d326 12 24 a0).toInt = (q_I r300.2 12 24 a0).toInt := congrArg Int32.toInt (by rw [e327]; rfl)
                first | (have q343 := te_addc (c := 1) (n := 1) rfl (q_I d326 12 24 a0) (by omega) (by omega); obtain ⟨f344, f345, f346⟩ := q343) | (obtain ⟨q343, f344, f345, f346⟩ := ti_addc (c := 1) (n := 1) rfl (q_I d326 12 24 a0))
                refine ok_bdv (fun d337 e338 => ?_)
                have i339 : RI ad h.1 δ0 d337 := by rw [e338]; exact cs_12_24 L i328 k_a0 (show 0 ≤ ((q_I d326 12 24 a0) + (1 : Int32)).toInt by omega) (show ((q_I d326 12 24 a0) + (1 : Int32)).toInt ≤ 4 by omega)
                have u347 := kp_I u334 e338
                have v348 : q_V d337 = q_V δ := ((show q_V d337 = q_V d326 by rw [e338]; rfl)).trans v335
                have v349 := kr_N v336 (show q_R d337 = q_R d326 by rw [e338]; rfl)
                unfold J_X12_thief_146
                have f350 := cb_12_2 I k_a0
                have f351 := cb_12_2 i339 k_a0
                have f352 : (q_I d337 12 2 a0).toInt = (q_I d326 12 2 a0).toInt := congrArg Int32.toInt (by rw [e338]; exact rI_o (by decide))
                have f353 := cb_12_2 i328 k_a0
                have f354 : (q_I d326 12 2 a0).toInt = (q_I r300.2 12 2 a0).toInt := congrArg Int32.toInt (by rw [e327]; rfl)
                have f355 := cb_12_2 i302 k_a0
                have f356 : (q_I r300.2 12 2 a0).toInt = (q_I r277.2 12 2 a0).toInt := congrArg Int32.toInt (u303 12 2 a0 (by decide))
                have f357 := cb_12_2 i279 k_a0
                have f358 : (q_I r277.2 12 2 a0).toInt = (q_I r129 12 2 a0).toInt := congrArg Int32.toInt (u283 12 2 a0 (by decide))
                have f359 := cb_12_2 i167 k_a0
                have f360 : (q_I r129 12 2 a0).toInt = (q_I r115 12 2 a0).toInt := congrArg Int32.toInt (u173 12 2 a0 (by decide))
                have f361 := cb_12_2 i119 k_a0
                have f362 : (q_I r115 12 2 a0).toInt = (q_I r84.2 12 2 a0).toInt := congrArg Int32.toInt (u121 12 2 a0 (by decide))
                have f363 := cb_12_2 i86 k_a0
                have f364 : (q_I r84.2 12 2 a0).toInt = (q_I d78 12 2 a0).toInt := congrArg Int32.toInt (u90 12 2 a0 (by decide))
                have f365 := cb_12_2 i80 k_a0
                have f366 : (q_I d78 12 2 a0).toInt = (q_I d72 12 2 a0).toInt := congrArg Int32.toInt (by rw [e79]; exact rI_o (by decide))
                have f367 := cb_12_2 i74 k_a0
                have f368 : (q_I d72 12 2 a0).toInt = (q_I d66 12 2 a0).toInt := congrArg Int32.toInt (by rw [e73]; exact rI_o (by decide))
                have f369 := cb_12_2 i68 k_a0
                have f370 : (q_I d66 12 2 a0).toInt = (q_I r35 12 2 a0).toInt := congrArg Int32.toInt (by rw [e67]; exact rI_o (by decide))
                exact ok_some (show RI ad h.1 δ0 d337 ∧ (kp [(12, 0), (12, 2), (12, 3), (12, 4), (12, 5), (12, 6), (12, 7), (12, 8), (12, 24), (12, 25), (12, 26), (12, 27)] δ d337 ∧ q_V d337 = q_V δ ∧ kr ad [100, 112, 113, 114, 115, 116, 117] δ d337) ∧ (0 ≤ (x1).toInt ∧ (x1).toInt ≤ (q_I δ 12 2 a0).toInt → (q_I d337 12 2 a0).toInt = 0) ∧ ((x1).toInt < 0 ∨ (q_I δ 12 2 a0).toInt < (x1).toInt → (q_I d337 12 2 a0).toInt = (q_I δ 12 2 a0).toInt) from ⟨i339, ⟨kp_w (by decide) u347, v348, kr_w (by decide) v349⟩, by first | assumption | omega, by first | assumption | omega⟩)
              · have c371 : r300.1.toInt ≠ (q_I r300.2 12 24 a0).toInt := o_ne h317
                unfold J_X12_thief_146
                have f372 := cb_12_2 I k_a0
                have f373 := cb_12_2 i302 k_a0
                have f374 : (q_I r300.2 12 2 a0).toInt = (q_I r277.2 12 2 a0).toInt := congrArg Int32.toInt (u303 12 2 a0 (by decide))
                have f375 := cb_12_2 i279 k_a0
                have f376 : (q_I r277.2 12 2 a0).toInt = (q_I r129 12 2 a0).toInt := congrArg Int32.toInt (u283 12 2 a0 (by decide))
                have f377 := cb_12_2 i167 k_a0
                have f378 : (q_I r129 12 2 a0).toInt = (q_I r115 12 2 a0).toInt := congrArg Int32.toInt (u173 12 2 a0 (by decide))
                have f379 := cb_12_2 i119 k_a0
                have f380 : (q_I r115 12 2 a0).toInt = (q_I r84.2 12 2 a0).toInt := congrArg Int32.toInt (u121 12 2 a0 (by decide))
                have f381 := cb_12_2 i86 k_a0
                have f382 : (q_I r84.2 12 2 a0).toInt = (q_I d78 12 2 a0).toInt := congrArg Int32.toInt (u90 12 2 a0 (by decide))
                have f383 := cb_12_2 i80 k_a0
                have f384 : (q_I d78 12 2 a0).toInt = (q_I d72 12 2 a0).toInt := congrArg Int32.toInt (by rw [e79]; exact rI_o (by decide))
                have f385 := cb_12_2 i74 k_a0
                have f386 : (q_I d72 12 2 a0).toInt = (q_I d66 12 2 a0).toInt := congrArg Int32.toInt (by rw [e73]; exact rI_o (by decide))
                have f387 := cb_12_2 i68 k_a0
                have f388 : (q_I d66 12 2 a0).toInt = (q_I r35 12 2 a0).toInt := congrArg Int32.toInt (by rw [e67]; exact rI_o (by decide))
                exact ok_some (show RI ad h.1 δ0 r300.2 ∧ (kp [(12, 0), (12, 2), (12, 3), (12, 4), (12, 5), (12, 6), (12, 7), (12, 8), (12, 24), (12, 25), (12, 26), (12, 27)] δ r300.2 ∧ q_V r300.2 = q_V δ ∧ kr ad [100, 112, 113, 114, 115, 116, 117] δ r300.2) ∧ (0 ≤ (x1).toInt ∧ (x1).toInt ≤ (q_I δ 12 2 a0).toInt → (q_I r300.2 12 2 a0).toInt = 0) ∧ ((x1).toInt < 0 ∨ (q_I δ 12 2 a0).toInt < (x1).toInt → (q_I r300.2 12 2 a0).toInt = (q_I δ 12 2 a0).toInt) from ⟨i302, ⟨kp_w (by decide) u307, v308, kr_w (by decide) v309⟩, by first | assumption | omega, by first | assumption | omega⟩)
            · have c389 : r277.1.toInt ≠ (0 : Int) := o_ne h298
              refine ok_bind (k_X12_wrong L hN (a0 := a0) (x1 := (1 : Int32)) (x2 := (q_I r277.2 12 4 a0)) k_a0 (show 0 ≤ ((q_I r277.2 12 4 a0)).toInt by first | assumption | omega) i279) (fun r390 hr391 => ?_)
              obtain ⟨i392, ⟨u394, u395, u396, u397⟩, p393⟩ := hr391
              have u398 := kp_t u287 u394
              have v399 : q_V r390 = q_V δ := (u395).trans v288
              have v400 := kr_t v289 u397
              have f401 := ti_b (q_I r390 12 5 a0)
              unfold J_X12_thief_106
              refine ok_bind (k_X12_result L hN (a0 := a0) (x1 := (q_I r390 12 24 a0)) k_a0 i392) (fun r402 hr403 => ?_)
              obtain ⟨i404, ⟨u405, u406, u407, u408⟩⟩ := hr403
              have u409 := kp_t u398 u405
              have v410 : q_V r402.2 = q_V δ := (u406).trans v399
              have v411 := kr_t v400 u408
              have f412 := ti_b r402.1
              have f413 := cb_12_24 i404 k_a0
              have f414 : (q_I r402.2 12 24 a0).toInt = (q_I r390 12 24 a0).toInt := congrArg Int32.toInt (u405 12 24 a0 (by decide))
              have f415 := cb_12_24 i392 k_a0
              have f416 : (q_I r390 12 24 a0).toInt = (q_I r277.2 12 24 a0).toInt := congrArg Int32.toInt (u394 12 24 a0 (by decide))
              have f417 := cb_12_24 i279 k_a0
              have f418 : (q_I r277.2 12 24 a0).toInt = (q_I r129 12 24 a0).toInt := congrArg Int32.toInt (u283 12 24 a0 (by decide))
              have f419 := cb_12_24 i167 k_a0
              have f420 : (q_I r129 12 24 a0).toInt = (q_I r115 12 24 a0).toInt := congrArg Int32.toInt (u173 12 24 a0 (by decide))
              refine ok_ite (fun h421 => ?_) (fun h421 => ?_)
              · have c422 : r402.1.toInt = (q_I r402.2 12 24 a0).toInt := o_eq h421
                obtain ⟨b423, o424, k425, n426⟩ := gO_12_28 L k_a0
                obtain rfl := gS_12_28 L k_a0 o424
                refine ok_at o424 ?_
                have t427 := ti_tn (q_I r402.2 12 24 a0)
                refine ok_gd (fun hc428 => ?_) ?_
                · rcases hc428 with hc428 | hc428
                  · have c429 : (q_I r402.2 12 24 a0).toInt < (0 : Int) := o_lt hc428
                    omega
                  · omega
                have f433 := cb_12_25 i404 k_a0
                have f434 : (q_I r402.2 12 25 a0).toInt = (q_I r390 12 25 a0).toInt := congrArg Int32.toInt (u405 12 25 a0 (by decide))
                have f435 := cb_12_25 i392 k_a0
                have f436 : (q_I r390 12 25 a0).toInt = (q_I r277.2 12 25 a0).toInt := congrArg Int32.toInt (u394 12 25 a0 (by decide))
                have f437 := cb_12_25 i279 k_a0
                have f438 : (q_I r277.2 12 25 a0).toInt = (q_I r129 12 25 a0).toInt := congrArg Int32.toInt (u283 12 25 a0 (by decide))
                have f439 := cb_12_25 i167 k_a0
                refine ok_bdv (fun d430 e431 => ?_)
                have i432 : RI ad h.1 δ0 d430 := by rw [e431]; exact cr_112 L i404 (show 0 ≤ (q_I r402.2 12 25 a0).toInt by omega) (show (q_I r402.2 12 25 a0).toInt ≤ 60 by omega)
                have u440 := kp_N u409 (show q_I d430 = q_I r402.2 by rw [e431]; rfl)
                have v441 : q_V d430 = q_V δ := ((show q_V d430 = q_V r402.2 by rw [e431]; rfl)).trans v410
                have v442 := kr_s L (by decide) v411 e431
                have f446 := cb_12_24 i432 k_a0
                have f447 : (q_I d430 12 24 a0).toInt = (q_I r402.2 12 24 a0).toInt := congrArg Int32.toInt (by rw [e431]; rfl)
                first | (have q449 := te_addc (c := 1) (n := 1) rfl (q_I d430 12 24 a0) (by omega) (by omega); obtain ⟨f450, f451, f452⟩ := q449) | (obtain ⟨q449, f450, f451, f452⟩ := ti_addc (c := 1) (n := 1) rfl (q_I d430 12 24 a0))
                refine ok_bdv (fun d443 e444 => ?_)
                have i445 : RI ad h.1 δ0 d443 := by rw [e444]; exact cs_12_24 L i432 k_a0 (show 0 ≤ ((q_I d430 12 24 a0) + (1 : Int32)).toInt by omega) (show ((q_I d430 12 24 a0) + (1 : Int32)).toInt ≤ 4 by omega)
                have u453 := kp_I u440 e444
                have v454 : q_V d443 = q_V δ := ((show q_V d443 = q_V d430 by rw [e444]; rfl)).trans v441
                have v455 := kr_N v442 (show q_R d443 = q_R d430 by rw [e444]; rfl)
                unfold J_X12_thief_146
                have f456 := cb_12_2 I k_a0
                have f457 := cb_12_2 i445 k_a0
                have f458 : (q_I d443 12 2 a0).toInt = (q_I d430 12 2 a0).toInt := congrArg Int32.toInt (by rw [e444]; exact rI_o (by decide))
                have f459 := cb_12_2 i432 k_a0
                have f460 : (q_I d430 12 2 a0).toInt = (q_I r402.2 12 2 a0).toInt := congrArg Int32.toInt (by rw [e431]; rfl)
                have f461 := cb_12_2 i404 k_a0
                have f462 : (q_I r402.2 12 2 a0).toInt = (q_I r390 12 2 a0).toInt := congrArg Int32.toInt (u405 12 2 a0 (by decide))
                have f463 := cb_12_2 i392 k_a0
                have f464 : (q_I r390 12 2 a0).toInt = (q_I r277.2 12 2 a0).toInt := congrArg Int32.toInt (u394 12 2 a0 (by decide))
                have f465 := cb_12_2 i279 k_a0
                have f466 : (q_I r277.2 12 2 a0).toInt = (q_I r129 12 2 a0).toInt := congrArg Int32.toInt (u283 12 2 a0 (by decide))
                have f467 := cb_12_2 i167 k_a0
                have f468 : (q_I r129 12 2 a0).toInt = (q_I r115 12 2 a0).toInt := congrArg Int32.toInt (u173 12 2 a0 (by decide))
                have f469 := cb_12_2 i119 k_a0
                have f470 : (q_I r115 12 2 a0).toInt = (q_I r84.2 12 2 a0).toInt := congrArg Int32.toInt (u121 12 2 a0 (by decide))
                have f471 := cb_12_2 i86 k_a0
                have f472 : (q_I r84.2 12 2 a0).toInt = (q_I d78 12 2 a0).toInt := congrArg Int32.toInt (u90 12 2 a0 (by decide))
                have f473 := cb_12_2 i80 k_a0
                have f474 : (q_I d78 12 2 a0).toInt = (q_I d72 12 2 a0).toInt := congrArg Int32.toInt (by rw [e79]; exact rI_o (by decide))
                have f475 := cb_12_2 i74 k_a0
                have f476 : (q_I d72 12 2 a0).toInt = (q_I d66 12 2 a0).toInt := congrArg Int32.toInt (by rw [e73]; exact rI_o (by decide))
                have f477 := cb_12_2 i68 k_a0
                have f478 : (q_I d66 12 2 a0).toInt = (q_I r35 12 2 a0).toInt := congrArg Int32.toInt (by rw [e67]; exact rI_o (by decide))
                exact ok_some (show RI ad h.1 δ0 d443 ∧ (kp [(12, 0), (12, 2), (12, 3), (12, 4), (12, 5), (12, 6), (12, 7), (12, 8), (12, 24), (12, 25), (12, 26), (12, 27)] δ d443 ∧ q_V d443 = q_V δ ∧ kr ad [100, 112, 113, 114, 115, 116, 117] δ d443) ∧ (0 ≤ (x1).toInt ∧ (x1).toInt ≤ (q_I δ 12 2 a0).toInt → (q_I d443 12 2 a0).toInt = 0) ∧ ((x1).toInt < 0 ∨ (q_I δ 12 2 a0).toInt < (x1).toInt → (q_I d443 12 2 a0).toInt = (q_I δ 12 2 a0).toInt) from ⟨i445, ⟨kp_w (by decide) u453, v454, kr_w (by decide) v455⟩, by first | assumption | omega, by first | assumption | omega⟩)
              · have c479 : r402.1.toInt ≠ (q_I r402.2 12 24 a0).toInt := o_ne h421
                unfold J_X12_thief_146
                have f480 := cb_12_2 I k_a0
                have f481 := cb_12_2 i404 k_a0
                have f482 : (q_I r402.2 12 2 a0).toInt = (q_I r390 12 2 a0).toInt := congrArg Int32.toInt (u405 12 2 a0 (by decide))
                have f483 := cb_12_2 i392 k_a0
                have f484 : (q_I r390 12 2 a0).toInt = (q_I r277.2 12 2 a0).toInt := congrArg Int32.toInt (u394 12 2 a0 (by decide))
                have f485 := cb_12_2 i279 k_a0
                have f486 : (q_I r277.2 12 2 a0).toInt = (q_I r129 12 2 a0).toInt := congrArg Int32.toInt (u283 12 2 a0 (by decide))
                have f487 := cb_12_2 i167 k_a0
                have f488 : (q_I r129 12 2 a0).toInt = (q_I r115 12 2 a0).toInt := congrArg Int32.toInt (u173 12 2 a0 (by decide))
                have f489 := cb_12_2 i119 k_a0
                have f490 : (q_I r115 12 2 a0).toInt = (q_I r84.2 12 2 a0).toInt := congrArg Int32.toInt (u121 12 2 a0 (by decide))
                have f491 := cb_12_2 i86 k_a0
                have f492 : (q_I r84.2 12 2 a0).toInt = (q_I d78 12 2 a0).toInt := congrArg Int32.toInt (u90 12 2 a0 (by decide))
                have f493 := cb_12_2 i80 k_a0
                have f494 : (q_I d78 12 2 a0).toInt = (q_I d72 12 2 a0).toInt := congrArg Int32.toInt (by rw [e79]; exact rI_o (by decide))
                have f495 := cb_12_2 i74 k_a0
                have f496 : (q_I d72 12 2 a0).toInt = (q_I d66 12 2 a0).toInt := congrArg Int32.toInt (by rw [e73]; exact rI_o (by decide))
                have f497 := cb_12_2 i68 k_a0
                have f498 : (q_I d66 12 2 a0).toInt = (q_I r35 12 2 a0).toInt := congrArg Int32.toInt (by rw [e67]; exact rI_o (by decide))
                exact ok_some (show RI ad h.1 δ0 r402.2 ∧ (kp [(12, 0), (12, 2), (12, 3), (12, 4), (12, 5), (12, 6), (12, 7), (12, 8), (12, 24), (12, 25), (12, 26), (12, 27)] δ r402.2 ∧ q_V r402.2 = q_V δ ∧ kr ad [100, 112, 113, 114, 115, 116, 117] δ r402.2) ∧ (0 ≤ (x1).toInt ∧ (x1).toInt ≤ (q_I δ 12 2 a0).toInt → (q_I r402.2 12 2 a0).toInt = 0) ∧ ((x1).toInt < 0 ∨ (q_I δ 12 2 a0).toInt < (x1).toInt → (q_I r402.2 12 2 a0).toInt = (q_I δ 12 2 a0).toInt) from ⟨i404, ⟨kp_w (by decide) u409, v410, kr_w (by decide) v411⟩, by first | assumption | omega, by first | assumption | omega⟩)
        · have c499 : r84.1.toInt ≠ (0 : Int) := o_ne h113
          unfold J_X12_thief_79
          have f502 := cb_12_24 i86 k_a0
          have f503 : (q_I r84.2 12 24 a0).toInt = (q_I d78 12 24 a0).toInt := congrArg Int32.toInt (u90 12 24 a0 (by decide))
          have f504 := cb_12_24 i80 k_a0
          have f505 : (q_I d78 12 24 a0).toInt = (q_I d72 12 24 a0).toInt := congrArg Int32.toInt (by rw [e79]; exact rI_o (by decide))
          have f506 := cb_12_24 i74 k_a0
          have f507 : (q_I d72 12 24 a0).toInt = (q_I d66 12 24 a0).toInt := congrArg Int32.toInt (by rw [e73]; exact rI_o (by decide))
          have f508 := cb_12_24 i68 k_a0
          have f509 : (q_I d66 12 24 a0).toInt = (q_I r35 12 24 a0).toInt := congrArg Int32.toInt (by rw [e67]; exact rI_o (by decide))
          have f510 := cb_12_26 i86 k_a0
          have f511 : (q_I r84.2 12 26 a0).toInt = (q_I d78 12 26 a0).toInt := congrArg Int32.toInt (u90 12 26 a0 (by decide))
          have f512 := cb_12_26 i80 k_a0
          have f513 : (q_I d78 12 26 a0).toInt = (q_I d72 12 26 a0).toInt := congrArg Int32.toInt (by rw [e79]; exact rI_o (by decide))
          have f514 := cb_12_26 i74 k_a0
          have f515 : (q_I d72 12 26 a0).toInt = (0 : Int) := congrArg Int32.toInt (show q_I d72 12 26 a0 = (0 : Int32) by rw [e73]; exact rI_s)
          have f516 := ti_b (q_I r84.2 12 7 a0)
          have f517 : (q_I r84.2 12 7 a0).toInt = (q_I d78 12 7 a0).toInt := congrArg Int32.toInt (u90 12 7 a0 (by decide))
          have f518 := ti_b (q_I d78 12 7 a0)
          have f519 : (q_I d78 12 7 a0).toInt = (q_I d72 12 7 a0).toInt := congrArg Int32.toInt (by rw [e79]; exact rI_o (by decide))
          have f520 := ti_b (q_I d72 12 7 a0)
          have f521 : (q_I d72 12 7 a0).toInt = (q_I d66 12 7 a0).toInt := congrArg Int32.toInt (by rw [e73]; exact rI_o (by decide))
          have f522 := ti_b (q_I d66 12 7 a0)
          have f523 : (q_I d66 12 7 a0).toInt = (q_I r35 12 7 a0).toInt := congrArg Int32.toInt (by rw [e67]; exact rI_o (by decide))
          have f524 := cb_12_27 i86 k_a0
          have f525 : (q_I r84.2 12 27 a0).toInt = (q_I d78 12 27 a0).toInt := congrArg Int32.toInt (u90 12 27 a0 (by decide))
          have f526 := cb_12_27 i80 k_a0
          have f527 : (q_I d78 12 27 a0).toInt = (0 : Int) := congrArg Int32.toInt (show q_I d78 12 27 a0 = (0 : Int32) by rw [e79]; exact rI_s)
          refine ok_bind (k_X12_readSteps L hN (a0 := a0) k_a0 (show (q_I r84.2 12 24 a0).toInt ≤ 3 by first | assumption | omega) (show (q_I r84.2 12 26 a0).toInt ≤ (q_I r84.2 12 4 a0).toInt by first | assumption | omega) (show (q_I r84.2 12 7 a0).toInt = 0 by first | assumption | omega) (show 4 - (q_I r84.2 12 27 a0).toInt < 20 by first | assumption | omega) i86) (fun r500 hr501 => ?_)
          obtain ⟨i528, ⟨u534, u535, u536⟩, p529, p530, p531, p532, p533⟩ := hr501
          have u537 := kp_t u94 u534
          have v538 : q_V r500 = q_V δ := (u535).trans v95
          have v539 := kr_t v96 u536
          have f540 := cb_12_4 i528 k_a0
          have f541 := ti_b (q_I r84.2 12 5 a0)
          have f542 : (q_I r84.2 12 5 a0).toInt = (q_I d78 12 5 a0).toInt := congrArg Int32.toInt (u90 12 5 a0 (by decide))
          have f543 := ti_b (q_I d78 12 5 a0)
          have f544 : (q_I d78 12 5 a0).toInt = (q_I d72 12 5 a0).toInt := congrArg Int32.toInt (by rw [e79]; exact rI_o (by decide))
          have f545 := ti_b (q_I d72 12 5 a0)
          have f546 : (q_I d72 12 5 a0).toInt = (q_I d66 12 5 a0).toInt := congrArg Int32.toInt (by rw [e73]; exact rI_o (by decide))
          have f547 := ti_b (q_I d66 12 5 a0)
          have f548 : (q_I d66 12 5 a0).toInt = (q_I r35 12 5 a0).toInt := congrArg Int32.toInt (by rw [e67]; exact rI_o (by decide))
          have f549 := ti_b (q_I r500 12 5 a0)
          have f550 := ti_b (q_I r500 12 7 a0)
          have f551 := cb_12_27 i528 k_a0
          have f552 := cb_12_26 i528 k_a0
          refine ok_bind (k_X12_fine L hN (a0 := a0) k_a0 i528) (fun r553 hr554 => ?_)
          obtain ⟨i555, p556, p557, p558⟩ := hr554
          try rw [i555]
          have f559 := bo_t p556
          have f560 := ti_b r553.1
          have f561 := ti_b r553.1
          refine ok_ite (fun h562 => ?_) (fun h562 => ?_)
          · have c563 : r553.1.toInt = (0 : Int) := o_eq h562
            unfold J_X12_thief_106
            refine ok_bind (k_X12_result L hN (a0 := a0) (x1 := (q_I r500 12 24 a0)) k_a0 i528) (fun r564 hr565 => ?_)
            obtain ⟨i566, ⟨u567, u568, u569, u570⟩⟩ := hr565
            have u571 := kp_t u537 u567
            have v572 : q_V r564.2 = q_V δ := (u568).trans v538
            have v573 := kr_t v539 u570
            have f574 := ti_b r564.1
            have f575 := cb_12_24 i566 k_a0
            have f576 : (q_I r564.2 12 24 a0).toInt = (q_I r500 12 24 a0).toInt := congrArg Int32.toInt (u567 12 24 a0 (by decide))
            have f577 := cb_12_24 i528 k_a0
            have f578 : (q_I r500 12 24 a0).toInt = (q_I r84.2 12 24 a0).toInt := congrArg Int32.toInt (u534 12 24 a0 (by decide))
            refine ok_ite (fun h579 => ?_) (fun h579 => ?_)
            · have c580 : r564.1.toInt = (q_I r564.2 12 24 a0).toInt := o_eq h579
              obtain ⟨b581, o582, k583, n584⟩ := gO_12_28 L k_a0
              obtain rfl := gS_12_28 L k_a0 o582
              refine ok_at o582 ?_
              have t585 := ti_tn (q_I r564.2 12 24 a0)
              refine ok_gd (fun hc586 => ?_) ?_
              · rcases hc586 with hc586 | hc586
                · have c587 : (q_I r564.2 12 24 a0).toInt < (0 : Int) := o_lt hc586
                  omega
                · omega
              have f591 := cb_12_25 i566 k_a0
              have f592 : (q_I r564.2 12 25 a0).toInt = (q_I r500 12 25 a0).toInt := congrArg Int32.toInt (u567 12 25 a0 (by decide))
              have f593 := cb_12_25 i528 k_a0
              refine ok_bdv (fun d588 e589 => ?_)
              have i590 : RI ad h.1 δ0 d588 := by rw [e589]; exact cr_112 L i566 (show 0 ≤ (q_I r564.2 12 25 a0).toInt by omega) (show (q_I r564.2 12 25 a0).toInt ≤ 60 by omega)
              have u594 := kp_N u571 (show q_I d588 = q_I r564.2 by rw [e589]; rfl)
              have v595 : q_V d588 = q_V δ := ((show q_V d588 = q_V r564.2 by rw [e589]; rfl)).trans v572
              have v596 := kr_s L (by decide) v573 e589
              have f600 := cb_12_24 i590 k_a0
              have f601 : (q_I d588 12 24 a0).toInt = (q_I r564.2 12 24 a0).toInt := congrArg Int32.toInt (by rw [e589]; rfl)
              first | (have q603 := te_addc (c := 1) (n := 1) rfl (q_I d588 12 24 a0) (by omega) (by omega); obtain ⟨f604, f605, f606⟩ := q603) | (obtain ⟨q603, f604, f605, f606⟩ := ti_addc (c := 1) (n := 1) rfl (q_I d588 12 24 a0))
              refine ok_bdv (fun d597 e598 => ?_)
              have i599 : RI ad h.1 δ0 d597 := by rw [e598]; exact cs_12_24 L i590 k_a0 (show 0 ≤ ((q_I d588 12 24 a0) + (1 : Int32)).toInt by omega) (show ((q_I d588 12 24 a0) + (1 : Int32)).toInt ≤ 4 by omega)
              have u607 := kp_I u594 e598
              have v608 : q_V d597 = q_V δ := ((show q_V d597 = q_V d588 by rw [e598]; rfl)).trans v595
              have v609 := kr_N v596 (show q_R d597 = q_R d588 by rw [e598]; rfl)
              unfold J_X12_thief_146
              have f610 := cb_12_2 I k_a0
              have f611 := cb_12_2 i599 k_a0
              have f612 : (q_I d597 12 2 a0).toInt = (q_I d588 12 2 a0).toInt := congrArg Int32.toInt (by rw [e598]; exact rI_o (by decide))
              have f613 := cb_12_2 i590 k_a0
              have f614 : (q_I d588 12 2 a0).toInt = (q_I r564.2 12 2 a0).toInt := congrArg Int32.toInt (by rw [e589]; rfl)
              have f615 := cb_12_2 i566 k_a0
              have f616 : (q_I r564.2 12 2 a0).toInt = (q_I r500 12 2 a0).toInt := congrArg Int32.toInt (u567 12 2 a0 (by decide))
              have f617 := cb_12_2 i528 k_a0
              have f618 : (q_I r500 12 2 a0).toInt = (q_I r84.2 12 2 a0).toInt := congrArg Int32.toInt (u534 12 2 a0 (by decide))
              have f619 := cb_12_2 i86 k_a0
              have f620 : (q_I r84.2 12 2 a0).toInt = (q_I d78 12 2 a0).toInt := congrArg Int32.toInt (u90 12 2 a0 (by decide))
              have f621 := cb_12_2 i80 k_a0
              have f622 : (q_I d78 12 2 a0).toInt = (q_I d72 12 2 a0).toInt := congrArg Int32.toInt (by rw [e79]; exact rI_o (by decide))
              have f623 := cb_12_2 i74 k_a0
              have f624 : (q_I d72 12 2 a0).toInt = (q_I d66 12 2 a0).toInt := congrArg Int32.toInt (by rw [e73]; exact rI_o (by decide))
              have f625 := cb_12_2 i68 k_a0
              have f626 : (q_I d66 12 2 a0).toInt = (q_I r35 12 2 a0).toInt := congrArg Int32.toInt (by rw [e67]; exact rI_o (by decide))
              exact ok_some (show RI ad h.1 δ0 d597 ∧ (kp [(12, 0), (12, 2), (12, 3), (12, 4), (12, 5), (12, 6), (12, 7), (12, 8), (12, 24), (12, 25), (12, 26), (12, 27)] δ d597 ∧ q_V d597 = q_V δ ∧ kr ad [100, 112, 113, 114, 115, 116, 117] δ d597) ∧ (0 ≤ (x1).toInt ∧ (x1).toInt ≤ (q_I δ 12 2 a0).toInt → (q_I d597 12 2 a0).toInt = 0) ∧ ((x1).toInt < 0 ∨ (q_I δ 12 2 a0).toInt < (x1).toInt → (q_I d597 12 2 a0).toInt = (q_I δ 12 2 a0).toInt) from ⟨i599, ⟨kp_w (by decide) u607, v608, kr_w (by decide) v609⟩, by first | assumption | omega, by first | assumption | omega⟩)
            · have c627 : r564.1.toInt ≠ (q_I r564.2 12 24 a0).toInt := o_ne h579
              unfold J_X12_thief_146
              have f628 := cb_12_2 I k_a0
              have f629 := cb_12_2 i566 k_a0
              have f630 : (q_I r564.2 12 2 a0).toInt = (q_I r500 12 2 a0).toInt := congrArg Int32.toInt (u567 12 2 a0 (by decide))
              have f631 := cb_12_2 i528 k_a0
              have f632 : (q_I r500 12 2 a0).toInt = (q_I r84.2 12 2 a0).toInt := congrArg Int32.toInt (u534 12 2 a0 (by decide))
              have f633 := cb_12_2 i86 k_a0
              have f634 : (q_I r84.2 12 2 a0).toInt = (q_I d78 12 2 a0).toInt := congrArg Int32.toInt (u90 12 2 a0 (by decide))
              have f635 := cb_12_2 i80 k_a0
              have f636 : (q_I d78 12 2 a0).toInt = (q_I d72 12 2 a0).toInt := congrArg Int32.toInt (by rw [e79]; exact rI_o (by decide))
              have f637 := cb_12_2 i74 k_a0
              have f638 : (q_I d72 12 2 a0).toInt = (q_I d66 12 2 a0).toInt := congrArg Int32.toInt (by rw [e73]; exact rI_o (by decide))
              have f639 := cb_12_2 i68 k_a0
              have f640 : (q_I d66 12 2 a0).toInt = (q_I r35 12 2 a0).toInt := congrArg Int32.toInt (by rw [e67]; exact rI_o (by decide))
              exact ok_some (show RI ad h.1 δ0 r564.2 ∧ (kp [(12, 0), (12, 2), (12, 3), (12, 4), (12, 5), (12, 6), (12, 7), (12, 8), (12, 24), (12, 25), (12, 26), (12, 27)] δ r564.2 ∧ q_V r564.2 = q_V δ ∧ kr ad [100, 112, 113, 114, 115, 116, 117] δ r564.2) ∧ (0 ≤ (x1).toInt ∧ (x1).toInt ≤ (q_I δ 12 2 a0).toInt → (q_I r564.2 12 2 a0).toInt = 0) ∧ ((x1).toInt < 0 ∨ (q_I δ 12 2 a0).toInt < (x1).toInt → (q_I r564.2 12 2 a0).toInt = (q_I δ 12 2 a0).toInt) from ⟨i566, ⟨kp_w (by decide) u571, v572, kr_w (by decide) v573⟩, by first | assumption | omega, by first | assumption | omega⟩)
          · have c641 : r553.1.toInt ≠ (0 : Int) := o_ne h562
            refine ok_bind (k_X12_isMore L hN (a0 := a0) k_a0 i528) (fun r642 hr643 => ?_)
            obtain ⟨i644, ⟨u648, u649, u650, u651⟩, p645, p646, p647⟩ := hr643
            have u652 := kp_t u537 u648
            have v653 : q_V r642.2 = q_V δ := (u649).trans v538
            have v654 := kr_t v539 u651
            have f655 := bo_t p645
            have f656 := cb_12_4 i644 k_a0
            have f657 := ti_b r642.1
            have f658 := cb_12_3 i528 k_a0
            have f659 : (q_I r500 12 3 a0).toInt = (q_I r84.2 12 3 a0).toInt := congrArg Int32.toInt (u534 12 3 a0 (by decide))
            have f660 := cb_12_3 i86 k_a0
            have f661 : (q_I r84.2 12 3 a0).toInt = (q_I d78 12 3 a0).toInt := congrArg Int32.toInt (u90 12 3 a0 (by decide))
            have f662 := ti_b r642.1
            refine ok_ite (fun h663 => ?_) (fun h663 => ?_)
            · have c664 : r642.1.toInt = (0 : Int) := o_eq h663
              unfold J_X12_thief_106
              refine ok_bind (k_X12_result L hN (a0 := a0) (x1 := (q_I r642.2 12 24 a0)) k_a0 i644) (fun r665 hr666 => ?_)
              obtain ⟨i667, ⟨u668, u669, u670, u671⟩⟩ := hr666
              have u672 := kp_t u652 u668
              have v673 : q_V r665.2 = q_V δ := (u669).trans v653
              have v674 := kr_t v654 u671
              have f675 := ti_b r665.1
              have f676 := cb_12_24 i667 k_a0
              have f677 : (q_I r665.2 12 24 a0).toInt = (q_I r642.2 12 24 a0).toInt := congrArg Int32.toInt (u668 12 24 a0 (by decide))
              have f678 := cb_12_24 i644 k_a0
              have f679 : (q_I r642.2 12 24 a0).toInt = (q_I r500 12 24 a0).toInt := congrArg Int32.toInt (u648 12 24 a0 (by decide))
              have f680 := cb_12_24 i528 k_a0
              have f681 : (q_I r500 12 24 a0).toInt = (q_I r84.2 12 24 a0).toInt := congrArg Int32.toInt (u534 12 24 a0 (by decide))
              refine ok_ite (fun h682 => ?_) (fun h682 => ?_)
              · have c683 : r665.1.toInt = (q_I r665.2 12 24 a0).toInt := o_eq h682
                obtain ⟨b684, o685, k686, n687⟩ := gO_12_28 L k_a0
                obtain rfl := gS_12_28 L k_a0 o685
                refine ok_at o685 ?_
                have t688 := ti_tn (q_I r665.2 12 24 a0)
                refine ok_gd (fun hc689 => ?_) ?_
                · rcases hc689 with hc689 | hc689
                  · have c690 : (q_I r665.2 12 24 a0).toInt < (0 : Int) := o_lt hc689
                    omega
                  · omega
                have f694 := cb_12_25 i667 k_a0
                have f695 : (q_I r665.2 12 25 a0).toInt = (q_I r642.2 12 25 a0).toInt := congrArg Int32.toInt (u668 12 25 a0 (by decide))
                have f696 := cb_12_25 i644 k_a0
                have f697 : (q_I r642.2 12 25 a0).toInt = (q_I r500 12 25 a0).toInt := congrArg Int32.toInt (u648 12 25 a0 (by decide))
                have f698 := cb_12_25 i528 k_a0
                refine ok_bdv (fun d691 e692 => ?_)
                have i693 : RI ad h.1 δ0 d691 := by rw [e692]; exact cr_112 L i667 (show 0 ≤ (q_I r665.2 12 25 a0).toInt by omega) (show (q_I r665.2 12 25 a0).toInt ≤ 60 by omega)
                have u699 := kp_N u672 (show q_I d691 = q_I r665.2 by rw [e692]; rfl)
                have v700 : q_V d691 = q_V δ := ((show q_V d691 = q_V r665.2 by rw [e692]; rfl)).trans v673
                have v701 := kr_s L (by decide) v674 e692
                have f705 := cb_12_24 i693 k_a0
                have f706 : (q_I d691 12 24 a0).toInt = (q_I r665.2 12 24 a0).toInt := congrArg Int32.toInt (by rw [e692]; rfl)
                first | (have q708 := te_addc (c := 1) (n := 1) rfl (q_I d691 12 24 a0) (by omega) (by omega); obtain ⟨f709, f710, f711⟩ := q708) | (obtain ⟨q708, f709, f710, f711⟩ := ti_addc (c := 1) (n := 1) rfl (q_I d691 12 24 a0))
                refine ok_bdv (fun d702 e703 => ?_)
                have i704 : RI ad h.1 δ0 d702 := by rw [e703]; exact cs_12_24 L i693 k_a0 (show 0 ≤ ((q_I d691 12 24 a0) + (1 : Int32)).toInt by omega) (show ((q_I d691 12 24 a0) + (1 : Int32)).toInt ≤ 4 by omega)
                have u712 := kp_I u699 e703
                have v713 : q_V d702 = q_V δ := ((show q_V d702 = q_V d691 by rw [e703]; rfl)).trans v700
                have v714 := kr_N v701 (show q_R d702 = q_R d691 by rw [e703]; rfl)
                unfold J_X12_thief_146
                have f715 := cb_12_2 I k_a0
                have f716 := cb_12_2 i704 k_a0
                have f717 : (q_I d702 12 2 a0).toInt = (q_I d691 12 2 a0).toInt := congrArg Int32.toInt (by rw [e703]; exact rI_o (by decide))
                have f718 := cb_12_2 i693 k_a0
                have f719 : (q_I d691 12 2 a0).toInt = (q_I r665.2 12 2 a0).toInt := congrArg Int32.toInt (by rw [e692]; rfl)
                have f720 := cb_12_2 i667 k_a0
                have f721 : (q_I r665.2 12 2 a0).toInt = (q_I r642.2 12 2 a0).toInt := congrArg Int32.toInt (u668 12 2 a0 (by decide))
                have f722 := cb_12_2 i644 k_a0
                have f723 : (q_I r642.2 12 2 a0).toInt = (q_I r500 12 2 a0).toInt := congrArg Int32.toInt (u648 12 2 a0 (by decide))
                have f724 := cb_12_2 i528 k_a0
                have f725 : (q_I r500 12 2 a0).toInt = (q_I r84.2 12 2 a0).toInt := congrArg Int32.toInt (u534 12 2 a0 (by decide))
                have f726 := cb_12_2 i86 k_a0
                have f727 : (q_I r84.2 12 2 a0).toInt = (q_I d78 12 2 a0).toInt := congrArg Int32.toInt (u90 12 2 a0 (by decide))
                have f728 := cb_12_2 i80 k_a0
                have f729 : (q_I d78 12 2 a0).toInt = (q_I d72 12 2 a0).toInt := congrArg Int32.toInt (by rw [e79]; exact rI_o (by decide))
                have f730 := cb_12_2 i74 k_a0
                have f731 : (q_I d72 12 2 a0).toInt = (q_I d66 12 2 a0).toInt := congrArg Int32.toInt (by rw [e73]; exact rI_o (by decide))
                have f732 := cb_12_2 i68 k_a0
                have f733 : (q_I d66 12 2 a0).toInt = (q_I r35 12 2 a0).toInt := congrArg Int32.toInt (by rw [e67]; exact rI_o (by decide))
                exact ok_some (show RI ad h.1 δ0 d702 ∧ (kp [(12, 0), (12, 2), (12, 3), (12, 4), (12, 5), (12, 6), (12, 7), (12, 8), (12, 24), (12, 25), (12, 26), (12, 27)] δ d702 ∧ q_V d702 = q_V δ ∧ kr ad [100, 112, 113, 114, 115, 116, 117] δ d702) ∧ (0 ≤ (x1).toInt ∧ (x1).toInt ≤ (q_I δ 12 2 a0).toInt → (q_I d702 12 2 a0).toInt = 0) ∧ ((x1).toInt < 0 ∨ (q_I δ 12 2 a0).toInt < (x1).toInt → (q_I d702 12 2 a0).toInt = (q_I δ 12 2 a0).toInt) from ⟨i704, ⟨kp_w (by decide) u712, v713, kr_w (by decide) v714⟩, by first | assumption | omega, by first | assumption | omega⟩)
              · have c734 : r665.1.toInt ≠ (q_I r665.2 12 24 a0).toInt := o_ne h682
                unfold J_X12_thief_146
                have f735 := cb_12_2 I k_a0
                have f736 := cb_12_2 i667 k_a0
                have f737 : (q_I r665.2 12 2 a0).toInt = (q_I r642.2 12 2 a0).toInt := congrArg Int32.toInt (u668 12 2 a0 (by decide))
                have f738 := cb_12_2 i644 k_a0
                have f739 : (q_I r642.2 12 2 a0).toInt = (q_I r500 12 2 a0).toInt := congrArg Int32.toInt (u648 12 2 a0 (by decide))
                have f740 := cb_12_2 i528 k_a0
                have f741 : (q_I r500 12 2 a0).toInt = (q_I r84.2 12 2 a0).toInt := congrArg Int32.toInt (u534 12 2 a0 (by decide))
                have f742 := cb_12_2 i86 k_a0
                have f743 : (q_I r84.2 12 2 a0).toInt = (q_I d78 12 2 a0).toInt := congrArg Int32.toInt (u90 12 2 a0 (by decide))
                have f744 := cb_12_2 i80 k_a0
                have f745 : (q_I d78 12 2 a0).toInt = (q_I d72 12 2 a0).toInt := congrArg Int32.toInt (by rw [e79]; exact rI_o (by decide))
                have f746 := cb_12_2 i74 k_a0
                have f747 : (q_I d72 12 2 a0).toInt = (q_I d66 12 2 a0).toInt := congrArg Int32.toInt (by rw [e73]; exact rI_o (by decide))
                have f748 := cb_12_2 i68 k_a0
                have f749 : (q_I d66 12 2 a0).toInt = (q_I r35 12 2 a0).toInt := congrArg Int32.toInt (by rw [e67]; exact rI_o (by decide))
                exact ok_some (show RI ad h.1 δ0 r665.2 ∧ (kp [(12, 0), (12, 2), (12, 3), (12, 4), (12, 5), (12, 6), (12, 7), (12, 8), (12, 24), (12, 25), (12, 26), (12, 27)] δ r665.2 ∧ q_V r665.2 = q_V δ ∧ kr ad [100, 112, 113, 114, 115, 116, 117] δ r665.2) ∧ (0 ≤ (x1).toInt ∧ (x1).toInt ≤ (q_I δ 12 2 a0).toInt → (q_I r665.2 12 2 a0).toInt = 0) ∧ ((x1).toInt < 0 ∨ (q_I δ 12 2 a0).toInt < (x1).toInt → (q_I r665.2 12 2 a0).toInt = (q_I δ 12 2 a0).toInt) from ⟨i667, ⟨kp_w (by decide) u672, v673, kr_w (by decide) v674⟩, by first | assumption | omega, by first | assumption | omega⟩)
            · have c750 : r642.1.toInt ≠ (0 : Int) := o_ne h663
              refine ok_bind (k_X12_wrong L hN (a0 := a0) (x1 := (1 : Int32)) (x2 := (q_I r642.2 12 4 a0)) k_a0 (show 0 ≤ ((q_I r642.2 12 4 a0)).toInt by first | assumption | omega) i644) (fun r751 hr752 => ?_)
              obtain ⟨i753, ⟨u755, u756, u757, u758⟩, p754⟩ := hr752
              have u759 := kp_t u652 u755
              have v760 : q_V r751 = q_V δ := (u756).trans v653
              have v761 := kr_t v654 u758
              have f762 := ti_b (q_I r751 12 5 a0)
              unfold J_X12_thief_106
              refine ok_bind (k_X12_result L hN (a0 := a0) (x1 := (q_I r751 12 24 a0)) k_a0 i753) (fun r763 hr764 => ?_)
              obtain ⟨i765, ⟨u766, u767, u768, u769⟩⟩ := hr764
              have u770 := kp_t u759 u766
              have v771 : q_V r763.2 = q_V δ := (u767).trans v760
              have v772 := kr_t v761 u769
              have f773 := ti_b r763.1
              have f774 := cb_12_24 i765 k_a0
              have f775 : (q_I r763.2 12 24 a0).toInt = (q_I r751 12 24 a0).toInt := congrArg Int32.toInt (u766 12 24 a0 (by decide))
              have f776 := cb_12_24 i753 k_a0
              have f777 : (q_I r751 12 24 a0).toInt = (q_I r642.2 12 24 a0).toInt := congrArg Int32.toInt (u755 12 24 a0 (by decide))
              have f778 := cb_12_24 i644 k_a0
              have f779 : (q_I r642.2 12 24 a0).toInt = (q_I r500 12 24 a0).toInt := congrArg Int32.toInt (u648 12 24 a0 (by decide))
              have f780 := cb_12_24 i528 k_a0
              have f781 : (q_I r500 12 24 a0).toInt = (q_I r84.2 12 24 a0).toInt := congrArg Int32.toInt (u534 12 24 a0 (by decide))
              refine ok_ite (fun h782 => ?_) (fun h782 => ?_)
              · have c783 : r763.1.toInt = (q_I r763.2 12 24 a0).toInt := o_eq h782
                obtain ⟨b784, o785, k786, n787⟩ := gO_12_28 L k_a0
                obtain rfl := gS_12_28 L k_a0 o785
                refine ok_at o785 ?_
                have t788 := ti_tn (q_I r763.2 12 24 a0)
                refine ok_gd (fun hc789 => ?_) ?_
                · rcases hc789 with hc789 | hc789
                  · have c790 : (q_I r763.2 12 24 a0).toInt < (0 : Int) := o_lt hc789
                    omega
                  · omega
                have f794 := cb_12_25 i765 k_a0
                have f795 : (q_I r763.2 12 25 a0).toInt = (q_I r751 12 25 a0).toInt := congrArg Int32.toInt (u766 12 25 a0 (by decide))
                have f796 := cb_12_25 i753 k_a0
                have f797 : (q_I r751 12 25 a0).toInt = (q_I r642.2 12 25 a0).toInt := congrArg Int32.toInt (u755 12 25 a0 (by decide))
                have f798 := cb_12_25 i644 k_a0
                have f799 : (q_I r642.2 12 25 a0).toInt = (q_I r500 12 25 a0).toInt := congrArg Int32.toInt (u648 12 25 a0 (by decide))
                have f800 := cb_12_25 i528 k_a0
                refine ok_bdv (fun d791 e792 => ?_)
                have i793 : RI ad h.1 δ0 d791 := by rw [e792]; exact cr_112 L i765 (show 0 ≤ (q_I r763.2 12 25 a0).toInt by omega) (show (q_I r763.2 12 25 a0).toInt ≤ 60 by omega)
                have u801 := kp_N u770 (show q_I d791 = q_I r763.2 by rw [e792]; rfl)
                have v802 : q_V d791 = q_V δ := ((show q_V d791 = q_V r763.2 by rw [e792]; rfl)).trans v771
                have v803 := kr_s L (by decide) v772 e792
                have f807 := cb_12_24 i793 k_a0
                have f808 : (q_I d791 12 24 a0).toInt = (q_I r763.2 12 24 a0).toInt := congrArg Int32.toInt (by rw [e792]; rfl)
                first | (have q810 := te_addc (c := 1) (n := 1) rfl (q_I d791 12 24 a0) (by omega) (by omega); obtain ⟨f811, f812, f813⟩ := q810) | (obtain ⟨q810, f811, f812, f813⟩ := ti_addc (c := 1) (n := 1) rfl (q_I d791 12 24 a0))
                refine ok_bdv (fun d804 e805 => ?_)
                have i806 : RI ad h.1 δ0 d804 := by rw [e805]; exact cs_12_24 L i793 k_a0 (show 0 ≤ ((q_I d791 12 24 a0) + (1 : Int32)).toInt by omega) (show ((q_I d791 12 24 a0) + (1 : Int32)).toInt ≤ 4 by omega)
                have u814 := kp_I u801 e805
                have v815 : q_V d804 = q_V δ := ((show q_V d804 = q_V d791 by rw [e805]; rfl)).trans v802
                have v816 := kr_N v803 (show q_R d804 = q_R d791 by rw [e805]; rfl)
                unfold J_X12_thief_146
                have f817 := cb_12_2 I k_a0
                have f818 := cb_12_2 i806 k_a0
                have f819 : (q_I d804 12 2 a0).toInt = (q_I d791 12 2 a0).toInt := congrArg Int32.toInt (by rw [e805]; exact rI_o (by decide))
                have f820 := cb_12_2 i793 k_a0
                have f821 : (q_I d791 12 2 a0).toInt = (q_I r763.2 12 2 a0).toInt := congrArg Int32.toInt (by rw [e792]; rfl)
                have f822 := cb_12_2 i765 k_a0
                have f823 : (q_I r763.2 12 2 a0).toInt = (q_I r751 12 2 a0).toInt := congrArg Int32.toInt (u766 12 2 a0 (by decide))
                have f824 := cb_12_2 i753 k_a0
                have f825 : (q_I r751 12 2 a0).toInt = (q_I r642.2 12 2 a0).toInt := congrArg Int32.toInt (u755 12 2 a0 (by decide))
                have f826 := cb_12_2 i644 k_a0
                have f827 : (q_I r642.2 12 2 a0).toInt = (q_I r500 12 2 a0).toInt := congrArg Int32.toInt (u648 12 2 a0 (by decide))
                have f828 := cb_12_2 i528 k_a0
                have f829 : (q_I r500 12 2 a0).toInt = (q_I r84.2 12 2 a0).toInt := congrArg Int32.toInt (u534 12 2 a0 (by decide))
                have f830 := cb_12_2 i86 k_a0
                have f831 : (q_I r84.2 12 2 a0).toInt = (q_I d78 12 2 a0).toInt := congrArg Int32.toInt (u90 12 2 a0 (by decide))
                have f832 := cb_12_2 i80 k_a0
                have f833 : (q_I d78 12 2 a0).toInt = (q_I d72 12 2 a0).toInt := congrArg Int32.toInt (by rw [e79]; exact rI_o (by decide))
                have f834 := cb_12_2 i74 k_a0
                have f835 : (q_I d72 12 2 a0).toInt = (q_I d66 12 2 a0).toInt := congrArg Int32.toInt (by rw [e73]; exact rI_o (by decide))
                have f836 := cb_12_2 i68 k_a0
                have f837 : (q_I d66 12 2 a0).toInt = (q_I r35 12 2 a0).toInt := congrArg Int32.toInt (by rw [e67]; exact rI_o (by decide))
                exact ok_some (show RI ad h.1 δ0 d804 ∧ (kp [(12, 0), (12, 2), (12, 3), (12, 4), (12, 5), (12, 6), (12, 7), (12, 8), (12, 24), (12, 25), (12, 26), (12, 27)] δ d804 ∧ q_V d804 = q_V δ ∧ kr ad [100, 112, 113, 114, 115, 116, 117] δ d804) ∧ (0 ≤ (x1).toInt ∧ (x1).toInt ≤ (q_I δ 12 2 a0).toInt → (q_I d804 12 2 a0).toInt = 0) ∧ ((x1).toInt < 0 ∨ (q_I δ 12 2 a0).toInt < (x1).toInt → (q_I d804 12 2 a0).toInt = (q_I δ 12 2 a0).toInt) from ⟨i806, ⟨kp_w (by decide) u814, v815, kr_w (by decide) v816⟩, by first | assumption | omega, by first | assumption | omega⟩)
              · have c838 : r763.1.toInt ≠ (q_I r763.2 12 24 a0).toInt := o_ne h782
                unfold J_X12_thief_146
                have f839 := cb_12_2 I k_a0
                have f840 := cb_12_2 i765 k_a0
                have f841 : (q_I r763.2 12 2 a0).toInt = (q_I r751 12 2 a0).toInt := congrArg Int32.toInt (u766 12 2 a0 (by decide))
                have f842 := cb_12_2 i753 k_a0
                have f843 : (q_I r751 12 2 a0).toInt = (q_I r642.2 12 2 a0).toInt := congrArg Int32.toInt (u755 12 2 a0 (by decide))
                have f844 := cb_12_2 i644 k_a0
                have f845 : (q_I r642.2 12 2 a0).toInt = (q_I r500 12 2 a0).toInt := congrArg Int32.toInt (u648 12 2 a0 (by decide))
                have f846 := cb_12_2 i528 k_a0
                have f847 : (q_I r500 12 2 a0).toInt = (q_I r84.2 12 2 a0).toInt := congrArg Int32.toInt (u534 12 2 a0 (by decide))
                have f848 := cb_12_2 i86 k_a0
                have f849 : (q_I r84.2 12 2 a0).toInt = (q_I d78 12 2 a0).toInt := congrArg Int32.toInt (u90 12 2 a0 (by decide))
                have f850 := cb_12_2 i80 k_a0
                have f851 : (q_I d78 12 2 a0).toInt = (q_I d72 12 2 a0).toInt := congrArg Int32.toInt (by rw [e79]; exact rI_o (by decide))
                have f852 := cb_12_2 i74 k_a0
                have f853 : (q_I d72 12 2 a0).toInt = (q_I d66 12 2 a0).toInt := congrArg Int32.toInt (by rw [e73]; exact rI_o (by decide))
                have f854 := cb_12_2 i68 k_a0
                have f855 : (q_I d66 12 2 a0).toInt = (q_I r35 12 2 a0).toInt := congrArg Int32.toInt (by rw [e67]; exact rI_o (by decide))
                exact ok_some (show RI ad h.1 δ0 r763.2 ∧ (kp [(12, 0), (12, 2), (12, 3), (12, 4), (12, 5), (12, 6), (12, 7), (12, 8), (12, 24), (12, 25), (12, 26), (12, 27)] δ r763.2 ∧ q_V r763.2 = q_V δ ∧ kr ad [100, 112, 113, 114, 115, 116, 117] δ r763.2) ∧ (0 ≤ (x1).toInt ∧ (x1).toInt ≤ (q_I δ 12 2 a0).toInt → (q_I r763.2 12 2 a0).toInt = 0) ∧ ((x1).toInt < 0 ∨ (q_I δ 12 2 a0).toInt < (x1).toInt → (q_I r763.2 12 2 a0).toInt = (q_I δ 12 2 a0).toInt) from ⟨i765, ⟨kp_w (by decide) u770, v771, kr_w (by decide) v772⟩, by first | assumption | omega, by first | assumption | omega⟩)
  · have c856 : (0 : Int) ≤ x1.toInt := o_nlt h8
    have f857 := cb_12_2 i3 k_a0
    have f858 : (q_I d1 12 2 a0).toInt = (q_I δ 12 2 a0).toInt := congrArg Int32.toInt (by rw [e2]; exact rI_o (by decide))
    have f859 := cb_12_2 I k_a0
    refine ok_ite (fun h860 => ?_) (fun h860 => ?_)
    · have c861 : (q_I d1 12 2 a0).toInt < x1.toInt := o_lt h860
      unfold J_X12_thief_22
      unfold J_X12_thief_23
      refine ok_bind (k_X12_may L hN (a0 := a0) (x1 := (0 : Int32)) (x2 := (1 : Int32)) (x3 := (2 : Int32)) k_a0 (show (1 : Int) ≠ 0 by first | assumption | omega) (show 0 ≤ (2 : Int) by first | assumption | omega) (show (2 : Int) ≤ 2 by first | assumption | omega) i3) (fun r862 hr863 => ?_)
      obtain ⟨i864, ⟨u868, u869, u870⟩, p865, p866, p867⟩ := hr863
      have u871 := kp_t u4 u868
      have v872 : q_V r862.2 = q_V δ := (u869).trans v5
      have v873 := kr_t v6 u870
      have f874 := bo_t p865
      have f875 := ti_b r862.1
      replace p866 : ((r862.1).toInt = 1 → (0 : Int) ≠ 0) := p866
      have f876 := ti_b (q_I d1 12 0 a0)
      have f877 : (q_I d1 12 0 a0).toInt = (0 : Int) := congrArg Int32.toInt (show q_I d1 12 0 a0 = (0 : Int32) by rw [e2]; exact rI_s)
      replace p867 : ((q_I d1 12 0 a0).toInt = 0 → (r862.1).toInt = 0 → (0 : Int) = 0) := p867
      have f878 := ti_b r862.1
      refine ok_ite (fun h879 => ?_) (fun h879 => ?_)
      · have c880 : r862.1.toInt = (0 : Int) := o_eq h879
        have f881 := cb_12_2 i864 k_a0
        have f882 : (q_I r862.2 12 2 a0).toInt = (q_I d1 12 2 a0).toInt := congrArg Int32.toInt (u868 12 2 a0 (by decide))
        exact ok_some (show RI ad h.1 δ0 r862.2 ∧ (kp [(12, 0), (12, 2), (12, 3), (12, 4), (12, 5), (12, 6), (12, 7), (12, 8), (12, 24), (12, 25), (12, 26), (12, 27)] δ r862.2 ∧ q_V r862.2 = q_V δ ∧ kr ad [100, 112, 113, 114, 115, 116, 117] δ r862.2) ∧ (0 ≤ (x1).toInt ∧ (x1).toInt ≤ (q_I δ 12 2 a0).toInt → (q_I r862.2 12 2 a0).toInt = 0) ∧ ((x1).toInt < 0 ∨ (q_I δ 12 2 a0).toInt < (x1).toInt → (q_I r862.2 12 2 a0).toInt = (q_I δ 12 2 a0).toInt) from ⟨i864, ⟨kp_w (by decide) u871, v872, kr_w (by decide) v873⟩, by first | assumption | omega, by first | assumption | omega⟩)
      · have c883 : r862.1.toInt ≠ (0 : Int) := o_ne h879
        refine ok_bind (k_X12_begins L hN (a0 := a0) (x1 := x1) k_a0 (show 0 ≤ (x1).toInt by first | assumption | omega) (show (x1).toInt ≤ 500 by first | assumption | omega) i864) (fun r884 hr885 => ?_)
        obtain ⟨i886, ⟨u892, u893, u894, u895⟩, p887, p888, p889, p890, p891⟩ := hr885
        have u896 := kp_t u871 u892
        have v897 : q_V r884 = q_V δ := (u893).trans v872
        have v898 := kr_t v873 u895
        have f899 := cb_12_2 i886 k_a0
        have f900 := cb_12_4 i886 k_a0
        have f901 := cb_12_3 i886 k_a0
        have f902 := ti_b (q_I r884 12 5 a0)
        have f903 := ti_b (q_I r884 12 7 a0)
        have f904 := cb_12_24 i886 k_a0
        have f905 : (q_I r884 12 24 a0).toInt = (q_I r862.2 12 24 a0).toInt := congrArg Int32.toInt (u892 12 24 a0 (by decide))
        have f906 := cb_12_24 i864 k_a0
        have f907 : (q_I r862.2 12 24 a0).toInt = (q_I d1 12 24 a0).toInt := congrArg Int32.toInt (u868 12 24 a0 (by decide))
        have f908 := cb_12_24 i3 k_a0
        have f909 : (q_I d1 12 24 a0).toInt = (q_I δ 12 24 a0).toInt := congrArg Int32.toInt (by rw [e2]; exact rI_o (by decide))
        have f910 := cb_12_24 I k_a0
        refine ok_ite (fun h911 => ?_) (fun h911 => ?_)
        · have c912 : (q_I r884 12 24 a0).toInt = (4 : Int) := o_eq h911
          exact ok_some (show RI ad h.1 δ0 r884 ∧ (kp [(12, 0), (12, 2), (12, 3), (12, 4), (12, 5), (12, 6), (12, 7), (12, 8), (12, 24), (12, 25), (12, 26), (12, 27)] δ r884 ∧ q_V r884 = q_V δ ∧ kr ad [100, 112, 113, 114, 115, 116, 117] δ r884) ∧ (0 ≤ (x1).toInt ∧ (x1).toInt ≤ (q_I δ 12 2 a0).toInt → (q_I r884 12 2 a0).toInt = 0) ∧ ((x1).toInt < 0 ∨ (q_I δ 12 2 a0).toInt < (x1).toInt → (q_I r884 12 2 a0).toInt = (q_I δ 12 2 a0).toInt) from ⟨i886, ⟨kp_w (by decide) u896, v897, kr_w (by decide) v898⟩, by first | assumption | omega, by first | assumption | omega⟩)
        · have c913 : (q_I r884 12 24 a0).toInt ≠ (4 : Int) := o_ne h911
          refine ok_bdv (fun d914 e915 => ?_)
          have i916 : RI ad h.1 δ0 d914 := by rw [e915]; exact cs_12_25 L i886 k_a0 (show 0 ≤ (0 : Int) by omega) (show (0 : Int) ≤ 60 by omega)
          have u917 := kp_I u896 e915
          have v918 : q_V d914 = q_V δ := ((show q_V d914 = q_V r884 by rw [e915]; rfl)).trans v897
          have v919 := kr_N v898 (show q_R d914 = q_R r884 by rw [e915]; rfl)
          refine ok_bdv (fun d920 e921 => ?_)
          have i922 : RI ad h.1 δ0 d920 := by rw [e921]; exact cs_12_26 L i916 k_a0 (show 0 ≤ (0 : Int) by omega) (show (0 : Int) ≤ 500 by omega)
          have u923 := kp_I u917 e921
          have v924 : q_V d920 = q_V δ := ((show q_V d920 = q_V d914 by rw [e921]; rfl)).trans v918
          have v925 := kr_N v919 (show q_R d920 = q_R d914 by rw [e921]; rfl)
          refine ok_bdv (fun d926 e927 => ?_)
          have i928 : RI ad h.1 δ0 d926 := by rw [e927]; exact cs_12_27 L i922 k_a0 (show 0 ≤ (0 : Int) by omega) (show (0 : Int) ≤ 3 by omega)
          have u929 := kp_I u923 e927
          have v930 : q_V d926 = q_V δ := ((show q_V d926 = q_V d920 by rw [e927]; rfl)).trans v924
          have v931 := kr_N v925 (show q_R d926 = q_R d920 by rw [e927]; rfl)
          refine ok_bind (k_X12_isMore L hN (a0 := a0) k_a0 i928) (fun r932 hr933 => ?_)
          obtain ⟨i934, ⟨u938, u939, u940, u941⟩, p935, p936, p937⟩ := hr933
          have u942 := kp_t u929 u938
          have v943 : q_V r932.2 = q_V δ := (u939).trans v930
          have v944 := kr_t v931 u941
          have f945 := bo_t p935
          have f946 := cb_12_4 i928 k_a0
          have f947 : (q_I d926 12 4 a0).toInt = (q_I d920 12 4 a0).toInt := congrArg Int32.toInt (by rw [e927]; exact rI_o (by decide))
          have f948 := cb_12_4 i922 k_a0
          have f949 : (q_I d920 12 4 a0).toInt = (q_I d914 12 4 a0).toInt := congrArg Int32.toInt (by rw [e921]; exact rI_o (by decide))
          have f950 := cb_12_4 i916 k_a0
          have f951 : (q_I d914 12 4 a0).toInt = (q_I r884 12 4 a0).toInt := congrArg Int32.toInt (by rw [e915]; exact rI_o (by decide))
          have f952 := cb_12_4 i934 k_a0
          have f953 := ti_b r932.1
          have f954 := cb_12_3 i928 k_a0
          have f955 : (q_I d926 12 3 a0).toInt = (q_I d920 12 3 a0).toInt := congrArg Int32.toInt (by rw [e927]; exact rI_o (by decide))
          have f956 := cb_12_3 i922 k_a0
          have f957 : (q_I d920 12 3 a0).toInt = (q_I d914 12 3 a0).toInt := congrArg Int32.toInt (by rw [e921]; exact rI_o (by decide))
          have f958 := cb_12_3 i916 k_a0
          have f959 : (q_I d914 12 3 a0).toInt = (q_I r884 12 3 a0).toInt := congrArg Int32.toInt (by rw [e915]; exact rI_o (by decide))
          have f960 := ti_b r932.1
          refine ok_ite (fun h961 => ?_) (fun h961 => ?_)
          · have c962 : r932.1.toInt = (0 : Int) := o_eq h961
            have f965 := cb_12_3 i934 k_a0
            have f966 : (q_I r932.2 12 3 a0).toInt = (q_I d926 12 3 a0).toInt := congrArg Int32.toInt (u938 12 3 a0 (by decide))
            refine ok_bind (k_X12_wrong L hN (a0 := a0) (x1 := (1 : Int32)) (x2 := (q_I r932.2 12 3 a0)) k_a0 (show 0 ≤ ((q_I r932.2 12 3 a0)).toInt by first | assumption | omega) i934) (fun r963 hr964 => ?_)
            obtain ⟨i967, ⟨u969, u970, u971, u972⟩, p968⟩ := hr964
            have u973 := kp_t u942 u969
            have v974 : q_V r963 = q_V δ := (u970).trans v943
            have v975 := kr_t v944 u972
            have f976 := ti_b (q_I r963 12 5 a0)
            unfold J_X12_thief_79
            have f979 := cb_12_24 i967 k_a0
            have f980 : (q_I r963 12 24 a0).toInt = (q_I r932.2 12 24 a0).toInt := congrArg Int32.toInt (u969 12 24 a0 (by decide))
            have f981 := cb_12_24 i934 k_a0
            have f982 : (q_I r932.2 12 24 a0).toInt = (q_I d926 12 24 a0).toInt := congrArg Int32.toInt (u938 12 24 a0 (by decide))
            have f983 := cb_12_24 i928 k_a0
            have f984 : (q_I d926 12 24 a0).toInt = (q_I d920 12 24 a0).toInt := congrArg Int32.toInt (by rw [e927]; exact rI_o (by decide))
            have f985 := cb_12_24 i922 k_a0
            have f986 : (q_I d920 12 24 a0).toInt = (q_I d914 12 24 a0).toInt := congrArg Int32.toInt (by rw [e921]; exact rI_o (by decide))
            have f987 := cb_12_24 i916 k_a0
            have f988 : (q_I d914 12 24 a0).toInt = (q_I r884 12 24 a0).toInt := congrArg Int32.toInt (by rw [e915]; exact rI_o (by decide))
            have f989 := cb_12_26 i967 k_a0
            have f990 : (q_I r963 12 26 a0).toInt = (q_I r932.2 12 26 a0).toInt := congrArg Int32.toInt (u969 12 26 a0 (by decide))
            have f991 := cb_12_26 i934 k_a0
            have f992 : (q_I r932.2 12 26 a0).toInt = (q_I d926 12 26 a0).toInt := congrArg Int32.toInt (u938 12 26 a0 (by decide))
            have f993 := cb_12_26 i928 k_a0
            have f994 : (q_I d926 12 26 a0).toInt = (q_I d920 12 26 a0).toInt := congrArg Int32.toInt (by rw [e927]; exact rI_o (by decide))
            have f995 := cb_12_26 i922 k_a0
            have f996 : (q_I d920 12 26 a0).toInt = (0 : Int) := congrArg Int32.toInt (show q_I d920 12 26 a0 = (0 : Int32) by rw [e921]; exact rI_s)
            have f997 := cb_12_4 i967 k_a0
            have f998 : (q_I r963 12 4 a0).toInt = (q_I r932.2 12 4 a0).toInt := congrArg Int32.toInt (u969 12 4 a0 (by decide))
            have f999 := ti_b (q_I r963 12 7 a0)
            have f1000 : (q_I r963 12 7 a0).toInt = (q_I r932.2 12 7 a0).toInt := congrArg Int32.toInt (u969 12 7 a0 (by decide))
            have f1001 := ti_b (q_I r932.2 12 7 a0)
            have f1002 : (q_I r932.2 12 7 a0).toInt = (q_I d926 12 7 a0).toInt := congrArg Int32.toInt (u938 12 7 a0 (by decide))
            have f1003 := ti_b (q_I d926 12 7 a0)
            have f1004 : (q_I d926 12 7 a0).toInt = (q_I d920 12 7 a0).toInt := congrArg Int32.toInt (by rw [e927]; exact rI_o (by decide))
            have f1005 := ti_b (q_I d920 12 7 a0)
            have f1006 : (q_I d920 12 7 a0).toInt = (q_I d914 12 7 a0).toInt := congrArg Int32.toInt (by rw [e921]; exact rI_o (by decide))
            have f1007 := ti_b (q_I d914 12 7 a0)
            have f1008 : (q_I d914 12 7 a0).toInt = (q_I r884 12 7 a0).toInt := congrArg Int32.toInt (by rw [e915]; exact rI_o (by decide))
            have f1009 := cb_12_27 i967 k_a0
            have f1010 : (q_I r963 12 27 a0).toInt = (q_I r932.2 12 27 a0).toInt := congrArg Int32.toInt (u969 12 27 a0 (by decide))
            have f1011 := cb_12_27 i934 k_a0
            have f1012 : (q_I r932.2 12 27 a0).toInt = (q_I d926 12 27 a0).toInt := congrArg Int32.toInt (u938 12 27 a0 (by decide))
            have f1013 := cb_12_27 i928 k_a0
            have f1014 : (q_I d926 12 27 a0).toInt = (0 : Int) := congrArg Int32.toInt (show q_I d926 12 27 a0 = (0 : Int32) by rw [e927]; exact rI_s)
            refine ok_bind (k_X12_readSteps L hN (a0 := a0) k_a0 (show (q_I r963 12 24 a0).toInt ≤ 3 by first | assumption | omega) (show (q_I r963 12 26 a0).toInt ≤ (q_I r963 12 4 a0).toInt by first | assumption | omega) (show (q_I r963 12 7 a0).toInt = 0 by first | assumption | omega) (show 4 - (q_I r963 12 27 a0).toInt < 20 by first | assumption | omega) i967) (fun r977 hr978 => ?_)
            obtain ⟨i1015, ⟨u1021, u1022, u1023⟩, p1016, p1017, p1018, p1019, p1020⟩ := hr978
            have u1024 := kp_t u973 u1021
            have v1025 : q_V r977 = q_V δ := (u1022).trans v974
            have v1026 := kr_t v975 u1023
            have f1027 := cb_12_4 i1015 k_a0
            have f1028 := ti_b (q_I r977 12 5 a0)
            have f1029 := ti_b (q_I r977 12 7 a0)
            have f1030 := cb_12_27 i1015 k_a0
            have f1031 := cb_12_26 i1015 k_a0
            refine ok_bind (k_X12_fine L hN (a0 := a0) k_a0 i1015) (fun r1032 hr1033 => ?_)
            obtain ⟨i1034, p1035, p1036, p1037⟩ := hr1033
            try rw [i1034]
            have f1038 := bo_t p1035
            have f1039 := ti_b r1032.1
            have f1040 := ti_b r1032.1
            refine ok_ite (fun h1041 => ?_) (fun h1041 => ?_)
            · have c1042 : r1032.1.toInt = (0 : Int) := o_eq h1041
              unfold J_X12_thief_106
              refine ok_bind (k_X12_result L hN (a0 := a0) (x1 := (q_I r977 12 24 a0)) k_a0 i1015) (fun r1043 hr1044 => ?_)
              obtain ⟨i1045, ⟨u1046, u1047, u1048, u1049⟩⟩ := hr1044
              have u1050 := kp_t u1024 u1046
              have v1051 : q_V r1043.2 = q_V δ := (u1047).trans v1025
              have v1052 := kr_t v1026 u1049
              have f1053 := ti_b r1043.1
              have f1054 := cb_12_24 i1045 k_a0
              have f1055 : (q_I r1043.2 12 24 a0).toInt = (q_I r977 12 24 a0).toInt := congrArg Int32.toInt (u1046 12 24 a0 (by decide))
              have f1056 := cb_12_24 i1015 k_a0
              have f1057 : (q_I r977 12 24 a0).toInt = (q_I r963 12 24 a0).toInt := congrArg Int32.toInt (u1021 12 24 a0 (by decide))
              refine ok_ite (fun h1058 => ?_) (fun h1058 => ?_)
              · have c1059 : r1043.1.toInt = (q_I r1043.2 12 24 a0).toInt := o_eq h1058
                obtain ⟨b1060, o1061, k1062, n1063⟩ := gO_12_28 L k_a0
                obtain rfl := gS_12_28 L k_a0 o1061
                refine ok_at o1061 ?_
                have t1064 := ti_tn (q_I r1043.2 12 24 a0)
                refine ok_gd (fun hc1065 => ?_) ?_
                · rcases hc1065 with hc1065 | hc1065
                  · have c1066 : (q_I r1043.2 12 24 a0).toInt < (0 : Int) := o_lt hc1065
                    omega
                  · omega
                have f1070 := cb_12_25 i1045 k_a0
                have f1071 : (q_I r1043.2 12 25 a0).toInt = (q_I r977 12 25 a0).toInt := congrArg Int32.toInt (u1046 12 25 a0 (by decide))
                have f1072 := cb_12_25 i1015 k_a0
                refine ok_bdv (fun d1067 e1068 => ?_)
                have i1069 : RI ad h.1 δ0 d1067 := by rw [e1068]; exact cr_112 L i1045 (show 0 ≤ (q_I r1043.2 12 25 a0).toInt by omega) (show (q_I r1043.2 12 25 a0).toInt ≤ 60 by omega)
                have u1073 := kp_N u1050 (show q_I d1067 = q_I r1043.2 by rw [e1068]; rfl)
                have v1074 : q_V d1067 = q_V δ := ((show q_V d1067 = q_V r1043.2 by rw [e1068]; rfl)).trans v1051
                have v1075 := kr_s L (by decide) v1052 e1068
                have f1079 := cb_12_24 i1069 k_a0
                have f1080 : (q_I d1067 12 24 a0).toInt = (q_I r1043.2 12 24 a0).toInt := congrArg Int32.toInt (by rw [e1068]; rfl)
                first | (have q1082 := te_addc (c := 1) (n := 1) rfl (q_I d1067 12 24 a0) (by omega) (by omega); obtain ⟨f1083, f1084, f1085⟩ := q1082) | (obtain ⟨q1082, f1083, f1084, f1085⟩ := ti_addc (c := 1) (n := 1) rfl (q_I d1067 12 24 a0))
                refine ok_bdv (fun d1076 e1077 => ?_)
                have i1078 : RI ad h.1 δ0 d1076 := by rw [e1077]; exact cs_12_24 L i1069 k_a0 (show 0 ≤ ((q_I d1067 12 24 a0) + (1 : Int32)).toInt by omega) (show ((q_I d1067 12 24 a0) + (1 : Int32)).toInt ≤ 4 by omega)
                have u1086 := kp_I u1073 e1077
                have v1087 : q_V d1076 = q_V δ := ((show q_V d1076 = q_V d1067 by rw [e1077]; rfl)).trans v1074
                have v1088 := kr_N v1075 (show q_R d1076 = q_R d1067 by rw [e1077]; rfl)
                unfold J_X12_thief_146
                have f1089 := cb_12_2 i1078 k_a0
                have f1090 : (q_I d1076 12 2 a0).toInt = (q_I d1067 12 2 a0).toInt := congrArg Int32.toInt (by rw [e1077]; exact rI_o (by decide))
                have f1091 := cb_12_2 i1069 k_a0
                have f1092 : (q_I d1067 12 2 a0).toInt = (q_I r1043.2 12 2 a0).toInt := congrArg Int32.toInt (by rw [e1068]; rfl)
                have f1093 := cb_12_2 i1045 k_a0
                have f1094 : (q_I r1043.2 12 2 a0).toInt = (q_I r977 12 2 a0).toInt := congrArg Int32.toInt (u1046 12 2 a0 (by decide))
                have f1095 := cb_12_2 i1015 k_a0
                have f1096 : (q_I r977 12 2 a0).toInt = (q_I r963 12 2 a0).toInt := congrArg Int32.toInt (u1021 12 2 a0 (by decide))
                have f1097 := cb_12_2 i967 k_a0
                have f1098 : (q_I r963 12 2 a0).toInt = (q_I r932.2 12 2 a0).toInt := congrArg Int32.toInt (u969 12 2 a0 (by decide))
                have f1099 := cb_12_2 i934 k_a0
                have f1100 : (q_I r932.2 12 2 a0).toInt = (q_I d926 12 2 a0).toInt := congrArg Int32.toInt (u938 12 2 a0 (by decide))
                have f1101 := cb_12_2 i928 k_a0
                have f1102 : (q_I d926 12 2 a0).toInt = (q_I d920 12 2 a0).toInt := congrArg Int32.toInt (by rw [e927]; exact rI_o (by decide))
                have f1103 := cb_12_2 i922 k_a0
                have f1104 : (q_I d920 12 2 a0).toInt = (q_I d914 12 2 a0).toInt := congrArg Int32.toInt (by rw [e921]; exact rI_o (by decide))
                have f1105 := cb_12_2 i916 k_a0
                have f1106 : (q_I d914 12 2 a0).toInt = (q_I r884 12 2 a0).toInt := congrArg Int32.toInt (by rw [e915]; exact rI_o (by decide))
                exact ok_some (show RI ad h.1 δ0 d1076 ∧ (kp [(12, 0), (12, 2), (12, 3), (12, 4), (12, 5), (12, 6), (12, 7), (12, 8), (12, 24), (12, 25), (12, 26), (12, 27)] δ d1076 ∧ q_V d1076 = q_V δ ∧ kr ad [100, 112, 113, 114, 115, 116, 117] δ d1076) ∧ (0 ≤ (x1).toInt ∧ (x1).toInt ≤ (q_I δ 12 2 a0).toInt → (q_I d1076 12 2 a0).toInt = 0) ∧ ((x1).toInt < 0 ∨ (q_I δ 12 2 a0).toInt < (x1).toInt → (q_I d1076 12 2 a0).toInt = (q_I δ 12 2 a0).toInt) from ⟨i1078, ⟨kp_w (by decide) u1086, v1087, kr_w (by decide) v1088⟩, by first | assumption | omega, by first | assumption | omega⟩)
              · have c1107 : r1043.1.toInt ≠ (q_I r1043.2 12 24 a0).toInt := o_ne h1058
                unfold J_X12_thief_146
                have f1108 := cb_12_2 i1045 k_a0
                have f1109 : (q_I r1043.2 12 2 a0).toInt = (q_I r977 12 2 a0).toInt := congrArg Int32.toInt (u1046 12 2 a0 (by decide))
                have f1110 := cb_12_2 i1015 k_a0
                have f1111 : (q_I r977 12 2 a0).toInt = (q_I r963 12 2 a0).toInt := congrArg Int32.toInt (u1021 12 2 a0 (by decide))
                have f1112 := cb_12_2 i967 k_a0
                have f1113 : (q_I r963 12 2 a0).toInt = (q_I r932.2 12 2 a0).toInt := congrArg Int32.toInt (u969 12 2 a0 (by decide))
                have f1114 := cb_12_2 i934 k_a0
                have f1115 : (q_I r932.2 12 2 a0).toInt = (q_I d926 12 2 a0).toInt := congrArg Int32.toInt (u938 12 2 a0 (by decide))
                have f1116 := cb_12_2 i928 k_a0
                have f1117 : (q_I d926 12 2 a0).toInt = (q_I d920 12 2 a0).toInt := congrArg Int32.toInt (by rw [e927]; exact rI_o (by decide))
                have f1118 := cb_12_2 i922 k_a0
                have f1119 : (q_I d920 12 2 a0).toInt = (q_I d914 12 2 a0).toInt := congrArg Int32.toInt (by rw [e921]; exact rI_o (by decide))
                have f1120 := cb_12_2 i916 k_a0
                have f1121 : (q_I d914 12 2 a0).toInt = (q_I r884 12 2 a0).toInt := congrArg Int32.toInt (by rw [e915]; exact rI_o (by decide))
                exact ok_some (show RI ad h.1 δ0 r1043.2 ∧ (kp [(12, 0), (12, 2), (12, 3), (12, 4), (12, 5), (12, 6), (12, 7), (12, 8), (12, 24), (12, 25), (12, 26), (12, 27)] δ r1043.2 ∧ q_V r1043.2 = q_V δ ∧ kr ad [100, 112, 113, 114, 115, 116, 117] δ r1043.2) ∧ (0 ≤ (x1).toInt ∧ (x1).toInt ≤ (q_I δ 12 2 a0).toInt → (q_I r1043.2 12 2 a0).toInt = 0) ∧ ((x1).toInt < 0 ∨ (q_I δ 12 2 a0).toInt < (x1).toInt → (q_I r1043.2 12 2 a0).toInt = (q_I δ 12 2 a0).toInt) from ⟨i1045, ⟨kp_w (by decide) u1050, v1051, kr_w (by decide) v1052⟩, by first | assumption | omega, by first | assumption | omega⟩)
            · have c1122 : r1032.1.toInt ≠ (0 : Int) := o_ne h1041
              refine ok_bind (k_X12_isMore L hN (a0 := a0) k_a0 i1015) (fun r1123 hr1124 => ?_)
              obtain ⟨i1125, ⟨u1129, u1130, u1131, u1132⟩, p1126, p1127, p1128⟩ := hr1124
              have u1133 := kp_t u1024 u1129
              have v1134 : q_V r1123.2 = q_V δ := (u1130).trans v1025
              have v1135 := kr_t v1026 u1132
              have f1136 := bo_t p1126
              have f1137 := cb_12_4 i1125 k_a0
              have f1138 := ti_b r1123.1
              have f1139 := cb_12_3 i1015 k_a0
              have f1140 : (q_I r977 12 3 a0).toInt = (q_I r963 12 3 a0).toInt := congrArg Int32.toInt (u1021 12 3 a0 (by decide))
              have f1141 := cb_12_3 i967 k_a0
              have f1142 : (q_I r963 12 3 a0).toInt = (q_I r932.2 12 3 a0).toInt := congrArg Int32.toInt (u969 12 3 a0 (by decide))
              have f1143 := ti_b r1123.1
              refine ok_ite (fun h1144 => ?_) (fun h1144 => ?_)
              · have c1145 : r1123.1.toInt = (0 : Int) := o_eq h1144
                unfold J_X12_thief_106
                refine ok_bind (k_X12_result L hN (a0 := a0) (x1 := (q_I r1123.2 12 24 a0)) k_a0 i1125) (fun r1146 hr1147 => ?_)
                obtain ⟨i1148, ⟨u1149, u1150, u1151, u1152⟩⟩ := hr1147
                have u1153 := kp_t u1133 u1149
                have v1154 : q_V r1146.2 = q_V δ := (u1150).trans v1134
                have v1155 := kr_t v1135 u1152
                have f1156 := ti_b r1146.1
                have f1157 := cb_12_24 i1148 k_a0
                have f1158 : (q_I r1146.2 12 24 a0).toInt = (q_I r1123.2 12 24 a0).toInt := congrArg Int32.toInt (u1149 12 24 a0 (by decide))
                have f1159 := cb_12_24 i1125 k_a0
                have f1160 : (q_I r1123.2 12 24 a0).toInt = (q_I r977 12 24 a0).toInt := congrArg Int32.toInt (u1129 12 24 a0 (by decide))
                have f1161 := cb_12_24 i1015 k_a0
                have f1162 : (q_I r977 12 24 a0).toInt = (q_I r963 12 24 a0).toInt := congrArg Int32.toInt (u1021 12 24 a0 (by decide))
                refine ok_ite (fun h1163 => ?_) (fun h1163 => ?_)
                · have c1164 : r1146.1.toInt = (q_I r1146.2 12 24 a0).toInt := o_eq h1163
                  obtain ⟨b1165, o1166, k1167, n1168⟩ := gO_12_28 L k_a0
                  obtain rfl := gS_12_28 L k_a0 o1166
                  refine ok_at o1166 ?_
                  have t1169 := ti_tn (q_I r1146.2 12 24 a0)
                  refine ok_gd (fun hc1170 => ?_) ?_
                  · rcases hc1170 with hc1170 | hc1170
                    · have c1171 : (q_I r1146.2 12 24 a0).toInt < (0 : Int) := o_lt hc1170
                      omega
                    · omega
                  have f1175 := cb_12_25 i1148 k_a0
                  have f1176 : (q_I r1146.2 12 25 a0).toInt = (q_I r1123.2 12 25 a0).toInt := congrArg Int32.toInt (u1149 12 25 a0 (by decide))
                  have f1177 := cb_12_25 i1125 k_a0
                  have f1178 : (q_I r1123.2 12 25 a0).toInt = (q_I r977 12 25 a0).toInt := congrArg Int32.toInt (u1129 12 25 a0 (by decide))
                  have f1179 := cb_12_25 i1015 k_a0
                  refine ok_bdv (fun d1172 e1173 => ?_)
                  have i1174 : RI ad h.1 δ0 d1172 := by rw [e1173]; exact cr_112 L i1148 (show 0 ≤ (q_I r1146.2 12 25 a0).toInt by omega) (show (q_I r1146.2 12 25 a0).toInt ≤ 60 by omega)
                  have u1180 := kp_N u1153 (show q_I d1172 = q_I r1146.2 by rw [e1173]; rfl)
                  have v1181 : q_V d1172 = q_V δ := ((show q_V d1172 = q_V r1146.2 by rw [e1173]; rfl)).trans v1154
                  have v1182 := kr_s L (by decide) v1155 e1173
                  have f1186 := cb_12_24 i1174 k_a0
                  have f1187 : (q_I d1172 12 24 a0).toInt = (q_I r1146.2 12 24 a0).toInt := congrArg Int32.toInt (by rw [e1173]; rfl)
                  first | (have q1189 := te_addc (c := 1) (n := 1) rfl (q_I d1172 12 24 a0) (by omega) (by omega); obtain ⟨f1190, f1191, f1192⟩ := q1189) | (obtain ⟨q1189, f1190, f1191, f1192⟩ := ti_addc (c := 1) (n := 1) rfl (q_I d1172 12 24 a0))
                  refine ok_bdv (fun d1183 e1184 => ?_)
                  have i1185 : RI ad h.1 δ0 d1183 := by rw [e1184]; exact cs_12_24 L i1174 k_a0 (show 0 ≤ ((q_I d1172 12 24 a0) + (1 : Int32)).toInt by omega) (show ((q_I d1172 12 24 a0) + (1 : Int32)).toInt ≤ 4 by omega)
                  have u1193 := kp_I u1180 e1184
                  have v1194 : q_V d1183 = q_V δ := ((show q_V d1183 = q_V d1172 by rw [e1184]; rfl)).trans v1181
                  have v1195 := kr_N v1182 (show q_R d1183 = q_R d1172 by rw [e1184]; rfl)
                  unfold J_X12_thief_146
                  have f1196 := cb_12_2 i1185 k_a0
                  have f1197 : (q_I d1183 12 2 a0).toInt = (q_I d1172 12 2 a0).toInt := congrArg Int32.toInt (by rw [e1184]; exact rI_o (by decide))
                  have f1198 := cb_12_2 i1174 k_a0
                  have f1199 : (q_I d1172 12 2 a0).toInt = (q_I r1146.2 12 2 a0).toInt := congrArg Int32.toInt (by rw [e1173]; rfl)
                  have f1200 := cb_12_2 i1148 k_a0
                  have f1201 : (q_I r1146.2 12 2 a0).toInt = (q_I r1123.2 12 2 a0).toInt := congrArg Int32.toInt (u1149 12 2 a0 (by decide))
                  have f1202 := cb_12_2 i1125 k_a0
                  have f1203 : (q_I r1123.2 12 2 a0).toInt = (q_I r977 12 2 a0).toInt := congrArg Int32.toInt (u1129 12 2 a0 (by decide))
                  have f1204 := cb_12_2 i1015 k_a0
                  have f1205 : (q_I r977 12 2 a0).toInt = (q_I r963 12 2 a0).toInt := congrArg Int32.toInt (u1021 12 2 a0 (by decide))
                  have f1206 := cb_12_2 i967 k_a0
                  have f1207 : (q_I r963 12 2 a0).toInt = (q_I r932.2 12 2 a0).toInt := congrArg Int32.toInt (u969 12 2 a0 (by decide))
                  have f1208 := cb_12_2 i934 k_a0
                  have f1209 : (q_I r932.2 12 2 a0).toInt = (q_I d926 12 2 a0).toInt := congrArg Int32.toInt (u938 12 2 a0 (by decide))
                  have f1210 := cb_12_2 i928 k_a0
                  have f1211 : (q_I d926 12 2 a0).toInt = (q_I d920 12 2 a0).toInt := congrArg Int32.toInt (by rw [e927]; exact rI_o (by decide))
                  have f1212 := cb_12_2 i922 k_a0
                  have f1213 : (q_I d920 12 2 a0).toInt = (q_I d914 12 2 a0).toInt := congrArg Int32.toInt (by rw [e921]; exact rI_o (by decide))
                  have f1214 := cb_12_2 i916 k_a0
                  have f1215 : (q_I d914 12 2 a0).toInt = (q_I r884 12 2 a0).toInt := congrArg Int32.toInt (by rw [e915]; exact rI_o (by decide))
                  exact ok_some (show RI ad h.1 δ0 d1183 ∧ (kp [(12, 0), (12, 2), (12, 3), (12, 4), (12, 5), (12, 6), (12, 7), (12, 8), (12, 24), (12, 25), (12, 26), (12, 27)] δ d1183 ∧ q_V d1183 = q_V δ ∧ kr ad [100, 112, 113, 114, 115, 116, 117] δ d1183) ∧ (0 ≤ (x1).toInt ∧ (x1).toInt ≤ (q_I δ 12 2 a0).toInt → (q_I d1183 12 2 a0).toInt = 0) ∧ ((x1).toInt < 0 ∨ (q_I δ 12 2 a0).toInt < (x1).toInt → (q_I d1183 12 2 a0).toInt = (q_I δ 12 2 a0).toInt) from ⟨i1185, ⟨kp_w (by decide) u1193, v1194, kr_w (by decide) v1195⟩, by first | assumption | omega, by first | assumption | omega⟩)
                · have c1216 : r1146.1.toInt ≠ (q_I r1146.2 12 24 a0).toInt := o_ne h1163
                  unfold J_X12_thief_146
                  have f1217 := cb_12_2 i1148 k_a0
                  have f1218 : (q_I r1146.2 12 2 a0).toInt = (q_I r1123.2 12 2 a0).toInt := congrArg Int32.toInt (u1149 12 2 a0 (by decide))
                  have f1219 := cb_12_2 i1125 k_a0
                  have f1220 : (q_I r1123.2 12 2 a0).toInt = (q_I r977 12 2 a0).toInt := congrArg Int32.toInt (u1129 12 2 a0 (by decide))
                  have f1221 := cb_12_2 i1015 k_a0
                  have f1222 : (q_I r977 12 2 a0).toInt = (q_I r963 12 2 a0).toInt := congrArg Int32.toInt (u1021 12 2 a0 (by decide))
                  have f1223 := cb_12_2 i967 k_a0
                  have f1224 : (q_I r963 12 2 a0).toInt = (q_I r932.2 12 2 a0).toInt := congrArg Int32.toInt (u969 12 2 a0 (by decide))
                  have f1225 := cb_12_2 i934 k_a0
                  have f1226 : (q_I r932.2 12 2 a0).toInt = (q_I d926 12 2 a0).toInt := congrArg Int32.toInt (u938 12 2 a0 (by decide))
                  have f1227 := cb_12_2 i928 k_a0
                  have f1228 : (q_I d926 12 2 a0).toInt = (q_I d920 12 2 a0).toInt := congrArg Int32.toInt (by rw [e927]; exact rI_o (by decide))
                  have f1229 := cb_12_2 i922 k_a0
                  have f1230 : (q_I d920 12 2 a0).toInt = (q_I d914 12 2 a0).toInt := congrArg Int32.toInt (by rw [e921]; exact rI_o (by decide))
                  have f1231 := cb_12_2 i916 k_a0
                  have f1232 : (q_I d914 12 2 a0).toInt = (q_I r884 12 2 a0).toInt := congrArg Int32.toInt (by rw [e915]; exact rI_o (by decide))
                  exact ok_some (show RI ad h.1 δ0 r1146.2 ∧ (kp [(12, 0), (12, 2), (12, 3), (12, 4), (12, 5), (12, 6), (12, 7), (12, 8), (12, 24), (12, 25), (12, 26), (12, 27)] δ r1146.2 ∧ q_V r1146.2 = q_V δ ∧ kr ad [100, 112, 113, 114, 115, 116, 117] δ r1146.2) ∧ (0 ≤ (x1).toInt ∧ (x1).toInt ≤ (q_I δ 12 2 a0).toInt → (q_I r1146.2 12 2 a0).toInt = 0) ∧ ((x1).toInt < 0 ∨ (q_I δ 12 2 a0).toInt < (x1).toInt → (q_I r1146.2 12 2 a0).toInt = (q_I δ 12 2 a0).toInt) from ⟨i1148, ⟨kp_w (by decide) u1153, v1154, kr_w (by decide) v1155⟩, by first | assumption | omega, by first | assumption | omega⟩)
              · have c1233 : r1123.1.toInt ≠ (0 : Int) := o_ne h1144
                refine ok_bind (k_X12_wrong L hN (a0 := a0) (x1 := (1 : Int32)) (x2 := (q_I r1123.2 12 4 a0)) k_a0 (show 0 ≤ ((q_I r1123.2 12 4 a0)).toInt by first | assumption | omega) i1125) (fun r1234 hr1235 => ?_)
                obtain ⟨i1236, ⟨u1238, u1239, u1240, u1241⟩, p1237⟩ := hr1235
                have u1242 := kp_t u1133 u1238
                have v1243 : q_V r1234 = q_V δ := (u1239).trans v1134
                have v1244 := kr_t v1135 u1241
                have f1245 := ti_b (q_I r1234 12 5 a0)
                unfold J_X12_thief_106
                refine ok_bind (k_X12_result L hN (a0 := a0) (x1 := (q_I r1234 12 24 a0)) k_a0 i1236) (fun r1246 hr1247 => ?_)
                obtain ⟨i1248, ⟨u1249, u1250, u1251, u1252⟩⟩ := hr1247
                have u1253 := kp_t u1242 u1249
                have v1254 : q_V r1246.2 = q_V δ := (u1250).trans v1243
                have v1255 := kr_t v1244 u1252
                have f1256 := ti_b r1246.1
                have f1257 := cb_12_24 i1248 k_a0
                have f1258 : (q_I r1246.2 12 24 a0).toInt = (q_I r1234 12 24 a0).toInt := congrArg Int32.toInt (u1249 12 24 a0 (by decide))
                have f1259 := cb_12_24 i1236 k_a0
                have f1260 : (q_I r1234 12 24 a0).toInt = (q_I r1123.2 12 24 a0).toInt := congrArg Int32.toInt (u1238 12 24 a0 (by decide))
                have f1261 := cb_12_24 i1125 k_a0
                have f1262 : (q_I r1123.2 12 24 a0).toInt = (q_I r977 12 24 a0).toInt := congrArg Int32.toInt (u1129 12 24 a0 (by decide))
                have f1263 := cb_12_24 i1015 k_a0
                have f1264 : (q_I r977 12 24 a0).toInt = (q_I r963 12 24 a0).toInt := congrArg Int32.toInt (u1021 12 24 a0 (by decide))
                refine ok_ite (fun h1265 => ?_) (fun h1265 => ?_)
                · have c1266 : r1246.1.toInt = (q_I r1246.2 12 24 a0).toInt := o_eq h1265
                  obtain ⟨b1267, o1268, k1269, n1270⟩ := gO_12_28 L k_a0
                  obtain rfl := gS_12_28 L k_a0 o1268
                  refine ok_at o1268 ?_
                  have t1271 := ti_tn (q_I r1246.2 12 24 a0)
                  refine ok_gd (fun hc1272 => ?_) ?_
                  · rcases hc1272 with hc1272 | hc1272
                    · have c1273 : (q_I r1246.2 12 24 a0).toInt < (0 : Int) := o_lt hc1272
                      omega
                    · omega
                  have f1277 := cb_12_25 i1248 k_a0
                  have f1278 : (q_I r1246.2 12 25 a0).toInt = (q_I r1234 12 25 a0).toInt := congrArg Int32.toInt (u1249 12 25 a0 (by decide))
                  have f1279 := cb_12_25 i1236 k_a0
                  have f1280 : (q_I r1234 12 25 a0).toInt = (q_I r1123.2 12 25 a0).toInt := congrArg Int32.toInt (u1238 12 25 a0 (by decide))
                  have f1281 := cb_12_25 i1125 k_a0
                  have f1282 : (q_I r1123.2 12 25 a0).toInt = (q_I r977 12 25 a0).toInt := congrArg Int32.toInt (u1129 12 25 a0 (by decide))
                  have f1283 := cb_12_25 i1015 k_a0
                  refine ok_bdv (fun d1274 e1275 => ?_)
                  have i1276 : RI ad h.1 δ0 d1274 := by rw [e1275]; exact cr_112 L i1248 (show 0 ≤ (q_I r1246.2 12 25 a0).toInt by omega) (show (q_I r1246.2 12 25 a0).toInt ≤ 60 by omega)
                  have u1284 := kp_N u1253 (show q_I d1274 = q_I r1246.2 by rw [e1275]; rfl)
                  have v1285 : q_V d1274 = q_V δ := ((show q_V d1274 = q_V r1246.2 by rw [e1275]; rfl)).trans v1254
                  have v1286 := kr_s L (by decide) v1255 e1275
                  have f1290 := cb_12_24 i1276 k_a0
                  have f1291 : (q_I d1274 12 24 a0).toInt = (q_I r1246.2 12 24 a0).toInt := congrArg Int32.toInt (by rw [e1275]; rfl)
                  first | (have q1293 := te_addc (c := 1) (n := 1) rfl (q_I d1274 12 24 a0) (by omega) (by omega); obtain ⟨f1294, f1295, f1296⟩ := q1293) | (obtain ⟨q1293, f1294, f1295, f1296⟩ := ti_addc (c := 1) (n := 1) rfl (q_I d1274 12 24 a0))
                  refine ok_bdv (fun d1287 e1288 => ?_)
                  have i1289 : RI ad h.1 δ0 d1287 := by rw [e1288]; exact cs_12_24 L i1276 k_a0 (show 0 ≤ ((q_I d1274 12 24 a0) + (1 : Int32)).toInt by omega) (show ((q_I d1274 12 24 a0) + (1 : Int32)).toInt ≤ 4 by omega)
                  have u1297 := kp_I u1284 e1288
                  have v1298 : q_V d1287 = q_V δ := ((show q_V d1287 = q_V d1274 by rw [e1288]; rfl)).trans v1285
                  have v1299 := kr_N v1286 (show q_R d1287 = q_R d1274 by rw [e1288]; rfl)
                  unfold J_X12_thief_146
                  have f1300 := cb_12_2 i1289 k_a0
                  have f1301 : (q_I d1287 12 2 a0).toInt = (q_I d1274 12 2 a0).toInt := congrArg Int32.toInt (by rw [e1288]; exact rI_o (by decide))
                  have f1302 := cb_12_2 i1276 k_a0
                  have f1303 : (q_I d1274 12 2 a0).toInt = (q_I r1246.2 12 2 a0).toInt := congrArg Int32.toInt (by rw [e1275]; rfl)
                  have f1304 := cb_12_2 i1248 k_a0
                  have f1305 : (q_I r1246.2 12 2 a0).toInt = (q_I r1234 12 2 a0).toInt := congrArg Int32.toInt (u1249 12 2 a0 (by decide))
                  have f1306 := cb_12_2 i1236 k_a0
                  have f1307 : (q_I r1234 12 2 a0).toInt = (q_I r1123.2 12 2 a0).toInt := congrArg Int32.toInt (u1238 12 2 a0 (by decide))
                  have f1308 := cb_12_2 i1125 k_a0
                  have f1309 : (q_I r1123.2 12 2 a0).toInt = (q_I r977 12 2 a0).toInt := congrArg Int32.toInt (u1129 12 2 a0 (by decide))
                  have f1310 := cb_12_2 i1015 k_a0
                  have f1311 : (q_I r977 12 2 a0).toInt = (q_I r963 12 2 a0).toInt := congrArg Int32.toInt (u1021 12 2 a0 (by decide))
                  have f1312 := cb_12_2 i967 k_a0
                  have f1313 : (q_I r963 12 2 a0).toInt = (q_I r932.2 12 2 a0).toInt := congrArg Int32.toInt (u969 12 2 a0 (by decide))
                  have f1314 := cb_12_2 i934 k_a0
                  have f1315 : (q_I r932.2 12 2 a0).toInt = (q_I d926 12 2 a0).toInt := congrArg Int32.toInt (u938 12 2 a0 (by decide))
                  have f1316 := cb_12_2 i928 k_a0
                  have f1317 : (q_I d926 12 2 a0).toInt = (q_I d920 12 2 a0).toInt := congrArg Int32.toInt (by rw [e927]; exact rI_o (by decide))
                  have f1318 := cb_12_2 i922 k_a0
                  have f1319 : (q_I d920 12 2 a0).toInt = (q_I d914 12 2 a0).toInt := congrArg Int32.toInt (by rw [e921]; exact rI_o (by decide))
                  have f1320 := cb_12_2 i916 k_a0
                  have f1321 : (q_I d914 12 2 a0).toInt = (q_I r884 12 2 a0).toInt := congrArg Int32.toInt (by rw [e915]; exact rI_o (by decide))
                  exact ok_some (show RI ad h.1 δ0 d1287 ∧ (kp [(12, 0), (12, 2), (12, 3), (12, 4), (12, 5), (12, 6), (12, 7), (12, 8), (12, 24), (12, 25), (12, 26), (12, 27)] δ d1287 ∧ q_V d1287 = q_V δ ∧ kr ad [100, 112, 113, 114, 115, 116, 117] δ d1287) ∧ (0 ≤ (x1).toInt ∧ (x1).toInt ≤ (q_I δ 12 2 a0).toInt → (q_I d1287 12 2 a0).toInt = 0) ∧ ((x1).toInt < 0 ∨ (q_I δ 12 2 a0).toInt < (x1).toInt → (q_I d1287 12 2 a0).toInt = (q_I δ 12 2 a0).toInt) from ⟨i1289, ⟨kp_w (by decide) u1297, v1298, kr_w (by decide) v1299⟩, by first | assumption | omega, by first | assumption | omega⟩)
                · have c1322 : r1246.1.toInt ≠ (q_I r1246.2 12 24 a0).toInt := o_ne h1265
                  unfold J_X12_thief_146
                  have f1323 := cb_12_2 i1248 k_a0
                  have f1324 : (q_I r1246.2 12 2 a0).toInt = (q_I r1234 12 2 a0).toInt := congrArg Int32.toInt (u1249 12 2 a0 (by decide))
                  have f1325 := cb_12_2 i1236 k_a0
                  have f1326 : (q_I r1234 12 2 a0).toInt = (q_I r1123.2 12 2 a0).toInt := congrArg Int32.toInt (u1238 12 2 a0 (by decide))
                  have f1327 := cb_12_2 i1125 k_a0
                  have f1328 : (q_I r1123.2 12 2 a0).toInt = (q_I r977 12 2 a0).toInt := congrArg Int32.toInt (u1129 12 2 a0 (by decide))
                  have f1329 := cb_12_2 i1015 k_a0
                  have f1330 : (q_I r977 12 2 a0).toInt = (q_I r963 12 2 a0).toInt := congrArg Int32.toInt (u1021 12 2 a0 (by decide))
                  have f1331 := cb_12_2 i967 k_a0
                  have f1332 : (q_I r963 12 2 a0).toInt = (q_I r932.2 12 2 a0).toInt := congrArg Int32.toInt (u969 12 2 a0 (by decide))
                  have f1333 := cb_12_2 i934 k_a0
                  have f1334 : (q_I r932.2 12 2 a0).toInt = (q_I d926 12 2 a0).toInt := congrArg Int32.toInt (u938 12 2 a0 (by decide))
                  have f1335 := cb_12_2 i928 k_a0
                  have f1336 : (q_I d926 12 2 a0).toInt = (q_I d920 12 2 a0).toInt := congrArg Int32.toInt (by rw [e927]; exact rI_o (by decide))
                  have f1337 := cb_12_2 i922 k_a0
                  have f1338 : (q_I d920 12 2 a0).toInt = (q_I d914 12 2 a0).toInt := congrArg Int32.toInt (by rw [e921]; exact rI_o (by decide))
                  have f1339 := cb_12_2 i916 k_a0
                  have f1340 : (q_I d914 12 2 a0).toInt = (q_I r884 12 2 a0).toInt := congrArg Int32.toInt (by rw [e915]; exact rI_o (by decide))
                  exact ok_some (show RI ad h.1 δ0 r1246.2 ∧ (kp [(12, 0), (12, 2), (12, 3), (12, 4), (12, 5), (12, 6), (12, 7), (12, 8), (12, 24), (12, 25), (12, 26), (12, 27)] δ r1246.2 ∧ q_V r1246.2 = q_V δ ∧ kr ad [100, 112, 113, 114, 115, 116, 117] δ r1246.2) ∧ (0 ≤ (x1).toInt ∧ (x1).toInt ≤ (q_I δ 12 2 a0).toInt → (q_I r1246.2 12 2 a0).toInt = 0) ∧ ((x1).toInt < 0 ∨ (q_I δ 12 2 a0).toInt < (x1).toInt → (q_I r1246.2 12 2 a0).toInt = (q_I δ 12 2 a0).toInt) from ⟨i1248, ⟨kp_w (by decide) u1253, v1254, kr_w (by decide) v1255⟩, by first | assumption | omega, by first | assumption | omega⟩)
          · have c1341 : r932.1.toInt ≠ (0 : Int) := o_ne h961
            unfold J_X12_thief_79
            have f1344 := cb_12_24 i934 k_a0
            have f1345 : (q_I r932.2 12 24 a0).toInt = (q_I d926 12 24 a0).toInt := congrArg Int32.toInt (u938 12 24 a0 (by decide))
            have f1346 := cb_12_24 i928 k_a0
            have f1347 : (q_I d926 12 24 a0).toInt = (q_I d920 12 24 a0).toInt := congrArg Int32.toInt (by rw [e927]; exact rI_o (by decide))
            have f1348 := cb_12_24 i922 k_a0
            have f1349 : (q_I d920 12 24 a0).toInt = (q_I d914 12 24 a0).toInt := congrArg Int32.toInt (by rw [e921]; exact rI_o (by decide))
            have f1350 := cb_12_24 i916 k_a0
            have f1351 : (q_I d914 12 24 a0).toInt = (q_I r884 12 24 a0).toInt := congrArg Int32.toInt (by rw [e915]; exact rI_o (by decide))
            have f1352 := cb_12_26 i934 k_a0
            have f1353 : (q_I r932.2 12 26 a0).toInt = (q_I d926 12 26 a0).toInt := congrArg Int32.toInt (u938 12 26 a0 (by decide))
            have f1354 := cb_12_26 i928 k_a0
            have f1355 : (q_I d926 12 26 a0).toInt = (q_I d920 12 26 a0).toInt := congrArg Int32.toInt (by rw [e927]; exact rI_o (by decide))
            have f1356 := cb_12_26 i922 k_a0
            have f1357 : (q_I d920 12 26 a0).toInt = (0 : Int) := congrArg Int32.toInt (show q_I d920 12 26 a0 = (0 : Int32) by rw [e921]; exact rI_s)
            have f1358 := ti_b (q_I r932.2 12 7 a0)
            have f1359 : (q_I r932.2 12 7 a0).toInt = (q_I d926 12 7 a0).toInt := congrArg Int32.toInt (u938 12 7 a0 (by decide))
            have f1360 := ti_b (q_I d926 12 7 a0)
            have f1361 : (q_I d926 12 7 a0).toInt = (q_I d920 12 7 a0).toInt := congrArg Int32.toInt (by rw [e927]; exact rI_o (by decide))
            have f1362 := ti_b (q_I d920 12 7 a0)
            have f1363 : (q_I d920 12 7 a0).toInt = (q_I d914 12 7 a0).toInt := congrArg Int32.toInt (by rw [e921]; exact rI_o (by decide))
            have f1364 := ti_b (q_I d914 12 7 a0)
            have f1365 : (q_I d914 12 7 a0).toInt = (q_I r884 12 7 a0).toInt := congrArg Int32.toInt (by rw [e915]; exact rI_o (by decide))
            have f1366 := cb_12_27 i934 k_a0
            have f1367 : (q_I r932.2 12 27 a0).toInt = (q_I d926 12 27 a0).toInt := congrArg Int32.toInt (u938 12 27 a0 (by decide))
            have f1368 := cb_12_27 i928 k_a0
            have f1369 : (q_I d926 12 27 a0).toInt = (0 : Int) := congrArg Int32.toInt (show q_I d926 12 27 a0 = (0 : Int32) by rw [e927]; exact rI_s)
            refine ok_bind (k_X12_readSteps L hN (a0 := a0) k_a0 (show (q_I r932.2 12 24 a0).toInt ≤ 3 by first | assumption | omega) (show (q_I r932.2 12 26 a0).toInt ≤ (q_I r932.2 12 4 a0).toInt by first | assumption | omega) (show (q_I r932.2 12 7 a0).toInt = 0 by first | assumption | omega) (show 4 - (q_I r932.2 12 27 a0).toInt < 20 by first | assumption | omega) i934) (fun r1342 hr1343 => ?_)
            obtain ⟨i1370, ⟨u1376, u1377, u1378⟩, p1371, p1372, p1373, p1374, p1375⟩ := hr1343
            have u1379 := kp_t u942 u1376
            have v1380 : q_V r1342 = q_V δ := (u1377).trans v943
            have v1381 := kr_t v944 u1378
            have f1382 := cb_12_4 i1370 k_a0
            have f1383 := ti_b (q_I r932.2 12 5 a0)
            have f1384 : (q_I r932.2 12 5 a0).toInt = (q_I d926 12 5 a0).toInt := congrArg Int32.toInt (u938 12 5 a0 (by decide))
            have f1385 := ti_b (q_I d926 12 5 a0)
            have f1386 : (q_I d926 12 5 a0).toInt = (q_I d920 12 5 a0).toInt := congrArg Int32.toInt (by rw [e927]; exact rI_o (by decide))
            have f1387 := ti_b (q_I d920 12 5 a0)
            have f1388 : (q_I d920 12 5 a0).toInt = (q_I d914 12 5 a0).toInt := congrArg Int32.toInt (by rw [e921]; exact rI_o (by decide))
            have f1389 := ti_b (q_I d914 12 5 a0)
            have f1390 : (q_I d914 12 5 a0).toInt = (q_I r884 12 5 a0).toInt := congrArg Int32.toInt (by rw [e915]; exact rI_o (by decide))
            have f1391 := ti_b (q_I r1342 12 5 a0)
            have f1392 := ti_b (q_I r1342 12 7 a0)
            have f1393 := cb_12_27 i1370 k_a0
            have f1394 := cb_12_26 i1370 k_a0
            refine ok_bind (k_X12_fine L hN (a0 := a0) k_a0 i1370) (fun r1395 hr1396 => ?_)
            obtain ⟨i1397, p1398, p1399, p1400⟩ := hr1396
            try rw [i1397]
            have f1401 := bo_t p1398
            have f1402 := ti_b r1395.1
            have f1403 := ti_b r1395.1
            refine ok_ite (fun h1404 => ?_) (fun h1404 => ?_)
            · have c1405 : r1395.1.toInt = (0 : Int) := o_eq h1404
              unfold J_X12_thief_106
              refine ok_bind (k_X12_result L hN (a0 := a0) (x1 := (q_I r1342 12 24 a0)) k_a0 i1370) (fun r1406 hr1407 => ?_)
              obtain ⟨i1408, ⟨u1409, u1410, u1411, u1412⟩⟩ := hr1407
              have u1413 := kp_t u1379 u1409
              have v1414 : q_V r1406.2 = q_V δ := (u1410).trans v1380
              have v1415 := kr_t v1381 u1412
              have f1416 := ti_b r1406.1
              have f1417 := cb_12_24 i1408 k_a0
              have f1418 : (q_I r1406.2 12 24 a0).toInt = (q_I r1342 12 24 a0).toInt := congrArg Int32.toInt (u1409 12 24 a0 (by decide))
              have f1419 := cb_12_24 i1370 k_a0
              have f1420 : (q_I r1342 12 24 a0).toInt = (q_I r932.2 12 24 a0).toInt := congrArg Int32.toInt (u1376 12 24 a0 (by decide))
              refine ok_ite (fun h1421 => ?_) (fun h1421 => ?_)
              · have c1422 : r1406.1.toInt = (q_I r1406.2 12 24 a0).toInt := o_eq h1421
                obtain ⟨b1423, o1424, k1425, n1426⟩ := gO_12_28 L k_a0
                obtain rfl := gS_12_28 L k_a0 o1424
                refine ok_at o1424 ?_
                have t1427 := ti_tn (q_I r1406.2 12 24 a0)
                refine ok_gd (fun hc1428 => ?_) ?_
                · rcases hc1428 with hc1428 | hc1428
                  · have c1429 : (q_I r1406.2 12 24 a0).toInt < (0 : Int) := o_lt hc1428
                    omega
                  · omega
                have f1433 := cb_12_25 i1408 k_a0
                have f1434 : (q_I r1406.2 12 25 a0).toInt = (q_I r1342 12 25 a0).toInt := congrArg Int32.toInt (u1409 12 25 a0 (by decide))
                have f1435 := cb_12_25 i1370 k_a0
                refine ok_bdv (fun d1430 e1431 => ?_)
                have i1432 : RI ad h.1 δ0 d1430 := by rw [e1431]; exact cr_112 L i1408 (show 0 ≤ (q_I r1406.2 12 25 a0).toInt by omega) (show (q_I r1406.2 12 25 a0).toInt ≤ 60 by omega)
                have u1436 := kp_N u1413 (show q_I d1430 = q_I r1406.2 by rw [e1431]; rfl)
                have v1437 : q_V d1430 = q_V δ := ((show q_V d1430 = q_V r1406.2 by rw [e1431]; rfl)).trans v1414
                have v1438 := kr_s L (by decide) v1415 e1431
                have f1442 := cb_12_24 i1432 k_a0
                have f1443 : (q_I d1430 12 24 a0).toInt = (q_I r1406.2 12 24 a0).toInt := congrArg Int32.toInt (by rw [e1431]; rfl)
                first | (have q1445 := te_addc (c := 1) (n := 1) rfl (q_I d1430 12 24 a0) (by omega) (by omega); obtain ⟨f1446, f1447, f1448⟩ := q1445) | (obtain ⟨q1445, f1446, f1447, f1448⟩ := ti_addc (c := 1) (n := 1) rfl (q_I d1430 12 24 a0))
                refine ok_bdv (fun d1439 e1440 => ?_)
                have i1441 : RI ad h.1 δ0 d1439 := by rw [e1440]; exact cs_12_24 L i1432 k_a0 (show 0 ≤ ((q_I d1430 12 24 a0) + (1 : Int32)).toInt by omega) (show ((q_I d1430 12 24 a0) + (1 : Int32)).toInt ≤ 4 by omega)
                have u1449 := kp_I u1436 e1440
                have v1450 : q_V d1439 = q_V δ := ((show q_V d1439 = q_V d1430 by rw [e1440]; rfl)).trans v1437
                have v1451 := kr_N v1438 (show q_R d1439 = q_R d1430 by rw [e1440]; rfl)
                unfold J_X12_thief_146
                have f1452 := cb_12_2 i1441 k_a0
                have f1453 : (q_I d1439 12 2 a0).toInt = (q_I d1430 12 2 a0).toInt := congrArg Int32.toInt (by rw [e1440]; exact rI_o (by decide))
                have f1454 := cb_12_2 i1432 k_a0
                have f1455 : (q_I d1430 12 2 a0).toInt = (q_I r1406.2 12 2 a0).toInt := congrArg Int32.toInt (by rw [e1431]; rfl)
                have f1456 := cb_12_2 i1408 k_a0
                have f1457 : (q_I r1406.2 12 2 a0).toInt = (q_I r1342 12 2 a0).toInt := congrArg Int32.toInt (u1409 12 2 a0 (by decide))
                have f1458 := cb_12_2 i1370 k_a0
                have f1459 : (q_I r1342 12 2 a0).toInt = (q_I r932.2 12 2 a0).toInt := congrArg Int32.toInt (u1376 12 2 a0 (by decide))
                have f1460 := cb_12_2 i934 k_a0
                have f1461 : (q_I r932.2 12 2 a0).toInt = (q_I d926 12 2 a0).toInt := congrArg Int32.toInt (u938 12 2 a0 (by decide))
                have f1462 := cb_12_2 i928 k_a0
                have f1463 : (q_I d926 12 2 a0).toInt = (q_I d920 12 2 a0).toInt := congrArg Int32.toInt (by rw [e927]; exact rI_o (by decide))
                have f1464 := cb_12_2 i922 k_a0
                have f1465 : (q_I d920 12 2 a0).toInt = (q_I d914 12 2 a0).toInt := congrArg Int32.toInt (by rw [e921]; exact rI_o (by decide))
                have f1466 := cb_12_2 i916 k_a0
                have f1467 : (q_I d914 12 2 a0).toInt = (q_I r884 12 2 a0).toInt := congrArg Int32.toInt (by rw [e915]; exact rI_o (by decide))
                exact ok_some (show RI ad h.1 δ0 d1439 ∧ (kp [(12, 0), (12, 2), (12, 3), (12, 4), (12, 5), (12, 6), (12, 7), (12, 8), (12, 24), (12, 25), (12, 26), (12, 27)] δ d1439 ∧ q_V d1439 = q_V δ ∧ kr ad [100, 112, 113, 114, 115, 116, 117] δ d1439) ∧ (0 ≤ (x1).toInt ∧ (x1).toInt ≤ (q_I δ 12 2 a0).toInt → (q_I d1439 12 2 a0).toInt = 0) ∧ ((x1).toInt < 0 ∨ (q_I δ 12 2 a0).toInt < (x1).toInt → (q_I d1439 12 2 a0).toInt = (q_I δ 12 2 a0).toInt) from ⟨i1441, ⟨kp_w (by decide) u1449, v1450, kr_w (by decide) v1451⟩, by first | assumption | omega, by first | assumption | omega⟩)
              · have c1468 : r1406.1.toInt ≠ (q_I r1406.2 12 24 a0).toInt := o_ne h1421
                unfold J_X12_thief_146
                have f1469 := cb_12_2 i1408 k_a0
                have f1470 : (q_I r1406.2 12 2 a0).toInt = (q_I r1342 12 2 a0).toInt := congrArg Int32.toInt (u1409 12 2 a0 (by decide))
                have f1471 := cb_12_2 i1370 k_a0
                have f1472 : (q_I r1342 12 2 a0).toInt = (q_I r932.2 12 2 a0).toInt := congrArg Int32.toInt (u1376 12 2 a0 (by decide))
                have f1473 := cb_12_2 i934 k_a0
                have f1474 : (q_I r932.2 12 2 a0).toInt = (q_I d926 12 2 a0).toInt := congrArg Int32.toInt (u938 12 2 a0 (by decide))
                have f1475 := cb_12_2 i928 k_a0
                have f1476 : (q_I d926 12 2 a0).toInt = (q_I d920 12 2 a0).toInt := congrArg Int32.toInt (by rw [e927]; exact rI_o (by decide))
                have f1477 := cb_12_2 i922 k_a0
                have f1478 : (q_I d920 12 2 a0).toInt = (q_I d914 12 2 a0).toInt := congrArg Int32.toInt (by rw [e921]; exact rI_o (by decide))
                have f1479 := cb_12_2 i916 k_a0
                have f1480 : (q_I d914 12 2 a0).toInt = (q_I r884 12 2 a0).toInt := congrArg Int32.toInt (by rw [e915]; exact rI_o (by decide))
                exact ok_some (show RI ad h.1 δ0 r1406.2 ∧ (kp [(12, 0), (12, 2), (12, 3), (12, 4), (12, 5), (12, 6), (12, 7), (12, 8), (12, 24), (12, 25), (12, 26), (12, 27)] δ r1406.2 ∧ q_V r1406.2 = q_V δ ∧ kr ad [100, 112, 113, 114, 115, 116, 117] δ r1406.2) ∧ (0 ≤ (x1).toInt ∧ (x1).toInt ≤ (q_I δ 12 2 a0).toInt → (q_I r1406.2 12 2 a0).toInt = 0) ∧ ((x1).toInt < 0 ∨ (q_I δ 12 2 a0).toInt < (x1).toInt → (q_I r1406.2 12 2 a0).toInt = (q_I δ 12 2 a0).toInt) from ⟨i1408, ⟨kp_w (by decide) u1413, v1414, kr_w (by decide) v1415⟩, by first | assumption | omega, by first | assumption | omega⟩)
            · have c1481 : r1395.1.toInt ≠ (0 : Int) := o_ne h1404
              refine ok_bind (k_X12_isMore L hN (a0 := a0) k_a0 i1370) (fun r1482 hr1483 => ?_)
              obtain ⟨i1484, ⟨u1488, u1489, u1490, u1491⟩, p1485, p1486, p1487⟩ := hr1483
              have u1492 := kp_t u1379 u1488
              have v1493 : q_V r1482.2 = q_V δ := (u1489).trans v1380
              have v1494 := kr_t v1381 u1491
              have f1495 := bo_t p1485
              have f1496 := cb_12_4 i1484 k_a0
              have f1497 := ti_b r1482.1
              have f1498 := cb_12_3 i1370 k_a0
              have f1499 : (q_I r1342 12 3 a0).toInt = (q_I r932.2 12 3 a0).toInt := congrArg Int32.toInt (u1376 12 3 a0 (by decide))
              have f1500 := cb_12_3 i934 k_a0
              have f1501 : (q_I r932.2 12 3 a0).toInt = (q_I d926 12 3 a0).toInt := congrArg Int32.toInt (u938 12 3 a0 (by decide))
              have f1502 := ti_b r1482.1
              refine ok_ite (fun h1503 => ?_) (fun h1503 => ?_)
              · have c1504 : r1482.1.toInt = (0 : Int) := o_eq h1503
                unfold J_X12_thief_106
                refine ok_bind (k_X12_result L hN (a0 := a0) (x1 := (q_I r1482.2 12 24 a0)) k_a0 i1484) (fun r1505 hr1506 => ?_)
                obtain ⟨i1507, ⟨u1508, u1509, u1510, u1511⟩⟩ := hr1506
                have u1512 := kp_t u1492 u1508
                have v1513 : q_V r1505.2 = q_V δ := (u1509).trans v1493
                have v1514 := kr_t v1494 u1511
                have f1515 := ti_b r1505.1
                have f1516 := cb_12_24 i1507 k_a0
                have f1517 : (q_I r1505.2 12 24 a0).toInt = (q_I r1482.2 12 24 a0).toInt := congrArg Int32.toInt (u1508 12 24 a0 (by decide))
                have f1518 := cb_12_24 i1484 k_a0
                have f1519 : (q_I r1482.2 12 24 a0).toInt = (q_I r1342 12 24 a0).toInt := congrArg Int32.toInt (u1488 12 24 a0 (by decide))
                have f1520 := cb_12_24 i1370 k_a0
                have f1521 : (q_I r1342 12 24 a0).toInt = (q_I r932.2 12 24 a0).toInt := congrArg Int32.toInt (u1376 12 24 a0 (by decide))
                refine ok_ite (fun h1522 => ?_) (fun h1522 => ?_)
                · have c1523 : r1505.1.toInt = (q_I r1505.2 12 24 a0).toInt := o_eq h1522
                  obtain ⟨b1524, o1525, k1526, n1527⟩ := gO_12_28 L k_a0
                  obtain rfl := gS_12_28 L k_a0 o1525
                  refine ok_at o1525 ?_
                  have t1528 := ti_tn (q_I r1505.2 12 24 a0)
                  refine ok_gd (fun hc1529 => ?_) ?_
                  · rcases hc1529 with hc1529 | hc1529
                    · have c1530 : (q_I r1505.2 12 24 a0).toInt < (0 : Int) := o_lt hc1529
                      omega
                    · omega
                  have f1534 := cb_12_25 i1507 k_a0
                  have f1535 : (q_I r1505.2 12 25 a0).toInt = (q_I r1482.2 12 25 a0).toInt := congrArg Int32.toInt (u1508 12 25 a0 (by decide))
                  have f1536 := cb_12_25 i1484 k_a0
                  have f1537 : (q_I r1482.2 12 25 a0).toInt = (q_I r1342 12 25 a0).toInt := congrArg Int32.toInt (u1488 12 25 a0 (by decide))
                  have f1538 := cb_12_25 i1370 k_a0
                  refine ok_bdv (fun d1531 e1532 => ?_)
                  have i1533 : RI ad h.1 δ0 d1531 := by rw [e1532]; exact cr_112 L i1507 (show 0 ≤ (q_I r1505.2 12 25 a0).toInt by omega) (show (q_I r1505.2 12 25 a0).toInt ≤ 60 by omega)
                  have u1539 := kp_N u1512 (show q_I d1531 = q_I r1505.2 by rw [e1532]; rfl)
                  have v1540 : q_V d1531 = q_V δ := ((show q_V d1531 = q_V r1505.2 by rw [e1532]; rfl)).trans v1513
                  have v1541 := kr_s L (by decide) v1514 e1532
                  have f1545 := cb_12_24 i1533 k_a0
                  have f1546 : (q_I d1531 12 24 a0).toInt = (q_I r1505.2 12 24 a0).toInt := congrArg Int32.toInt (by rw [e1532]; rfl)
                  first | (have q1548 := te_addc (c := 1) (n := 1) rfl (q_I d1531 12 24 a0) (by omega) (by omega); obtain ⟨f1549, f1550, f1551⟩ := q1548) | (obtain ⟨q1548, f1549, f1550, f1551⟩ := ti_addc (c := 1) (n := 1) rfl (q_I d1531 12 24 a0))
                  refine ok_bdv (fun d1542 e1543 => ?_)
                  have i1544 : RI ad h.1 δ0 d1542 := by rw [e1543]; exact cs_12_24 L i1533 k_a0 (show 0 ≤ ((q_I d1531 12 24 a0) + (1 : Int32)).toInt by omega) (show ((q_I d1531 12 24 a0) + (1 : Int32)).toInt ≤ 4 by omega)
                  have u1552 := kp_I u1539 e1543
                  have v1553 : q_V d1542 = q_V δ := ((show q_V d1542 = q_V d1531 by rw [e1543]; rfl)).trans v1540
                  have v1554 := kr_N v1541 (show q_R d1542 = q_R d1531 by rw [e1543]; rfl)
                  unfold J_X12_thief_146
                  have f1555 := cb_12_2 i1544 k_a0
                  have f1556 : (q_I d1542 12 2 a0).toInt = (q_I d1531 12 2 a0).toInt := congrArg Int32.toInt (by rw [e1543]; exact rI_o (by decide))
                  have f1557 := cb_12_2 i1533 k_a0
                  have f1558 : (q_I d1531 12 2 a0).toInt = (q_I r1505.2 12 2 a0).toInt := congrArg Int32.toInt (by rw [e1532]; rfl)
                  have f1559 := cb_12_2 i1507 k_a0
                  have f1560 : (q_I r1505.2 12 2 a0).toInt = (q_I r1482.2 12 2 a0).toInt := congrArg Int32.toInt (u1508 12 2 a0 (by decide))
                  have f1561 := cb_12_2 i1484 k_a0
                  have f1562 : (q_I r1482.2 12 2 a0).toInt = (q_I r1342 12 2 a0).toInt := congrArg Int32.toInt (u1488 12 2 a0 (by decide))
                  have f1563 := cb_12_2 i1370 k_a0
                  have f1564 : (q_I r1342 12 2 a0).toInt = (q_I r932.2 12 2 a0).toInt := congrArg Int32.toInt (u1376 12 2 a0 (by decide))
                  have f1565 := cb_12_2 i934 k_a0
                  have f1566 : (q_I r932.2 12 2 a0).toInt = (q_I d926 12 2 a0).toInt := congrArg Int32.toInt (u938 12 2 a0 (by decide))
                  have f1567 := cb_12_2 i928 k_a0
                  have f1568 : (q_I d926 12 2 a0).toInt = (q_I d920 12 2 a0).toInt := congrArg Int32.toInt (by rw [e927]; exact rI_o (by decide))
                  have f1569 := cb_12_2 i922 k_a0
                  have f1570 : (q_I d920 12 2 a0).toInt = (q_I d914 12 2 a0).toInt := congrArg Int32.toInt (by rw [e921]; exact rI_o (by decide))
                  have f1571 := cb_12_2 i916 k_a0
                  have f1572 : (q_I d914 12 2 a0).toInt = (q_I r884 12 2 a0).toInt := congrArg Int32.toInt (by rw [e915]; exact rI_o (by decide))
                  exact ok_some (show RI ad h.1 δ0 d1542 ∧ (kp [(12, 0), (12, 2), (12, 3), (12, 4), (12, 5), (12, 6), (12, 7), (12, 8), (12, 24), (12, 25), (12, 26), (12, 27)] δ d1542 ∧ q_V d1542 = q_V δ ∧ kr ad [100, 112, 113, 114, 115, 116, 117] δ d1542) ∧ (0 ≤ (x1).toInt ∧ (x1).toInt ≤ (q_I δ 12 2 a0).toInt → (q_I d1542 12 2 a0).toInt = 0) ∧ ((x1).toInt < 0 ∨ (q_I δ 12 2 a0).toInt < (x1).toInt → (q_I d1542 12 2 a0).toInt = (q_I δ 12 2 a0).toInt) from ⟨i1544, ⟨kp_w (by decide) u1552, v1553, kr_w (by decide) v1554⟩, by first | assumption | omega, by first | assumption | omega⟩)
                · have c1573 : r1505.1.toInt ≠ (q_I r1505.2 12 24 a0).toInt := o_ne h1522
                  unfold J_X12_thief_146
                  have f1574 := cb_12_2 i1507 k_a0
                  have f1575 : (q_I r1505.2 12 2 a0).toInt = (q_I r1482.2 12 2 a0).toInt := congrArg Int32.toInt (u1508 12 2 a0 (by decide))
                  have f1576 := cb_12_2 i1484 k_a0
                  have f1577 : (q_I r1482.2 12 2 a0).toInt = (q_I r1342 12 2 a0).toInt := congrArg Int32.toInt (u1488 12 2 a0 (by decide))
                  have f1578 := cb_12_2 i1370 k_a0
                  have f1579 : (q_I r1342 12 2 a0).toInt = (q_I r932.2 12 2 a0).toInt := congrArg Int32.toInt (u1376 12 2 a0 (by decide))
                  have f1580 := cb_12_2 i934 k_a0
                  have f1581 : (q_I r932.2 12 2 a0).toInt = (q_I d926 12 2 a0).toInt := congrArg Int32.toInt (u938 12 2 a0 (by decide))
                  have f1582 := cb_12_2 i928 k_a0
                  have f1583 : (q_I d926 12 2 a0).toInt = (q_I d920 12 2 a0).toInt := congrArg Int32.toInt (by rw [e927]; exact rI_o (by decide))
                  have f1584 := cb_12_2 i922 k_a0
                  have f1585 : (q_I d920 12 2 a0).toInt = (q_I d914 12 2 a0).toInt := congrArg Int32.toInt (by rw [e921]; exact rI_o (by decide))
                  have f1586 := cb_12_2 i916 k_a0
                  have f1587 : (q_I d914 12 2 a0).toInt = (q_I r884 12 2 a0).toInt := congrArg Int32.toInt (by rw [e915]; exact rI_o (by decide))
                  exact ok_some (show RI ad h.1 δ0 r1505.2 ∧ (kp [(12, 0), (12, 2), (12, 3), (12, 4), (12, 5), (12, 6), (12, 7), (12, 8), (12, 24), (12, 25), (12, 26), (12, 27)] δ r1505.2 ∧ q_V r1505.2 = q_V δ ∧ kr ad [100, 112, 113, 114, 115, 116, 117] δ r1505.2) ∧ (0 ≤ (x1).toInt ∧ (x1).toInt ≤ (q_I δ 12 2 a0).toInt → (q_I r1505.2 12 2 a0).toInt = 0) ∧ ((x1).toInt < 0 ∨ (q_I δ 12 2 a0).toInt < (x1).toInt → (q_I r1505.2 12 2 a0).toInt = (q_I δ 12 2 a0).toInt) from ⟨i1507, ⟨kp_w (by decide) u1512, v1513, kr_w (by decide) v1514⟩, by first | assumption | omega, by first | assumption | omega⟩)
              · have c1588 : r1482.1.toInt ≠ (0 : Int) := o_ne h1503
                refine ok_bind (k_X12_wrong L hN (a0 := a0) (x1 := (1 : Int32)) (x2 := (q_I r1482.2 12 4 a0)) k_a0 (show 0 ≤ ((q_I r1482.2 12 4 a0)).toInt by first | assumption | omega) i1484) (fun r1589 hr1590 => ?_)
                obtain ⟨i1591, ⟨u1593, u1594, u1595, u1596⟩, p1592⟩ := hr1590
                have u1597 := kp_t u1492 u1593
                have v1598 : q_V r1589 = q_V δ := (u1594).trans v1493
                have v1599 := kr_t v1494 u1596
                have f1600 := ti_b (q_I r1589 12 5 a0)
                unfold J_X12_thief_106
                refine ok_bind (k_X12_result L hN (a0 := a0) (x1 := (q_I r1589 12 24 a0)) k_a0 i1591) (fun r1601 hr1602 => ?_)
                obtain ⟨i1603, ⟨u1604, u1605, u1606, u1607⟩⟩ := hr1602
                have u1608 := kp_t u1597 u1604
                have v1609 : q_V r1601.2 = q_V δ := (u1605).trans v1598
                have v1610 := kr_t v1599 u1607
                have f1611 := ti_b r1601.1
                have f1612 := cb_12_24 i1603 k_a0
                have f1613 : (q_I r1601.2 12 24 a0).toInt = (q_I r1589 12 24 a0).toInt := congrArg Int32.toInt (u1604 12 24 a0 (by decide))
                have f1614 := cb_12_24 i1591 k_a0
                have f1615 : (q_I r1589 12 24 a0).toInt = (q_I r1482.2 12 24 a0).toInt := congrArg Int32.toInt (u1593 12 24 a0 (by decide))
                have f1616 := cb_12_24 i1484 k_a0
                have f1617 : (q_I r1482.2 12 24 a0).toInt = (q_I r1342 12 24 a0).toInt := congrArg Int32.toInt (u1488 12 24 a0 (by decide))
                have f1618 := cb_12_24 i1370 k_a0
                have f1619 : (q_I r1342 12 24 a0).toInt = (q_I r932.2 12 24 a0).toInt := congrArg Int32.toInt (u1376 12 24 a0 (by decide))
                refine ok_ite (fun h1620 => ?_) (fun h1620 => ?_)
                · have c1621 : r1601.1.toInt = (q_I r1601.2 12 24 a0).toInt := o_eq h1620
                  obtain ⟨b1622, o1623, k1624, n1625⟩ := gO_12_28 L k_a0
                  obtain rfl := gS_12_28 L k_a0 o1623
                  refine ok_at o1623 ?_
                  have t1626 := ti_tn (q_I r1601.2 12 24 a0)
                  refine ok_gd (fun hc1627 => ?_) ?_
                  · rcases hc1627 with hc1627 | hc1627
                    · have c1628 : (q_I r1601.2 12 24 a0).toInt < (0 : Int) := o_lt hc1627
                      omega
                    · omega
                  have f1632 := cb_12_25 i1603 k_a0
                  have f1633 : (q_I r1601.2 12 25 a0).toInt = (q_I r1589 12 25 a0).toInt := congrArg Int32.toInt (u1604 12 25 a0 (by decide))
                  have f1634 := cb_12_25 i1591 k_a0
                  have f1635 : (q_I r1589 12 25 a0).toInt = (q_I r1482.2 12 25 a0).toInt := congrArg Int32.toInt (u1593 12 25 a0 (by decide))
                  have f1636 := cb_12_25 i1484 k_a0
                  have f1637 : (q_I r1482.2 12 25 a0).toInt = (q_I r1342 12 25 a0).toInt := congrArg Int32.toInt (u1488 12 25 a0 (by decide))
                  have f1638 := cb_12_25 i1370 k_a0
                  refine ok_bdv (fun d1629 e1630 => ?_)
                  have i1631 : RI ad h.1 δ0 d1629 := by rw [e1630]; exact cr_112 L i1603 (show 0 ≤ (q_I r1601.2 12 25 a0).toInt by omega) (show (q_I r1601.2 12 25 a0).toInt ≤ 60 by omega)
                  have u1639 := kp_N u1608 (show q_I d1629 = q_I r1601.2 by rw [e1630]; rfl)
                  have v1640 : q_V d1629 = q_V δ := ((show q_V d1629 = q_V r1601.2 by rw [e1630]; rfl)).trans v1609
                  have v1641 := kr_s L (by decide) v1610 e1630
                  have f1645 := cb_12_24 i1631 k_a0
                  have f1646 : (q_I d1629 12 24 a0).toInt = (q_I r1601.2 12 24 a0).toInt := congrArg Int32.toInt (by rw [e1630]; rfl)
                  first | (have q1648 := te_addc (c := 1) (n := 1) rfl (q_I d1629 12 24 a0) (by omega) (by omega); obtain ⟨f1649, f1650, f1651⟩ := q1648) | (obtain ⟨q1648, f1649, f1650, f1651⟩ := ti_addc (c := 1) (n := 1) rfl (q_I d1629 12 24 a0))
                  refine ok_bdv (fun d1642 e1643 => ?_)
                  have i1644 : RI ad h.1 δ0 d1642 := by rw [e1643]; exact cs_12_24 L i1631 k_a0 (show 0 ≤ ((q_I d1629 12 24 a0) + (1 : Int32)).toInt by omega) (show ((q_I d1629 12 24 a0) + (1 : Int32)).toInt ≤ 4 by omega)
                  have u1652 := kp_I u1639 e1643
                  have v1653 : q_V d1642 = q_V δ := ((show q_V d1642 = q_V d1629 by rw [e1643]; rfl)).trans v1640
                  have v1654 := kr_N v1641 (show q_R d1642 = q_R d1629 by rw [e1643]; rfl)
                  unfold J_X12_thief_146
                  have f1655 := cb_12_2 i1644 k_a0
                  have f1656 : (q_I d1642 12 2 a0).toInt = (q_I d1629 12 2 a0).toInt := congrArg Int32.toInt (by rw [e1643]; exact rI_o (by decide))
                  have f1657 := cb_12_2 i1631 k_a0
                  have f1658 : (q_I d1629 12 2 a0).toInt = (q_I r1601.2 12 2 a0).toInt := congrArg Int32.toInt (by rw [e1630]; rfl)
                  have f1659 := cb_12_2 i1603 k_a0
                  have f1660 : (q_I r1601.2 12 2 a0).toInt = (q_I r1589 12 2 a0).toInt := congrArg Int32.toInt (u1604 12 2 a0 (by decide))
                  have f1661 := cb_12_2 i1591 k_a0
                  have f1662 : (q_I r1589 12 2 a0).toInt = (q_I r1482.2 12 2 a0).toInt := congrArg Int32.toInt (u1593 12 2 a0 (by decide))
                  have f1663 := cb_12_2 i1484 k_a0
                  have f1664 : (q_I r1482.2 12 2 a0).toInt = (q_I r1342 12 2 a0).toInt := congrArg Int32.toInt (u1488 12 2 a0 (by decide))
                  have f1665 := cb_12_2 i1370 k_a0
                  have f1666 : (q_I r1342 12 2 a0).toInt = (q_I r932.2 12 2 a0).toInt := congrArg Int32.toInt (u1376 12 2 a0 (by decide))
                  have f1667 := cb_12_2 i934 k_a0
                  have f1668 : (q_I r932.2 12 2 a0).toInt = (q_I d926 12 2 a0).toInt := congrArg Int32.toInt (u938 12 2 a0 (by decide))
                  have f1669 := cb_12_2 i928 k_a0
                  have f1670 : (q_I d926 12 2 a0).toInt = (q_I d920 12 2 a0).toInt := congrArg Int32.toInt (by rw [e927]; exact rI_o (by decide))
                  have f1671 := cb_12_2 i922 k_a0
                  have f1672 : (q_I d920 12 2 a0).toInt = (q_I d914 12 2 a0).toInt := congrArg Int32.toInt (by rw [e921]; exact rI_o (by decide))
                  have f1673 := cb_12_2 i916 k_a0
                  have f1674 : (q_I d914 12 2 a0).toInt = (q_I r884 12 2 a0).toInt := congrArg Int32.toInt (by rw [e915]; exact rI_o (by decide))
                  exact ok_some (show RI ad h.1 δ0 d1642 ∧ (kp [(12, 0), (12, 2), (12, 3), (12, 4), (12, 5), (12, 6), (12, 7), (12, 8), (12, 24), (12, 25), (12, 26), (12, 27)] δ d1642 ∧ q_V d1642 = q_V δ ∧ kr ad [100, 112, 113, 114, 115, 116, 117] δ d1642) ∧ (0 ≤ (x1).toInt ∧ (x1).toInt ≤ (q_I δ 12 2 a0).toInt → (q_I d1642 12 2 a0).toInt = 0) ∧ ((x1).toInt < 0 ∨ (q_I δ 12 2 a0).toInt < (x1).toInt → (q_I d1642 12 2 a0).toInt = (q_I δ 12 2 a0).toInt) from ⟨i1644, ⟨kp_w (by decide) u1652, v1653, kr_w (by decide) v1654⟩, by first | assumption | omega, by first | assumption | omega⟩)
                · have c1675 : r1601.1.toInt ≠ (q_I r1601.2 12 24 a0).toInt := o_ne h1620
                  unfold J_X12_thief_146
                  have f1676 := cb_12_2 i1603 k_a0
                  have f1677 : (q_I r1601.2 12 2 a0).toInt = (q_I r1589 12 2 a0).toInt := congrArg Int32.toInt (u1604 12 2 a0 (by decide))
                  have f1678 := cb_12_2 i1591 k_a0
                  have f1679 : (q_I r1589 12 2 a0).toInt = (q_I r1482.2 12 2 a0).toInt := congrArg Int32.toInt (u1593 12 2 a0 (by decide))
                  have f1680 := cb_12_2 i1484 k_a0
                  have f1681 : (q_I r1482.2 12 2 a0).toInt = (q_I r1342 12 2 a0).toInt := congrArg Int32.toInt (u1488 12 2 a0 (by decide))
                  have f1682 := cb_12_2 i1370 k_a0
                  have f1683 : (q_I r1342 12 2 a0).toInt = (q_I r932.2 12 2 a0).toInt := congrArg Int32.toInt (u1376 12 2 a0 (by decide))
                  have f1684 := cb_12_2 i934 k_a0
                  have f1685 : (q_I r932.2 12 2 a0).toInt = (q_I d926 12 2 a0).toInt := congrArg Int32.toInt (u938 12 2 a0 (by decide))
                  have f1686 := cb_12_2 i928 k_a0
                  have f1687 : (q_I d926 12 2 a0).toInt = (q_I d920 12 2 a0).toInt := congrArg Int32.toInt (by rw [e927]; exact rI_o (by decide))
                  have f1688 := cb_12_2 i922 k_a0
                  have f1689 : (q_I d920 12 2 a0).toInt = (q_I d914 12 2 a0).toInt := congrArg Int32.toInt (by rw [e921]; exact rI_o (by decide))
                  have f1690 := cb_12_2 i916 k_a0
                  have f1691 : (q_I d914 12 2 a0).toInt = (q_I r884 12 2 a0).toInt := congrArg Int32.toInt (by rw [e915]; exact rI_o (by decide))
                  exact ok_some (show RI ad h.1 δ0 r1601.2 ∧ (kp [(12, 0), (12, 2), (12, 3), (12, 4), (12, 5), (12, 6), (12, 7), (12, 8), (12, 24), (12, 25), (12, 26), (12, 27)] δ r1601.2 ∧ q_V r1601.2 = q_V δ ∧ kr ad [100, 112, 113, 114, 115, 116, 117] δ r1601.2) ∧ (0 ≤ (x1).toInt ∧ (x1).toInt ≤ (q_I δ 12 2 a0).toInt → (q_I r1601.2 12 2 a0).toInt = 0) ∧ ((x1).toInt < 0 ∨ (q_I δ 12 2 a0).toInt < (x1).toInt → (q_I r1601.2 12 2 a0).toInt = (q_I δ 12 2 a0).toInt) from ⟨i1603, ⟨kp_w (by decide) u1608, v1609, kr_w (by decide) v1610⟩, by first | assumption | omega, by first | assumption | omega⟩)
    · have c1692 : x1.toInt ≤ (q_I d1 12 2 a0).toInt := o_nlt h860
      unfold J_X12_thief_23
      refine ok_bind (k_X12_may L hN (a0 := a0) (x1 := (1 : Int32)) (x2 := (1 : Int32)) (x3 := (2 : Int32)) k_a0 (show (1 : Int) ≠ 0 by first | assumption | omega) (show 0 ≤ (2 : Int) by first | assumption | omega) (show (2 : Int) ≤ 2 by first | assumption | omega) i3) (fun r1693 hr1694 => ?_)
      obtain ⟨i1695, ⟨u1699, u1700, u1701⟩, p1696, p1697, p1698⟩ := hr1694
      have u1702 := kp_t u4 u1699
      have v1703 : q_V r1693.2 = q_V δ := (u1700).trans v5
      have v1704 := kr_t v6 u1701
      have f1705 := bo_t p1696
      have f1706 := ti_b r1693.1
      replace p1697 : ((r1693.1).toInt = 1 → (1 : Int) ≠ 0) := p1697
      have f1707 := ti_b (q_I d1 12 0 a0)
      have f1708 : (q_I d1 12 0 a0).toInt = (0 : Int) := congrArg Int32.toInt (show q_I d1 12 0 a0 = (0 : Int32) by rw [e2]; exact rI_s)
      replace p1698 : ((q_I d1 12 0 a0).toInt = 0 → (r1693.1).toInt = 0 → (1 : Int) = 0) := p1698
      have f1709 := ti_b r1693.1
      refine ok_ite (fun h1710 => ?_) (fun h1710 => ?_)
      · have c1711 : r1693.1.toInt = (0 : Int) := o_eq h1710
        have f1712 := cb_12_2 i1695 k_a0
        have f1713 : (q_I r1693.2 12 2 a0).toInt = (q_I d1 12 2 a0).toInt := congrArg Int32.toInt (u1699 12 2 a0 (by decide))
        exact ok_some (show RI ad h.1 δ0 r1693.2 ∧ (kp [(12, 0), (12, 2), (12, 3), (12, 4), (12, 5), (12, 6), (12, 7), (12, 8), (12, 24), (12, 25), (12, 26), (12, 27)] δ r1693.2 ∧ q_V r1693.2 = q_V δ ∧ kr ad [100, 112, 113, 114, 115, 116, 117] δ r1693.2) ∧ (0 ≤ (x1).toInt ∧ (x1).toInt ≤ (q_I δ 12 2 a0).toInt → (q_I r1693.2 12 2 a0).toInt = 0) ∧ ((x1).toInt < 0 ∨ (q_I δ 12 2 a0).toInt < (x1).toInt → (q_I r1693.2 12 2 a0).toInt = (q_I δ 12 2 a0).toInt) from ⟨i1695, ⟨kp_w (by decide) u1702, v1703, kr_w (by decide) v1704⟩, by first | assumption | omega, by first | assumption | omega⟩)
      · have c1714 : r1693.1.toInt ≠ (0 : Int) := o_ne h1710
        refine ok_bind (k_X12_begins L hN (a0 := a0) (x1 := x1) k_a0 (show 0 ≤ (x1).toInt by first | assumption | omega) (show (x1).toInt ≤ 500 by first | assumption | omega) i1695) (fun r1715 hr1716 => ?_)
        obtain ⟨i1717, ⟨u1723, u1724, u1725, u1726⟩, p1718, p1719, p1720, p1721, p1722⟩ := hr1716
        have u1727 := kp_t u1702 u1723
        have v1728 : q_V r1715 = q_V δ := (u1724).trans v1703
        have v1729 := kr_t v1704 u1726
        have f1730 := cb_12_2 i1717 k_a0
        have f1731 := cb_12_4 i1717 k_a0
        have f1732 := cb_12_3 i1717 k_a0
        have f1733 := ti_b (q_I r1715 12 5 a0)
        have f1734 := ti_b (q_I r1715 12 7 a0)
        have f1735 := cb_12_24 i1717 k_a0
        have f1736 : (q_I r1715 12 24 a0).toInt = (q_I r1693.2 12 24 a0).toInt := congrArg Int32.toInt (u1723 12 24 a0 (by decide))
        have f1737 := cb_12_24 i1695 k_a0
        have f1738 : (q_I r1693.2 12 24 a0).toInt = (q_I d1 12 24 a0).toInt := congrArg Int32.toInt (u1699 12 24 a0 (by decide))
        have f1739 := cb_12_24 i3 k_a0
        have f1740 : (q_I d1 12 24 a0).toInt = (q_I δ 12 24 a0).toInt := congrArg Int32.toInt (by rw [e2]; exact rI_o (by decide))
        have f1741 := cb_12_24 I k_a0
        refine ok_ite (fun h1742 => ?_) (fun h1742 => ?_)
        · have c1743 : (q_I r1715 12 24 a0).toInt = (4 : Int) := o_eq h1742
          exact ok_some (show RI ad h.1 δ0 r1715 ∧ (kp [(12, 0), (12, 2), (12, 3), (12, 4), (12, 5), (12, 6), (12, 7), (12, 8), (12, 24), (12, 25), (12, 26), (12, 27)] δ r1715 ∧ q_V r1715 = q_V δ ∧ kr ad [100, 112, 113, 114, 115, 116, 117] δ r1715) ∧ (0 ≤ (x1).toInt ∧ (x1).toInt ≤ (q_I δ 12 2 a0).toInt → (q_I r1715 12 2 a0).toInt = 0) ∧ ((x1).toInt < 0 ∨ (q_I δ 12 2 a0).toInt < (x1).toInt → (q_I r1715 12 2 a0).toInt = (q_I δ 12 2 a0).toInt) from ⟨i1717, ⟨kp_w (by decide) u1727, v1728, kr_w (by decide) v1729⟩, by first | assumption | omega, by first | assumption | omega⟩)
        · have c1744 : (q_I r1715 12 24 a0).toInt ≠ (4 : Int) := o_ne h1742
          refine ok_bdv (fun d1745 e1746 => ?_)
          have i1747 : RI ad h.1 δ0 d1745 := by rw [e1746]; exact cs_12_25 L i1717 k_a0 (show 0 ≤ (0 : Int) by omega) (show (0 : Int) ≤ 60 by omega)
          have u1748 := kp_I u1727 e1746
          have v1749 : q_V d1745 = q_V δ := ((show q_V d1745 = q_V r1715 by rw [e1746]; rfl)).trans v1728
          have v1750 := kr_N v1729 (show q_R d1745 = q_R r1715 by rw [e1746]; rfl)
          refine ok_bdv (fun d1751 e1752 => ?_)
          have i1753 : RI ad h.1 δ0 d1751 := by rw [e1752]; exact cs_12_26 L i1747 k_a0 (show 0 ≤ (0 : Int) by omega) (show (0 : Int) ≤ 500 by omega)
          have u1754 := kp_I u1748 e1752
          have v1755 : q_V d1751 = q_V δ := ((show q_V d1751 = q_V d1745 by rw [e1752]; rfl)).trans v1749
          have v1756 := kr_N v1750 (show q_R d1751 = q_R d1745 by rw [e1752]; rfl)
          refine ok_bdv (fun d1757 e1758 => ?_)
          have i1759 : RI ad h.1 δ0 d1757 := by rw [e1758]; exact cs_12_27 L i1753 k_a0 (show 0 ≤ (0 : Int) by omega) (show (0 : Int) ≤ 3 by omega)
          have u1760 := kp_I u1754 e1758
          have v1761 : q_V d1757 = q_V δ := ((show q_V d1757 = q_V d1751 by rw [e1758]; rfl)).trans v1755
          have v1762 := kr_N v1756 (show q_R d1757 = q_R d1751 by rw [e1758]; rfl)
          refine ok_bind (k_X12_isMore L hN (a0 := a0) k_a0 i1759) (fun r1763 hr1764 => ?_)
          obtain ⟨i1765, ⟨u1769, u1770, u1771, u1772⟩, p1766, p1767, p1768⟩ := hr1764
          have u1773 := kp_t u1760 u1769
          have v1774 : q_V r1763.2 = q_V δ := (u1770).trans v1761
          have v1775 := kr_t v1762 u1772
          have f1776 := bo_t p1766
          have f1777 := cb_12_4 i1759 k_a0
          have f1778 : (q_I d1757 12 4 a0).toInt = (q_I d1751 12 4 a0).toInt := congrArg Int32.toInt (by rw [e1758]; exact rI_o (by decide))
          have f1779 := cb_12_4 i1753 k_a0
          have f1780 : (q_I d1751 12 4 a0).toInt = (q_I d1745 12 4 a0).toInt := congrArg Int32.toInt (by rw [e1752]; exact rI_o (by decide))
          have f1781 := cb_12_4 i1747 k_a0
          have f1782 : (q_I d1745 12 4 a0).toInt = (q_I r1715 12 4 a0).toInt := congrArg Int32.toInt (by rw [e1746]; exact rI_o (by decide))
          have f1783 := cb_12_4 i1765 k_a0
          have f1784 := ti_b r1763.1
          have f1785 := cb_12_3 i1759 k_a0
          have f1786 : (q_I d1757 12 3 a0).toInt = (q_I d1751 12 3 a0).toInt := congrArg Int32.toInt (by rw [e1758]; exact rI_o (by decide))
          have f1787 := cb_12_3 i1753 k_a0
          have f1788 : (q_I d1751 12 3 a0).toInt = (q_I d1745 12 3 a0).toInt := congrArg Int32.toInt (by rw [e1752]; exact rI_o (by decide))
          have f1789 := cb_12_3 i1747 k_a0
          have f1790 : (q_I d1745 12 3 a0).toInt = (q_I r1715 12 3 a0).toInt := congrArg Int32.toInt (by rw [e1746]; exact rI_o (by decide))
          have f1791 := ti_b r1763.1
          refine ok_ite (fun h1792 => ?_) (fun h1792 => ?_)
          · have c1793 : r1763.1.toInt = (0 : Int) := o_eq h1792
            have f1796 := cb_12_3 i1765 k_a0
            have f1797 : (q_I r1763.2 12 3 a0).toInt = (q_I d1757 12 3 a0).toInt := congrArg Int32.toInt (u1769 12 3 a0 (by decide))
            refine ok_bind (k_X12_wrong L hN (a0 := a0) (x1 := (1 : Int32)) (x2 := (q_I r1763.2 12 3 a0)) k_a0 (show 0 ≤ ((q_I r1763.2 12 3 a0)).toInt by first | assumption | omega) i1765) (fun r1794 hr1795 => ?_)
            obtain ⟨i1798, ⟨u1800, u1801, u1802, u1803⟩, p1799⟩ := hr1795
            have u1804 := kp_t u1773 u1800
            have v1805 : q_V r1794 = q_V δ := (u1801).trans v1774
            have v1806 := kr_t v1775 u1803
            have f1807 := ti_b (q_I r1794 12 5 a0)
            unfold J_X12_thief_79
            have f1810 := cb_12_24 i1798 k_a0
            have f1811 : (q_I r1794 12 24 a0).toInt = (q_I r1763.2 12 24 a0).toInt := congrArg Int32.toInt (u1800 12 24 a0 (by decide))
            have f1812 := cb_12_24 i1765 k_a0
            have f1813 : (q_I r1763.2 12 24 a0).toInt = (q_I d1757 12 24 a0).toInt := congrArg Int32.toInt (u1769 12 24 a0 (by decide))
            have f1814 := cb_12_24 i1759 k_a0
            have f1815 : (q_I d1757 12 24 a0).toInt = (q_I d1751 12 24 a0).toInt := congrArg Int32.toInt (by rw [e1758]; exact rI_o (by decide))
            have f1816 := cb_12_24 i1753 k_a0
            have f1817 : (q_I d1751 12 24 a0).toInt = (q_I d1745 12 24 a0).toInt := congrArg Int32.toInt (by rw [e1752]; exact rI_o (by decide))
            have f1818 := cb_12_24 i1747 k_a0
            have f1819 : (q_I d1745 12 24 a0).toInt = (q_I r1715 12 24 a0).toInt := congrArg Int32.toInt (by rw [e1746]; exact rI_o (by decide))
            have f1820 := cb_12_26 i1798 k_a0
            have f1821 : (q_I r1794 12 26 a0).toInt = (q_I r1763.2 12 26 a0).toInt := congrArg Int32.toInt (u1800 12 26 a0 (by decide))
            have f1822 := cb_12_26 i1765 k_a0
            have f1823 : (q_I r1763.2 12 26 a0).toInt = (q_I d1757 12 26 a0).toInt := congrArg Int32.toInt (u1769 12 26 a0 (by decide))
            have f1824 := cb_12_26 i1759 k_a0
            have f1825 : (q_I d1757 12 26 a0).toInt = (q_I d1751 12 26 a0).toInt := congrArg Int32.toInt (by rw [e1758]; exact rI_o (by decide))
            have f1826 := cb_12_26 i1753 k_a0
            have f1827 : (q_I d1751 12 26 a0).toInt = (0 : Int) := congrArg Int32.toInt (show q_I d1751 12 26 a0 = (0 : Int32) by rw [e1752]; exact rI_s)
            have f1828 := cb_12_4 i1798 k_a0
            have f1829 : (q_I r1794 12 4 a0).toInt = (q_I r1763.2 12 4 a0).toInt := congrArg Int32.toInt (u1800 12 4 a0 (by decide))
            have f1830 := ti_b (q_I r1794 12 7 a0)
            have f1831 : (q_I r1794 12 7 a0).toInt = (q_I r1763.2 12 7 a0).toInt := congrArg Int32.toInt (u1800 12 7 a0 (by decide))
            have f1832 := ti_b (q_I r1763.2 12 7 a0)
            have f1833 : (q_I r1763.2 12 7 a0).toInt = (q_I d1757 12 7 a0).toInt := congrArg Int32.toInt (u1769 12 7 a0 (by decide))
            have f1834 := ti_b (q_I d1757 12 7 a0)
            have f1835 : (q_I d1757 12 7 a0).toInt = (q_I d1751 12 7 a0).toInt := congrArg Int32.toInt (by rw [e1758]; exact rI_o (by decide))
            have f1836 := ti_b (q_I d1751 12 7 a0)
            have f1837 : (q_I d1751 12 7 a0).toInt = (q_I d1745 12 7 a0).toInt := congrArg Int32.toInt (by rw [e1752]; exact rI_o (by decide))
            have f1838 := ti_b (q_I d1745 12 7 a0)
            have f1839 : (q_I d1745 12 7 a0).toInt = (q_I r1715 12 7 a0).toInt := congrArg Int32.toInt (by rw [e1746]; exact rI_o (by decide))
            have f1840 := cb_12_27 i1798 k_a0
            have f1841 : (q_I r1794 12 27 a0).toInt = (q_I r1763.2 12 27 a0).toInt := congrArg Int32.toInt (u1800 12 27 a0 (by decide))
            have f1842 := cb_12_27 i1765 k_a0
            have f1843 : (q_I r1763.2 12 27 a0).toInt = (q_I d1757 12 27 a0).toInt := congrArg Int32.toInt (u1769 12 27 a0 (by decide))
            have f1844 := cb_12_27 i1759 k_a0
            have f1845 : (q_I d1757 12 27 a0).toInt = (0 : Int) := congrArg Int32.toInt (show q_I d1757 12 27 a0 = (0 : Int32) by rw [e1758]; exact rI_s)
            refine ok_bind (k_X12_readSteps L hN (a0 := a0) k_a0 (show (q_I r1794 12 24 a0).toInt ≤ 3 by first | assumption | omega) (show (q_I r1794 12 26 a0).toInt ≤ (q_I r1794 12 4 a0).toInt by first | assumption | omega) (show (q_I r1794 12 7 a0).toInt = 0 by first | assumption | omega) (show 4 - (q_I r1794 12 27 a0).toInt < 20 by first | assumption | omega) i1798) (fun r1808 hr1809 => ?_)
            obtain ⟨i1846, ⟨u1852, u1853, u1854⟩, p1847, p1848, p1849, p1850, p1851⟩ := hr1809
            have u1855 := kp_t u1804 u1852
            have v1856 : q_V r1808 = q_V δ := (u1853).trans v1805
            have v1857 := kr_t v1806 u1854
            have f1858 := cb_12_4 i1846 k_a0
            have f1859 := ti_b (q_I r1808 12 5 a0)
            have f1860 := ti_b (q_I r1808 12 7 a0)
            have f1861 := cb_12_27 i1846 k_a0
            have f1862 := cb_12_26 i1846 k_a0
            refine ok_bind (k_X12_fine L hN (a0 := a0) k_a0 i1846) (fun r1863 hr1864 => ?_)
            obtain ⟨i1865, p1866, p1867, p1868⟩ := hr1864
            try rw [i1865]
            have f1869 := bo_t p1866
            have f1870 := ti_b r1863.1
            have f1871 := ti_b r1863.1
            refine ok_ite (fun h1872 => ?_) (fun h1872 => ?_)
            · have c1873 : r1863.1.toInt = (0 : Int) := o_eq h1872
              unfold J_X12_thief_106
              refine ok_bind (k_X12_result L hN (a0 := a0) (x1 := (q_I r1808 12 24 a0)) k_a0 i1846) (fun r1874 hr1875 => ?_)
              obtain ⟨i1876, ⟨u1877, u1878, u1879, u1880⟩⟩ := hr1875
              have u1881 := kp_t u1855 u1877
              have v1882 : q_V r1874.2 = q_V δ := (u1878).trans v1856
              have v1883 := kr_t v1857 u1880
              have f1884 := ti_b r1874.1
              have f1885 := cb_12_24 i1876 k_a0
              have f1886 : (q_I r1874.2 12 24 a0).toInt = (q_I r1808 12 24 a0).toInt := congrArg Int32.toInt (u1877 12 24 a0 (by decide))
              have f1887 := cb_12_24 i1846 k_a0
              have f1888 : (q_I r1808 12 24 a0).toInt = (q_I r1794 12 24 a0).toInt := congrArg Int32.toInt (u1852 12 24 a0 (by decide))
              refine ok_ite (fun h1889 => ?_) (fun h1889 => ?_)
              · have c1890 : r1874.1.toInt = (q_I r1874.2 12 24 a0).toInt := o_eq h1889
                obtain ⟨b1891, o1892, k1893, n1894⟩ := gO_12_28 L k_a0
                obtain rfl := gS_12_28 L k_a0 o1892
                refine ok_at o1892 ?_
                have t1895 := ti_tn (q_I r1874.2 12 24 a0)
                refine ok_gd (fun hc1896 => ?_) ?_
                · rcases hc1896 with hc1896 | hc1896
                  · have c1897 : (q_I r1874.2 12 24 a0).toInt < (0 : Int) := o_lt hc1896
                    omega
                  · omega
                have f1901 := cb_12_25 i1876 k_a0
                have f1902 : (q_I r1874.2 12 25 a0).toInt = (q_I r1808 12 25 a0).toInt := congrArg Int32.toInt (u1877 12 25 a0 (by decide))
                have f1903 := cb_12_25 i1846 k_a0
                refine ok_bdv (fun d1898 e1899 => ?_)
                have i1900 : RI ad h.1 δ0 d1898 := by rw [e1899]; exact cr_112 L i1876 (show 0 ≤ (q_I r1874.2 12 25 a0).toInt by omega) (show (q_I r1874.2 12 25 a0).toInt ≤ 60 by omega)
                have u1904 := kp_N u1881 (show q_I d1898 = q_I r1874.2 by rw [e1899]; rfl)
                have v1905 : q_V d1898 = q_V δ := ((show q_V d1898 = q_V r1874.2 by rw [e1899]; rfl)).trans v1882
                have v1906 := kr_s L (by decide) v1883 e1899
                have f1910 := cb_12_24 i1900 k_a0
                have f1911 : (q_I d1898 12 24 a0).toInt = (q_I r1874.2 12 24 a0).toInt := congrArg Int32.toInt (by rw [e1899]; rfl)
                first | (have q1913 := te_addc (c := 1) (n := 1) rfl (q_I d1898 12 24 a0) (by omega) (by omega); obtain ⟨f1914, f1915, f1916⟩ := q1913) | (obtain ⟨q1913, f1914, f1915, f1916⟩ := ti_addc (c := 1) (n := 1) rfl (q_I d1898 12 24 a0))
                refine ok_bdv (fun d1907 e1908 => ?_)
                have i1909 : RI ad h.1 δ0 d1907 := by rw [e1908]; exact cs_12_24 L i1900 k_a0 (show 0 ≤ ((q_I d1898 12 24 a0) + (1 : Int32)).toInt by omega) (show ((q_I d1898 12 24 a0) + (1 : Int32)).toInt ≤ 4 by omega)
                have u1917 := kp_I u1904 e1908
                have v1918 : q_V d1907 = q_V δ := ((show q_V d1907 = q_V d1898 by rw [e1908]; rfl)).trans v1905
                have v1919 := kr_N v1906 (show q_R d1907 = q_R d1898 by rw [e1908]; rfl)
                unfold J_X12_thief_146
                have f1920 := cb_12_2 i1909 k_a0
                have f1921 : (q_I d1907 12 2 a0).toInt = (q_I d1898 12 2 a0).toInt := congrArg Int32.toInt (by rw [e1908]; exact rI_o (by decide))
                have f1922 := cb_12_2 i1900 k_a0
                have f1923 : (q_I d1898 12 2 a0).toInt = (q_I r1874.2 12 2 a0).toInt := congrArg Int32.toInt (by rw [e1899]; rfl)
                have f1924 := cb_12_2 i1876 k_a0
                have f1925 : (q_I r1874.2 12 2 a0).toInt = (q_I r1808 12 2 a0).toInt := congrArg Int32.toInt (u1877 12 2 a0 (by decide))
                have f1926 := cb_12_2 i1846 k_a0
                have f1927 : (q_I r1808 12 2 a0).toInt = (q_I r1794 12 2 a0).toInt := congrArg Int32.toInt (u1852 12 2 a0 (by decide))
                have f1928 := cb_12_2 i1798 k_a0
                have f1929 : (q_I r1794 12 2 a0).toInt = (q_I r1763.2 12 2 a0).toInt := congrArg Int32.toInt (u1800 12 2 a0 (by decide))
                have f1930 := cb_12_2 i1765 k_a0
                have f1931 : (q_I r1763.2 12 2 a0).toInt = (q_I d1757 12 2 a0).toInt := congrArg Int32.toInt (u1769 12 2 a0 (by decide))
                have f1932 := cb_12_2 i1759 k_a0
                have f1933 : (q_I d1757 12 2 a0).toInt = (q_I d1751 12 2 a0).toInt := congrArg Int32.toInt (by rw [e1758]; exact rI_o (by decide))
                have f1934 := cb_12_2 i1753 k_a0
                have f1935 : (q_I d1751 12 2 a0).toInt = (q_I d1745 12 2 a0).toInt := congrArg Int32.toInt (by rw [e1752]; exact rI_o (by decide))
                have f1936 := cb_12_2 i1747 k_a0
                have f1937 : (q_I d1745 12 2 a0).toInt = (q_I r1715 12 2 a0).toInt := congrArg Int32.toInt (by rw [e1746]; exact rI_o (by decide))
                exact ok_some (show RI ad h.1 δ0 d1907 ∧ (kp [(12, 0), (12, 2), (12, 3), (12, 4), (12, 5), (12, 6), (12, 7), (12, 8), (12, 24), (12, 25), (12, 26), (12, 27)] δ d1907 ∧ q_V d1907 = q_V δ ∧ kr ad [100, 112, 113, 114, 115, 116, 117] δ d1907) ∧ (0 ≤ (x1).toInt ∧ (x1).toInt ≤ (q_I δ 12 2 a0).toInt → (q_I d1907 12 2 a0).toInt = 0) ∧ ((x1).toInt < 0 ∨ (q_I δ 12 2 a0).toInt < (x1).toInt → (q_I d1907 12 2 a0).toInt = (q_I δ 12 2 a0).toInt) from ⟨i1909, ⟨kp_w (by decide) u1917, v1918, kr_w (by decide) v1919⟩, by first | assumption | omega, by first | assumption | omega⟩)
              · have c1938 : r1874.1.toInt ≠ (q_I r1874.2 12 24 a0).toInt := o_ne h1889
                unfold J_X12_thief_146
                have f1939 := cb_12_2 i1876 k_a0
                have f1940 : (q_I r1874.2 12 2 a0).toInt = (q_I r1808 12 2 a0).toInt := congrArg Int32.toInt (u1877 12 2 a0 (by decide))
                have f1941 := cb_12_2 i1846 k_a0
                have f1942 : (q_I r1808 12 2 a0).toInt = (q_I r1794 12 2 a0).toInt := congrArg Int32.toInt (u1852 12 2 a0 (by decide))
                have f1943 := cb_12_2 i1798 k_a0
                have f1944 : (q_I r1794 12 2 a0).toInt = (q_I r1763.2 12 2 a0).toInt := congrArg Int32.toInt (u1800 12 2 a0 (by decide))
                have f1945 := cb_12_2 i1765 k_a0
                have f1946 : (q_I r1763.2 12 2 a0).toInt = (q_I d1757 12 2 a0).toInt := congrArg Int32.toInt (u1769 12 2 a0 (by decide))
                have f1947 := cb_12_2 i1759 k_a0
                have f1948 : (q_I d1757 12 2 a0).toInt = (q_I d1751 12 2 a0).toInt := congrArg Int32.toInt (by rw [e1758]; exact rI_o (by decide))
                have f1949 := cb_12_2 i1753 k_a0
                have f1950 : (q_I d1751 12 2 a0).toInt = (q_I d1745 12 2 a0).toInt := congrArg Int32.toInt (by rw [e1752]; exact rI_o (by decide))
                have f1951 := cb_12_2 i1747 k_a0
                have f1952 : (q_I d1745 12 2 a0).toInt = (q_I r1715 12 2 a0).toInt := congrArg Int32.toInt (by rw [e1746]; exact rI_o (by decide))
                exact ok_some (show RI ad h.1 δ0 r1874.2 ∧ (kp [(12, 0), (12, 2), (12, 3), (12, 4), (12, 5), (12, 6), (12, 7), (12, 8), (12, 24), (12, 25), (12, 26), (12, 27)] δ r1874.2 ∧ q_V r1874.2 = q_V δ ∧ kr ad [100, 112, 113, 114, 115, 116, 117] δ r1874.2) ∧ (0 ≤ (x1).toInt ∧ (x1).toInt ≤ (q_I δ 12 2 a0).toInt → (q_I r1874.2 12 2 a0).toInt = 0) ∧ ((x1).toInt < 0 ∨ (q_I δ 12 2 a0).toInt < (x1).toInt → (q_I r1874.2 12 2 a0).toInt = (q_I δ 12 2 a0).toInt) from ⟨i1876, ⟨kp_w (by decide) u1881, v1882, kr_w (by decide) v1883⟩, by first | assumption | omega, by first | assumption | omega⟩)
            · have c1953 : r1863.1.toInt ≠ (0 : Int) := o_ne h1872
              refine ok_bind (k_X12_isMore L hN (a0 := a0) k_a0 i1846) (fun r1954 hr1955 => ?_)
              obtain ⟨i1956, ⟨u1960, u1961, u1962, u1963⟩, p1957, p1958, p1959⟩ := hr1955
              have u1964 := kp_t u1855 u1960
              have v1965 : q_V r1954.2 = q_V δ := (u1961).trans v1856
              have v1966 := kr_t v1857 u1963
              have f1967 := bo_t p1957
              have f1968 := cb_12_4 i1956 k_a0
              have f1969 := ti_b r1954.1
              have f1970 := cb_12_3 i1846 k_a0
              have f1971 : (q_I r1808 12 3 a0).toInt = (q_I r1794 12 3 a0).toInt := congrArg Int32.toInt (u1852 12 3 a0 (by decide))
              have f1972 := cb_12_3 i1798 k_a0
              have f1973 : (q_I r1794 12 3 a0).toInt = (q_I r1763.2 12 3 a0).toInt := congrArg Int32.toInt (u1800 12 3 a0 (by decide))
              have f1974 := ti_b r1954.1
              refine ok_ite (fun h1975 => ?_) (fun h1975 => ?_)
              · have c1976 : r1954.1.toInt = (0 : Int) := o_eq h1975
                unfold J_X12_thief_106
                refine ok_bind (k_X12_result L hN (a0 := a0) (x1 := (q_I r1954.2 12 24 a0)) k_a0 i1956) (fun r1977 hr1978 => ?_)
                obtain ⟨i1979, ⟨u1980, u1981, u1982, u1983⟩⟩ := hr1978
                have u1984 := kp_t u1964 u1980
                have v1985 : q_V r1977.2 = q_V δ := (u1981).trans v1965
                have v1986 := kr_t v1966 u1983
                have f1987 := ti_b r1977.1
                have f1988 := cb_12_24 i1979 k_a0
                have f1989 : (q_I r1977.2 12 24 a0).toInt = (q_I r1954.2 12 24 a0).toInt := congrArg Int32.toInt (u1980 12 24 a0 (by decide))
                have f1990 := cb_12_24 i1956 k_a0
                have f1991 : (q_I r1954.2 12 24 a0).toInt = (q_I r1808 12 24 a0).toInt := congrArg Int32.toInt (u1960 12 24 a0 (by decide))
                have f1992 := cb_12_24 i1846 k_a0
                have f1993 : (q_I r1808 12 24 a0).toInt = (q_I r1794 12 24 a0).toInt := congrArg Int32.toInt (u1852 12 24 a0 (by decide))
                refine ok_ite (fun h1994 => ?_) (fun h1994 => ?_)
                · have c1995 : r1977.1.toInt = (q_I r1977.2 12 24 a0).toInt := o_eq h1994
                  obtain ⟨b1996, o1997, k1998, n1999⟩ := gO_12_28 L k_a0
                  obtain rfl := gS_12_28 L k_a0 o1997
                  refine ok_at o1997 ?_
                  have t2000 := ti_tn (q_I r1977.2 12 24 a0)
                  refine ok_gd (fun hc2001 => ?_) ?_
                  · rcases hc2001 with hc2001 | hc2001
                    · have c2002 : (q_I r1977.2 12 24 a0).toInt < (0 : Int) := o_lt hc2001
                      omega
                    · omega
                  have f2006 := cb_12_25 i1979 k_a0
                  have f2007 : (q_I r1977.2 12 25 a0).toInt = (q_I r1954.2 12 25 a0).toInt := congrArg Int32.toInt (u1980 12 25 a0 (by decide))
                  have f2008 := cb_12_25 i1956 k_a0
                  have f2009 : (q_I r1954.2 12 25 a0).toInt = (q_I r1808 12 25 a0).toInt := congrArg Int32.toInt (u1960 12 25 a0 (by decide))
                  have f2010 := cb_12_25 i1846 k_a0
                  refine ok_bdv (fun d2003 e2004 => ?_)
                  have i2005 : RI ad h.1 δ0 d2003 := by rw [e2004]; exact cr_112 L i1979 (show 0 ≤ (q_I r1977.2 12 25 a0).toInt by omega) (show (q_I r1977.2 12 25 a0).toInt ≤ 60 by omega)
                  have u2011 := kp_N u1984 (show q_I d2003 = q_I r1977.2 by rw [e2004]; rfl)
                  have v2012 : q_V d2003 = q_V δ := ((show q_V d2003 = q_V r1977.2 by rw [e2004]; rfl)).trans v1985
                  have v2013 := kr_s L (by decide) v1986 e2004
                  have f2017 := cb_12_24 i2005 k_a0
                  have f2018 : (q_I d2003 12 24 a0).toInt = (q_I r1977.2 12 24 a0).toInt := congrArg Int32.toInt (by rw [e2004]; rfl)
                  first | (have q2020 := te_addc (c := 1) (n := 1) rfl (q_I d2003 12 24 a0) (by omega) (by omega); obtain ⟨f2021, f2022, f2023⟩ := q2020) | (obtain ⟨q2020, f2021, f2022, f2023⟩ := ti_addc (c := 1) (n := 1) rfl (q_I d2003 12 24 a0))
                  refine ok_bdv (fun d2014 e2015 => ?_)
                  have i2016 : RI ad h.1 δ0 d2014 := by rw [e2015]; exact cs_12_24 L i2005 k_a0 (show 0 ≤ ((q_I d2003 12 24 a0) + (1 : Int32)).toInt by omega) (show ((q_I d2003 12 24 a0) + (1 : Int32)).toInt ≤ 4 by omega)
                  have u2024 := kp_I u2011 e2015
                  have v2025 : q_V d2014 = q_V δ := ((show q_V d2014 = q_V d2003 by rw [e2015]; rfl)).trans v2012
                  have v2026 := kr_N v2013 (show q_R d2014 = q_R d2003 by rw [e2015]; rfl)
                  unfold J_X12_thief_146
                  have f2027 := cb_12_2 i2016 k_a0
                  have f2028 : (q_I d2014 12 2 a0).toInt = (q_I d2003 12 2 a0).toInt := congrArg Int32.toInt (by rw [e2015]; exact rI_o (by decide))
                  have f2029 := cb_12_2 i2005 k_a0
                  have f2030 : (q_I d2003 12 2 a0).toInt = (q_I r1977.2 12 2 a0).toInt := congrArg Int32.toInt (by rw [e2004]; rfl)
                  have f2031 := cb_12_2 i1979 k_a0
                  have f2032 : (q_I r1977.2 12 2 a0).toInt = (q_I r1954.2 12 2 a0).toInt := congrArg Int32.toInt (u1980 12 2 a0 (by decide))
                  have f2033 := cb_12_2 i1956 k_a0
                  have f2034 : (q_I r1954.2 12 2 a0).toInt = (q_I r1808 12 2 a0).toInt := congrArg Int32.toInt (u1960 12 2 a0 (by decide))
                  have f2035 := cb_12_2 i1846 k_a0
                  have f2036 : (q_I r1808 12 2 a0).toInt = (q_I r1794 12 2 a0).toInt := congrArg Int32.toInt (u1852 12 2 a0 (by decide))
                  have f2037 := cb_12_2 i1798 k_a0
                  have f2038 : (q_I r1794 12 2 a0).toInt = (q_I r1763.2 12 2 a0).toInt := congrArg Int32.toInt (u1800 12 2 a0 (by decide))
                  have f2039 := cb_12_2 i1765 k_a0
                  have f2040 : (q_I r1763.2 12 2 a0).toInt = (q_I d1757 12 2 a0).toInt := congrArg Int32.toInt (u1769 12 2 a0 (by decide))
                  have f2041 := cb_12_2 i1759 k_a0
                  have f2042 : (q_I d1757 12 2 a0).toInt = (q_I d1751 12 2 a0).toInt := congrArg Int32.toInt (by rw [e1758]; exact rI_o (by decide))
                  have f2043 := cb_12_2 i1753 k_a0
                  have f2044 : (q_I d1751 12 2 a0).toInt = (q_I d1745 12 2 a0).toInt := congrArg Int32.toInt (by rw [e1752]; exact rI_o (by decide))
                  have f2045 := cb_12_2 i1747 k_a0
                  have f2046 : (q_I d1745 12 2 a0).toInt = (q_I r1715 12 2 a0).toInt := congrArg Int32.toInt (by rw [e1746]; exact rI_o (by decide))
                  exact ok_some (show RI ad h.1 δ0 d2014 ∧ (kp [(12, 0), (12, 2), (12, 3), (12, 4), (12, 5), (12, 6), (12, 7), (12, 8), (12, 24), (12, 25), (12, 26), (12, 27)] δ d2014 ∧ q_V d2014 = q_V δ ∧ kr ad [100, 112, 113, 114, 115, 116, 117] δ d2014) ∧ (0 ≤ (x1).toInt ∧ (x1).toInt ≤ (q_I δ 12 2 a0).toInt → (q_I d2014 12 2 a0).toInt = 0) ∧ ((x1).toInt < 0 ∨ (q_I δ 12 2 a0).toInt < (x1).toInt → (q_I d2014 12 2 a0).toInt = (q_I δ 12 2 a0).toInt) from ⟨i2016, ⟨kp_w (by decide) u2024, v2025, kr_w (by decide) v2026⟩, by first | assumption | omega, by first | assumption | omega⟩)
                · have c2047 : r1977.1.toInt ≠ (q_I r1977.2 12 24 a0).toInt := o_ne h1994
                  unfold J_X12_thief_146
                  have f2048 := cb_12_2 i1979 k_a0
                  have f2049 : (q_I r1977.2 12 2 a0).toInt = (q_I r1954.2 12 2 a0).toInt := congrArg Int32.toInt (u1980 12 2 a0 (by decide))
                  have f2050 := cb_12_2 i1956 k_a0
                  have f2051 : (q_I r1954.2 12 2 a0).toInt = (q_I r1808 12 2 a0).toInt := congrArg Int32.toInt (u1960 12 2 a0 (by decide))
                  have f2052 := cb_12_2 i1846 k_a0
                  have f2053 : (q_I r1808 12 2 a0).toInt = (q_I r1794 12 2 a0).toInt := congrArg Int32.toInt (u1852 12 2 a0 (by decide))
                  have f2054 := cb_12_2 i1798 k_a0
                  have f2055 : (q_I r1794 12 2 a0).toInt = (q_I r1763.2 12 2 a0).toInt := congrArg Int32.toInt (u1800 12 2 a0 (by decide))
                  have f2056 := cb_12_2 i1765 k_a0
                  have f2057 : (q_I r1763.2 12 2 a0).toInt = (q_I d1757 12 2 a0).toInt := congrArg Int32.toInt (u1769 12 2 a0 (by decide))
                  have f2058 := cb_12_2 i1759 k_a0
                  have f2059 : (q_I d1757 12 2 a0).toInt = (q_I d1751 12 2 a0).toInt := congrArg Int32.toInt (by rw [e1758]; exact rI_o (by decide))
                  have f2060 := cb_12_2 i1753 k_a0
                  have f2061 : (q_I d1751 12 2 a0).toInt = (q_I d1745 12 2 a0).toInt := congrArg Int32.toInt (by rw [e1752]; exact rI_o (by decide))
                  have f2062 := cb_12_2 i1747 k_a0
                  have f2063 : (q_I d1745 12 2 a0).toInt = (q_I r1715 12 2 a0).toInt := congrArg Int32.toInt (by rw [e1746]; exact rI_o (by decide))
                  exact ok_some (show RI ad h.1 δ0 r1977.2 ∧ (kp [(12, 0), (12, 2), (12, 3), (12, 4), (12, 5), (12, 6), (12, 7), (12, 8), (12, 24), (12, 25), (12, 26), (12, 27)] δ r1977.2 ∧ q_V r1977.2 = q_V δ ∧ kr ad [100, 112, 113, 114, 115, 116, 117] δ r1977.2) ∧ (0 ≤ (x1).toInt ∧ (x1).toInt ≤ (q_I δ 12 2 a0).toInt → (q_I r1977.2 12 2 a0).toInt = 0) ∧ ((x1).toInt < 0 ∨ (q_I δ 12 2 a0).toInt < (x1).toInt → (q_I r1977.2 12 2 a0).toInt = (q_I δ 12 2 a0).toInt) from ⟨i1979, ⟨kp_w (by decide) u1984, v1985, kr_w (by decide) v1986⟩, by first | assumption | omega, by first | assumption | omega⟩)
              · have c2064 : r1954.1.toInt ≠ (0 : Int) := o_ne h1975
                refine ok_bind (k_X12_wrong L hN (a0 := a0) (x1 := (1 : Int32)) (x2 := (q_I r1954.2 12 4 a0)) k_a0 (show 0 ≤ ((q_I r1954.2 12 4 a0)).toInt by first | assumption | omega) i1956) (fun r2065 hr2066 => ?_)
                obtain ⟨i2067, ⟨u2069, u2070, u2071, u2072⟩, p2068⟩ := hr2066
                have u2073 := kp_t u1964 u2069
                have v2074 : q_V r2065 = q_V δ := (u2070).trans v1965
                have v2075 := kr_t v1966 u2072
                have f2076 := ti_b (q_I r2065 12 5 a0)
                unfold J_X12_thief_106
                refine ok_bind (k_X12_result L hN (a0 := a0) (x1 := (q_I r2065 12 24 a0)) k_a0 i2067) (fun r2077 hr2078 => ?_)
                obtain ⟨i2079, ⟨u2080, u2081, u2082, u2083⟩⟩ := hr2078
                have u2084 := kp_t u2073 u2080
                have v2085 : q_V r2077.2 = q_V δ := (u2081).trans v2074
                have v2086 := kr_t v2075 u2083
                have f2087 := ti_b r2077.1
                have f2088 := cb_12_24 i2079 k_a0
                have f2089 : (q_I r2077.2 12 24 a0).toInt = (q_I r2065 12 24 a0).toInt := congrArg Int32.toInt (u2080 12 24 a0 (by decide))
                have f2090 := cb_12_24 i2067 k_a0
                have f2091 : (q_I r2065 12 24 a0).toInt = (q_I r1954.2 12 24 a0).toInt := congrArg Int32.toInt (u2069 12 24 a0 (by decide))
                have f2092 := cb_12_24 i1956 k_a0
                have f2093 : (q_I r1954.2 12 24 a0).toInt = (q_I r1808 12 24 a0).toInt := congrArg Int32.toInt (u1960 12 24 a0 (by decide))
                have f2094 := cb_12_24 i1846 k_a0
                have f2095 : (q_I r1808 12 24 a0).toInt = (q_I r1794 12 24 a0).toInt := congrArg Int32.toInt (u1852 12 24 a0 (by decide))
                refine ok_ite (fun h2096 => ?_) (fun h2096 => ?_)
                · have c2097 : r2077.1.toInt = (q_I r2077.2 12 24 a0).toInt := o_eq h2096
                  obtain ⟨b2098, o2099, k2100, n2101⟩ := gO_12_28 L k_a0
                  obtain rfl := gS_12_28 L k_a0 o2099
                  refine ok_at o2099 ?_
                  have t2102 := ti_tn (q_I r2077.2 12 24 a0)
                  refine ok_gd (fun hc2103 => ?_) ?_
                  · rcases hc2103 with hc2103 | hc2103
                    · have c2104 : (q_I r2077.2 12 24 a0).toInt < (0 : Int) := o_lt hc2103
                      omega
                    · omega
                  have f2108 := cb_12_25 i2079 k_a0
                  have f2109 : (q_I r2077.2 12 25 a0).toInt = (q_I r2065 12 25 a0).toInt := congrArg Int32.toInt (u2080 12 25 a0 (by decide))
                  have f2110 := cb_12_25 i2067 k_a0
                  have f2111 : (q_I r2065 12 25 a0).toInt = (q_I r1954.2 12 25 a0).toInt := congrArg Int32.toInt (u2069 12 25 a0 (by decide))
                  have f2112 := cb_12_25 i1956 k_a0
                  have f2113 : (q_I r1954.2 12 25 a0).toInt = (q_I r1808 12 25 a0).toInt := congrArg Int32.toInt (u1960 12 25 a0 (by decide))
                  have f2114 := cb_12_25 i1846 k_a0
                  refine ok_bdv (fun d2105 e2106 => ?_)
                  have i2107 : RI ad h.1 δ0 d2105 := by rw [e2106]; exact cr_112 L i2079 (show 0 ≤ (q_I r2077.2 12 25 a0).toInt by omega) (show (q_I r2077.2 12 25 a0).toInt ≤ 60 by omega)
                  have u2115 := kp_N u2084 (show q_I d2105 = q_I r2077.2 by rw [e2106]; rfl)
                  have v2116 : q_V d2105 = q_V δ := ((show q_V d2105 = q_V r2077.2 by rw [e2106]; rfl)).trans v2085
                  have v2117 := kr_s L (by decide) v2086 e2106
                  have f2121 := cb_12_24 i2107 k_a0
                  have f2122 : (q_I d2105 12 24 a0).toInt = (q_I r2077.2 12 24 a0).toInt := congrArg Int32.toInt (by rw [e2106]; rfl)
                  first | (have q2124 := te_addc (c := 1) (n := 1) rfl (q_I d2105 12 24 a0) (by omega) (by omega); obtain ⟨f2125, f2126, f2127⟩ := q2124) | (obtain ⟨q2124, f2125, f2126, f2127⟩ := ti_addc (c := 1) (n := 1) rfl (q_I d2105 12 24 a0))
                  refine ok_bdv (fun d2118 e2119 => ?_)
                  have i2120 : RI ad h.1 δ0 d2118 := by rw [e2119]; exact cs_12_24 L i2107 k_a0 (show 0 ≤ ((q_I d2105 12 24 a0) + (1 : Int32)).toInt by omega) (show ((q_I d2105 12 24 a0) + (1 : Int32)).toInt ≤ 4 by omega)
                  have u2128 := kp_I u2115 e2119
                  have v2129 : q_V d2118 = q_V δ := ((show q_V d2118 = q_V d2105 by rw [e2119]; rfl)).trans v2116
                  have v2130 := kr_N v2117 (show q_R d2118 = q_R d2105 by rw [e2119]; rfl)
                  unfold J_X12_thief_146
                  have f2131 := cb_12_2 i2120 k_a0
                  have f2132 : (q_I d2118 12 2 a0).toInt = (q_I d2105 12 2 a0).toInt := congrArg Int32.toInt (by rw [e2119]; exact rI_o (by decide))
                  have f2133 := cb_12_2 i2107 k_a0
                  have f2134 : (q_I d2105 12 2 a0).toInt = (q_I r2077.2 12 2 a0).toInt := congrArg Int32.toInt (by rw [e2106]; rfl)
                  have f2135 := cb_12_2 i2079 k_a0
                  have f2136 : (q_I r2077.2 12 2 a0).toInt = (q_I r2065 12 2 a0).toInt := congrArg Int32.toInt (u2080 12 2 a0 (by decide))
                  have f2137 := cb_12_2 i2067 k_a0
                  have f2138 : (q_I r2065 12 2 a0).toInt = (q_I r1954.2 12 2 a0).toInt := congrArg Int32.toInt (u2069 12 2 a0 (by decide))
                  have f2139 := cb_12_2 i1956 k_a0
                  have f2140 : (q_I r1954.2 12 2 a0).toInt = (q_I r1808 12 2 a0).toInt := congrArg Int32.toInt (u1960 12 2 a0 (by decide))
                  have f2141 := cb_12_2 i1846 k_a0
                  have f2142 : (q_I r1808 12 2 a0).toInt = (q_I r1794 12 2 a0).toInt := congrArg Int32.toInt (u1852 12 2 a0 (by decide))
                  have f2143 := cb_12_2 i1798 k_a0
                  have f2144 : (q_I r1794 12 2 a0).toInt = (q_I r1763.2 12 2 a0).toInt := congrArg Int32.toInt (u1800 12 2 a0 (by decide))
                  have f2145 := cb_12_2 i1765 k_a0
                  have f2146 : (q_I r1763.2 12 2 a0).toInt = (q_I d1757 12 2 a0).toInt := congrArg Int32.toInt (u1769 12 2 a0 (by decide))
                  have f2147 := cb_12_2 i1759 k_a0
                  have f2148 : (q_I d1757 12 2 a0).toInt = (q_I d1751 12 2 a0).toInt := congrArg Int32.toInt (by rw [e1758]; exact rI_o (by decide))
                  have f2149 := cb_12_2 i1753 k_a0
                  have f2150 : (q_I d1751 12 2 a0).toInt = (q_I d1745 12 2 a0).toInt := congrArg Int32.toInt (by rw [e1752]; exact rI_o (by decide))
                  have f2151 := cb_12_2 i1747 k_a0
                  have f2152 : (q_I d1745 12 2 a0).toInt = (q_I r1715 12 2 a0).toInt := congrArg Int32.toInt (by rw [e1746]; exact rI_o (by decide))
                  exact ok_some (show RI ad h.1 δ0 d2118 ∧ (kp [(12, 0), (12, 2), (12, 3), (12, 4), (12, 5), (12, 6), (12, 7), (12, 8), (12, 24), (12, 25), (12, 26), (12, 27)] δ d2118 ∧ q_V d2118 = q_V δ ∧ kr ad [100, 112, 113, 114, 115, 116, 117] δ d2118) ∧ (0 ≤ (x1).toInt ∧ (x1).toInt ≤ (q_I δ 12 2 a0).toInt → (q_I d2118 12 2 a0).toInt = 0) ∧ ((x1).toInt < 0 ∨ (q_I δ 12 2 a0).toInt < (x1).toInt → (q_I d2118 12 2 a0).toInt = (q_I δ 12 2 a0).toInt) from ⟨i2120, ⟨kp_w (by decide) u2128, v2129, kr_w (by decide) v2130⟩, by first | assumption | omega, by first | assumption | omega⟩)
                · have c2153 : r2077.1.toInt ≠ (q_I r2077.2 12 24 a0).toInt := o_ne h2096
                  unfold J_X12_thief_146
                  have f2154 := cb_12_2 i2079 k_a0
                  have f2155 : (q_I r2077.2 12 2 a0).toInt = (q_I r2065 12 2 a0).toInt := congrArg Int32.toInt (u2080 12 2 a0 (by decide))
                  have f2156 := cb_12_2 i2067 k_a0
                  have f2157 : (q_I r2065 12 2 a0).toInt = (q_I r1954.2 12 2 a0).toInt := congrArg Int32.toInt (u2069 12 2 a0 (by decide))
                  have f2158 := cb_12_2 i1956 k_a0
                  have f2159 : (q_I r1954.2 12 2 a0).toInt = (q_I r1808 12 2 a0).toInt := congrArg Int32.toInt (u1960 12 2 a0 (by decide))
                  have f2160 := cb_12_2 i1846 k_a0
                  have f2161 : (q_I r1808 12 2 a0).toInt = (q_I r1794 12 2 a0).toInt := congrArg Int32.toInt (u1852 12 2 a0 (by decide))
                  have f2162 := cb_12_2 i1798 k_a0
                  have f2163 : (q_I r1794 12 2 a0).toInt = (q_I r1763.2 12 2 a0).toInt := congrArg Int32.toInt (u1800 12 2 a0 (by decide))
                  have f2164 := cb_12_2 i1765 k_a0
                  have f2165 : (q_I r1763.2 12 2 a0).toInt = (q_I d1757 12 2 a0).toInt := congrArg Int32.toInt (u1769 12 2 a0 (by decide))
                  have f2166 := cb_12_2 i1759 k_a0
                  have f2167 : (q_I d1757 12 2 a0).toInt = (q_I d1751 12 2 a0).toInt := congrArg Int32.toInt (by rw [e1758]; exact rI_o (by decide))
                  have f2168 := cb_12_2 i1753 k_a0
                  have f2169 : (q_I d1751 12 2 a0).toInt = (q_I d1745 12 2 a0).toInt := congrArg Int32.toInt (by rw [e1752]; exact rI_o (by decide))
                  have f2170 := cb_12_2 i1747 k_a0
                  have f2171 : (q_I d1745 12 2 a0).toInt = (q_I r1715 12 2 a0).toInt := congrArg Int32.toInt (by rw [e1746]; exact rI_o (by decide))
                  exact ok_some (show RI ad h.1 δ0 r2077.2 ∧ (kp [(12, 0), (12, 2), (12, 3), (12, 4), (12, 5), (12, 6), (12, 7), (12, 8), (12, 24), (12, 25), (12, 26), (12, 27)] δ r2077.2 ∧ q_V r2077.2 = q_V δ ∧ kr ad [100, 112, 113, 114, 115, 116, 117] δ r2077.2) ∧ (0 ≤ (x1).toInt ∧ (x1).toInt ≤ (q_I δ 12 2 a0).toInt → (q_I r2077.2 12 2 a0).toInt = 0) ∧ ((x1).toInt < 0 ∨ (q_I δ 12 2 a0).toInt < (x1).toInt → (q_I r2077.2 12 2 a0).toInt = (q_I δ 12 2 a0).toInt) from ⟨i2079, ⟨kp_w (by decide) u2084, v2085, kr_w (by decide) v2086⟩, by first | assumption | omega, by first | assumption | omega⟩)
          · have c2172 : r1763.1.toInt ≠ (0 : Int) := o_ne h1792
            unfold J_X12_thief_79
            have f2175 := cb_12_24 i1765 k_a0
            have f2176 : (q_I r1763.2 12 24 a0).toInt = (q_I d1757 12 24 a0).toInt := congrArg Int32.toInt (u1769 12 24 a0 (by decide))
            have f2177 := cb_12_24 i1759 k_a0
            have f2178 : (q_I d1757 12 24 a0).toInt = (q_I d1751 12 24 a0).toInt := congrArg Int32.toInt (by rw [e1758]; exact rI_o (by decide))
            have f2179 := cb_12_24 i1753 k_a0
            have f2180 : (q_I d1751 12 24 a0).toInt = (q_I d1745 12 24 a0).toInt := congrArg Int32.toInt (by rw [e1752]; exact rI_o (by decide))
            have f2181 := cb_12_24 i1747 k_a0
            have f2182 : (q_I d1745 12 24 a0).toInt = (q_I r1715 12 24 a0).toInt := congrArg Int32.toInt (by rw [e1746]; exact rI_o (by decide))
            have f2183 := cb_12_26 i1765 k_a0
            have f2184 : (q_I r1763.2 12 26 a0).toInt = (q_I d1757 12 26 a0).toInt := congrArg Int32.toInt (u1769 12 26 a0 (by decide))
            have f2185 := cb_12_26 i1759 k_a0
            have f2186 : (q_I d1757 12 26 a0).toInt = (q_I d1751 12 26 a0).toInt := congrArg Int32.toInt (by rw [e1758]; exact rI_o (by decide))
            have f2187 := cb_12_26 i1753 k_a0
            have f2188 : (q_I d1751 12 26 a0).toInt = (0 : Int) := congrArg Int32.toInt (show q_I d1751 12 26 a0 = (0 : Int32) by rw [e1752]; exact rI_s)
            have f2189 := ti_b (q_I r1763.2 12 7 a0)
            have f2190 : (q_I r1763.2 12 7 a0).toInt = (q_I d1757 12 7 a0).toInt := congrArg Int32.toInt (u1769 12 7 a0 (by decide))
            have f2191 := ti_b (q_I d1757 12 7 a0)
            have f2192 : (q_I d1757 12 7 a0).toInt = (q_I d1751 12 7 a0).toInt := congrArg Int32.toInt (by rw [e1758]; exact rI_o (by decide))
            have f2193 := ti_b (q_I d1751 12 7 a0)
            have f2194 : (q_I d1751 12 7 a0).toInt = (q_I d1745 12 7 a0).toInt := congrArg Int32.toInt (by rw [e1752]; exact rI_o (by decide))
            have f2195 := ti_b (q_I d1745 12 7 a0)
            have f2196 : (q_I d1745 12 7 a0).toInt = (q_I r1715 12 7 a0).toInt := congrArg Int32.toInt (by rw [e1746]; exact rI_o (by decide))
            have f2197 := cb_12_27 i1765 k_a0
            have f2198 : (q_I r1763.2 12 27 a0).toInt = (q_I d1757 12 27 a0).toInt := congrArg Int32.toInt (u1769 12 27 a0 (by decide))
            have f2199 := cb_12_27 i1759 k_a0
            have f2200 : (q_I d1757 12 27 a0).toInt = (0 : Int) := congrArg Int32.toInt (show q_I d1757 12 27 a0 = (0 : Int32) by rw [e1758]; exact rI_s)
            refine ok_bind (k_X12_readSteps L hN (a0 := a0) k_a0 (show (q_I r1763.2 12 24 a0).toInt ≤ 3 by first | assumption | omega) (show (q_I r1763.2 12 26 a0).toInt ≤ (q_I r1763.2 12 4 a0).toInt by first | assumption | omega) (show (q_I r1763.2 12 7 a0).toInt = 0 by first | assumption | omega) (show 4 - (q_I r1763.2 12 27 a0).toInt < 20 by first | assumption | omega) i1765) (fun r2173 hr2174 => ?_)
            obtain ⟨i2201, ⟨u2207, u2208, u2209⟩, p2202, p2203, p2204, p2205, p2206⟩ := hr2174
            have u2210 := kp_t u1773 u2207
            have v2211 : q_V r2173 = q_V δ := (u2208).trans v1774
            have v2212 := kr_t v1775 u2209
            have f2213 := cb_12_4 i2201 k_a0
            have f2214 := ti_b (q_I r1763.2 12 5 a0)
            have f2215 : (q_I r1763.2 12 5 a0).toInt = (q_I d1757 12 5 a0).toInt := congrArg Int32.toInt (u1769 12 5 a0 (by decide))
            have f2216 := ti_b (q_I d1757 12 5 a0)
            have f2217 : (q_I d1757 12 5 a0).toInt = (q_I d1751 12 5 a0).toInt := congrArg Int32.toInt (by rw [e1758]; exact rI_o (by decide))
            have f2218 := ti_b (q_I d1751 12 5 a0)
            have f2219 : (q_I d1751 12 5 a0).toInt = (q_I d1745 12 5 a0).toInt := congrArg Int32.toInt (by rw [e1752]; exact rI_o (by decide))
            have f2220 := ti_b (q_I d1745 12 5 a0)
            have f2221 : (q_I d1745 12 5 a0).toInt = (q_I r1715 12 5 a0).toInt := congrArg Int32.toInt (by rw [e1746]; exact rI_o (by decide))
            have f2222 := ti_b (q_I r2173 12 5 a0)
            have f2223 := ti_b (q_I r2173 12 7 a0)
            have f2224 := cb_12_27 i2201 k_a0
            have f2225 := cb_12_26 i2201 k_a0
            refine ok_bind (k_X12_fine L hN (a0 := a0) k_a0 i2201) (fun r2226 hr2227 => ?_)
            obtain ⟨i2228, p2229, p2230, p2231⟩ := hr2227
            try rw [i2228]
            have f2232 := bo_t p2229
            have f2233 := ti_b r2226.1
            have f2234 := ti_b r2226.1
            refine ok_ite (fun h2235 => ?_) (fun h2235 => ?_)
            · have c2236 : r2226.1.toInt = (0 : Int) := o_eq h2235
              unfold J_X12_thief_106
              refine ok_bind (k_X12_result L hN (a0 := a0) (x1 := (q_I r2173 12 24 a0)) k_a0 i2201) (fun r2237 hr2238 => ?_)
              obtain ⟨i2239, ⟨u2240, u2241, u2242, u2243⟩⟩ := hr2238
              have u2244 := kp_t u2210 u2240
              have v2245 : q_V r2237.2 = q_V δ := (u2241).trans v2211
              have v2246 := kr_t v2212 u2243
              have f2247 := ti_b r2237.1
              have f2248 := cb_12_24 i2239 k_a0
              have f2249 : (q_I r2237.2 12 24 a0).toInt = (q_I r2173 12 24 a0).toInt := congrArg Int32.toInt (u2240 12 24 a0 (by decide))
              have f2250 := cb_12_24 i2201 k_a0
              have f2251 : (q_I r2173 12 24 a0).toInt = (q_I r1763.2 12 24 a0).toInt := congrArg Int32.toInt (u2207 12 24 a0 (by decide))
              refine ok_ite (fun h2252 => ?_) (fun h2252 => ?_)
              · have c2253 : r2237.1.toInt = (q_I r2237.2 12 24 a0).toInt := o_eq h2252
                obtain ⟨b2254, o2255, k2256, n2257⟩ := gO_12_28 L k_a0
                obtain rfl := gS_12_28 L k_a0 o2255
                refine ok_at o2255 ?_
                have t2258 := ti_tn (q_I r2237.2 12 24 a0)
                refine ok_gd (fun hc2259 => ?_) ?_
                · rcases hc2259 with hc2259 | hc2259
                  · have c2260 : (q_I r2237.2 12 24 a0).toInt < (0 : Int) := o_lt hc2259
                    omega
                  · omega
                have f2264 := cb_12_25 i2239 k_a0
                have f2265 : (q_I r2237.2 12 25 a0).toInt = (q_I r2173 12 25 a0).toInt := congrArg Int32.toInt (u2240 12 25 a0 (by decide))
                have f2266 := cb_12_25 i2201 k_a0
                refine ok_bdv (fun d2261 e2262 => ?_)
                have i2263 : RI ad h.1 δ0 d2261 := by rw [e2262]; exact cr_112 L i2239 (show 0 ≤ (q_I r2237.2 12 25 a0).toInt by omega) (show (q_I r2237.2 12 25 a0).toInt ≤ 60 by omega)
                have u2267 := kp_N u2244 (show q_I d2261 = q_I r2237.2 by rw [e2262]; rfl)
                have v2268 : q_V d2261 = q_V δ := ((show q_V d2261 = q_V r2237.2 by rw [e2262]; rfl)).trans v2245
                have v2269 := kr_s L (by decide) v2246 e2262
                have f2273 := cb_12_24 i2263 k_a0
                have f2274 : (q_I d2261 12 24 a0).toInt = (q_I r2237.2 12 24 a0).toInt := congrArg Int32.toInt (by rw [e2262]; rfl)
                first | (have q2276 := te_addc (c := 1) (n := 1) rfl (q_I d2261 12 24 a0) (by omega) (by omega); obtain ⟨f2277, f2278, f2279⟩ := q2276) | (obtain ⟨q2276, f2277, f2278, f2279⟩ := ti_addc (c := 1) (n := 1) rfl (q_I d2261 12 24 a0))
                refine ok_bdv (fun d2270 e2271 => ?_)
                have i2272 : RI ad h.1 δ0 d2270 := by rw [e2271]; exact cs_12_24 L i2263 k_a0 (show 0 ≤ ((q_I d2261 12 24 a0) + (1 : Int32)).toInt by omega) (show ((q_I d2261 12 24 a0) + (1 : Int32)).toInt ≤ 4 by omega)
                have u2280 := kp_I u2267 e2271
                have v2281 : q_V d2270 = q_V δ := ((show q_V d2270 = q_V d2261 by rw [e2271]; rfl)).trans v2268
                have v2282 := kr_N v2269 (show q_R d2270 = q_R d2261 by rw [e2271]; rfl)
                unfold J_X12_thief_146
                have f2283 := cb_12_2 i2272 k_a0
                have f2284 : (q_I d2270 12 2 a0).toInt = (q_I d2261 12 2 a0).toInt := congrArg Int32.toInt (by rw [e2271]; exact rI_o (by decide))
                have f2285 := cb_12_2 i2263 k_a0
                have f2286 : (q_I d2261 12 2 a0).toInt = (q_I r2237.2 12 2 a0).toInt := congrArg Int32.toInt (by rw [e2262]; rfl)
                have f2287 := cb_12_2 i2239 k_a0
                have f2288 : (q_I r2237.2 12 2 a0).toInt = (q_I r2173 12 2 a0).toInt := congrArg Int32.toInt (u2240 12 2 a0 (by decide))
                have f2289 := cb_12_2 i2201 k_a0
                have f2290 : (q_I r2173 12 2 a0).toInt = (q_I r1763.2 12 2 a0).toInt := congrArg Int32.toInt (u2207 12 2 a0 (by decide))
                have f2291 := cb_12_2 i1765 k_a0
                have f2292 : (q_I r1763.2 12 2 a0).toInt = (q_I d1757 12 2 a0).toInt := congrArg Int32.toInt (u1769 12 2 a0 (by decide))
                have f2293 := cb_12_2 i1759 k_a0
                have f2294 : (q_I d1757 12 2 a0).toInt = (q_I d1751 12 2 a0).toInt := congrArg Int32.toInt (by rw [e1758]; exact rI_o (by decide))
                have f2295 := cb_12_2 i1753 k_a0
                have f2296 : (q_I d1751 12 2 a0).toInt = (q_I d1745 12 2 a0).toInt := congrArg Int32.toInt (by rw [e1752]; exact rI_o (by decide))
                have f2297 := cb_12_2 i1747 k_a0
                have f2298 : (q_I d1745 12 2 a0).toInt = (q_I r1715 12 2 a0).toInt := congrArg Int32.toInt (by rw [e1746]; exact rI_o (by decide))
                exact ok_some (show RI ad h.1 δ0 d2270 ∧ (kp [(12, 0), (12, 2), (12, 3), (12, 4), (12, 5), (12, 6), (12, 7), (12, 8), (12, 24), (12, 25), (12, 26), (12, 27)] δ d2270 ∧ q_V d2270 = q_V δ ∧ kr ad [100, 112, 113, 114, 115, 116, 117] δ d2270) ∧ (0 ≤ (x1).toInt ∧ (x1).toInt ≤ (q_I δ 12 2 a0).toInt → (q_I d2270 12 2 a0).toInt = 0) ∧ ((x1).toInt < 0 ∨ (q_I δ 12 2 a0).toInt < (x1).toInt → (q_I d2270 12 2 a0).toInt = (q_I δ 12 2 a0).toInt) from ⟨i2272, ⟨kp_w (by decide) u2280, v2281, kr_w (by decide) v2282⟩, by first | assumption | omega, by first | assumption | omega⟩)
              · have c2299 : r2237.1.toInt ≠ (q_I r2237.2 12 24 a0).toInt := o_ne h2252
                unfold J_X12_thief_146
                have f2300 := cb_12_2 i2239 k_a0
                have f2301 : (q_I r2237.2 12 2 a0).toInt = (q_I r2173 12 2 a0).toInt := congrArg Int32.toInt (u2240 12 2 a0 (by decide))
                have f2302 := cb_12_2 i2201 k_a0
                have f2303 : (q_I r2173 12 2 a0).toInt = (q_I r1763.2 12 2 a0).toInt := congrArg Int32.toInt (u2207 12 2 a0 (by decide))
                have f2304 := cb_12_2 i1765 k_a0
                have f2305 : (q_I r1763.2 12 2 a0).toInt = (q_I d1757 12 2 a0).toInt := congrArg Int32.toInt (u1769 12 2 a0 (by decide))
                have f2306 := cb_12_2 i1759 k_a0
                have f2307 : (q_I d1757 12 2 a0).toInt = (q_I d1751 12 2 a0).toInt := congrArg Int32.toInt (by rw [e1758]; exact rI_o (by decide))
                have f2308 := cb_12_2 i1753 k_a0
                have f2309 : (q_I d1751 12 2 a0).toInt = (q_I d1745 12 2 a0).toInt := congrArg Int32.toInt (by rw [e1752]; exact rI_o (by decide))
                have f2310 := cb_12_2 i1747 k_a0
                have f2311 : (q_I d1745 12 2 a0).toInt = (q_I r1715 12 2 a0).toInt := congrArg Int32.toInt (by rw [e1746]; exact rI_o (by decide))
                exact ok_some (show RI ad h.1 δ0 r2237.2 ∧ (kp [(12, 0), (12, 2), (12, 3), (12, 4), (12, 5), (12, 6), (12, 7), (12, 8), (12, 24), (12, 25), (12, 26), (12, 27)] δ r2237.2 ∧ q_V r2237.2 = q_V δ ∧ kr ad [100, 112, 113, 114, 115, 116, 117] δ r2237.2) ∧ (0 ≤ (x1).toInt ∧ (x1).toInt ≤ (q_I δ 12 2 a0).toInt → (q_I r2237.2 12 2 a0).toInt = 0) ∧ ((x1).toInt < 0 ∨ (q_I δ 12 2 a0).toInt < (x1).toInt → (q_I r2237.2 12 2 a0).toInt = (q_I δ 12 2 a0).toInt) from ⟨i2239, ⟨kp_w (by decide) u2244, v2245, kr_w (by decide) v2246⟩, by first | assumption | omega, by first | assumption | omega⟩)
            · have c2312 : r2226.1.toInt ≠ (0 : Int) := o_ne h2235
              refine ok_bind (k_X12_isMore L hN (a0 := a0) k_a0 i2201) (fun r2313 hr2314 => ?_)
              obtain ⟨i2315, ⟨u2319, u2320, u2321, u2322⟩, p2316, p2317, p2318⟩ := hr2314
              have u2323 := kp_t u2210 u2319
              have v2324 : q_V r2313.2 = q_V δ := (u2320).trans v2211
              have v2325 := kr_t v2212 u2322
              have f2326 := bo_t p2316
              have f2327 := cb_12_4 i2315 k_a0
              have f2328 := ti_b r2313.1
              have f2329 := cb_12_3 i2201 k_a0
              have f2330 : (q_I r2173 12 3 a0).toInt = (q_I r1763.2 12 3 a0).toInt := congrArg Int32.toInt (u2207 12 3 a0 (by decide))
              have f2331 := cb_12_3 i1765 k_a0
              have f2332 : (q_I r1763.2 12 3 a0).toInt = (q_I d1757 12 3 a0).toInt := congrArg Int32.toInt (u1769 12 3 a0 (by decide))
              have f2333 := ti_b r2313.1
              refine ok_ite (fun h2334 => ?_) (fun h2334 => ?_)
              · have c2335 : r2313.1.toInt = (0 : Int) := o_eq h2334
                unfold J_X12_thief_106
                refine ok_bind (k_X12_result L hN (a0 := a0) (x1 := (q_I r2313.2 12 24 a0)) k_a0 i2315) (fun r2336 hr2337 => ?_)
                obtain ⟨i2338, ⟨u2339, u2340, u2341, u2342⟩⟩ := hr2337
                have u2343 := kp_t u2323 u2339
                have v2344 : q_V r2336.2 = q_V δ := (u2340).trans v2324
                have v2345 := kr_t v2325 u2342
                have f2346 := ti_b r2336.1
                have f2347 := cb_12_24 i2338 k_a0
                have f2348 : (q_I r2336.2 12 24 a0).toInt = (q_I r2313.2 12 24 a0).toInt := congrArg Int32.toInt (u2339 12 24 a0 (by decide))
                have f2349 := cb_12_24 i2315 k_a0
                have f2350 : (q_I r2313.2 12 24 a0).toInt = (q_I r2173 12 24 a0).toInt := congrArg Int32.toInt (u2319 12 24 a0 (by decide))
                have f2351 := cb_12_24 i2201 k_a0
                have f2352 : (q_I r2173 12 24 a0).toInt = (q_I r1763.2 12 24 a0).toInt := congrArg Int32.toInt (u2207 12 24 a0 (by decide))
                refine ok_ite (fun h2353 => ?_) (fun h2353 => ?_)
                · have c2354 : r2336.1.toInt = (q_I r2336.2 12 24 a0).toInt := o_eq h2353
                  obtain ⟨b2355, o2356, k2357, n2358⟩ := gO_12_28 L k_a0
                  obtain rfl := gS_12_28 L k_a0 o2356
                  refine ok_at o2356 ?_
                  have t2359 := ti_tn (q_I r2336.2 12 24 a0)
                  refine ok_gd (fun hc2360 => ?_) ?_
                  · rcases hc2360 with hc2360 | hc2360
                    · have c2361 : (q_I r2336.2 12 24 a0).toInt < (0 : Int) := o_lt hc2360
                      omega
                    · omega
                  have f2365 := cb_12_25 i2338 k_a0
                  have f2366 : (q_I r2336.2 12 25 a0).toInt = (q_I r2313.2 12 25 a0).toInt := congrArg Int32.toInt (u2339 12 25 a0 (by decide))
                  have f2367 := cb_12_25 i2315 k_a0
                  have f2368 : (q_I r2313.2 12 25 a0).toInt = (q_I r2173 12 25 a0).toInt := congrArg Int32.toInt (u2319 12 25 a0 (by decide))
                  have f2369 := cb_12_25 i2201 k_a0
                  refine ok_bdv (fun d2362 e2363 => ?_)
                  have i2364 : RI ad h.1 δ0 d2362 := by rw [e2363]; exact cr_112 L i2338 (show 0 ≤ (q_I r2336.2 12 25 a0).toInt by omega) (show (q_I r2336.2 12 25 a0).toInt ≤ 60 by omega)
                  have u2370 := kp_N u2343 (show q_I d2362 = q_I r2336.2 by rw [e2363]; rfl)
                  have v2371 : q_V d2362 = q_V δ := ((show q_V d2362 = q_V r2336.2 by rw [e2363]; rfl)).trans v2344
                  have v2372 := kr_s L (by decide) v2345 e2363
                  have f2376 := cb_12_24 i2364 k_a0
                  have f2377 : (q_I d2362 12 24 a0).toInt = (q_I r2336.2 12 24 a0).toInt := congrArg Int32.toInt (by rw [e2363]; rfl)
                  first | (have q2379 := te_addc (c := 1) (n := 1) rfl (q_I d2362 12 24 a0) (by omega) (by omega); obtain ⟨f2380, f2381, f2382⟩ := q2379) | (obtain ⟨q2379, f2380, f2381, f2382⟩ := ti_addc (c := 1) (n := 1) rfl (q_I d2362 12 24 a0))
                  refine ok_bdv (fun d2373 e2374 => ?_)
                  have i2375 : RI ad h.1 δ0 d2373 := by rw [e2374]; exact cs_12_24 L i2364 k_a0 (show 0 ≤ ((q_I d2362 12 24 a0) + (1 : Int32)).toInt by omega) (show ((q_I d2362 12 24 a0) + (1 : Int32)).toInt ≤ 4 by omega)
                  have u2383 := kp_I u2370 e2374
                  have v2384 : q_V d2373 = q_V δ := ((show q_V d2373 = q_V d2362 by rw [e2374]; rfl)).trans v2371
                  have v2385 := kr_N v2372 (show q_R d2373 = q_R d2362 by rw [e2374]; rfl)
                  unfold J_X12_thief_146
                  have f2386 := cb_12_2 i2375 k_a0
                  have f2387 : (q_I d2373 12 2 a0).toInt = (q_I d2362 12 2 a0).toInt := congrArg Int32.toInt (by rw [e2374]; exact rI_o (by decide))
                  have f2388 := cb_12_2 i2364 k_a0
                  have f2389 : (q_I d2362 12 2 a0).toInt = (q_I r2336.2 12 2 a0).toInt := congrArg Int32.toInt (by rw [e2363]; rfl)
                  have f2390 := cb_12_2 i2338 k_a0
                  have f2391 : (q_I r2336.2 12 2 a0).toInt = (q_I r2313.2 12 2 a0).toInt := congrArg Int32.toInt (u2339 12 2 a0 (by decide))
                  have f2392 := cb_12_2 i2315 k_a0
                  have f2393 : (q_I r2313.2 12 2 a0).toInt = (q_I r2173 12 2 a0).toInt := congrArg Int32.toInt (u2319 12 2 a0 (by decide))
                  have f2394 := cb_12_2 i2201 k_a0
                  have f2395 : (q_I r2173 12 2 a0).toInt = (q_I r1763.2 12 2 a0).toInt := congrArg Int32.toInt (u2207 12 2 a0 (by decide))
                  have f2396 := cb_12_2 i1765 k_a0
                  have f2397 : (q_I r1763.2 12 2 a0).toInt = (q_I d1757 12 2 a0).toInt := congrArg Int32.toInt (u1769 12 2 a0 (by decide))
                  have f2398 := cb_12_2 i1759 k_a0
                  have f2399 : (q_I d1757 12 2 a0).toInt = (q_I d1751 12 2 a0).toInt := congrArg Int32.toInt (by rw [e1758]; exact rI_o (by decide))
                  have f2400 := cb_12_2 i1753 k_a0
                  have f2401 : (q_I d1751 12 2 a0).toInt = (q_I d1745 12 2 a0).toInt := congrArg Int32.toInt (by rw [e1752]; exact rI_o (by decide))
                  have f2402 := cb_12_2 i1747 k_a0
                  have f2403 : (q_I d1745 12 2 a0).toInt = (q_I r1715 12 2 a0).toInt := congrArg Int32.toInt (by rw [e1746]; exact rI_o (by decide))
                  exact ok_some (show RI ad h.1 δ0 d2373 ∧ (kp [(12, 0), (12, 2), (12, 3), (12, 4), (12, 5), (12, 6), (12, 7), (12, 8), (12, 24), (12, 25), (12, 26), (12, 27)] δ d2373 ∧ q_V d2373 = q_V δ ∧ kr ad [100, 112, 113, 114, 115, 116, 117] δ d2373) ∧ (0 ≤ (x1).toInt ∧ (x1).toInt ≤ (q_I δ 12 2 a0).toInt → (q_I d2373 12 2 a0).toInt = 0) ∧ ((x1).toInt < 0 ∨ (q_I δ 12 2 a0).toInt < (x1).toInt → (q_I d2373 12 2 a0).toInt = (q_I δ 12 2 a0).toInt) from ⟨i2375, ⟨kp_w (by decide) u2383, v2384, kr_w (by decide) v2385⟩, by first | assumption | omega, by first | assumption | omega⟩)
                · have c2404 : r2336.1.toInt ≠ (q_I r2336.2 12 24 a0).toInt := o_ne h2353
                  unfold J_X12_thief_146
                  have f2405 := cb_12_2 i2338 k_a0
                  have f2406 : (q_I r2336.2 12 2 a0).toInt = (q_I r2313.2 12 2 a0).toInt := congrArg Int32.toInt (u2339 12 2 a0 (by decide))
                  have f2407 := cb_12_2 i2315 k_a0
                  have f2408 : (q_I r2313.2 12 2 a0).toInt = (q_I r2173 12 2 a0).toInt := congrArg Int32.toInt (u2319 12 2 a0 (by decide))
                  have f2409 := cb_12_2 i2201 k_a0
                  have f2410 : (q_I r2173 12 2 a0).toInt = (q_I r1763.2 12 2 a0).toInt := congrArg Int32.toInt (u2207 12 2 a0 (by decide))
                  have f2411 := cb_12_2 i1765 k_a0
                  have f2412 : (q_I r1763.2 12 2 a0).toInt = (q_I d1757 12 2 a0).toInt := congrArg Int32.toInt (u1769 12 2 a0 (by decide))
                  have f2413 := cb_12_2 i1759 k_a0
                  have f2414 : (q_I d1757 12 2 a0).toInt = (q_I d1751 12 2 a0).toInt := congrArg Int32.toInt (by rw [e1758]; exact rI_o (by decide))
                  have f2415 := cb_12_2 i1753 k_a0
                  have f2416 : (q_I d1751 12 2 a0).toInt = (q_I d1745 12 2 a0).toInt := congrArg Int32.toInt (by rw [e1752]; exact rI_o (by decide))
                  have f2417 := cb_12_2 i1747 k_a0
                  have f2418 : (q_I d1745 12 2 a0).toInt = (q_I r1715 12 2 a0).toInt := congrArg Int32.toInt (by rw [e1746]; exact rI_o (by decide))
                  exact ok_some (show RI ad h.1 δ0 r2336.2 ∧ (kp [(12, 0), (12, 2), (12, 3), (12, 4), (12, 5), (12, 6), (12, 7), (12, 8), (12, 24), (12, 25), (12, 26), (12, 27)] δ r2336.2 ∧ q_V r2336.2 = q_V δ ∧ kr ad [100, 112, 113, 114, 115, 116, 117] δ r2336.2) ∧ (0 ≤ (x1).toInt ∧ (x1).toInt ≤ (q_I δ 12 2 a0).toInt → (q_I r2336.2 12 2 a0).toInt = 0) ∧ ((x1).toInt < 0 ∨ (q_I δ 12 2 a0).toInt < (x1).toInt → (q_I r2336.2 12 2 a0).toInt = (q_I δ 12 2 a0).toInt) from ⟨i2338, ⟨kp_w (by decide) u2343, v2344, kr_w (by decide) v2345⟩, by first | assumption | omega, by first | assumption | omega⟩)
              · have c2419 : r2313.1.toInt ≠ (0 : Int) := o_ne h2334
                refine ok_bind (k_X12_wrong L hN (a0 := a0) (x1 := (1 : Int32)) (x2 := (q_I r2313.2 12 4 a0)) k_a0 (show 0 ≤ ((q_I r2313.2 12 4 a0)).toInt by first | assumption | omega) i2315) (fun r2420 hr2421 => ?_)
                obtain ⟨i2422, ⟨u2424, u2425, u2426, u2427⟩, p2423⟩ := hr2421
                have u2428 := kp_t u2323 u2424
                have v2429 : q_V r2420 = q_V δ := (u2425).trans v2324
                have v2430 := kr_t v2325 u2427
                have f2431 := ti_b (q_I r2420 12 5 a0)
                unfold J_X12_thief_106
                refine ok_bind (k_X12_result L hN (a0 := a0) (x1 := (q_I r2420 12 24 a0)) k_a0 i2422) (fun r2432 hr2433 => ?_)
                obtain ⟨i2434, ⟨u2435, u2436, u2437, u2438⟩⟩ := hr2433
                have u2439 := kp_t u2428 u2435
                have v2440 : q_V r2432.2 = q_V δ := (u2436).trans v2429
                have v2441 := kr_t v2430 u2438
                have f2442 := ti_b r2432.1
                have f2443 := cb_12_24 i2434 k_a0
                have f2444 : (q_I r2432.2 12 24 a0).toInt = (q_I r2420 12 24 a0).toInt := congrArg Int32.toInt (u2435 12 24 a0 (by decide))
                have f2445 := cb_12_24 i2422 k_a0
                have f2446 : (q_I r2420 12 24 a0).toInt = (q_I r2313.2 12 24 a0).toInt := congrArg Int32.toInt (u2424 12 24 a0 (by decide))
                have f2447 := cb_12_24 i2315 k_a0
                have f2448 : (q_I r2313.2 12 24 a0).toInt = (q_I r2173 12 24 a0).toInt := congrArg Int32.toInt (u2319 12 24 a0 (by decide))
                have f2449 := cb_12_24 i2201 k_a0
                have f2450 : (q_I r2173 12 24 a0).toInt = (q_I r1763.2 12 24 a0).toInt := congrArg Int32.toInt (u2207 12 24 a0 (by decide))
                refine ok_ite (fun h2451 => ?_) (fun h2451 => ?_)
                · have c2452 : r2432.1.toInt = (q_I r2432.2 12 24 a0).toInt := o_eq h2451
                  obtain ⟨b2453, o2454, k2455, n2456⟩ := gO_12_28 L k_a0
                  obtain rfl := gS_12_28 L k_a0 o2454
                  refine ok_at o2454 ?_
                  have t2457 := ti_tn (q_I r2432.2 12 24 a0)
                  refine ok_gd (fun hc2458 => ?_) ?_
                  · rcases hc2458 with hc2458 | hc2458
                    · have c2459 : (q_I r2432.2 12 24 a0).toInt < (0 : Int) := o_lt hc2458
                      omega
                    · omega
                  have f2463 := cb_12_25 i2434 k_a0
                  have f2464 : (q_I r2432.2 12 25 a0).toInt = (q_I r2420 12 25 a0).toInt := congrArg Int32.toInt (u2435 12 25 a0 (by decide))
                  have f2465 := cb_12_25 i2422 k_a0
                  have f2466 : (q_I r2420 12 25 a0).toInt = (q_I r2313.2 12 25 a0).toInt := congrArg Int32.toInt (u2424 12 25 a0 (by decide))
                  have f2467 := cb_12_25 i2315 k_a0
                  have f2468 : (q_I r2313.2 12 25 a0).toInt = (q_I r2173 12 25 a0).toInt := congrArg Int32.toInt (u2319 12 25 a0 (by decide))
                  have f2469 := cb_12_25 i2201 k_a0
                  refine ok_bdv (fun d2460 e2461 => ?_)
                  have i2462 : RI ad h.1 δ0 d2460 := by rw [e2461]; exact cr_112 L i2434 (show 0 ≤ (q_I r2432.2 12 25 a0).toInt by omega) (show (q_I r2432.2 12 25 a0).toInt ≤ 60 by omega)
                  have u2470 := kp_N u2439 (show q_I d2460 = q_I r2432.2 by rw [e2461]; rfl)
                  have v2471 : q_V d2460 = q_V δ := ((show q_V d2460 = q_V r2432.2 by rw [e2461]; rfl)).trans v2440
                  have v2472 := kr_s L (by decide) v2441 e2461
                  have f2476 := cb_12_24 i2462 k_a0
                  have f2477 : (q_I d2460 12 24 a0).toInt = (q_I r2432.2 12 24 a0).toInt := congrArg Int32.toInt (by rw [e2461]; rfl)
                  first | (have q2479 := te_addc (c := 1) (n := 1) rfl (q_I d2460 12 24 a0) (by omega) (by omega); obtain ⟨f2480, f2481, f2482⟩ := q2479) | (obtain ⟨q2479, f2480, f2481, f2482⟩ := ti_addc (c := 1) (n := 1) rfl (q_I d2460 12 24 a0))
                  refine ok_bdv (fun d2473 e2474 => ?_)
                  have i2475 : RI ad h.1 δ0 d2473 := by rw [e2474]; exact cs_12_24 L i2462 k_a0 (show 0 ≤ ((q_I d2460 12 24 a0) + (1 : Int32)).toInt by omega) (show ((q_I d2460 12 24 a0) + (1 : Int32)).toInt ≤ 4 by omega)
                  have u2483 := kp_I u2470 e2474
                  have v2484 : q_V d2473 = q_V δ := ((show q_V d2473 = q_V d2460 by rw [e2474]; rfl)).trans v2471
                  have v2485 := kr_N v2472 (show q_R d2473 = q_R d2460 by rw [e2474]; rfl)
                  unfold J_X12_thief_146
                  have f2486 := cb_12_2 i2475 k_a0
                  have f2487 : (q_I d2473 12 2 a0).toInt = (q_I d2460 12 2 a0).toInt := congrArg Int32.toInt (by rw [e2474]; exact rI_o (by decide))
                  have f2488 := cb_12_2 i2462 k_a0
                  have f2489 : (q_I d2460 12 2 a0).toInt = (q_I r2432.2 12 2 a0).toInt := congrArg Int32.toInt (by rw [e2461]; rfl)
                  have f2490 := cb_12_2 i2434 k_a0
                  have f2491 : (q_I r2432.2 12 2 a0).toInt = (q_I r2420 12 2 a0).toInt := congrArg Int32.toInt (u2435 12 2 a0 (by decide))
                  have f2492 := cb_12_2 i2422 k_a0
                  have f2493 : (q_I r2420 12 2 a0).toInt = (q_I r2313.2 12 2 a0).toInt := congrArg Int32.toInt (u2424 12 2 a0 (by decide))
                  have f2494 := cb_12_2 i2315 k_a0
                  have f2495 : (q_I r2313.2 12 2 a0).toInt = (q_I r2173 12 2 a0).toInt := congrArg Int32.toInt (u2319 12 2 a0 (by decide))
                  have f2496 := cb_12_2 i2201 k_a0
                  have f2497 : (q_I r2173 12 2 a0).toInt = (q_I r1763.2 12 2 a0).toInt := congrArg Int32.toInt (u2207 12 2 a0 (by decide))
                  have f2498 := cb_12_2 i1765 k_a0
                  have f2499 : (q_I r1763.2 12 2 a0).toInt = (q_I d1757 12 2 a0).toInt := congrArg Int32.toInt (u1769 12 2 a0 (by decide))
                  have f2500 := cb_12_2 i1759 k_a0
                  have f2501 : (q_I d1757 12 2 a0).toInt = (q_I d1751 12 2 a0).toInt := congrArg Int32.toInt (by rw [e1758]; exact rI_o (by decide))
                  have f2502 := cb_12_2 i1753 k_a0
                  have f2503 : (q_I d1751 12 2 a0).toInt = (q_I d1745 12 2 a0).toInt := congrArg Int32.toInt (by rw [e1752]; exact rI_o (by decide))
                  have f2504 := cb_12_2 i1747 k_a0
                  have f2505 : (q_I d1745 12 2 a0).toInt = (q_I r1715 12 2 a0).toInt := congrArg Int32.toInt (by rw [e1746]; exact rI_o (by decide))
                  exact ok_some (show RI ad h.1 δ0 d2473 ∧ (kp [(12, 0), (12, 2), (12, 3), (12, 4), (12, 5), (12, 6), (12, 7), (12, 8), (12, 24), (12, 25), (12, 26), (12, 27)] δ d2473 ∧ q_V d2473 = q_V δ ∧ kr ad [100, 112, 113, 114, 115, 116, 117] δ d2473) ∧ (0 ≤ (x1).toInt ∧ (x1).toInt ≤ (q_I δ 12 2 a0).toInt → (q_I d2473 12 2 a0).toInt = 0) ∧ ((x1).toInt < 0 ∨ (q_I δ 12 2 a0).toInt < (x1).toInt → (q_I d2473 12 2 a0).toInt = (q_I δ 12 2 a0).toInt) from ⟨i2475, ⟨kp_w (by decide) u2483, v2484, kr_w (by decide) v2485⟩, by first | assumption | omega, by first | assumption | omega⟩)
                · have c2506 : r2432.1.toInt ≠ (q_I r2432.2 12 24 a0).toInt := o_ne h2451
                  unfold J_X12_thief_146
                  have f2507 := cb_12_2 i2434 k_a0
                  have f2508 : (q_I r2432.2 12 2 a0).toInt = (q_I r2420 12 2 a0).toInt := congrArg Int32.toInt (u2435 12 2 a0 (by decide))
                  have f2509 := cb_12_2 i2422 k_a0
                  have f2510 : (q_I r2420 12 2 a0).toInt = (q_I r2313.2 12 2 a0).toInt := congrArg Int32.toInt (u2424 12 2 a0 (by decide))
                  have f2511 := cb_12_2 i2315 k_a0
                  have f2512 : (q_I r2313.2 12 2 a0).toInt = (q_I r2173 12 2 a0).toInt := congrArg Int32.toInt (u2319 12 2 a0 (by decide))
                  have f2513 := cb_12_2 i2201 k_a0
                  have f2514 : (q_I r2173 12 2 a0).toInt = (q_I r1763.2 12 2 a0).toInt := congrArg Int32.toInt (u2207 12 2 a0 (by decide))
                  have f2515 := cb_12_2 i1765 k_a0
                  have f2516 : (q_I r1763.2 12 2 a0).toInt = (q_I d1757 12 2 a0).toInt := congrArg Int32.toInt (u1769 12 2 a0 (by decide))
                  have f2517 := cb_12_2 i1759 k_a0
                  have f2518 : (q_I d1757 12 2 a0).toInt = (q_I d1751 12 2 a0).toInt := congrArg Int32.toInt (by rw [e1758]; exact rI_o (by decide))
                  have f2519 := cb_12_2 i1753 k_a0
                  have f2520 : (q_I d1751 12 2 a0).toInt = (q_I d1745 12 2 a0).toInt := congrArg Int32.toInt (by rw [e1752]; exact rI_o (by decide))
                  have f2521 := cb_12_2 i1747 k_a0
                  have f2522 : (q_I d1745 12 2 a0).toInt = (q_I r1715 12 2 a0).toInt := congrArg Int32.toInt (by rw [e1746]; exact rI_o (by decide))
                  exact ok_some (show RI ad h.1 δ0 r2432.2 ∧ (kp [(12, 0), (12, 2), (12, 3), (12, 4), (12, 5), (12, 6), (12, 7), (12, 8), (12, 24), (12, 25), (12, 26), (12, 27)] δ r2432.2 ∧ q_V r2432.2 = q_V δ ∧ kr ad [100, 112, 113, 114, 115, 116, 117] δ r2432.2) ∧ (0 ≤ (x1).toInt ∧ (x1).toInt ≤ (q_I δ 12 2 a0).toInt → (q_I r2432.2 12 2 a0).toInt = 0) ∧ ((x1).toInt < 0 ∨ (q_I δ 12 2 a0).toInt < (x1).toInt → (q_I r2432.2 12 2 a0).toInt = (q_I δ 12 2 a0).toInt) from ⟨i2434, ⟨kp_w (by decide) u2439, v2440, kr_w (by decide) v2441⟩, by first | assumption | omega, by first | assumption | omega⟩)
