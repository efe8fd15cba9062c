/-! 79.zf.steps (by gen_safe.py) -/
set_option maxHeartbeats 4000000 in
theorem kj_X12_steps_226 {ad : List Nat} {h : hp} (L : Lay TLx ad h) {δ0 : dp} {N : Nat} (hN : 10000000 ≤ N) {a0 : Nat} {x1 : Int32} {x2 : Int32} {x3v : Int32} {x5v : Int32} (k_a0 : q_K h.1 a0 = 12) {δ : dp} (z0 : 0 ≤ (x1).toInt) (z1 : (x1).toInt ≤ 3) (z2 : 0 ≤ (x2).toInt) (z3 : (x2).toInt < 240) (z4 : 0 ≤ (x3v).toInt) (z5 : (x3v).toInt ≤ 65535) (z6 : (x5v).toInt = 0 ∨ (q_R δ (Ad ad 113) (x2).toNatClampNeg).toInt = 0 ∨ 1 ≤ (q_R δ (Ad ad 103) (x1).toNatClampNeg).toInt) (I : RI ad h.1 δ0 δ) : ok (J_X12_steps_226 N h.1 a0 x1 x2 x3v x5v δ) (fun r => RI ad h.1 δ0 r.2 ∧ (kp [(12, 36), (12, 49), (12, 50), (12, 51), (12, 52), (12, 53), (12, 54), (12, 55), (12, 56)] δ r.2 ∧ q_V r.2 = q_V δ ∧ kr ad [102, 103, 118, 119] δ r.2 ∧ sgk ad x1.toNatClampNeg δ r.2) ∧ bo (r.1)) := by
  unfold J_X12_steps_226
  have f1 := ti_b x1
  have f2 := ti_b x2
  have f3 := ti_b x3v
  have f4 := ti_b x5v
  have t5 := ti_tn x2
  have f6 := ti_b (q_R δ (Ad ad 113) (x2).toNatClampNeg)
  have t7 := ti_tn x1
  have f8 := rb_103 L I (x1).toNatClampNeg
  obtain ⟨b9, o10, k11, n12, w13⟩ := gO_12_29 L k_a0
  obtain rfl := gS_12_29 L k_a0 o10
  refine ok_at o10 ?_
  have t14 := ti_tn x2
  refine ok_gd (fun hc15 => ?_) ?_
  · rcases hc15 with hc15 | hc15
    · have c16 : x2.toInt < (0 : Int) := o_lt hc15
      omega
    · omega
  have f17 := ti_b (q_R δ (Ad ad 113) x2.toNatClampNeg)
  refine ok_ite (fun h18 => ?_) (fun h18 => ?_)
  · have c19 : (q_R δ (Ad ad 113) x2.toNatClampNeg).toInt = (1 : Int) := o_eq h18
    refine ok_ite (fun h20 => ?_) (fun h20 => ?_)
    · have c21 : x5v.toInt = (0 : Int) := o_eq h20
      unfold J_X12_steps_247
      refine ok_gp (by decide) ?_
      exact ok_some (show RI ad h.1 δ0 δ ∧ (kp [(12, 36), (12, 49), (12, 50), (12, 51), (12, 52), (12, 53), (12, 54), (12, 55), (12, 56)] δ δ ∧ q_V δ = q_V δ ∧ kr ad [102, 103, 118, 119] δ δ ∧ sgk ad x1.toNatClampNeg δ δ) ∧ bo ((1 : Int32)) from ⟨I, ⟨kp_w (by decide) kp_r, rfl, kr_w (by decide) (kr_r (ad := ad)), sgk_r⟩, bo_1⟩)
    · have c22 : x5v.toInt ≠ (0 : Int) := o_ne h20
      refine ok_bind (g_X12_leaves L hN (a0 := a0) (x1 := x1) (x2 := x3v) k_a0 (show 0 ≤ (x1).toInt by first | assumption | omega) (show (x1).toInt ≤ 3 by first | assumption | omega) (show -999 ≤ (q_R δ (Ad ad 103) (x1).toNatClampNeg).toInt by first | assumption | omega) I) (fun r23 hr24 => ?_)
      obtain ⟨i25, ⟨u27, u28, u29, u30⟩, p26⟩ := hr24
      have u31 := kp_t kp_r u27
      have v32 : q_V r23 = q_V δ := (u28).trans rfl
      have v33 := kr_t (kr_r (ad := ad)) u29
      have v34 : sgk ad x1.toNatClampNeg δ r23 := sgk_t sgk_r u30
      have f35 := rb_103 L i25 (x1).toNatClampNeg
      unfold J_X12_steps_247
      refine ok_gp (by decide) ?_
      exact ok_some (show RI ad h.1 δ0 r23 ∧ (kp [(12, 36), (12, 49), (12, 50), (12, 51), (12, 52), (12, 53), (12, 54), (12, 55), (12, 56)] δ r23 ∧ q_V r23 = q_V δ ∧ kr ad [102, 103, 118, 119] δ r23 ∧ sgk ad x1.toNatClampNeg δ r23) ∧ bo ((1 : Int32)) from ⟨i25, ⟨kp_w (by decide) u31, v32, kr_w (by decide) v33, v34⟩, bo_1⟩)
  · have c36 : (q_R δ (Ad ad 113) x2.toNatClampNeg).toInt ≠ (1 : Int) := o_ne h18
    unfold J_X12_steps_247
    refine ok_gp (by decide) ?_
    exact ok_some (show RI ad h.1 δ0 δ ∧ (kp [(12, 36), (12, 49), (12, 50), (12, 51), (12, 52), (12, 53), (12, 54), (12, 55), (12, 56)] δ δ ∧ q_V δ = q_V δ ∧ kr ad [102, 103, 118, 119] δ δ ∧ sgk ad x1.toNatClampNeg δ δ) ∧ bo ((1 : Int32)) from ⟨I, ⟨kp_w (by decide) kp_r, rfl, kr_w (by decide) (kr_r (ad := ad)), sgk_r⟩, bo_1⟩)
set_option maxHeartbeats 4000000 in
theorem kj_X12_steps_203 {ad : List Nat} {h : hp} (L : Lay TLx ad h) {δ0 : dp} {N : Nat} (hN : 10000000 ≤ N) {a0 : Nat} {x1 : Int32} {x2 : Int32} {xs0 : Int32} {as1 : Nat} {x3v : Int32} {x5v : Int32} (k_a0 : q_K h.1 a0 = 12) (k_as1 : q_K h.1 as1 = 12) {δ : dp} (z0 : 0 ≤ (x1).toInt) (z1 : (x1).toInt ≤ 3) (z2 : 0 ≤ (x2).toInt) (z3 : (x2).toInt < 240) (z4 : 0 ≤ (x3v).toInt) (z5 : (x3v).toInt ≤ 65535) (z6 : (q_R δ (Ad ad 113) (x2).toNatClampNeg).toInt = 0 → (q_R δ (Ad ad 103) (x1).toNatClampNeg).toInt < 2000) (z7 : (x5v).toInt = 0 ∨ 1 ≤ (q_R δ (Ad ad 103) (x1).toNatClampNeg).toInt) (I : RI ad h.1 δ0 δ) : ok (J_X12_steps_203 N h.1 a0 x1 x2 xs0 as1 x3v x5v δ) (fun r => RI ad h.1 δ0 r.2 ∧ (kp [(12, 36), (12, 49), (12, 50), (12, 51), (12, 52), (12, 53), (12, 54), (12, 55), (12, 56)] δ r.2 ∧ q_V r.2 = q_V δ ∧ kr ad [102, 103, 118, 119] δ r.2 ∧ sgk ad x1.toNatClampNeg δ r.2) ∧ bo (r.1)) := by
  unfold J_X12_steps_203
  have f1 := ti_b x1
  have f2 := ti_b x2
  have f3 := ti_b x3v
  have t4 := ti_tn x2
  have f5 := ti_b (q_R δ (Ad ad 113) (x2).toNatClampNeg)
  have t6 := ti_tn x1
  have f7 := rb_103 L I (x1).toNatClampNeg
  have f8 := ti_b x5v
  have f12 := ti_b xs0
  refine ok_bdv (fun d9 e10 => ?_)
  have i11 : RI ad h.1 δ0 d9 := by rw [e10]; exact cs_12_50 L I
  have u13 := kp_I kp_r e10
  have v14 : q_V d9 = q_V δ := ((show q_V d9 = q_V δ by rw [e10]; rfl)).trans rfl
  have v15 := kr_N (kr_r (ad := ad)) (show q_R d9 = q_R δ by rw [e10]; rfl)
  have v16 : sgk ad x1.toNatClampNeg δ d9 := sgk_t sgk_r ((show sgk ad x1.toNatClampNeg δ d9 by rw [e10]; exact sgk_r))
  obtain ⟨b17, o18, k19, n20, w21⟩ := gO_12_29 L k_a0
  obtain rfl := gS_12_29 L k_a0 o18
  refine ok_at o18 ?_
  have t22 := ti_tn x2
  refine ok_gd (fun hc23 => ?_) ?_
  · rcases hc23 with hc23 | hc23
    · have c24 : x2.toInt < (0 : Int) := o_lt hc23
      omega
    · omega
  have f25 : (q_R d9 (Ad ad 113) x2.toNatClampNeg).toInt = (q_R δ (Ad ad 113) x2.toNatClampNeg).toInt := congrArg Int32.toInt (show q_R d9 (Ad ad 113) x2.toNatClampNeg = _ by rw [e10]; rfl)
  have f26 := ti_b (q_R δ (Ad ad 113) x2.toNatClampNeg)
  have f27 := ti_b (q_R d9 (Ad ad 113) x2.toNatClampNeg)
  refine ok_ite (fun h28 => ?_) (fun h28 => ?_)
  · have c29 : (q_R d9 (Ad ad 113) x2.toNatClampNeg).toInt = (0 : Int) := o_eq h28
    refine ok_ite (fun h30 => ?_) (fun h30 => ?_)
    · have c31 : x5v.toInt = (0 : Int) := o_eq h30
      have f34 : (q_R d9 (Ad ad 103) (x1).toNatClampNeg).toInt = (q_R δ (Ad ad 103) (x1).toNatClampNeg).toInt := congrArg Int32.toInt (show q_R d9 (Ad ad 103) (x1).toNatClampNeg = _ by rw [e10]; rfl)
      have f35 := rb_103 L i11 (x1).toNatClampNeg
      refine ok_bind (g_X12_comes L hN (a0 := a0) (x1 := x1) (x2 := x3v) k_a0 (show 0 ≤ (x1).toInt by first | assumption | omega) (show (x1).toInt ≤ 3 by first | assumption | omega) (show (q_R d9 (Ad ad 103) (x1).toNatClampNeg).toInt < 2000 by first | assumption | omega) i11) (fun r32 hr33 => ?_)
      obtain ⟨i36, ⟨u38, u39, u40, u41⟩, p37⟩ := hr33
      have u42 := kp_t u13 u38
      have v43 : q_V r32 = q_V δ := (u39).trans v14
      have v44 := kr_t v15 u40
      have v45 : sgk ad x1.toNatClampNeg δ r32 := sgk_t v16 u41
      have f46 := rb_103 L i36 (x1).toNatClampNeg
      have f47 : (q_R r32 (Ad ad 113) (x2).toNatClampNeg).toInt = (q_R d9 (Ad ad 113) (x2).toNatClampNeg).toInt := congrArg Int32.toInt (congrFun (u40 113 (by decide) (by decide) (by decide)) _)
      have f48 : (q_R d9 (Ad ad 113) (x2).toNatClampNeg).toInt = (q_R δ (Ad ad 113) (x2).toNatClampNeg).toInt := congrArg Int32.toInt (show q_R d9 (Ad ad 113) (x2).toNatClampNeg = _ by rw [e10]; rfl)
      have f49 := ti_b (q_R d9 (Ad ad 113) (x2).toNatClampNeg)
      have f50 := ti_b (q_R r32 (Ad ad 113) (x2).toNatClampNeg)
      refine ok_mono (kj_X12_steps_226 L hN (a0 := a0) (x1 := x1) (x2 := x2) (x3v := x3v) (x5v := x5v) k_a0 (show 0 ≤ (x1).toInt by first | assumption | omega) (show (x1).toInt ≤ 3 by first | assumption | omega) (show 0 ≤ (x2).toInt by first | assumption | omega) (show (x2).toInt < 240 by first | assumption | omega) (show 0 ≤ (x3v).toInt by first | assumption | omega) (show (x3v).toInt ≤ 65535 by first | assumption | omega) (show (x5v).toInt = 0 ∨ (q_R r32 (Ad ad 113) (x2).toNatClampNeg).toInt = 0 ∨ 1 ≤ (q_R r32 (Ad ad 103) (x1).toNatClampNeg).toInt by first | assumption | omega) i36) (fun r51 hr52 => ?_)
      obtain ⟨i53, ⟨u55, u56, u57, u58⟩, p54⟩ := hr52
      have u59 := kp_t u42 u55
      have v60 : q_V r51.2 = q_V δ := (u56).trans v43
      have v61 := kr_t v44 u57
      have v62 : sgk ad x1.toNatClampNeg δ r51.2 := sgk_t v45 u58
      have f63 := bo_l p54
      have f64 := ti_b r51.1
      exact ⟨by assumption, ⟨kp_w (by decide) u59, v60, kr_w (by decide) v61, v62⟩, by first | assumption | omega⟩
    · have c65 : x5v.toInt ≠ (0 : Int) := o_ne h30
      have f66 : (q_R d9 (Ad ad 113) (x2).toNatClampNeg).toInt = (q_R δ (Ad ad 113) (x2).toNatClampNeg).toInt := congrArg Int32.toInt (show q_R d9 (Ad ad 113) (x2).toNatClampNeg = _ by rw [e10]; rfl)
      have f67 := ti_b (q_R d9 (Ad ad 113) (x2).toNatClampNeg)
      have f68 : (q_R d9 (Ad ad 103) (x1).toNatClampNeg).toInt = (q_R δ (Ad ad 103) (x1).toNatClampNeg).toInt := congrArg Int32.toInt (show q_R d9 (Ad ad 103) (x1).toNatClampNeg = _ by rw [e10]; rfl)
      have f69 := rb_103 L i11 (x1).toNatClampNeg
      refine ok_mono (kj_X12_steps_226 L hN (a0 := a0) (x1 := x1) (x2 := x2) (x3v := x3v) (x5v := x5v) k_a0 (show 0 ≤ (x1).toInt by first | assumption | omega) (show (x1).toInt ≤ 3 by first | assumption | omega) (show 0 ≤ (x2).toInt by first | assumption | omega) (show (x2).toInt < 240 by first | assumption | omega) (show 0 ≤ (x3v).toInt by first | assumption | omega) (show (x3v).toInt ≤ 65535 by first | assumption | omega) (show (x5v).toInt = 0 ∨ (q_R d9 (Ad ad 113) (x2).toNatClampNeg).toInt = 0 ∨ 1 ≤ (q_R d9 (Ad ad 103) (x1).toNatClampNeg).toInt by first | assumption | omega) i11) (fun r70 hr71 => ?_)
      obtain ⟨i72, ⟨u74, u75, u76, u77⟩, p73⟩ := hr71
      have u78 := kp_t u13 u74
      have v79 : q_V r70.2 = q_V δ := (u75).trans v14
      have v80 := kr_t v15 u76
      have v81 : sgk ad x1.toNatClampNeg δ r70.2 := sgk_t v16 u77
      have f82 := bo_l p73
      have f83 := ti_b r70.1
      exact ⟨by assumption, ⟨kp_w (by decide) u78, v79, kr_w (by decide) v80, v81⟩, by first | assumption | omega⟩
  · have c84 : (q_R d9 (Ad ad 113) x2.toNatClampNeg).toInt ≠ (0 : Int) := o_ne h28
    have f85 : (q_R d9 (Ad ad 113) (x2).toNatClampNeg).toInt = (q_R δ (Ad ad 113) (x2).toNatClampNeg).toInt := congrArg Int32.toInt (show q_R d9 (Ad ad 113) (x2).toNatClampNeg = _ by rw [e10]; rfl)
    have f86 := ti_b (q_R d9 (Ad ad 113) (x2).toNatClampNeg)
    have f87 : (q_R d9 (Ad ad 103) (x1).toNatClampNeg).toInt = (q_R δ (Ad ad 103) (x1).toNatClampNeg).toInt := congrArg Int32.toInt (show q_R d9 (Ad ad 103) (x1).toNatClampNeg = _ by rw [e10]; rfl)
    have f88 := rb_103 L i11 (x1).toNatClampNeg
    refine ok_mono (kj_X12_steps_226 L hN (a0 := a0) (x1 := x1) (x2 := x2) (x3v := x3v) (x5v := x5v) k_a0 (show 0 ≤ (x1).toInt by first | assumption | omega) (show (x1).toInt ≤ 3 by first | assumption | omega) (show 0 ≤ (x2).toInt by first | assumption | omega) (show (x2).toInt < 240 by first | assumption | omega) (show 0 ≤ (x3v).toInt by first | assumption | omega) (show (x3v).toInt ≤ 65535 by first | assumption | omega) (show (x5v).toInt = 0 ∨ (q_R d9 (Ad ad 113) (x2).toNatClampNeg).toInt = 0 ∨ 1 ≤ (q_R d9 (Ad ad 103) (x1).toNatClampNeg).toInt by first | assumption | omega) i11) (fun r89 hr90 => ?_)
    obtain ⟨i91, ⟨u93, u94, u95, u96⟩, p92⟩ := hr90
    have u97 := kp_t u13 u93
    have v98 : q_V r89.2 = q_V δ := (u94).trans v14
    have v99 := kr_t v15 u95
    have v100 : sgk ad x1.toNatClampNeg δ r89.2 := sgk_t v16 u96
    have f101 := bo_l p92
    have f102 := ti_b r89.1
    exact ⟨by assumption, ⟨kp_w (by decide) u97, v98, kr_w (by decide) v99, v100⟩, by first | assumption | omega⟩
set_option maxHeartbeats 4000000 in
theorem kj_X12_steps_108 {ad : List Nat} {h : hp} (L : Lay TLx ad h) {δ0 : dp} {N : Nat} (hN : 10000000 ≤ N) {a0 : Nat} {x1 : Int32} {x2 : Int32} {x3v : Int32} (k_a0 : q_K h.1 a0 = 12) {δ : dp} (z0 : 0 ≤ (x1).toInt) (z1 : (x1).toInt ≤ 3) (z2 : 0 ≤ (x2).toInt) (z3 : (x2).toInt < 240) (z4 : 0 ≤ (x3v).toInt) (z5 : (x3v).toInt ≤ 65535) (z6 : (q_R δ (Ad ad 113) (x2).toNatClampNeg).toInt = 0 → (q_R δ (Ad ad 103) (x1).toNatClampNeg).toInt < 2000) (I : RI ad h.1 δ0 δ) : ok (J_X12_steps_108 N h.1 a0 x1 x2 x3v δ) (fun r => RI ad h.1 δ0 r.2 ∧ (kp [(12, 36), (12, 49), (12, 50), (12, 51), (12, 52), (12, 53), (12, 54), (12, 55), (12, 56)] δ r.2 ∧ q_V r.2 = q_V δ ∧ kr ad [102, 103, 118, 119] δ r.2 ∧ sgk ad x1.toNatClampNeg δ r.2) ∧ bo (r.1)) := by
  unfold J_X12_steps_108
  have f1 := ti_b x1
  have f2 := ti_b x2
  have f3 := ti_b x3v
  have t4 := ti_tn x2
  have f5 := ti_b (q_R δ (Ad ad 113) (x2).toNatClampNeg)
  have t6 := ti_tn x1
  have f7 := rb_103 L I (x1).toNatClampNeg
  obtain ⟨b8, o9, k10, n11, w12⟩ := gO_12_29 L k_a0
  obtain rfl := gS_12_29 L k_a0 o9
  refine ok_at o9 ?_
  have t13 := ti_tn x2
  refine ok_gd (fun hc14 => ?_) ?_
  · rcases hc14 with hc14 | hc14
    · have c15 : x2.toInt < (0 : Int) := o_lt hc14
      omega
    · omega
  refine ok_bind (k_X12_bits L hN (a0 := a0) (x1 := x1) (x2 := (q_R δ (Ad ad 113) x2.toNatClampNeg)) (x3 := x3v) k_a0 (show 0 ≤ (x1).toInt by first | assumption | omega) (show (x1).toInt ≤ 3 by first | assumption | omega) (show -1 ≤ (x3v).toInt by first | assumption | omega) (show (x3v).toInt ≤ 65536 by first | assumption | omega) I) (fun r16 hr17 => ?_)
  have i18 := hr17
  try rw [i18]
  have f19 := ti_b r16.1
  have f23 := ti_b (q_I δ 12 55 a0)
  first | (have q25 := te_add (q_I δ 12 55 a0) r16.1 (by omega) (by omega); obtain ⟨f26, f27, f28⟩ := q25) | (obtain ⟨q25, f26, f27, f28⟩ := ti_add (q_I δ 12 55 a0) r16.1)
  refine ok_bdv (fun d20 e21 => ?_)
  have i22 : RI ad h.1 δ0 d20 := by rw [e21]; exact cs_12_55 L I
  have u29 := kp_I kp_r e21
  have v30 : q_V d20 = q_V δ := ((show q_V d20 = q_V δ by rw [e21]; rfl)).trans rfl
  have v31 := kr_N (kr_r (ad := ad)) (show q_R d20 = q_R δ by rw [e21]; rfl)
  have v32 : sgk ad x1.toNatClampNeg δ d20 := sgk_t sgk_r ((show sgk ad x1.toNatClampNeg δ d20 by rw [e21]; exact sgk_r))
  refine ok_at o9 ?_
  refine ok_gd (fun hc33 => ?_) ?_
  · rcases hc33 with hc33 | hc33
    · have c34 : x2.toInt < (0 : Int) := o_lt hc33
      omega
    · omega
  refine ok_bind (k_X12_sorted L hN (a0 := a0) (x1 := x1) (x2 := (q_R d20 (Ad ad 113) x2.toNatClampNeg)) (x3 := x3v) k_a0 (show 0 ≤ (x1).toInt by first | assumption | omega) (show (x1).toInt ≤ 3 by first | assumption | omega) i22) (fun r35 hr36 => ?_)
  have i37 := hr36
  try rw [i37]
  have f38 := ti_b r35.1
  have f42 := ti_b (q_I d20 12 56 a0)
  have f43 : (q_I d20 12 56 a0).toInt = (q_I δ 12 56 a0).toInt := congrArg Int32.toInt (by rw [e21]; exact rI_o (by decide))
  have f44 := ti_b (q_I δ 12 56 a0)
  first | (have q46 := te_add (q_I d20 12 56 a0) r35.1 (by omega) (by omega); obtain ⟨f47, f48, f49⟩ := q46) | (obtain ⟨q46, f47, f48, f49⟩ := ti_add (q_I d20 12 56 a0) r35.1)
  refine ok_bdv (fun d39 e40 => ?_)
  have i41 : RI ad h.1 δ0 d39 := by rw [e40]; exact cs_12_56 L i22
  have u50 := kp_I u29 e40
  have v51 : q_V d39 = q_V δ := ((show q_V d39 = q_V d20 by rw [e40]; rfl)).trans v30
  have v52 := kr_N v31 (show q_R d39 = q_R d20 by rw [e40]; rfl)
  have v53 : sgk ad x1.toNatClampNeg δ d39 := sgk_t v32 ((show sgk ad x1.toNatClampNeg d20 d39 by rw [e40]; exact sgk_r))
  have f57 := ti_b (q_I d39 12 51 a0)
  have f58 : (q_I d39 12 51 a0).toInt = (q_I d20 12 51 a0).toInt := congrArg Int32.toInt (by rw [e40]; exact rI_o (by decide))
  have f59 := ti_b (q_I d20 12 51 a0)
  have f60 : (q_I d20 12 51 a0).toInt = (q_I δ 12 51 a0).toInt := congrArg Int32.toInt (by rw [e21]; exact rI_o (by decide))
  have f61 := ti_b (q_I δ 12 51 a0)
  first | (have q63 := te_addc (c := 1) (n := 1) rfl (q_I d39 12 51 a0) (by omega) (by omega); obtain ⟨f64, f65, f66⟩ := q63) | (obtain ⟨q63, f64, f65, f66⟩ := ti_addc (c := 1) (n := 1) rfl (q_I d39 12 51 a0))
  refine ok_bdv (fun d54 e55 => ?_)
  have i56 : RI ad h.1 δ0 d54 := by rw [e55]; exact cs_12_51 L i41
  have u67 := kp_I u50 e55
  have v68 : q_V d54 = q_V δ := ((show q_V d54 = q_V d39 by rw [e55]; rfl)).trans v51
  have v69 := kr_N v52 (show q_R d54 = q_R d39 by rw [e55]; rfl)
  have v70 : sgk ad x1.toNatClampNeg δ d54 := sgk_t v53 ((show sgk ad x1.toNatClampNeg d39 d54 by rw [e55]; exact sgk_r))
  refine ok_bind (k_X12_isThere L hN (a0 := a0) (x1 := x1) (x2 := x3v) k_a0 (show 0 ≤ (x1).toInt by first | assumption | omega) (show (x1).toInt ≤ 3 by first | assumption | omega) i56) (fun r71 hr72 => ?_)
  obtain ⟨i73, p74, p75⟩ := hr72
  try rw [i73]
  have f76 := bo_l p74
  have f77 := ti_b r71.1
  have f78 : (q_R d54 (Ad ad 103) (x1).toNatClampNeg).toInt = (q_R d39 (Ad ad 103) (x1).toNatClampNeg).toInt := congrArg Int32.toInt (show q_R d54 (Ad ad 103) (x1).toNatClampNeg = _ by rw [e55]; rfl)
  have f79 : (q_R d39 (Ad ad 103) (x1).toNatClampNeg).toInt = (q_R d20 (Ad ad 103) (x1).toNatClampNeg).toInt := congrArg Int32.toInt (show q_R d39 (Ad ad 103) (x1).toNatClampNeg = _ by rw [e40]; rfl)
  have f80 : (q_R d20 (Ad ad 103) (x1).toNatClampNeg).toInt = (q_R δ (Ad ad 103) (x1).toNatClampNeg).toInt := congrArg Int32.toInt (show q_R d20 (Ad ad 103) (x1).toNatClampNeg = _ by rw [e21]; rfl)
  have f81 := rb_103 L i22 (x1).toNatClampNeg
  have f82 := rb_103 L i41 (x1).toNatClampNeg
  have f83 := rb_103 L i56 (x1).toNatClampNeg
  have f84 := ti_b r71.1
  refine ok_at o9 ?_
  refine ok_gd (fun hc85 => ?_) ?_
  · rcases hc85 with hc85 | hc85
    · have c86 : x2.toInt < (0 : Int) := o_lt hc85
      omega
    · omega
  have f87 : (q_R d54 (Ad ad 113) x2.toNatClampNeg).toInt = (q_R d39 (Ad ad 113) x2.toNatClampNeg).toInt := congrArg Int32.toInt (show q_R d54 (Ad ad 113) x2.toNatClampNeg = _ by rw [e55]; rfl)
  have f88 : (q_R d39 (Ad ad 113) x2.toNatClampNeg).toInt = (q_R d20 (Ad ad 113) x2.toNatClampNeg).toInt := congrArg Int32.toInt (show q_R d39 (Ad ad 113) x2.toNatClampNeg = _ by rw [e40]; rfl)
  have f89 : (q_R d20 (Ad ad 113) x2.toNatClampNeg).toInt = (q_R δ (Ad ad 113) x2.toNatClampNeg).toInt := congrArg Int32.toInt (show q_R d20 (Ad ad 113) x2.toNatClampNeg = _ by rw [e21]; rfl)
  have f90 := ti_b (q_R δ (Ad ad 113) x2.toNatClampNeg)
  have f91 := ti_b (q_R d20 (Ad ad 113) x2.toNatClampNeg)
  have f92 := ti_b (q_R d39 (Ad ad 113) x2.toNatClampNeg)
  have f93 := ti_b (q_R d54 (Ad ad 113) x2.toNatClampNeg)
  refine ok_ite (fun h94 => ?_) (fun h94 => ?_)
  · have c95 : (q_R d54 (Ad ad 113) x2.toNatClampNeg).toInt = (0 : Int) := o_eq h94
    refine ok_ite (fun h96 => ?_) (fun h96 => ?_)
    · have c97 : r71.1.toInt = (0 : Int) := o_eq h96
      have f98 : (q_R d54 (Ad ad 113) (x2).toNatClampNeg).toInt = (q_R d39 (Ad ad 113) (x2).toNatClampNeg).toInt := congrArg Int32.toInt (show q_R d54 (Ad ad 113) (x2).toNatClampNeg = _ by rw [e55]; rfl)
      have f99 : (q_R d39 (Ad ad 113) (x2).toNatClampNeg).toInt = (q_R d20 (Ad ad 113) (x2).toNatClampNeg).toInt := congrArg Int32.toInt (show q_R d39 (Ad ad 113) (x2).toNatClampNeg = _ by rw [e40]; rfl)
      have f100 : (q_R d20 (Ad ad 113) (x2).toNatClampNeg).toInt = (q_R δ (Ad ad 113) (x2).toNatClampNeg).toInt := congrArg Int32.toInt (show q_R d20 (Ad ad 113) (x2).toNatClampNeg = _ by rw [e21]; rfl)
      have f101 := ti_b (q_R d20 (Ad ad 113) (x2).toNatClampNeg)
      have f102 := ti_b (q_R d39 (Ad ad 113) (x2).toNatClampNeg)
      have f103 := ti_b (q_R d54 (Ad ad 113) (x2).toNatClampNeg)
      refine ok_mono (kj_X12_steps_203 L hN (a0 := a0) (x1 := x1) (x2 := x2) (xs0 := (1 : Int32)) (as1 := a0) (x3v := x3v) (x5v := r71.1) k_a0 k_a0 (show 0 ≤ (x1).toInt by first | assumption | omega) (show (x1).toInt ≤ 3 by first | assumption | omega) (show 0 ≤ (x2).toInt by first | assumption | omega) (show (x2).toInt < 240 by first | assumption | omega) (show 0 ≤ (x3v).toInt by first | assumption | omega) (show (x3v).toInt ≤ 65535 by first | assumption | omega) (show (q_R d54 (Ad ad 113) (x2).toNatClampNeg).toInt = 0 → (q_R d54 (Ad ad 103) (x1).toNatClampNeg).toInt < 2000 by first | assumption | omega) (show (r71.1).toInt = 0 ∨ 1 ≤ (q_R d54 (Ad ad 103) (x1).toNatClampNeg).toInt by first | assumption | omega) i56) (fun r104 hr105 => ?_)
      obtain ⟨i106, ⟨u108, u109, u110, u111⟩, p107⟩ := hr105
      have u112 := kp_t u67 u108
      have v113 : q_V r104.2 = q_V δ := (u109).trans v68
      have v114 := kr_t v69 u110
      have v115 : sgk ad x1.toNatClampNeg δ r104.2 := sgk_t v70 u111
      have f116 := bo_l p107
      have f117 := ti_b r104.1
      exact ⟨by assumption, ⟨kp_w (by decide) u112, v113, kr_w (by decide) v114, v115⟩, by first | assumption | omega⟩
    · have c118 : r71.1.toInt ≠ (0 : Int) := o_ne h96
      have f119 : (q_R d54 (Ad ad 113) (x2).toNatClampNeg).toInt = (q_R d39 (Ad ad 113) (x2).toNatClampNeg).toInt := congrArg Int32.toInt (show q_R d54 (Ad ad 113) (x2).toNatClampNeg = _ by rw [e55]; rfl)
      have f120 : (q_R d39 (Ad ad 113) (x2).toNatClampNeg).toInt = (q_R d20 (Ad ad 113) (x2).toNatClampNeg).toInt := congrArg Int32.toInt (show q_R d39 (Ad ad 113) (x2).toNatClampNeg = _ by rw [e40]; rfl)
      have f121 : (q_R d20 (Ad ad 113) (x2).toNatClampNeg).toInt = (q_R δ (Ad ad 113) (x2).toNatClampNeg).toInt := congrArg Int32.toInt (show q_R d20 (Ad ad 113) (x2).toNatClampNeg = _ by rw [e21]; rfl)
      have f122 := ti_b (q_R d20 (Ad ad 113) (x2).toNatClampNeg)
      have f123 := ti_b (q_R d39 (Ad ad 113) (x2).toNatClampNeg)
      have f124 := ti_b (q_R d54 (Ad ad 113) (x2).toNatClampNeg)
      refine ok_mono (kj_X12_steps_203 L hN (a0 := a0) (x1 := x1) (x2 := x2) (xs0 := (0 : Int32)) (as1 := a0) (x3v := x3v) (x5v := r71.1) k_a0 k_a0 (show 0 ≤ (x1).toInt by first | assumption | omega) (show (x1).toInt ≤ 3 by first | assumption | omega) (show 0 ≤ (x2).toInt by first | assumption | omega) (show (x2).toInt < 240 by first | assumption | omega) (show 0 ≤ (x3v).toInt by first | assumption | omega) (show (x3v).toInt ≤ 65535 by first | assumption | omega) (show (q_R d54 (Ad ad 113) (x2).toNatClampNeg).toInt = 0 → (q_R d54 (Ad ad 103) (x1).toNatClampNeg).toInt < 2000 by first | assumption | omega) (show (r71.1).toInt = 0 ∨ 1 ≤ (q_R d54 (Ad ad 103) (x1).toNatClampNeg).toInt by first | assumption | omega) i56) (fun r125 hr126 => ?_)
      obtain ⟨i127, ⟨u129, u130, u131, u132⟩, p128⟩ := hr126
      have u133 := kp_t u67 u129
      have v134 : q_V r125.2 = q_V δ := (u130).trans v68
      have v135 := kr_t v69 u131
      have v136 : sgk ad x1.toNatClampNeg δ r125.2 := sgk_t v70 u132
      have f137 := bo_l p128
      have f138 := ti_b r125.1
      exact ⟨by assumption, ⟨kp_w (by decide) u133, v134, kr_w (by decide) v135, v136⟩, by first | assumption | omega⟩
  · have c139 : (q_R d54 (Ad ad 113) x2.toNatClampNeg).toInt ≠ (0 : Int) := o_ne h94
    refine ok_at o9 ?_
    refine ok_gd (fun hc140 => ?_) ?_
    · rcases hc140 with hc140 | hc140
      · have c141 : x2.toInt < (0 : Int) := o_lt hc140
        omega
      · omega
    refine ok_bind (k_X12_answer L hN (a0 := a0) (x1 := x1) (x2 := (q_R d54 (Ad ad 113) x2.toNatClampNeg)) (x3 := x3v) k_a0 (show 0 ≤ (x1).toInt by first | assumption | omega) (show (x1).toInt ≤ 3 by first | assumption | omega) i56) (fun r142 hr143 => ?_)
    have i144 := hr143
    try rw [i144]
    have f145 := ti_b r142.1
    have f146 : (q_R d54 (Ad ad 113) (x2).toNatClampNeg).toInt = (q_R d39 (Ad ad 113) (x2).toNatClampNeg).toInt := congrArg Int32.toInt (show q_R d54 (Ad ad 113) (x2).toNatClampNeg = _ by rw [e55]; rfl)
    have f147 : (q_R d39 (Ad ad 113) (x2).toNatClampNeg).toInt = (q_R d20 (Ad ad 113) (x2).toNatClampNeg).toInt := congrArg Int32.toInt (show q_R d39 (Ad ad 113) (x2).toNatClampNeg = _ by rw [e40]; rfl)
    have f148 : (q_R d20 (Ad ad 113) (x2).toNatClampNeg).toInt = (q_R δ (Ad ad 113) (x2).toNatClampNeg).toInt := congrArg Int32.toInt (show q_R d20 (Ad ad 113) (x2).toNatClampNeg = _ by rw [e21]; rfl)
    have f149 := ti_b (q_R d20 (Ad ad 113) (x2).toNatClampNeg)
    have f150 := ti_b (q_R d39 (Ad ad 113) (x2).toNatClampNeg)
    have f151 := ti_b (q_R d54 (Ad ad 113) (x2).toNatClampNeg)
    refine ok_mono (kj_X12_steps_203 L hN (a0 := a0) (x1 := x1) (x2 := x2) (xs0 := r142.1) (as1 := a0) (x3v := x3v) (x5v := r71.1) k_a0 k_a0 (show 0 ≤ (x1).toInt by first | assumption | omega) (show (x1).toInt ≤ 3 by first | assumption | omega) (show 0 ≤ (x2).toInt by first | assumption | omega) (show (x2).toInt < 240 by first | assumption | omega) (show 0 ≤ (x3v).toInt by first | assumption | omega) (show (x3v).toInt ≤ 65535 by first | assumption | omega) (show (q_R d54 (Ad ad 113) (x2).toNatClampNeg).toInt = 0 → (q_R d54 (Ad ad 103) (x1).toNatClampNeg).toInt < 2000 by first | assumption | omega) (show (r71.1).toInt = 0 ∨ 1 ≤ (q_R d54 (Ad ad 103) (x1).toNatClampNeg).toInt by first | assumption | omega) i56) (fun r152 hr153 => ?_)
    obtain ⟨i154, ⟨u156, u157, u158, u159⟩, p155⟩ := hr153
    have u160 := kp_t u67 u156
    have v161 : q_V r152.2 = q_V δ := (u157).trans v68
    have v162 := kr_t v69 u158
    have v163 : sgk ad x1.toNatClampNeg δ r152.2 := sgk_t v70 u159
    have f164 := bo_l p155
    have f165 := ti_b r152.1
    exact ⟨by assumption, ⟨kp_w (by decide) u160, v161, kr_w (by decide) v162, v163⟩, by first | assumption | omega⟩
set_option maxHeartbeats 4000000 in
theorem kj_X12_steps_60 {ad : List Nat} {h : hp} (L : Lay TLx ad h) {δ0 : dp} {N : Nat} (hN : 10000000 ≤ N) {a0 : Nat} {x1 : Int32} {x2 : Int32} {x3v : Int32} (k_a0 : q_K h.1 a0 = 12) {δ : dp} (z0 : 0 ≤ (x1).toInt) (z1 : (x1).toInt ≤ 3) (z2 : 0 ≤ (x2).toInt) (z3 : (x2).toInt < 240) (z4 : 0 ≤ (x3v).toInt) (z5 : (x3v).toInt ≤ 65535) (z6 : (q_R δ (Ad ad 113) (x2).toNatClampNeg).toInt = 0 → (q_R δ (Ad ad 103) (x1).toNatClampNeg).toInt < 2000) (I : RI ad h.1 δ0 δ) : ok (J_X12_steps_60 N h.1 a0 x1 x2 x3v δ) (fun r => RI ad h.1 δ0 r.2 ∧ (kp [(12, 36), (12, 49), (12, 50), (12, 51), (12, 52), (12, 53), (12, 54), (12, 55), (12, 56)] δ r.2 ∧ q_V r.2 = q_V δ ∧ kr ad [102, 103, 118, 119] δ r.2 ∧ sgk ad x1.toNatClampNeg δ r.2) ∧ bo (r.1)) := by
  unfold J_X12_steps_60
  have f1 := ti_b x1
  have f2 := ti_b x2
  have f3 := ti_b x3v
  have t4 := ti_tn x2
  have f5 := ti_b (q_R δ (Ad ad 113) (x2).toNatClampNeg)
  have t6 := ti_tn x1
  have f7 := rb_103 L I (x1).toNatClampNeg
  obtain ⟨b8, o9, k10, n11, w12⟩ := gO_12_29 L k_a0
  obtain rfl := gS_12_29 L k_a0 o9
  refine ok_at o9 ?_
  have t13 := ti_tn x2
  refine ok_gd (fun hc14 => ?_) ?_
  · rcases hc14 with hc14 | hc14
    · have c15 : x2.toInt < (0 : Int) := o_lt hc14
      omega
    · omega
  refine ok_bind (k_X12_halves L hN (a0 := a0) (x1 := x1) (x2 := (q_R δ (Ad ad 113) x2.toNatClampNeg)) (x3 := x3v) k_a0 (show 0 ≤ (x1).toInt by first | assumption | omega) (show (x1).toInt ≤ 3 by first | assumption | omega) I) (fun r16 hr17 => ?_)
  obtain ⟨i18, ⟨u19, u20, u21⟩⟩ := hr17
  have u22 := kp_t kp_r u19
  have v23 : q_V r16.2 = q_V δ := (u20).trans rfl
  have v24 := kr_t (kr_r (ad := ad)) u21
  have v25 : sgk ad x1.toNatClampNeg δ r16.2 := sgk_t sgk_r (sgk_k (u21 102 (by decide) (by decide) (by decide)) (u21 103 (by decide) (by decide) (by decide)))
  have f26 := ti_b r16.1
  have f30 := ti_b (q_I r16.2 12 52 a0)
  have f31 : (q_I r16.2 12 52 a0).toInt = (q_I δ 12 52 a0).toInt := congrArg Int32.toInt (u19 12 52 a0 (by decide))
  have f32 := ti_b (q_I δ 12 52 a0)
  first | (have q34 := te_add (q_I r16.2 12 52 a0) r16.1 (by omega) (by omega); obtain ⟨f35, f36, f37⟩ := q34) | (obtain ⟨q34, f35, f36, f37⟩ := ti_add (q_I r16.2 12 52 a0) r16.1)
  refine ok_bdv (fun d27 e28 => ?_)
  have i29 : RI ad h.1 δ0 d27 := by rw [e28]; exact cs_12_52 L i18
  have u38 := kp_I u22 e28
  have v39 : q_V d27 = q_V δ := ((show q_V d27 = q_V r16.2 by rw [e28]; rfl)).trans v23
  have v40 := kr_N v24 (show q_R d27 = q_R r16.2 by rw [e28]; rfl)
  have v41 : sgk ad x1.toNatClampNeg δ d27 := sgk_t v25 ((show sgk ad x1.toNatClampNeg r16.2 d27 by rw [e28]; exact sgk_r))
  have f42 := ti_b (q_I d27 12 53 a0)
  have f43 : (q_I d27 12 53 a0).toInt = (q_I r16.2 12 53 a0).toInt := congrArg Int32.toInt (by rw [e28]; exact rI_o (by decide))
  have f44 := ti_b (q_I r16.2 12 53 a0)
  have f45 : (q_I r16.2 12 53 a0).toInt = (q_I δ 12 53 a0).toInt := congrArg Int32.toInt (u19 12 53 a0 (by decide))
  have f46 := ti_b (q_I δ 12 53 a0)
  refine ok_ite (fun h47 => ?_) (fun h47 => ?_)
  · have c48 : r16.1.toInt ≤ (q_I d27 12 53 a0).toInt := o_le h47
    have f49 : (q_R d27 (Ad ad 113) (x2).toNatClampNeg).toInt = (q_R r16.2 (Ad ad 113) (x2).toNatClampNeg).toInt := congrArg Int32.toInt (show q_R d27 (Ad ad 113) (x2).toNatClampNeg = _ by rw [e28]; rfl)
    have f50 : (q_R r16.2 (Ad ad 113) (x2).toNatClampNeg).toInt = (q_R δ (Ad ad 113) (x2).toNatClampNeg).toInt := congrArg Int32.toInt (congrFun (u21 113 (by decide) (by decide) (by decide)) _)
    have f51 := ti_b (q_R r16.2 (Ad ad 113) (x2).toNatClampNeg)
    have f52 := ti_b (q_R d27 (Ad ad 113) (x2).toNatClampNeg)
    have f53 : (q_R d27 (Ad ad 103) (x1).toNatClampNeg).toInt = (q_R r16.2 (Ad ad 103) (x1).toNatClampNeg).toInt := congrArg Int32.toInt (show q_R d27 (Ad ad 103) (x1).toNatClampNeg = _ by rw [e28]; rfl)
    have f54 : (q_R r16.2 (Ad ad 103) (x1).toNatClampNeg).toInt = (q_R δ (Ad ad 103) (x1).toNatClampNeg).toInt := congrArg Int32.toInt (congrFun (u21 103 (by decide) (by decide) (by decide)) _)
    have f55 := rb_103 L i18 (x1).toNatClampNeg
    have f56 := rb_103 L i29 (x1).toNatClampNeg
    refine ok_mono (kj_X12_steps_108 L hN (a0 := a0) (x1 := x1) (x2 := x2) (x3v := x3v) k_a0 (show 0 ≤ (x1).toInt by first | assumption | omega) (show (x1).toInt ≤ 3 by first | assumption | omega) (show 0 ≤ (x2).toInt by first | assumption | omega) (show (x2).toInt < 240 by first | assumption | omega) (show 0 ≤ (x3v).toInt by first | assumption | omega) (show (x3v).toInt ≤ 65535 by first | assumption | omega) (show (q_R d27 (Ad ad 113) (x2).toNatClampNeg).toInt = 0 → (q_R d27 (Ad ad 103) (x1).toNatClampNeg).toInt < 2000 by first | assumption | omega) i29) (fun r57 hr58 => ?_)
    obtain ⟨i59, ⟨u61, u62, u63, u64⟩, p60⟩ := hr58
    have u65 := kp_t u38 u61
    have v66 : q_V r57.2 = q_V δ := (u62).trans v39
    have v67 := kr_t v40 u63
    have v68 : sgk ad x1.toNatClampNeg δ r57.2 := sgk_t v41 u64
    have f69 := bo_l p60
    have f70 := ti_b r57.1
    exact ⟨by assumption, ⟨kp_w (by decide) u65, v66, kr_w (by decide) v67, v68⟩, by first | assumption | omega⟩
  · have c71 : (q_I d27 12 53 a0).toInt < r16.1.toInt := o_nle h47
    refine ok_bdv (fun d72 e73 => ?_)
    have i74 : RI ad h.1 δ0 d72 := by rw [e73]; exact cs_12_53 L i29
    have u75 := kp_I u38 e73
    have v76 : q_V d72 = q_V δ := ((show q_V d72 = q_V d27 by rw [e73]; rfl)).trans v39
    have v77 := kr_N v40 (show q_R d72 = q_R d27 by rw [e73]; rfl)
    have v78 : sgk ad x1.toNatClampNeg δ d72 := sgk_t v41 ((show sgk ad x1.toNatClampNeg d27 d72 by rw [e73]; exact sgk_r))
    have f82 := ti_b (q_I d72 12 51 a0)
    have f83 : (q_I d72 12 51 a0).toInt = (q_I d27 12 51 a0).toInt := congrArg Int32.toInt (by rw [e73]; exact rI_o (by decide))
    have f84 := ti_b (q_I d27 12 51 a0)
    have f85 : (q_I d27 12 51 a0).toInt = (q_I r16.2 12 51 a0).toInt := congrArg Int32.toInt (by rw [e28]; exact rI_o (by decide))
    have f86 := ti_b (q_I r16.2 12 51 a0)
    have f87 : (q_I r16.2 12 51 a0).toInt = (q_I δ 12 51 a0).toInt := congrArg Int32.toInt (u19 12 51 a0 (by decide))
    have f88 := ti_b (q_I δ 12 51 a0)
    refine ok_bdv (fun d79 e80 => ?_)
    have i81 : RI ad h.1 δ0 d79 := by rw [e80]; exact cs_12_54 L i74
    have u89 := kp_I u75 e80
    have v90 : q_V d79 = q_V δ := ((show q_V d79 = q_V d72 by rw [e80]; rfl)).trans v76
    have v91 := kr_N v77 (show q_R d79 = q_R d72 by rw [e80]; rfl)
    have v92 : sgk ad x1.toNatClampNeg δ d79 := sgk_t v78 ((show sgk ad x1.toNatClampNeg d72 d79 by rw [e80]; exact sgk_r))
    have f93 : (q_R d79 (Ad ad 113) (x2).toNatClampNeg).toInt = (q_R d72 (Ad ad 113) (x2).toNatClampNeg).toInt := congrArg Int32.toInt (show q_R d79 (Ad ad 113) (x2).toNatClampNeg = _ by rw [e80]; rfl)
    have f94 : (q_R d72 (Ad ad 113) (x2).toNatClampNeg).toInt = (q_R d27 (Ad ad 113) (x2).toNatClampNeg).toInt := congrArg Int32.toInt (show q_R d72 (Ad ad 113) (x2).toNatClampNeg = _ by rw [e73]; rfl)
    have f95 : (q_R d27 (Ad ad 113) (x2).toNatClampNeg).toInt = (q_R r16.2 (Ad ad 113) (x2).toNatClampNeg).toInt := congrArg Int32.toInt (show q_R d27 (Ad ad 113) (x2).toNatClampNeg = _ by rw [e28]; rfl)
    have f96 : (q_R r16.2 (Ad ad 113) (x2).toNatClampNeg).toInt = (q_R δ (Ad ad 113) (x2).toNatClampNeg).toInt := congrArg Int32.toInt (congrFun (u21 113 (by decide) (by decide) (by decide)) _)
    have f97 := ti_b (q_R r16.2 (Ad ad 113) (x2).toNatClampNeg)
    have f98 := ti_b (q_R d27 (Ad ad 113) (x2).toNatClampNeg)
    have f99 := ti_b (q_R d72 (Ad ad 113) (x2).toNatClampNeg)
    have f100 := ti_b (q_R d79 (Ad ad 113) (x2).toNatClampNeg)
    have f101 : (q_R d79 (Ad ad 103) (x1).toNatClampNeg).toInt = (q_R d72 (Ad ad 103) (x1).toNatClampNeg).toInt := congrArg Int32.toInt (show q_R d79 (Ad ad 103) (x1).toNatClampNeg = _ by rw [e80]; rfl)
    have f102 : (q_R d72 (Ad ad 103) (x1).toNatClampNeg).toInt = (q_R d27 (Ad ad 103) (x1).toNatClampNeg).toInt := congrArg Int32.toInt (show q_R d72 (Ad ad 103) (x1).toNatClampNeg = _ by rw [e73]; rfl)
    have f103 : (q_R d27 (Ad ad 103) (x1).toNatClampNeg).toInt = (q_R r16.2 (Ad ad 103) (x1).toNatClampNeg).toInt := congrArg Int32.toInt (show q_R d27 (Ad ad 103) (x1).toNatClampNeg = _ by rw [e28]; rfl)
    have f104 : (q_R r16.2 (Ad ad 103) (x1).toNatClampNeg).toInt = (q_R δ (Ad ad 103) (x1).toNatClampNeg).toInt := congrArg Int32.toInt (congrFun (u21 103 (by decide) (by decide) (by decide)) _)
    have f105 := rb_103 L i18 (x1).toNatClampNeg
    have f106 := rb_103 L i29 (x1).toNatClampNeg
    have f107 := rb_103 L i74 (x1).toNatClampNeg
    have f108 := rb_103 L i81 (x1).toNatClampNeg
    refine ok_mono (kj_X12_steps_108 L hN (a0 := a0) (x1 := x1) (x2 := x2) (x3v := x3v) k_a0 (show 0 ≤ (x1).toInt by first | assumption | omega) (show (x1).toInt ≤ 3 by first | assumption | omega) (show 0 ≤ (x2).toInt by first | assumption | omega) (show (x2).toInt < 240 by first | assumption | omega) (show 0 ≤ (x3v).toInt by first | assumption | omega) (show (x3v).toInt ≤ 65535 by first | assumption | omega) (show (q_R d79 (Ad ad 113) (x2).toNatClampNeg).toInt = 0 → (q_R d79 (Ad ad 103) (x1).toNatClampNeg).toInt < 2000 by first | assumption | omega) i81) (fun r109 hr110 => ?_)
    obtain ⟨i111, ⟨u113, u114, u115, u116⟩, p112⟩ := hr110
    have u117 := kp_t u89 u113
    have v118 : q_V r109.2 = q_V δ := (u114).trans v90
    have v119 := kr_t v91 u115
    have v120 : sgk ad x1.toNatClampNeg δ r109.2 := sgk_t v92 u116
    have f121 := bo_l p112
    have f122 := ti_b r109.1
    exact ⟨by assumption, ⟨kp_w (by decide) u117, v118, kr_w (by decide) v119, v120⟩, by first | assumption | omega⟩
set_option maxHeartbeats 4000000 in
theorem k_X12_steps {ad : List Nat} {h : hp} (L : Lay TLx ad h) {δ0 : dp} {N : Nat} (hN : 10000000 ≤ N) {a0 : Nat} {x1 : Int32} {x2 : Int32} (k_a0 : q_K h.1 a0 = 12) {δ : dp} (z0 : 0 ≤ (x1).toInt) (z1 : (x1).toInt ≤ 3) (z2 : 0 ≤ (x2).toInt) (z3 : (x2).toInt < 240) (z4 : 0 ≤ (q_R δ (Ad ad 114) (x2).toNatClampNeg).toInt) (z5 : (q_R δ (Ad ad 114) (x2).toNatClampNeg).toInt ≤ (q_R δ (Ad ad 115) (x2).toNatClampNeg).toInt) (z6 : (q_R δ (Ad ad 115) (x2).toNatClampNeg).toInt ≤ 2000) (z7 : (q_R δ (Ad ad 115) (x2).toNatClampNeg).toInt ≤ (q_R δ (Ad ad 114) (x2).toNatClampNeg).toInt + 500) (z8 : 0 ≤ (q_I δ 12 58 a0).toInt) (z9 : (q_I δ 12 58 a0).toInt ≤ 4) (z10 : rn (q_R δ (Ad ad 116)) ((q_R δ (Ad ad 115) (x2).toNatClampNeg).toInt.toNat - (q_R δ (Ad ad 114) (x2).toNatClampNeg).toInt.toNat) (q_R δ (Ad ad 114) (x2).toNatClampNeg).toInt.toNat 0 = some 1) (I : RI ad h.1 δ0 δ) : ok (D_X12_steps N h.1 a0 x1 x2 δ) (fun r => RI ad h.1 δ0 r.2 ∧ (kp [(12, 36), (12, 49), (12, 50), (12, 51), (12, 52), (12, 53), (12, 54), (12, 55), (12, 56)] δ r.2 ∧ q_V r.2 = q_V δ ∧ kr ad [102, 103, 118, 119] δ r.2 ∧ sgk ad x1.toNatClampNeg δ r.2) ∧ bo (r.1)) := by
  unfold D_X12_steps
  have f1 := ti_b x1
  have f2 := ti_b x2
  have t3 := ti_tn x2
  have f4 := ti_b (q_R δ (Ad ad 114) (x2).toNatClampNeg)
  have f5 := ti_b (q_R δ (Ad ad 115) (x2).toNatClampNeg)
  have f6 := ti_b (q_I δ 12 58 a0)
  have f7 := ti_b (q_I δ 12 51 a0)
  refine ok_ite (fun h8 => ?_) (fun h8 => ?_)
  · have c9 : (q_I δ 12 51 a0).toInt = (2000 : Int) := o_eq h8
    refine ok_gp (by decide) ?_
    exact ok_some (show RI ad h.1 δ0 δ ∧ (kp [(12, 36), (12, 49), (12, 50), (12, 51), (12, 52), (12, 53), (12, 54), (12, 55), (12, 56)] δ δ ∧ q_V δ = q_V δ ∧ kr ad [102, 103, 118, 119] δ δ ∧ sgk ad x1.toNatClampNeg δ δ) ∧ bo ((0 : Int32)) from ⟨I, ⟨kp_w (by decide) kp_r, rfl, kr_w (by decide) (kr_r (ad := ad)), sgk_r⟩, bo_0⟩)
  · have c10 : (q_I δ 12 51 a0).toInt ≠ (2000 : Int) := o_ne h8
    obtain ⟨b11, o12, k13, n14, w15⟩ := gO_12_30 L k_a0
    obtain rfl := gS_12_30 L k_a0 o12
    refine ok_at o12 ?_
    have t16 := ti_tn x2
    refine ok_gd (fun hc17 => ?_) ?_
    · rcases hc17 with hc17 | hc17
      · have c18 : x2.toInt < (0 : Int) := o_lt hc17
        omega
      · omega
    obtain ⟨b19, o20, k21, n22, w23⟩ := gO_12_31 L k_a0
    obtain rfl := gS_12_31 L k_a0 o20
    refine ok_at o20 ?_
    refine ok_gd (fun hc24 => ?_) ?_
    · rcases hc24 with hc24 | hc24
      · have c25 : x2.toInt < (0 : Int) := o_lt hc24
        omega
      · omega
    have f28 := ti_b (q_R δ (Ad ad 114) x2.toNatClampNeg)
    have f29 := ti_b (q_R δ (Ad ad 115) x2.toNatClampNeg)
    refine ok_bind (k_X12_worked L hN (a0 := a0) (x1 := x1) (x2 := (q_R δ (Ad ad 114) x2.toNatClampNeg)) (x3 := (q_R δ (Ad ad 115) x2.toNatClampNeg)) k_a0 (show 0 ≤ (x1).toInt by first | assumption | omega) (show (x1).toInt ≤ 3 by first | assumption | omega) (show 0 ≤ ((q_R δ (Ad ad 114) x2.toNatClampNeg)).toInt by first | assumption | omega) (show ((q_R δ (Ad ad 114) x2.toNatClampNeg)).toInt ≤ ((q_R δ (Ad ad 115) x2.toNatClampNeg)).toInt by first | assumption | omega) (show ((q_R δ (Ad ad 115) x2.toNatClampNeg)).toInt ≤ 2000 by first | assumption | omega) (show ((q_R δ (Ad ad 115) x2.toNatClampNeg)).toInt ≤ ((q_R δ (Ad ad 114) x2.toNatClampNeg)).toInt + 500 by first | assumption | omega) (show 0 ≤ (q_I δ 12 58 a0).toInt by first | assumption | omega) (show (q_I δ 12 58 a0).toInt ≤ 4 by first | assumption | omega) (show rn (q_R δ (Ad ad 116)) (((q_R δ (Ad ad 115) x2.toNatClampNeg)).toInt.toNat - ((q_R δ (Ad ad 114) x2.toNatClampNeg)).toInt.toNat) ((q_R δ (Ad ad 114) x2.toNatClampNeg)).toInt.toNat 0 = some 1 by first | assumption | omega) I) (fun r26 hr27 => ?_)
    obtain ⟨i30, ⟨u31, u32, u33⟩⟩ := hr27
    have u34 := kp_t kp_r u31
    have v35 : q_V r26.2 = q_V δ := (u32).trans rfl
    have v36 := kr_t (kr_r (ad := ad)) u33
    have v37 : sgk ad x1.toNatClampNeg δ r26.2 := sgk_t sgk_r (sgk_k (u33 102 (by decide) (by decide) (by decide)) (u33 103 (by decide) (by decide) (by decide)))
    have f38 := ti_b r26.1
    refine ok_bind (k_X12_all L hN (a0 := a0) k_a0 i30) (fun r39 hr40 => ?_)
    obtain ⟨i41, p42, p43, p44, p45⟩ := hr40
    try rw [i41]
    have f46 := ti_b r39.1
    have f47 := cb_12_10 i30 k_a0
    have f48 : (q_I r26.2 12 10 a0).toInt = (q_I δ 12 10 a0).toInt := congrArg Int32.toInt (u31 12 10 a0 (by decide))
    have f49 := cb_12_10 I k_a0
    have f50 := ti_b r39.1
    first | (have q54 := te_subc (c := 1) (n := 1) rfl r39.1 (by omega) (by omega); obtain ⟨f55, f56, f57⟩ := q54) | (obtain ⟨q54, f55, f56, f57⟩ := ti_subc (c := 1) (n := 1) rfl r39.1)
    have f58 := an_le (a := r26.1) (b := (r39.1 - (1 : Int32))) (by omega)
    have f59 := ti_b (r26.1 &&& (r39.1 - (1 : Int32)))
    refine ok_biv (fun vx51 e52 => ?_)
    have f60 : vx51.toInt = (r26.1 &&& (r39.1 - (1 : Int32))).toInt := congrArg Int32.toInt e52
    obtain ⟨b61, o62, k63, n64, w65⟩ := gO_12_29 L k_a0
    obtain rfl := gS_12_29 L k_a0 o62
    refine ok_at o62 ?_
    refine ok_gd (fun hc66 => ?_) ?_
    · rcases hc66 with hc66 | hc66
      · have c67 : x2.toInt < (0 : Int) := o_lt hc66
        omega
      · omega
    have f68 : (q_R r26.2 (Ad ad 113) x2.toNatClampNeg).toInt = (q_R δ (Ad ad 113) x2.toNatClampNeg).toInt := congrArg Int32.toInt (congrFun (u33 113 (by decide) (by decide) (by decide)) _)
    have f69 := ti_b (q_R δ (Ad ad 113) x2.toNatClampNeg)
    have f70 := ti_b (q_R r26.2 (Ad ad 113) x2.toNatClampNeg)
    refine ok_ite (fun h71 => ?_) (fun h71 => ?_)
    · have c72 : (q_R r26.2 (Ad ad 113) x2.toNatClampNeg).toInt = (0 : Int) := o_eq h71
      obtain ⟨b73, o74, k75, n76⟩ := gO_12_14 L k_a0
      obtain rfl := gS_12_14 L k_a0 o74
      refine ok_at o74 ?_
      have t77 := ti_tn x1
      refine ok_gd (fun hc78 => ?_) ?_
      · rcases hc78 with hc78 | hc78
        · have c79 : x1.toInt < (0 : Int) := o_lt hc78
          omega
        · omega
      have f80 : (q_R r26.2 (Ad ad 103) x1.toNatClampNeg).toInt = (q_R δ (Ad ad 103) x1.toNatClampNeg).toInt := congrArg Int32.toInt (congrFun (u33 103 (by decide) (by decide) (by decide)) _)
      have f81 := rb_103 L I x1.toNatClampNeg
      have f82 := rb_103 L i30 x1.toNatClampNeg
      refine ok_ite (fun h83 => ?_) (fun h83 => ?_)
      · have c84 : (q_R r26.2 (Ad ad 103) x1.toNatClampNeg).toInt = (2000 : Int) := o_eq h83
        refine ok_gp (by decide) ?_
        exact ok_some (show RI ad h.1 δ0 r26.2 ∧ (kp [(12, 36), (12, 49), (12, 50), (12, 51), (12, 52), (12, 53), (12, 54), (12, 55), (12, 56)] δ r26.2 ∧ q_V r26.2 = q_V δ ∧ kr ad [102, 103, 118, 119] δ r26.2 ∧ sgk ad x1.toNatClampNeg δ r26.2) ∧ bo ((0 : Int32)) from ⟨i30, ⟨kp_w (by decide) u34, v35, kr_w (by decide) v36, v37⟩, bo_0⟩)
      · have c85 : (q_R r26.2 (Ad ad 103) x1.toNatClampNeg).toInt ≠ (2000 : Int) := o_ne h83
        have f86 : (q_R r26.2 (Ad ad 113) (x2).toNatClampNeg).toInt = (q_R δ (Ad ad 113) (x2).toNatClampNeg).toInt := congrArg Int32.toInt (congrFun (u33 113 (by decide) (by decide) (by decide)) _)
        have f87 := ti_b (q_R δ (Ad ad 113) (x2).toNatClampNeg)
        have f88 := ti_b (q_R r26.2 (Ad ad 113) (x2).toNatClampNeg)
        have t89 := ti_tn x1
        have f90 : (q_R r26.2 (Ad ad 103) (x1).toNatClampNeg).toInt = (q_R δ (Ad ad 103) (x1).toNatClampNeg).toInt := congrArg Int32.toInt (congrFun (u33 103 (by decide) (by decide) (by decide)) _)
        have f91 := rb_103 L I (x1).toNatClampNeg
        have f92 := rb_103 L i30 (x1).toNatClampNeg
        refine ok_mono (kj_X12_steps_60 L hN (a0 := a0) (x1 := x1) (x2 := x2) (x3v := vx51) k_a0 (show 0 ≤ (x1).toInt by first | assumption | omega) (show (x1).toInt ≤ 3 by first | assumption | omega) (show 0 ≤ (x2).toInt by first | assumption | omega) (show (x2).toInt < 240 by first | assumption | omega) (show 0 ≤ (vx51).toInt by first | assumption | omega) (show (vx51).toInt ≤ 65535 by first | assumption | omega) (show (q_R r26.2 (Ad ad 113) (x2).toNatClampNeg).toInt = 0 → (q_R r26.2 (Ad ad 103) (x1).toNatClampNeg).toInt < 2000 by first | assumption | omega) i30) (fun r93 hr94 => ?_)
        obtain ⟨i95, ⟨u97, u98, u99, u100⟩, p96⟩ := hr94
        have u101 := kp_t u34 u97
        have v102 : q_V r93.2 = q_V δ := (u98).trans v35
        have v103 := kr_t v36 u99
        have v104 : sgk ad x1.toNatClampNeg δ r93.2 := sgk_t v37 u100
        have f105 := bo_l p96
        have f106 := ti_b r93.1
        exact ⟨by assumption, ⟨kp_w (by decide) u101, v102, kr_w (by decide) v103, v104⟩, by first | assumption | omega⟩
    · have c107 : (q_R r26.2 (Ad ad 113) x2.toNatClampNeg).toInt ≠ (0 : Int) := o_ne h71
      have f108 : (q_R r26.2 (Ad ad 113) (x2).toNatClampNeg).toInt = (q_R δ (Ad ad 113) (x2).toNatClampNeg).toInt := congrArg Int32.toInt (congrFun (u33 113 (by decide) (by decide) (by decide)) _)
      have f109 := ti_b (q_R δ (Ad ad 113) (x2).toNatClampNeg)
      have f110 := ti_b (q_R r26.2 (Ad ad 113) (x2).toNatClampNeg)
      have t111 := ti_tn x1
      have f112 : (q_R r26.2 (Ad ad 103) (x1).toNatClampNeg).toInt = (q_R δ (Ad ad 103) (x1).toNatClampNeg).toInt := congrArg Int32.toInt (congrFun (u33 103 (by decide) (by decide) (by decide)) _)
      have f113 := rb_103 L I (x1).toNatClampNeg
      have f114 := rb_103 L i30 (x1).toNatClampNeg
      refine ok_mono (kj_X12_steps_60 L hN (a0 := a0) (x1 := x1) (x2 := x2) (x3v := vx51) k_a0 (show 0 ≤ (x1).toInt by first | assumption | omega) (show (x1).toInt ≤ 3 by first | assumption | omega) (show 0 ≤ (x2).toInt by first | assumption | omega) (show (x2).toInt < 240 by first | assumption | omega) (show 0 ≤ (vx51).toInt by first | assumption | omega) (show (vx51).toInt ≤ 65535 by first | assumption | omega) (show (q_R r26.2 (Ad ad 113) (x2).toNatClampNeg).toInt = 0 → (q_R r26.2 (Ad ad 103) (x1).toNatClampNeg).toInt < 2000 by first | assumption | omega) i30) (fun r115 hr116 => ?_)
      obtain ⟨i117, ⟨u119, u120, u121, u122⟩, p118⟩ := hr116
      have u123 := kp_t u34 u119
      have v124 : q_V r115.2 = q_V δ := (u120).trans v35
      have v125 := kr_t v36 u121
      have v126 : sgk ad x1.toNatClampNeg δ r115.2 := sgk_t v37 u122
      have f127 := bo_l p118
      have f128 := ti_b r115.1
      exact ⟨by assumption, ⟨kp_w (by decide) u123, v124, kr_w (by decide) v125, v126⟩, by first | assumption | omega⟩
