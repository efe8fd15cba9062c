/-! 79.zf.steps (by gen_safe.py) -/
set_option maxHeartbeats 4000000 in
theorem kj_X12_steps_226 {ad : List Nat} {h : hp} (L : Lay TLx ad h) {δ0 : dp} {N : Nat} (hN : 10000000 ≤ N) {a0 : Nat} {x1 : Int32} {x2 : Int32} {x3v : Int32} {x5v : Int32} (k_a0 : q_K h.1 a0 = 12) {δ : dp} (z0 : 0 ≤ (x1).toInt) (z1 : (x1).toInt ≤ 3) (z2 : 0 ≤ (x2).toInt) (z3 : (x2).toInt < 240) (z4 : 0 ≤ (x3v).toInt) (z5 : (x3v).toInt ≤ 65535) (z6 : (x5v).toInt = 0 ∨ (q_R δ (Ad ad 113) (x2).toNatClampNeg).toInt = 0 ∨ 1 ≤ (q_R δ (Ad ad 103) (x1).toNatClampNeg).toInt) (I : RI ad h.1 δ0 δ) : ok (J_X12_steps_226 N h.1 a0 x1 x2 x3v x5v δ) (fun r => RI ad h.1 δ0 r.2 ∧ (kp [(12, 36), (12, 49), (12, 50), (12, 51), (12, 52), (12, 53), (12, 54), (12, 55), (12, 56)] δ r.2 ∧ q_V r.2 = q_V δ ∧ kr ad [102, 103, 118, 119] δ r.2 ∧ sgk ad x1.toNatClampNeg δ r.2) ∧ bo (r.1)) := by
  unfold J_X12_steps_226
  have f1 := ti_b x1
  have f2 := ti_b x2
  have f3 := ti_b x3v
  have f4 := ti_b x5v
  have t5 := ti_tn x2
  have f6 := ti_b (q_R δ (Ad ad 113) (x2).toNatClampNeg)
  have t7 := ti_tn x1
  have f8 := rb_103 L I (x1).toNatClampNeg
  obtain ⟨b9, o10, k11, n12, w13⟩ := gO_12_29 L k_a0
  obtain rfl := gS_12_29 L k_a0 o10
  refine ok_at o10 ?_
  have t14 := ti_tn x2
  refine ok_gd (fun hc15 => ?_) ?_
  · rcases hc15 with hc15 | hc15
    · have c16 : x2.toInt < (0 : Int) := o_lt hc15
      omega
    · omega
  have f17 := ti_b (q_R δ (Ad ad 113) x2.toNatClampNeg)
  refine ok_ite (fun h18 => ?_) (fun h18 => ?_)
  · have c19 : (q_R δ (Ad ad 113) x2.toNatClampNeg).toInt = (1 : Int) := o_eq h18
    refine ok_ite (fun h20 => ?_) (fun h20 => ?_)
    · have c21 : x5v.toInt = (0 : Int) := o_eq h20
      unfold J_X12_steps_247
      refine ok_gp (by decide) ?_
      exact ok_some (show RI ad h.1 δ0 δ ∧ (kp [(12, 36), (12, 49), (12, 50), (12, 51), (12, 52), (12, 53), (12, 54), (12, 55), (12, 56)] δ δ ∧ q_V δ = q_V δ ∧ kr ad [102, 103, 118, 119] δ δ ∧ sgk ad x1.toNatClampNeg δ δ) ∧ bo ((1 : Int32)) from ⟨I, ⟨kp_w (by decide) kp_r, rfl, kr_w (by decide) (kr_r (ad := ad)), sgk_r⟩, bo_1⟩)
    · have c22 : x5v.toInt ≠ (0 : Int) := o_ne h20
      refine ok_bind (g_X12_leaves L hN (a0 := a0) (x1 := x1) (x2 := x3v) k_a0 (show 0 ≤ (x1).toInt by first | with_reducible assumption | omega) (show (x1).toInt ≤ 3 by first | with_reducible assumption | omega) (show -999 ≤ (q_R δ (Ad ad 103) (x1).toNatClampNeg).toInt by first | with_reducible assumption | omega) I) (fun r23 hr24 => ?_)
      obtain ⟨i25, ⟨u27, u28, u29, u30⟩, p26⟩ := hr24
      have u31 := kp_t kp_r u27
      have v32 : q_V r23 = q_V δ := (u28).trans rfl
      have v33 := kr_t (kr_r (ad := ad)) u29
      have v34 : sgk ad x1.toNatClampNeg δ r23 := sgk_t sgk_r u30
      have f35 := rb_103 L i25 (x1).toNatClampNeg
      unfold J_X12_steps_247
      refine ok_gp (by decide) ?_
      exact ok_some (show RI ad h.1 δ0 r23 ∧ (kp [(12, 36), (12, 49), (12, 50), (12, 51), (12, 52), (12, 53), (12, 54), (12, 55), (12, 56)] δ r23 ∧ q_V r23 = q_V δ ∧ kr ad [102, 103, 118, 119] δ r23 ∧ sgk ad x1.toNatClampNeg δ r23) ∧ bo ((1 : Int32)) from ⟨i25, ⟨kp_w (by decide) u31, v32, kr_w (by decide) v33, v34⟩, bo_1⟩)
  · have c36 : (q_R δ (Ad ad 113) x2.toNatClampNeg).toInt ≠ (1 : Int) := o_ne h18
    unfold J_X12_steps_247
    refine ok_gp (by decide) ?_
    exact ok_some (show RI ad h.1 δ0 δ ∧ (kp [(12, 36), (12, 49), (12, 50), (12, 51), (12, 52), (12, 53), (12, 54), (12, 55), (12, 56)] δ δ ∧ q_V δ = q_V δ ∧ kr ad [102, 103, 118, 119] δ δ ∧ sgk ad x1.toNatClampNeg δ δ) ∧ bo ((1 : Int32)) from ⟨I, ⟨kp_w (by decide) kp_r, rfl, kr_w (by decide) (kr_r (ad := ad)), sgk_r⟩, bo_1⟩)
set_option maxHeartbeats 4000000 in
theorem kj_X12_steps_203 {ad : List Nat} {h : hp} (L : Lay TLx ad h) {δ0 : dp} {N : Nat} (hN : 10000000 ≤ N) {a0 : Nat} {x1 : Int32} {x2 : Int32} {xs0 : Int32} {as1 : Nat} {x3v : Int32} {x5v : Int32} (k_a0 : q_K h.1 a0 = 12) (k_as1 : q_K h.1 as1 = 12) {δ : dp} (z0 : 0 ≤ (x1).toInt) (z1 : (x1).toInt ≤ 3) (z2 : 0 ≤ (x2).toInt) (z3 : (x2).toInt < 240) (z4 : 0 ≤ (x3v).toInt) (z5 : (x3v).toInt ≤ 65535) (z6 : (q_R δ (Ad ad 113) (x2).toNatClampNeg).toInt = 0 → (q_R δ (Ad ad 103) (x1).toNatClampNeg).toInt < 2000) (z7 : (x5v).toInt = 0 ∨ 1 ≤ (q_R δ (Ad ad 103) (x1).toNatClampNeg).toInt) (I : RI ad h.1 δ0 δ) : ok (J_X12_steps_203 N h.1 a0 x1 x2 xs0 as1 x3v x5v δ) (fun r => RI ad h.1 δ0 r.2 ∧ (kp [(12, 36), (12, 49), (12, 50), (12, 51), (12, 52), (12, 53), (12, 54), (12, 55), (12, 56)] δ r.2 ∧ q_V r.2 = q_V δ ∧ kr ad [102, 103, 118, 119] δ r.2 ∧ sgk ad x1.toNatClampNeg δ r.2) ∧ bo (r.1)) := by
  unfold J_X12_steps_203
  have f1 := ti_b x1
  have f2 := ti_b x2
  have f3 := ti_b x3v
  have t4 := ti_tn x2
  have f5 := ti_b (q_R δ (Ad ad 113) (x2).toNatClampNeg)
  have t6 := ti_tn x1
  have f7 := rb_103 L I (x1).toNatClampNeg
  have f8 := ti_b x5v
  have f12 := ti_b xs0
  refine ok_bdv (fun d9 e10 => ?_)
  have i11 : RI ad h.1 δ0 d9 := by rw [e10]; exact cs_12_50 L I
  have u13 := kp_I kp_r e10
  have v14 : q_V d9 = q_V δ := ((show q_V d9 = q_V δ by rw [e10]; rfl)).trans rfl
  have v15 := kr_N (kr_r (ad := ad)) (show q_R d9 = q_R δ by rw [e10]; rfl)
  have v16 : sgk ad x1.toNatClampNeg δ d9 := sgk_t sgk_r ((show sgk ad x1.toNatClampNeg δ d9 by rw [e10]; exact sgk_r))
  obtain ⟨b17, o18, k19, n20, w21⟩ := gO_12_29 L k_a0
  obtain rfl := gS_12_29 L k_a0 o18
  refine ok_at o18 ?_
  have t22 := ti_tn x2
  refine ok_gd (fun hc23 => ?_) ?_
  · rcases hc23 with hc23 | hc23
    · have c24 : x2.toInt < (0 : Int) := o_lt hc23
      omega
    · omega
  have f25 : (q_R d9 (Ad ad 113) x2.toNatClampNeg).toInt = (q_R δ (Ad ad 113) x2.toNatClampNeg).toInt := congrArg Int32.toInt (show q_R d9 (Ad ad 113) x2.toNatClampNeg = _ by rw [e10]; rfl)
  have f26 := ti_b (q_R δ (Ad ad 113) x2.toNatClampNeg)
  have f27 := ti_b (q_R d9 (Ad ad 113) x2.toNatClampNeg)
  refine ok_ite (fun h28 => ?_) (fun h28 => ?_)
  · have c29 : (q_R d9 (Ad ad 113) x2.toNatClampNeg).toInt = (0 : Int) := o_eq h28
    refine ok_ite (fun h30 => ?_) (fun h30 => ?_)
    · have c31 : x5v.toInt = (0 : Int) := o_eq h30
      have f34 : (q_R d9 (Ad ad 103) (x1).toNatClampNeg).toInt = (q_R δ (Ad ad 103) (x1).toNatClampNeg).toInt := congrArg Int32.toInt (show q_R d9 (Ad ad 103) (x1).toNatClampNeg = _ by rw [e10]; rfl)
      have f35 := rb_103 L i11 (x1).toNatClampNeg
      refine ok_bind (g_X12_comes L hN (a0 := a0) (x1 := x1) (x2 := x3v) k_a0 (show 0 ≤ (x1).toInt by first | with_reducible assumption | omega) (show (x1).toInt ≤ 3 by first | with_reducible assumption | omega) (show (q_R d9 (Ad ad 103) (x1).toNatClampNeg).toInt < 2000 by first | with_reducible assumption | omega) i11) (fun r32 hr33 => ?_)
      obtain ⟨i36, ⟨u38, u39, u40, u41⟩, p37⟩ := hr33
      have u42 := kp_t u13 u38
      have v43 : q_V r32 = q_V δ := (u39).trans v14
      have v44 := kr_t v15 u40
      have v45 : sgk ad x1.toNatClampNeg δ r32 := sgk_t v16 u41
      have f46 := rb_103 L i36 (x1).toNatClampNeg
      have f47 : (q_R r32 (Ad ad 113) (x2).toNatClampNeg).toInt = (q_R d9 (Ad ad 113) (x2).toNatClampNeg).toInt := congrArg Int32.toInt (congrFun (u40 113 (by decide) (by decide) (by decide)) _)
      have f48 : (q_R d9 (Ad ad 113) (x2).toNatClampNeg).toInt = (q_R δ (Ad ad 113) (x2).toNatClampNeg).toInt := congrArg Int32.toInt (show q_R d9 (Ad ad 113) (x2).toNatClampNeg = _ by rw [e10]; rfl)
      have f49 := ti_b (q_R d9 (Ad ad 113) (x2).toNatClampNeg)
      have f50 := ti_b (q_R r32 (Ad ad 113) (x2).toNatClampNeg)
      refine ok_mono (kj_X12_steps_226 L hN (a0 := a0) (x1 := x1) (x2 := x2) (x3v := x3v) (x5v := x5v) k_a0 (show 0 ≤ (x1).toInt by first | with_reducible assumption | omega) (show (x1).toInt ≤ 3 by first | with_reducible assumption | omega) (show 0 ≤ (x2).toInt by first | with_reducible assumption | omega) (show (x2).toInt < 240 by first | with_reducible assumption | omega) (show 0 ≤ (x3v).toInt by first | with_reducible assumption | omega) (show (x3v).toInt ≤ 65535 by first | with_reducible assumption | omega) (show (x5v).toInt = 0 ∨ (q_R r32 (Ad ad 113) (x2).toNatClampNeg).toInt = 0 ∨ 1 ≤ (q_R r32 (Ad ad 103) (x1).toNatClampNeg).toInt by first | with_reducible assumption | omega) i36) (fun r51 hr52 => ?_)
      obtain ⟨i53, ⟨u55, u56, u57, u58⟩, p54⟩ := hr52
      have u59 := kp_t u42 u55
      have v60 : q_V r51.2 = q_V δ := (u56).trans v43
      have v61 := kr_t v44 u57
      have v62 : sgk ad x1.toNatClampNeg δ r51.2 := sgk_t v45 u58
      have f63 := bo_l p54
      have f64 := ti_b r51.1
      exact ⟨by first | with_reducible assumption | assumption, ⟨kp_w (by decide) u59, v60, kr_w (by decide) v61, v62⟩, by first | with_reducible assumption | omega⟩
    · have c65 : x5v.toInt ≠ (0 : Int) := o_ne h30
      have f66 : (q_R d9 (Ad ad 113) (x2).toNatClampNeg).toInt = (q_R δ (Ad ad 113) (x2).toNatClampNeg).toInt := congrArg Int32.toInt (show q_R d9 (Ad ad 113) (x2).toNatClampNeg = _ by rw [e10]; rfl)
      have f67 := ti_b (q_R d9 (Ad ad 113) (x2).toNatClampNeg)
      have f68 : (q_R d9 (Ad ad 103) (x1).toNatClampNeg).toInt = (q_R δ (Ad ad 103) (x1).toNatClampNeg).toInt := congrArg Int32.toInt (show q_R d9 (Ad ad 103) (x1).toNatClampNeg = _ by rw [e10]; rfl)
      have f69 := rb_103 L i11 (x1).toNatClampNeg
      refine ok_mono (kj_X12_steps_226 L hN (a0 := a0) (x1 := x1) (x2 := x2) (x3v := x3v) (x5v := x5v) k_a0 (show 0 ≤ (x1).toInt by first | with_reducible assumption | omega) (show (x1).toInt ≤ 3 by first | with_reducible assumption | omega) (show 0 ≤ (x2).toInt by first | with_reducible assumption | omega) (show (x2).toInt < 240 by first | with_reducible assumption | omega) (show 0 ≤ (x3v).toInt by first | with_reducible assumption | omega) (show (x3v).toInt ≤ 65535 by first | with_reducible assumption | omega) (show (x5v).toInt = 0 ∨ (q_R d9 (Ad ad 113) (x2).toNatClampNeg).toInt = 0 ∨ 1 ≤ (q_R d9 (Ad ad 103) (x1).toNatClampNeg).toInt by first | with_reducible assumption | omega) i11) (fun r70 hr71 => ?_)
      obtain ⟨i72, ⟨u74, u75, u76, u77⟩, p73⟩ := hr71
      have u78 := kp_t u13 u74
      have v79 : q_V r70.2 = q_V δ := (u75).trans v14
      have v80 := kr_t v15 u76
      have v81 : sgk ad x1.toNatClampNeg δ r70.2 := sgk_t v16 u77
      have f82 := bo_l p73
      have f83 := ti_b r70.1
      exact ⟨by first | with_reducible assumption | assumption, ⟨kp_w (by decide) u78, v79, kr_w (by decide) v80, v81⟩, by first | with_reducible assumption | omega⟩
  · have c84 : (q_R d9 (Ad ad 113) x2.toNatClampNeg).toInt ≠ (0 : Int) := o_ne h28
    have f85 : (q_R d9 (Ad ad 113) (x2).toNatClampNeg).toInt = (q_R δ (Ad ad 113) (x2).toNatClampNeg).toInt := congrArg Int32.toInt (show q_R d9 (Ad ad 113) (x2).toNatClampNeg = _ by rw [e10]; rfl)
    have f86 := ti_b (q_R d9 (Ad ad 113) (x2).toNatClampNeg)
    have f87 : (q_R d9 (Ad ad 103) (x1).toNatClampNeg).toInt = (q_R δ (Ad ad 103) (x1).toNatClampNeg).toInt := congrArg Int32.toInt (show q_R d9 (Ad ad 103) (x1).toNatClampNeg = _ by rw [e10]; rfl)
    have f88 := rb_103 L i11 (x1).toNatClampNeg
    refine ok_mono (kj_X12_steps_226 L hN (a0 := a0) (x1 := x1) (x2 := x2) (x3v := x3v) (x5v := x5v) k_a0 (show 0 ≤ (x1).toInt by first | with_reducible assumption | omega) (show (x1).toInt ≤ 3 by first | with_reducible assumption | omega) (show 0 ≤ (x2).toInt by first | with_reducible assumption | omega) (show (x2).toInt < 240 by first | with_reducible assumption | omega) (show 0 ≤ (x3v).toInt by first | with_reducible assumption | omega) (show (x3v).toInt ≤ 65535 by first | with_reducible assumption | omega) (show (x5v).toInt = 0 ∨ (q_R d9 (Ad ad 113) (x2).toNatClampNeg).toInt = 0 ∨ 1 ≤ (q_R d9 (Ad ad 103) (x1).toNatClampNeg).toInt by first | with_reducible assumption | omega) i11) (fun r89 hr90 => ?_)
    obtain ⟨i91, ⟨u93, u94, u95, u96⟩, p92⟩ := hr90
    have u97 := kp_t u13 u93
    have v98 : q_V r89.2 = q_V δ := (u94).trans v14
    have v99 := kr_t v15 u95
    have v100 : sgk ad x1.toNatClampNeg δ r89.2 := sgk_t v16 u96
    have f101 := bo_l p92
    have f102 := ti_b r89.1
    exact ⟨by first | with_reducible assumption | assumption, ⟨kp_w (by decide) u97, v98, kr_w (by decide) v99, v100⟩, by first | with_reducible assumption | omega⟩
set_option maxHeartbeats 4000000 in
theorem kj_X12_steps_108 {ad : List Nat} {h : hp} (L : Lay TLx ad h) {δ0 : dp} {N : Nat} (hN : 10000000 ≤ N) {a0 : Nat} {x1 : Int32} {x2 : Int32} {x3v : Int32} (k_a0 : q_K h.1 a0 = 12) {δ : dp} (z0 : 0 ≤ (x1).toInt) (z1 : (x1).toInt ≤ 3) (z2 : 0 ≤ (x2).toInt) (z3 : (x2).toInt < 240) (z4 : 0 ≤ (x3v).toInt) (z5 : (x3v).toInt ≤ 65535) (z6 : (q_R δ (Ad ad 113) (x2).toNatClampNeg).toInt = 0 → (q_R δ (Ad ad 103) (x1).toNatClampNeg).toInt < 2000) (I : RI ad h.1 δ0 δ) : ok (J_X12_steps_108 N h.1 a0 x1 x2 x3v δ) (fun r => RI ad h.1 δ0 r.2 ∧ (kp [(12, 36), (12, 49), (12, 50), (12, 51), (12, 52), (12, 53), (12, 54), (12, 55), (12, 56)] δ r.2 ∧ q_V r.2 = q_V δ ∧ kr ad [102, 103, 118, 119] δ r.2 ∧ sgk ad x1.toNatClampNeg δ r.2) ∧ bo (r.1)) := by
  unfold J_X12_steps_108
  have f1 := ti_b x1
  have f2 := ti_b x2
  have f3 := ti_b x3v
  have t4 := ti_tn x2
  have f5 := ti_b (q_R δ (Ad ad 113) (x2).toNatClampNeg)
  have t6 := ti_tn x1
  have f7 := rb_103 L I (x1).toNatClampNeg
  obtain ⟨b8, o9, k10, n11, w12⟩ := gO_12_29 L k_a0
  obtain rfl := gS_12_29 L k_a0 o9
  refine ok_at o9 ?_
  have t13 := ti_tn x2
  refine ok_gd (fun hc14 => ?_) ?_
  · rcases hc14 with hc14 | hc14
    · have c15 : x2.toInt < (0 : Int) := o_lt hc14
      omega
    · omega
  refine ok_bind (k_X12_bits L hN (a0 := a0) (x1 := x1) (x2 := (q_R δ (Ad ad 113) x2.toNatClampNeg)) (x3 := x3v) k_a0 (show 0 ≤ (x1).toInt by first | with_reducible assumption | omega) (show (x1).toInt ≤ 3 by first | with_reducible assumption | omega) (show -1 ≤ (x3v).toInt by first | with_reducible assumption | omega) (show (x3v).toInt ≤ 65536 by first | with_reducible assumption | omega) I) (fun r16 hr17 => ?_)
  have i18 := hr17
  try rw [i18]
  have f19 := ti_b r16.1
  have f23 := ti_b (q_I δ 12 55 a0)
  first | (have q25 := te_add (q_I δ 12 55 a0) r16.1 (by omega) (by omega); obtain ⟨f26, f27, f28⟩ := q25) | (obtain ⟨q25, f26, f27, f28⟩ := ti_add (q_I δ 12 55 a0) r16.1)
  refine ok_bdv (fun d20 e21 => ?_)
  have i22 : RI ad h.1 δ0 d20 := by rw [e21]; exact cs_12_55 L I
  have u29 := kp_I kp_r e21
  have v30 : q_V d20 = q_V δ := ((show q_V d20 = q_V δ by rw [e21]; rfl)).trans rfl
  have v31 := kr_N (kr_r (ad := ad)) (show q_R d20 = q_R δ by rw [e21]; rfl)
  have v32 : sgk ad x1.toNatClampNeg δ d20 := sgk_t sgk_r ((show sgk ad x1.toNatClampNeg δ d20 by rw [e21]; exact sgk_r))
  refine ok_at o9 ?_
  refine ok_gd (fun hc33 => ?_) ?_
  · rcases hc33 with hc33 | hc33
    · have c34 : x2.toInt < (0 : Int) := o_lt hc33
      omega
    · omega
  refine ok_bind (k_X12_sorted L hN (a0 := a0) (x1 := x1) (x2 := (q_R d20 (Ad ad 113) x2.toNatClampNeg)) (x3 := x3v) k_a0 (show 0 ≤ (x1).toInt by first | with_reducible assumption | omega) (show (x1).toInt ≤ 3 by first | with_reducible assumption | omega) i22) (fun r35 hr36 => ?_)
  have i37 := hr36
  try rw [i37]
  have f38 := ti_b r35.1
  have f42 : (q_I d20 12 56 a0).toInt = (q_I δ 12 56 a0).toInt := congrArg Int32.toInt (by rw [e21]; exact rI_o (by decide))
  have f43 := ti_b (q_I δ 12 56 a0)
  first | (have q45 := te_add (q_I d20 12 56 a0) r35.1 (by omega) (by omega); obtain ⟨f46, f47, f48⟩ := q45) | (obtain ⟨q45, f46, f47, f48⟩ := ti_add (q_I d20 12 56 a0) r35.1)
  refine ok_bdv (fun d39 e40 => ?_)
  have i41 : RI ad h.1 δ0 d39 := by rw [e40]; exact cs_12_56 L i22
  have u49 := kp_I u29 e40
  have v50 : q_V d39 = q_V δ := ((show q_V d39 = q_V d20 by rw [e40]; rfl)).trans v30
  have v51 := kr_N v31 (show q_R d39 = q_R d20 by rw [e40]; rfl)
  have v52 : sgk ad x1.toNatClampNeg δ d39 := sgk_t v32 ((show sgk ad x1.toNatClampNeg d20 d39 by rw [e40]; exact sgk_r))
  have f56 : (q_I d39 12 51 a0).toInt = (q_I δ 12 51 a0).toInt := ((show (q_I d39 12 51 a0).toInt = (q_I d20 12 51 a0).toInt from congrArg Int32.toInt (by rw [e40]; exact rI_o (by decide))).trans (show (q_I d20 12 51 a0).toInt = (q_I δ 12 51 a0).toInt from congrArg Int32.toInt (by rw [e21]; exact rI_o (by decide))))
  have f57 := ti_b (q_I δ 12 51 a0)
  first | (have q59 := te_addc (c := 1) (n := 1) rfl (q_I d39 12 51 a0) (by omega) (by omega); obtain ⟨f60, f61, f62⟩ := q59) | (obtain ⟨q59, f60, f61, f62⟩ := ti_addc (c := 1) (n := 1) rfl (q_I d39 12 51 a0))
  refine ok_bdv (fun d53 e54 => ?_)
  have i55 : RI ad h.1 δ0 d53 := by rw [e54]; exact cs_12_51 L i41
  have u63 := kp_I u49 e54
  have v64 : q_V d53 = q_V δ := ((show q_V d53 = q_V d39 by rw [e54]; rfl)).trans v50
  have v65 := kr_N v51 (show q_R d53 = q_R d39 by rw [e54]; rfl)
  have v66 : sgk ad x1.toNatClampNeg δ d53 := sgk_t v52 ((show sgk ad x1.toNatClampNeg d39 d53 by rw [e54]; exact sgk_r))
  refine ok_bind (k_X12_isThere L hN (a0 := a0) (x1 := x1) (x2 := x3v) k_a0 (show 0 ≤ (x1).toInt by first | with_reducible assumption | omega) (show (x1).toInt ≤ 3 by first | with_reducible assumption | omega) i55) (fun r67 hr68 => ?_)
  obtain ⟨i69, p70, p71⟩ := hr68
  try rw [i69]
  have f72 := bo_l p70
  have f73 := ti_b r67.1
  have f74 : (q_R d53 (Ad ad 103) (x1).toNatClampNeg).toInt = (q_R d39 (Ad ad 103) (x1).toNatClampNeg).toInt := congrArg Int32.toInt (show q_R d53 (Ad ad 103) (x1).toNatClampNeg = _ by rw [e54]; rfl)
  have f75 : (q_R d39 (Ad ad 103) (x1).toNatClampNeg).toInt = (q_R d20 (Ad ad 103) (x1).toNatClampNeg).toInt := congrArg Int32.toInt (show q_R d39 (Ad ad 103) (x1).toNatClampNeg = _ by rw [e40]; rfl)
  have f76 : (q_R d20 (Ad ad 103) (x1).toNatClampNeg).toInt = (q_R δ (Ad ad 103) (x1).toNatClampNeg).toInt := congrArg Int32.toInt (show q_R d20 (Ad ad 103) (x1).toNatClampNeg = _ by rw [e21]; rfl)
  have f77 := rb_103 L i22 (x1).toNatClampNeg
  have f78 := rb_103 L i41 (x1).toNatClampNeg
  have f79 := rb_103 L i55 (x1).toNatClampNeg
  refine ok_at o9 ?_
  refine ok_gd (fun hc80 => ?_) ?_
  · rcases hc80 with hc80 | hc80
    · have c81 : x2.toInt < (0 : Int) := o_lt hc80
      omega
    · omega
  have f82 : (q_R d53 (Ad ad 113) x2.toNatClampNeg).toInt = (q_R d39 (Ad ad 113) x2.toNatClampNeg).toInt := congrArg Int32.toInt (show q_R d53 (Ad ad 113) x2.toNatClampNeg = _ by rw [e54]; rfl)
  have f83 : (q_R d39 (Ad ad 113) x2.toNatClampNeg).toInt = (q_R d20 (Ad ad 113) x2.toNatClampNeg).toInt := congrArg Int32.toInt (show q_R d39 (Ad ad 113) x2.toNatClampNeg = _ by rw [e40]; rfl)
  have f84 : (q_R d20 (Ad ad 113) x2.toNatClampNeg).toInt = (q_R δ (Ad ad 113) x2.toNatClampNeg).toInt := congrArg Int32.toInt (show q_R d20 (Ad ad 113) x2.toNatClampNeg = _ by rw [e21]; rfl)
  have f85 := ti_b (q_R δ (Ad ad 113) x2.toNatClampNeg)
  have f86 := ti_b (q_R d20 (Ad ad 113) x2.toNatClampNeg)
  have f87 := ti_b (q_R d39 (Ad ad 113) x2.toNatClampNeg)
  have f88 := ti_b (q_R d53 (Ad ad 113) x2.toNatClampNeg)
  refine ok_ite (fun h89 => ?_) (fun h89 => ?_)
  · have c90 : (q_R d53 (Ad ad 113) x2.toNatClampNeg).toInt = (0 : Int) := o_eq h89
    refine ok_ite (fun h91 => ?_) (fun h91 => ?_)
    · have c92 : r67.1.toInt = (0 : Int) := o_eq h91
      have f93 : (q_R d53 (Ad ad 113) (x2).toNatClampNeg).toInt = (q_R d39 (Ad ad 113) (x2).toNatClampNeg).toInt := congrArg Int32.toInt (show q_R d53 (Ad ad 113) (x2).toNatClampNeg = _ by rw [e54]; rfl)
      have f94 : (q_R d39 (Ad ad 113) (x2).toNatClampNeg).toInt = (q_R d20 (Ad ad 113) (x2).toNatClampNeg).toInt := congrArg Int32.toInt (show q_R d39 (Ad ad 113) (x2).toNatClampNeg = _ by rw [e40]; rfl)
      have f95 : (q_R d20 (Ad ad 113) (x2).toNatClampNeg).toInt = (q_R δ (Ad ad 113) (x2).toNatClampNeg).toInt := congrArg Int32.toInt (show q_R d20 (Ad ad 113) (x2).toNatClampNeg = _ by rw [e21]; rfl)
      have f96 := ti_b (q_R d20 (Ad ad 113) (x2).toNatClampNeg)
      have f97 := ti_b (q_R d39 (Ad ad 113) (x2).toNatClampNeg)
      have f98 := ti_b (q_R d53 (Ad ad 113) (x2).toNatClampNeg)
      refine ok_mono (kj_X12_steps_203 L hN (a0 := a0) (x1 := x1) (x2 := x2) (xs0 := (1 : Int32)) (as1 := a0) (x3v := x3v) (x5v := r67.1) k_a0 k_a0 (show 0 ≤ (x1).toInt by first | with_reducible assumption | omega) (show (x1).toInt ≤ 3 by first | with_reducible assumption | omega) (show 0 ≤ (x2).toInt by first | with_reducible assumption | omega) (show (x2).toInt < 240 by first | with_reducible assumption | omega) (show 0 ≤ (x3v).toInt by first | with_reducible assumption | omega) (show (x3v).toInt ≤ 65535 by first | with_reducible assumption | omega) (show (q_R d53 (Ad ad 113) (x2).toNatClampNeg).toInt = 0 → (q_R d53 (Ad ad 103) (x1).toNatClampNeg).toInt < 2000 by first | with_reducible assumption | omega) (show (r67.1).toInt = 0 ∨ 1 ≤ (q_R d53 (Ad ad 103) (x1).toNatClampNeg).toInt by first | with_reducible assumption | omega) i55) (fun r99 hr100 => ?_)
      obtain ⟨i101, ⟨u103, u104, u105, u106⟩, p102⟩ := hr100
      have u107 := kp_t u63 u103
      have v108 : q_V r99.2 = q_V δ := (u104).trans v64
      have v109 := kr_t v65 u105
      have v110 : sgk ad x1.toNatClampNeg δ r99.2 := sgk_t v66 u106
      have f111 := bo_l p102
      have f112 := ti_b r99.1
      exact ⟨by first | with_reducible assumption | assumption, ⟨kp_w (by decide) u107, v108, kr_w (by decide) v109, v110⟩, by first | with_reducible assumption | omega⟩
    · have c113 : r67.1.toInt ≠ (0 : Int) := o_ne h91
      have f114 : (q_R d53 (Ad ad 113) (x2).toNatClampNeg).toInt = (q_R d39 (Ad ad 113) (x2).toNatClampNeg).toInt := congrArg Int32.toInt (show q_R d53 (Ad ad 113) (x2).toNatClampNeg = _ by rw [e54]; rfl)
      have f115 : (q_R d39 (Ad ad 113) (x2).toNatClampNeg).toInt = (q_R d20 (Ad ad 113) (x2).toNatClampNeg).toInt := congrArg Int32.toInt (show q_R d39 (Ad ad 113) (x2).toNatClampNeg = _ by rw [e40]; rfl)
      have f116 : (q_R d20 (Ad ad 113) (x2).toNatClampNeg).toInt = (q_R δ (Ad ad 113) (x2).toNatClampNeg).toInt := congrArg Int32.toInt (show q_R d20 (Ad ad 113) (x2).toNatClampNeg = _ by rw [e21]; rfl)
      have f117 := ti_b (q_R d20 (Ad ad 113) (x2).toNatClampNeg)
      have f118 := ti_b (q_R d39 (Ad ad 113) (x2).toNatClampNeg)
      have f119 := ti_b (q_R d53 (Ad ad 113) (x2).toNatClampNeg)
      refine ok_mono (kj_X12_steps_203 L hN (a0 := a0) (x1 := x1) (x2 := x2) (xs0 := (0 : Int32)) (as1 := a0) (x3v := x3v) (x5v := r67.1) k_a0 k_a0 (show 0 ≤ (x1).toInt by first | with_reducible assumption | omega) (show (x1).toInt ≤ 3 by first | with_reducible assumption | omega) (show 0 ≤ (x2).toInt by first | with_reducible assumption | omega) (show (x2).toInt < 240 by first | with_reducible assumption | omega) (show 0 ≤ (x3v).toInt by first | with_reducible assumption | omega) (show (x3v).toInt ≤ 65535 by first | with_reducible assumption | omega) (show (q_R d53 (Ad ad 113) (x2).toNatClampNeg).toInt = 0 → (q_R d53 (Ad ad 103) (x1).toNatClampNeg).toInt < 2000 by first | with_reducible assumption | omega) (show (r67.1).toInt = 0 ∨ 1 ≤ (q_R d53 (Ad ad 103) (x1).toNatClampNeg).toInt by first | with_reducible assumption | omega) i55) (fun r120 hr121 => ?_)
      obtain ⟨i122, ⟨u124, u125, u126, u127⟩, p123⟩ := hr121
      have u128 := kp_t u63 u124
      have v129 : q_V r120.2 = q_V δ := (u125).trans v64
      have v130 := kr_t v65 u126
      have v131 : sgk ad x1.toNatClampNeg δ r120.2 := sgk_t v66 u127
      have f132 := bo_l p123
      have f133 := ti_b r120.1
      exact ⟨by first | with_reducible assumption | assumption, ⟨kp_w (by decide) u128, v129, kr_w (by decide) v130, v131⟩, by first | with_reducible assumption | omega⟩
  · have c134 : (q_R d53 (Ad ad 113) x2.toNatClampNeg).toInt ≠ (0 : Int) := o_ne h89
    refine ok_at o9 ?_
    refine ok_gd (fun hc135 => ?_) ?_
    · rcases hc135 with hc135 | hc135
      · have c136 : x2.toInt < (0 : Int) := o_lt hc135
        omega
      · omega
    refine ok_bind (k_X12_answer L hN (a0 := a0) (x1 := x1) (x2 := (q_R d53 (Ad ad 113) x2.toNatClampNeg)) (x3 := x3v) k_a0 (show 0 ≤ (x1).toInt by first | with_reducible assumption | omega) (show (x1).toInt ≤ 3 by first | with_reducible assumption | omega) i55) (fun r137 hr138 => ?_)
    have i139 := hr138
    try rw [i139]
    have f140 := ti_b r137.1
    have f141 : (q_R d53 (Ad ad 113) (x2).toNatClampNeg).toInt = (q_R d39 (Ad ad 113) (x2).toNatClampNeg).toInt := congrArg Int32.toInt (show q_R d53 (Ad ad 113) (x2).toNatClampNeg = _ by rw [e54]; rfl)
    have f142 : (q_R d39 (Ad ad 113) (x2).toNatClampNeg).toInt = (q_R d20 (Ad ad 113) (x2).toNatClampNeg).toInt := congrArg Int32.toInt (show q_R d39 (Ad ad 113) (x2).toNatClampNeg = _ by rw [e40]; rfl)
    have f143 : (q_R d20 (Ad ad 113) (x2).toNatClampNeg).toInt = (q_R δ (Ad ad 113) (x2).toNatClampNeg).toInt := congrArg Int32.toInt (show q_R d20 (Ad ad 113) (x2).toNatClampNeg = _ by rw [e21]; rfl)
    have f144 := ti_b (q_R d20 (Ad ad 113) (x2).toNatClampNeg)
    have f145 := ti_b (q_R d39 (Ad ad 113) (x2).toNatClampNeg)
    have f146 := ti_b (q_R d53 (Ad ad 113) (x2).toNatClampNeg)
    refine ok_mono (kj_X12_steps_203 L hN (a0 := a0) (x1 := x1) (x2 := x2) (xs0 := r137.1) (as1 := a0) (x3v := x3v) (x5v := r67.1) k_a0 k_a0 (show 0 ≤ (x1).toInt by first | with_reducible assumption | omega) (show (x1).toInt ≤ 3 by first | with_reducible assumption | omega) (show 0 ≤ (x2).toInt by first | with_reducible assumption | omega) (show (x2).toInt < 240 by first | with_reducible assumption | omega) (show 0 ≤ (x3v).toInt by first | with_reducible assumption | omega) (show (x3v).toInt ≤ 65535 by first | with_reducible assumption | omega) (show (q_R d53 (Ad ad 113) (x2).toNatClampNeg).toInt = 0 → (q_R d53 (Ad ad 103) (x1).toNatClampNeg).toInt < 2000 by first | with_reducible assumption | omega) (show (r67.1).toInt = 0 ∨ 1 ≤ (q_R d53 (Ad ad 103) (x1).toNatClampNeg).toInt by first | with_reducible assumption | omega) i55) (fun r147 hr148 => ?_)
    obtain ⟨i149, ⟨u151, u152, u153, u154⟩, p150⟩ := hr148
    have u155 := kp_t u63 u151
    have v156 : q_V r147.2 = q_V δ := (u152).trans v64
    have v157 := kr_t v65 u153
    have v158 : sgk ad x1.toNatClampNeg δ r147.2 := sgk_t v66 u154
    have f159 := bo_l p150
    have f160 := ti_b r147.1
    exact ⟨by first | with_reducible assumption | assumption, ⟨kp_w (by decide) u155, v156, kr_w (by decide) v157, v158⟩, by first | with_reducible assumption | omega⟩
set_option maxHeartbeats 4000000 in
theorem kj_X12_steps_60 {ad : List Nat} {h : hp} (L : Lay TLx ad h) {δ0 : dp} {N : Nat} (hN : 10000000 ≤ N) {a0 : Nat} {x1 : Int32} {x2 : Int32} {x3v : Int32} (k_a0 : q_K h.1 a0 = 12) {δ : dp} (z0 : 0 ≤ (x1).toInt) (z1 : (x1).toInt ≤ 3) (z2 : 0 ≤ (x2).toInt) (z3 : (x2).toInt < 240) (z4 : 0 ≤ (x3v).toInt) (z5 : (x3v).toInt ≤ 65535) (z6 : (q_R δ (Ad ad 113) (x2).toNatClampNeg).toInt = 0 → (q_R δ (Ad ad 103) (x1).toNatClampNeg).toInt < 2000) (I : RI ad h.1 δ0 δ) : ok (J_X12_steps_60 N h.1 a0 x1 x2 x3v δ) (fun r => RI ad h.1 δ0 r.2 ∧ (kp [(12, 36), (12, 49), (12, 50), (12, 51), (12, 52), (12, 53), (12, 54), (12, 55), (12, 56)] δ r.2 ∧ q_V r.2 = q_V δ ∧ kr ad [102, 103, 118, 119] δ r.2 ∧ sgk ad x1.toNatClampNeg δ r.2) ∧ bo (r.1)) := by
  unfold J_X12_steps_60
  have f1 := ti_b x1
  have f2 := ti_b x2
  have f3 := ti_b x3v
  have t4 := ti_tn x2
  have f5 := ti_b (q_R δ (Ad ad 113) (x2).toNatClampNeg)
  have t6 := ti_tn x1
  have f7 := rb_103 L I (x1).toNatClampNeg
  obtain ⟨b8, o9, k10, n11, w12⟩ := gO_12_29 L k_a0
  obtain rfl := gS_12_29 L k_a0 o9
  refine ok_at o9 ?_
  have t13 := ti_tn x2
  refine ok_gd (fun hc14 => ?_) ?_
  · rcases hc14 with hc14 | hc14
    · have c15 : x2.toInt < (0 : Int) := o_lt hc14
      omega
    · omega
  refine ok_bind (k_X12_halves L hN (a0 := a0) (x1 := x1) (x2 := (q_R δ (Ad ad 113) x2.toNatClampNeg)) (x3 := x3v) k_a0 (show 0 ≤ (x1).toInt by first | with_reducible assumption | omega) (show (x1).toInt ≤ 3 by first | with_reducible assumption | omega) I) (fun r16 hr17 => ?_)
  obtain ⟨i18, ⟨u19, u20, u21⟩⟩ := hr17
  have u22 := kp_t kp_r u19
  have v23 : q_V r16.2 = q_V δ := (u20).trans rfl
  have v24 := kr_t (kr_r (ad := ad)) u21
  have v25 : sgk ad x1.toNatClampNeg δ r16.2 := sgk_t sgk_r (sgk_k (u21 102 (by decide) (by decide) (by decide)) (u21 103 (by decide) (by decide) (by decide)))
  have f26 := ti_b r16.1
  have f30 : (q_I r16.2 12 52 a0).toInt = (q_I δ 12 52 a0).toInt := congrArg Int32.toInt (u19 12 52 a0 (by decide))
  have f31 := ti_b (q_I δ 12 52 a0)
  first | (have q33 := te_add (q_I r16.2 12 52 a0) r16.1 (by omega) (by omega); obtain ⟨f34, f35, f36⟩ := q33) | (obtain ⟨q33, f34, f35, f36⟩ := ti_add (q_I r16.2 12 52 a0) r16.1)
  refine ok_bdv (fun d27 e28 => ?_)
  have i29 : RI ad h.1 δ0 d27 := by rw [e28]; exact cs_12_52 L i18
  have u37 := kp_I u22 e28
  have v38 : q_V d27 = q_V δ := ((show q_V d27 = q_V r16.2 by rw [e28]; rfl)).trans v23
  have v39 := kr_N v24 (show q_R d27 = q_R r16.2 by rw [e28]; rfl)
  have v40 : sgk ad x1.toNatClampNeg δ d27 := sgk_t v25 ((show sgk ad x1.toNatClampNeg r16.2 d27 by rw [e28]; exact sgk_r))
  have f41 : (q_I d27 12 53 a0).toInt = (q_I δ 12 53 a0).toInt := ((show (q_I d27 12 53 a0).toInt = (q_I r16.2 12 53 a0).toInt from congrArg Int32.toInt (by rw [e28]; exact rI_o (by decide))).trans (show (q_I r16.2 12 53 a0).toInt = (q_I δ 12 53 a0).toInt from congrArg Int32.toInt (u19 12 53 a0 (by decide))))
  have f42 := ti_b (q_I δ 12 53 a0)
  refine ok_ite (fun h43 => ?_) (fun h43 => ?_)
  · have c44 : r16.1.toInt ≤ (q_I d27 12 53 a0).toInt := o_le h43
    have f45 : (q_R d27 (Ad ad 113) (x2).toNatClampNeg).toInt = (q_R r16.2 (Ad ad 113) (x2).toNatClampNeg).toInt := congrArg Int32.toInt (show q_R d27 (Ad ad 113) (x2).toNatClampNeg = _ by rw [e28]; rfl)
    have f46 : (q_R r16.2 (Ad ad 113) (x2).toNatClampNeg).toInt = (q_R δ (Ad ad 113) (x2).toNatClampNeg).toInt := congrArg Int32.toInt (congrFun (u21 113 (by decide) (by decide) (by decide)) _)
    have f47 := ti_b (q_R r16.2 (Ad ad 113) (x2).toNatClampNeg)
    have f48 := ti_b (q_R d27 (Ad ad 113) (x2).toNatClampNeg)
    have f49 : (q_R d27 (Ad ad 103) (x1).toNatClampNeg).toInt = (q_R r16.2 (Ad ad 103) (x1).toNatClampNeg).toInt := congrArg Int32.toInt (show q_R d27 (Ad ad 103) (x1).toNatClampNeg = _ by rw [e28]; rfl)
    have f50 : (q_R r16.2 (Ad ad 103) (x1).toNatClampNeg).toInt = (q_R δ (Ad ad 103) (x1).toNatClampNeg).toInt := congrArg Int32.toInt (congrFun (u21 103 (by decide) (by decide) (by decide)) _)
    have f51 := rb_103 L i18 (x1).toNatClampNeg
    have f52 := rb_103 L i29 (x1).toNatClampNeg
    refine ok_mono (kj_X12_steps_108 L hN (a0 := a0) (x1 := x1) (x2 := x2) (x3v := x3v) k_a0 (show 0 ≤ (x1).toInt by first | with_reducible assumption | omega) (show (x1).toInt ≤ 3 by first | with_reducible assumption | omega) (show 0 ≤ (x2).toInt by first | with_reducible assumption | omega) (show (x2).toInt < 240 by first | with_reducible assumption | omega) (show 0 ≤ (x3v).toInt by first | with_reducible assumption | omega) (show (x3v).toInt ≤ 65535 by first | with_reducible assumption | omega) (show (q_R d27 (Ad ad 113) (x2).toNatClampNeg).toInt = 0 → (q_R d27 (Ad ad 103) (x1).toNatClampNeg).toInt < 2000 by first | with_reducible assumption | omega) i29) (fun r53 hr54 => ?_)
    obtain ⟨i55, ⟨u57, u58, u59, u60⟩, p56⟩ := hr54
    have u61 := kp_t u37 u57
    have v62 : q_V r53.2 = q_V δ := (u58).trans v38
    have v63 := kr_t v39 u59
    have v64 : sgk ad x1.toNatClampNeg δ r53.2 := sgk_t v40 u60
    have f65 := bo_l p56
    have f66 := ti_b r53.1
    exact ⟨by first | with_reducible assumption | assumption, ⟨kp_w (by decide) u61, v62, kr_w (by decide) v63, v64⟩, by first | with_reducible assumption | omega⟩
  · have c67 : (q_I d27 12 53 a0).toInt < r16.1.toInt := o_nle h43
    refine ok_bdv (fun d68 e69 => ?_)
    have i70 : RI ad h.1 δ0 d68 := by rw [e69]; exact cs_12_53 L i29
    have u71 := kp_I u37 e69
    have v72 : q_V d68 = q_V δ := ((show q_V d68 = q_V d27 by rw [e69]; rfl)).trans v38
    have v73 := kr_N v39 (show q_R d68 = q_R d27 by rw [e69]; rfl)
    have v74 : sgk ad x1.toNatClampNeg δ d68 := sgk_t v40 ((show sgk ad x1.toNatClampNeg d27 d68 by rw [e69]; exact sgk_r))
    have f78 : (q_I d68 12 51 a0).toInt = (q_I δ 12 51 a0).toInt := ((show (q_I d68 12 51 a0).toInt = (q_I d27 12 51 a0).toInt from congrArg Int32.toInt (by rw [e69]; exact rI_o (by decide))).trans ((show (q_I d27 12 51 a0).toInt = (q_I r16.2 12 51 a0).toInt from congrArg Int32.toInt (by rw [e28]; exact rI_o (by decide))).trans (show (q_I r16.2 12 51 a0).toInt = (q_I δ 12 51 a0).toInt from congrArg Int32.toInt (u19 12 51 a0 (by decide)))))
    have f79 := ti_b (q_I δ 12 51 a0)
    refine ok_bdv (fun d75 e76 => ?_)
    have i77 : RI ad h.1 δ0 d75 := by rw [e76]; exact cs_12_54 L i70
    have u80 := kp_I u71 e76
    have v81 : q_V d75 = q_V δ := ((show q_V d75 = q_V d68 by rw [e76]; rfl)).trans v72
    have v82 := kr_N v73 (show q_R d75 = q_R d68 by rw [e76]; rfl)
    have v83 : sgk ad x1.toNatClampNeg δ d75 := sgk_t v74 ((show sgk ad x1.toNatClampNeg d68 d75 by rw [e76]; exact sgk_r))
    have f84 : (q_R d75 (Ad ad 113) (x2).toNatClampNeg).toInt = (q_R d68 (Ad ad 113) (x2).toNatClampNeg).toInt := congrArg Int32.toInt (show q_R d75 (Ad ad 113) (x2).toNatClampNeg = _ by rw [e76]; rfl)
    have f85 : (q_R d68 (Ad ad 113) (x2).toNatClampNeg).toInt = (q_R d27 (Ad ad 113) (x2).toNatClampNeg).toInt := congrArg Int32.toInt (show q_R d68 (Ad ad 113) (x2).toNatClampNeg = _ by rw [e69]; rfl)
    have f86 : (q_R d27 (Ad ad 113) (x2).toNatClampNeg).toInt = (q_R r16.2 (Ad ad 113) (x2).toNatClampNeg).toInt := congrArg Int32.toInt (show q_R d27 (Ad ad 113) (x2).toNatClampNeg = _ by rw [e28]; rfl)
    have f87 : (q_R r16.2 (Ad ad 113) (x2).toNatClampNeg).toInt = (q_R δ (Ad ad 113) (x2).toNatClampNeg).toInt := congrArg Int32.toInt (congrFun (u21 113 (by decide) (by decide) (by decide)) _)
    have f88 := ti_b (q_R r16.2 (Ad ad 113) (x2).toNatClampNeg)
    have f89 := ti_b (q_R d27 (Ad ad 113) (x2).toNatClampNeg)
    have f90 := ti_b (q_R d68 (Ad ad 113) (x2).toNatClampNeg)
    have f91 := ti_b (q_R d75 (Ad ad 113) (x2).toNatClampNeg)
    have f92 : (q_R d75 (Ad ad 103) (x1).toNatClampNeg).toInt = (q_R d68 (Ad ad 103) (x1).toNatClampNeg).toInt := congrArg Int32.toInt (show q_R d75 (Ad ad 103) (x1).toNatClampNeg = _ by rw [e76]; rfl)
    have f93 : (q_R d68 (Ad ad 103) (x1).toNatClampNeg).toInt = (q_R d27 (Ad ad 103) (x1).toNatClampNeg).toInt := congrArg Int32.toInt (show q_R d68 (Ad ad 103) (x1).toNatClampNeg = _ by rw [e69]; rfl)
    have f94 : (q_R d27 (Ad ad 103) (x1).toNatClampNeg).toInt = (q_R r16.2 (Ad ad 103) (x1).toNatClampNeg).toInt := congrArg Int32.toInt (show q_R d27 (Ad ad 103) (x1).toNatClampNeg = _ by rw [e28]; rfl)
    have f95 : (q_R r16.2 (Ad ad 103) (x1).toNatClampNeg).toInt = (q_R δ (Ad ad 103) (x1).toNatClampNeg).toInt := congrArg Int32.toInt (congrFun (u21 103 (by decide) (by decide) (by decide)) _)
    have f96 := rb_103 L i18 (x1).toNatClampNeg
    have f97 := rb_103 L i29 (x1).toNatClampNeg
    have f98 := rb_103 L i70 (x1).toNatClampNeg
    have f99 := rb_103 L i77 (x1).toNatClampNeg
    refine ok_mono (kj_X12_steps_108 L hN (a0 := a0) (x1 := x1) (x2 := x2) (x3v := x3v) k_a0 (show 0 ≤ (x1).toInt by first | with_reducible assumption | omega) (show (x1).toInt ≤ 3 by first | with_reducible assumption | omega) (show 0 ≤ (x2).toInt by first | with_reducible assumption | omega) (show (x2).toInt < 240 by first | with_reducible assumption | omega) (show 0 ≤ (x3v).toInt by first | with_reducible assumption | omega) (show (x3v).toInt ≤ 65535 by first | with_reducible assumption | omega) (show (q_R d75 (Ad ad 113) (x2).toNatClampNeg).toInt = 0 → (q_R d75 (Ad ad 103) (x1).toNatClampNeg).toInt < 2000 by first | with_reducible assumption | omega) i77) (fun r100 hr101 => ?_)
    obtain ⟨i102, ⟨u104, u105, u106, u107⟩, p103⟩ := hr101
    have u108 := kp_t u80 u104
    have v109 : q_V r100.2 = q_V δ := (u105).trans v81
    have v110 := kr_t v82 u106
    have v111 : sgk ad x1.toNatClampNeg δ r100.2 := sgk_t v83 u107
    have f112 := bo_l p103
    have f113 := ti_b r100.1
    exact ⟨by first | with_reducible assumption | assumption, ⟨kp_w (by decide) u108, v109, kr_w (by decide) v110, v111⟩, by first | with_reducible assumption | omega⟩
set_option maxHeartbeats 4000000 in
theorem k_X12_steps {ad : List Nat} {h : hp} (L : Lay TLx ad h) {δ0 : dp} {N : Nat} (hN : 10000000 ≤ N) {a0 : Nat} {x1 : Int32} {x2 : Int32} (k_a0 : q_K h.1 a0 = 12) {δ : dp} (z0 : 0 ≤ (x1).toInt) (z1 : (x1).toInt ≤ 3) (z2 : 0 ≤ (x2).toInt) (z3 : (x2).toInt < 240) (z4 : 0 ≤ (q_R δ (Ad ad 114) (x2).toNatClampNeg).toInt) (z5 : (q_R δ (Ad ad 114) (x2).toNatClampNeg).toInt ≤ (q_R δ (Ad ad 115) (x2).toNatClampNeg).toInt) (z6 : (q_R δ (Ad ad 115) (x2).toNatClampNeg).toInt ≤ 2000) (z7 : (q_R δ (Ad ad 115) (x2).toNatClampNeg).toInt ≤ (q_R δ (Ad ad 114) (x2).toNatClampNeg).toInt + 500) (z8 : 0 ≤ (q_I δ 12 58 a0).toInt) (z9 : (q_I δ 12 58 a0).toInt ≤ 4) (z10 : rn (q_R δ (Ad ad 116)) ((q_R δ (Ad ad 115) (x2).toNatClampNeg).toInt.toNat - (q_R δ (Ad ad 114) (x2).toNatClampNeg).toInt.toNat) (q_R δ (Ad ad 114) (x2).toNatClampNeg).toInt.toNat 0 = some 1) (I : RI ad h.1 δ0 δ) : ok (D_X12_steps N h.1 a0 x1 x2 δ) (fun r => RI ad h.1 δ0 r.2 ∧ (kp [(12, 36), (12, 49), (12, 50), (12, 51), (12, 52), (12, 53), (12, 54), (12, 55), (12, 56)] δ r.2 ∧ q_V r.2 = q_V δ ∧ kr ad [102, 103, 118, 119] δ r.2 ∧ sgk ad x1.toNatClampNeg δ r.2) ∧ bo (r.1)) := by
  unfold D_X12_steps
  have f1 := ti_b x1
  have f2 := ti_b x2
  have t3 := ti_tn x2
  have f4 := ti_b (q_R δ (Ad ad 114) (x2).toNatClampNeg)
  have f5 := ti_b (q_R δ (Ad ad 115) (x2).toNatClampNeg)
  have f6 := ti_b (q_I δ 12 58 a0)
  have f7 := ti_b (q_I δ 12 51 a0)
  refine ok_ite (fun h8 => ?_) (fun h8 => ?_)
  · have c9 : (q_I δ 12 51 a0).toInt = (2000 : Int) := o_eq h8
    refine ok_gp (by decide) ?_
    exact ok_some (show RI ad h.1 δ0 δ ∧ (kp [(12, 36), (12, 49), (12, 50), (12, 51), (12, 52), (12, 53), (12, 54), (12, 55), (12, 56)] δ δ ∧ q_V δ = q_V δ ∧ kr ad [102, 103, 118, 119] δ δ ∧ sgk ad x1.toNatClampNeg δ δ) ∧ bo ((0 : Int32)) from ⟨I, ⟨kp_w (by decide) kp_r, rfl, kr_w (by decide) (kr_r (ad := ad)), sgk_r⟩, bo_0⟩)
  · have c10 : (q_I δ 12 51 a0).toInt ≠ (2000 : Int) := o_ne h8
    obtain ⟨b11, o12, k13, n14, w15⟩ := gO_12_30 L k_a0
    obtain rfl := gS_12_30 L k_a0 o12
    refine ok_at o12 ?_
    have t16 := ti_tn x2
    refine ok_gd (fun hc17 => ?_) ?_
    · rcases hc17 with hc17 | hc17
      · have c18 : x2.toInt < (0 : Int) := o_lt hc17
        omega
      · omega
    obtain ⟨b19, o20, k21, n22, w23⟩ := gO_12_31 L k_a0
    obtain rfl := gS_12_31 L k_a0 o20
    refine ok_at o20 ?_
    refine ok_gd (fun hc24 => ?_) ?_
    · rcases hc24 with hc24 | hc24
      · have c25 : x2.toInt < (0 : Int) := o_lt hc24
        omega
      · omega
    have f28 := ti_b (q_R δ (Ad ad 114) x2.toNatClampNeg)
    have f29 := ti_b (q_R δ (Ad ad 115) x2.toNatClampNeg)
    refine ok_bind (k_X12_worked L hN (a0 := a0) (x1 := x1) (x2 := (q_R δ (Ad ad 114) x2.toNatClampNeg)) (x3 := (q_R δ (Ad ad 115) x2.toNatClampNeg)) k_a0 (show 0 ≤ (x1).toInt by first | with_reducible assumption | omega) (show (x1).toInt ≤ 3 by first | with_reducible assumption | omega) (show 0 ≤ ((q_R δ (Ad ad 114) x2.toNatClampNeg)).toInt by first | with_reducible assumption | omega) (show ((q_R δ (Ad ad 114) x2.toNatClampNeg)).toInt ≤ ((q_R δ (Ad ad 115) x2.toNatClampNeg)).toInt by first | with_reducible assumption | omega) (show ((q_R δ (Ad ad 115) x2.toNatClampNeg)).toInt ≤ 2000 by first | with_reducible assumption | omega) (show ((q_R δ (Ad ad 115) x2.toNatClampNeg)).toInt ≤ ((q_R δ (Ad ad 114) x2.toNatClampNeg)).toInt + 500 by first | with_reducible assumption | omega) (show 0 ≤ (q_I δ 12 58 a0).toInt by first | with_reducible assumption | omega) (show (q_I δ 12 58 a0).toInt ≤ 4 by first | with_reducible assumption | omega) (show rn (q_R δ (Ad ad 116)) (((q_R δ (Ad ad 115) x2.toNatClampNeg)).toInt.toNat - ((q_R δ (Ad ad 114) x2.toNatClampNeg)).toInt.toNat) ((q_R δ (Ad ad 114) x2.toNatClampNeg)).toInt.toNat 0 = some 1 by first | with_reducible assumption | omega) I) (fun r26 hr27 => ?_)
    obtain ⟨i30, ⟨u31, u32, u33⟩⟩ := hr27
    have u34 := kp_t kp_r u31
    have v35 : q_V r26.2 = q_V δ := (u32).trans rfl
    have v36 := kr_t (kr_r (ad := ad)) u33
    have v37 : sgk ad x1.toNatClampNeg δ r26.2 := sgk_t sgk_r (sgk_k (u33 102 (by decide) (by decide) (by decide)) (u33 103 (by decide) (by decide) (by decide)))
    have f38 := ti_b r26.1
    refine ok_bind (k_X12_all L hN (a0 := a0) k_a0 i30) (fun r39 hr40 => ?_)
    obtain ⟨i41, p42, p43, p44, p45⟩ := hr40
    try rw [i41]
    have f46 := ti_b r39.1
    have f47 : (q_I r26.2 12 10 a0).toInt = (q_I δ 12 10 a0).toInt := congrArg Int32.toInt (u31 12 10 a0 (by decide))
    have f48 := cb_12_10 I k_a0
    first | (have q52 := te_subc (c := 1) (n := 1) rfl r39.1 (by omega) (by omega); obtain ⟨f53, f54, f55⟩ := q52) | (obtain ⟨q52, f53, f54, f55⟩ := ti_subc (c := 1) (n := 1) rfl r39.1)
    have f56 := an_le (a := r26.1) (b := (r39.1 - (1 : Int32))) (by omega)
    have f57 := ti_b (r26.1 &&& (r39.1 - (1 : Int32)))
    refine ok_biv (fun vx49 e50 => ?_)
    have f58 : vx49.toInt = (r26.1 &&& (r39.1 - (1 : Int32))).toInt := congrArg Int32.toInt e50
    obtain ⟨b59, o60, k61, n62, w63⟩ := gO_12_29 L k_a0
    obtain rfl := gS_12_29 L k_a0 o60
    refine ok_at o60 ?_
    refine ok_gd (fun hc64 => ?_) ?_
    · rcases hc64 with hc64 | hc64
      · have c65 : x2.toInt < (0 : Int) := o_lt hc64
        omega
      · omega
    have f66 : (q_R r26.2 (Ad ad 113) x2.toNatClampNeg).toInt = (q_R δ (Ad ad 113) x2.toNatClampNeg).toInt := congrArg Int32.toInt (congrFun (u33 113 (by decide) (by decide) (by decide)) _)
    have f67 := ti_b (q_R δ (Ad ad 113) x2.toNatClampNeg)
    have f68 := ti_b (q_R r26.2 (Ad ad 113) x2.toNatClampNeg)
    refine ok_ite (fun h69 => ?_) (fun h69 => ?_)
    · have c70 : (q_R r26.2 (Ad ad 113) x2.toNatClampNeg).toInt = (0 : Int) := o_eq h69
      obtain ⟨b71, o72, k73, n74⟩ := gO_12_14 L k_a0
      obtain rfl := gS_12_14 L k_a0 o72
      refine ok_at o72 ?_
      have t75 := ti_tn x1
      refine ok_gd (fun hc76 => ?_) ?_
      · rcases hc76 with hc76 | hc76
        · have c77 : x1.toInt < (0 : Int) := o_lt hc76
          omega
        · omega
      have f78 : (q_R r26.2 (Ad ad 103) x1.toNatClampNeg).toInt = (q_R δ (Ad ad 103) x1.toNatClampNeg).toInt := congrArg Int32.toInt (congrFun (u33 103 (by decide) (by decide) (by decide)) _)
      have f79 := rb_103 L I x1.toNatClampNeg
      have f80 := rb_103 L i30 x1.toNatClampNeg
      refine ok_ite (fun h81 => ?_) (fun h81 => ?_)
      · have c82 : (q_R r26.2 (Ad ad 103) x1.toNatClampNeg).toInt = (2000 : Int) := o_eq h81
        refine ok_gp (by decide) ?_
        exact ok_some (show RI ad h.1 δ0 r26.2 ∧ (kp [(12, 36), (12, 49), (12, 50), (12, 51), (12, 52), (12, 53), (12, 54), (12, 55), (12, 56)] δ r26.2 ∧ q_V r26.2 = q_V δ ∧ kr ad [102, 103, 118, 119] δ r26.2 ∧ sgk ad x1.toNatClampNeg δ r26.2) ∧ bo ((0 : Int32)) from ⟨i30, ⟨kp_w (by decide) u34, v35, kr_w (by decide) v36, v37⟩, bo_0⟩)
      · have c83 : (q_R r26.2 (Ad ad 103) x1.toNatClampNeg).toInt ≠ (2000 : Int) := o_ne h81
        have f84 : (q_R r26.2 (Ad ad 113) (x2).toNatClampNeg).toInt = (q_R δ (Ad ad 113) (x2).toNatClampNeg).toInt := congrArg Int32.toInt (congrFun (u33 113 (by decide) (by decide) (by decide)) _)
        have f85 := ti_b (q_R δ (Ad ad 113) (x2).toNatClampNeg)
        have f86 := ti_b (q_R r26.2 (Ad ad 113) (x2).toNatClampNeg)
        have t87 := ti_tn x1
        have f88 : (q_R r26.2 (Ad ad 103) (x1).toNatClampNeg).toInt = (q_R δ (Ad ad 103) (x1).toNatClampNeg).toInt := congrArg Int32.toInt (congrFun (u33 103 (by decide) (by decide) (by decide)) _)
        have f89 := rb_103 L I (x1).toNatClampNeg
        have f90 := rb_103 L i30 (x1).toNatClampNeg
        refine ok_mono (kj_X12_steps_60 L hN (a0 := a0) (x1 := x1) (x2 := x2) (x3v := vx49) k_a0 (show 0 ≤ (x1).toInt by first | with_reducible assumption | omega) (show (x1).toInt ≤ 3 by first | with_reducible assumption | omega) (show 0 ≤ (x2).toInt by first | with_reducible assumption | omega) (show (x2).toInt < 240 by first | with_reducible assumption | omega) (show 0 ≤ (vx49).toInt by first | with_reducible assumption | omega) (show (vx49).toInt ≤ 65535 by first | with_reducible assumption | omega) (show (q_R r26.2 (Ad ad 113) (x2).toNatClampNeg).toInt = 0 → (q_R r26.2 (Ad ad 103) (x1).toNatClampNeg).toInt < 2000 by first | with_reducible assumption | omega) i30) (fun r91 hr92 => ?_)
        obtain ⟨i93, ⟨u95, u96, u97, u98⟩, p94⟩ := hr92
        have u99 := kp_t u34 u95
        have v100 : q_V r91.2 = q_V δ := (u96).trans v35
        have v101 := kr_t v36 u97
        have v102 : sgk ad x1.toNatClampNeg δ r91.2 := sgk_t v37 u98
        have f103 := bo_l p94
        have f104 := ti_b r91.1
        exact ⟨by first | with_reducible assumption | assumption, ⟨kp_w (by decide) u99, v100, kr_w (by decide) v101, v102⟩, by first | with_reducible assumption | omega⟩
    · have c105 : (q_R r26.2 (Ad ad 113) x2.toNatClampNeg).toInt ≠ (0 : Int) := o_ne h69
      have f106 : (q_R r26.2 (Ad ad 113) (x2).toNatClampNeg).toInt = (q_R δ (Ad ad 113) (x2).toNatClampNeg).toInt := congrArg Int32.toInt (congrFun (u33 113 (by decide) (by decide) (by decide)) _)
      have f107 := ti_b (q_R δ (Ad ad 113) (x2).toNatClampNeg)
      have f108 := ti_b (q_R r26.2 (Ad ad 113) (x2).toNatClampNeg)
      have t109 := ti_tn x1
      have f110 : (q_R r26.2 (Ad ad 103) (x1).toNatClampNeg).toInt = (q_R δ (Ad ad 103) (x1).toNatClampNeg).toInt := congrArg Int32.toInt (congrFun (u33 103 (by decide) (by decide) (by decide)) _)
      have f111 := rb_103 L I (x1).toNatClampNeg
      have f112 := rb_103 L i30 (x1).toNatClampNeg
      refine ok_mono (kj_X12_steps_60 L hN (a0 := a0) (x1 := x1) (x2 := x2) (x3v := vx49) k_a0 (show 0 ≤ (x1).toInt by first | with_reducible assumption | omega) (show (x1).toInt ≤ 3 by first | with_reducible assumption | omega) (show 0 ≤ (x2).toInt by first | with_reducible assumption | omega) (show (x2).toInt < 240 by first | with_reducible assumption | omega) (show 0 ≤ (vx49).toInt by first | with_reducible assumption | omega) (show (vx49).toInt ≤ 65535 by first | with_reducible assumption | omega) (show (q_R r26.2 (Ad ad 113) (x2).toNatClampNeg).toInt = 0 → (q_R r26.2 (Ad ad 103) (x1).toNatClampNeg).toInt < 2000 by first | with_reducible assumption | omega) i30) (fun r113 hr114 => ?_)
      obtain ⟨i115, ⟨u117, u118, u119, u120⟩, p116⟩ := hr114
      have u121 := kp_t u34 u117
      have v122 : q_V r113.2 = q_V δ := (u118).trans v35
      have v123 := kr_t v36 u119
      have v124 : sgk ad x1.toNatClampNeg δ r113.2 := sgk_t v37 u120
      have f125 := bo_l p116
      have f126 := ti_b r113.1
      exact ⟨by first | with_reducible assumption | assumption, ⟨kp_w (by decide) u121, v122, kr_w (by decide) v123, v124⟩, by first | with_reducible assumption | omega⟩
