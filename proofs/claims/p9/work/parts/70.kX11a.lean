/-! 70.kX11a (by gen_safe.py) -/
set_option maxHeartbeats 4000000 in
theorem k_J13_bitCount_95d88 {ad : List Nat} {h : hp} (L : Lay TLx ad h) {δ0 : dp} {N : Nat} (hN : 10000000 ≤ N) {y0 : Int64} {δ : dp} (I : CI ad h.1 δ0 δ) : ok (D_J13_bitCount_95d88 N h.1 y0 δ) (fun r => r.2 = δ) := by
  unfold D_J13_bitCount_95d88
  refine ok_blv (fun vx1 e2 => ?_)
  refine ok_blv (fun vx3 e4 => ?_)
  refine ok_blv (fun vx5 e6 => ?_)
  refine ok_blv (fun vx7 e8 => ?_)
  refine ok_blv (fun vx9 e10 => ?_)
  refine ok_blv (fun vx11 e12 => ?_)
  exact ok_some (show δ = δ from rfl)
set_option maxHeartbeats 4000000 in
theorem k_X11_need {ad : List Nat} {h : hp} (L : Lay TLx ad h) {δ0 : dp} {N : Nat} (hN : 10000000 ≤ N) {a0 : Nat} {x1 : Int32} (k_a0 : q_K h.1 a0 = 11) {δ : dp} (I : CI ad h.1 δ0 δ) : ok (D_X11_need N h.1 a0 x1 δ) (fun r => CI ad h.1 δ0 r.2 ∧ (kp [] δ r.2 ∧ q_V r.2 = q_V δ) ∧ match r.1 with | .inl v => (x1).toInt ≠ 0 | .inr n => ((n = 2) ∧ True ∧ ((x1).toInt = 0))) := by
  unfold D_X11_need
  have f1 := ti_b x1
  refine ok_ite (fun h2 => ?_) (fun h2 => ?_)
  · have c3 : x1.toInt = (0 : Int) := o_eq h2
    obtain ⟨b4, o5, k6, n7, w8⟩ := gO_11_13 L k_a0
    refine ok_at o5 ?_
    have t9 : (2 : Int32).toNatClampNeg = 2 := rfl
    refine ok_gd (fun hc10 => ?_) ?_
    · rcases hc10 with hc10 | hc10
      · have c11 : (2 : Int) < (0 : Int) := o_lt hc10
        omega
      · omega
    refine ok_gd (fun hc12 => ?_) ?_
    · rcases hc12 with hc12 | hc12
      · have c13 : (2 : Int) < (0 : Int) := o_lt hc12
        omega
      · omega
    refine ok_bdv (fun d14 e15 => ?_)
    have i16 : CI ad h.1 δ0 d14 := by rw [e15]; exact CI.sR L I w8
    have u17 := kp_N kp_r (show q_I d14 = q_I δ by rw [e15]; rfl)
    have v18 : q_V d14 = q_V δ := ((show q_V d14 = q_V δ by rw [e15]; rfl)).trans rfl
    exact ok_some (show CI ad h.1 δ0 d14 ∧ (kp [] δ d14 ∧ q_V d14 = q_V δ) ∧ ((2 = 2) ∧ True ∧ ((x1).toInt = 0)) from ⟨i16, ⟨kp_w (by decide) u17, v18⟩, by decide, trivial, by first | assumption | omega⟩)
  · have c19 : x1.toInt ≠ (0 : Int) := o_ne h2
    exact ok_some (show CI ad h.1 δ0 δ ∧ (kp [] δ δ ∧ q_V δ = q_V δ) ∧ (x1).toInt ≠ 0 from ⟨I, ⟨kp_w (by decide) kp_r, rfl⟩, by first | assumption | omega⟩)
set_option maxHeartbeats 4000000 in
theorem k_X11_needHouse {ad : List Nat} {h : hp} (L : Lay TLx ad h) {δ0 : dp} {N : Nat} (hN : 10000000 ≤ N) {a0 : Nat} {x1 : Int32} (k_a0 : q_K h.1 a0 = 11) {δ : dp} (I : CI ad h.1 δ0 δ) : ok (D_X11_needHouse N h.1 a0 x1 δ) (fun r => CI ad h.1 δ0 r.2 ∧ (kp [] δ r.2 ∧ q_V r.2 = q_V δ) ∧ match r.1 with | .inl v => 0 ≤ (x1).toInt ∧ (x1).toInt < 4 | .inr n => ((n = 0) ∧ True)) := by
  unfold D_X11_needHouse
  have f1 := ti_b x1
  refine ok_ite (fun h2 => ?_) (fun h2 => ?_)
  · have c3 : x1.toInt < (0 : Int) := o_lt h2
    unfold J_X11_needHouse_9
    obtain ⟨b4, o5, k6, n7, w8⟩ := gO_11_13 L k_a0
    refine ok_at o5 ?_
    have t9 : (0 : Int32).toNatClampNeg = 0 := rfl
    refine ok_gd (fun hc10 => ?_) ?_
    · rcases hc10 with hc10 | hc10
      · have c11 : (0 : Int) < (0 : Int) := o_lt hc10
        omega
      · omega
    refine ok_gd (fun hc12 => ?_) ?_
    · rcases hc12 with hc12 | hc12
      · have c13 : (0 : Int) < (0 : Int) := o_lt hc12
        omega
      · omega
    refine ok_bdv (fun d14 e15 => ?_)
    have i16 : CI ad h.1 δ0 d14 := by rw [e15]; exact CI.sR L I w8
    have u17 := kp_N kp_r (show q_I d14 = q_I δ by rw [e15]; rfl)
    have v18 : q_V d14 = q_V δ := ((show q_V d14 = q_V δ by rw [e15]; rfl)).trans rfl
    exact ok_some (show CI ad h.1 δ0 d14 ∧ (kp [] δ d14 ∧ q_V d14 = q_V δ) ∧ ((0 = 0) ∧ True) from ⟨i16, ⟨kp_w (by decide) u17, v18⟩, by decide, trivial⟩)
  · have c19 : (0 : Int) ≤ x1.toInt := o_nlt h2
    refine ok_ite (fun h20 => ?_) (fun h20 => ?_)
    · have c21 : x1.toInt < (4 : Int) := o_lt h20
      exact ok_some (show CI ad h.1 δ0 δ ∧ (kp [] δ δ ∧ q_V δ = q_V δ) ∧ 0 ≤ (x1).toInt ∧ (x1).toInt < 4 from ⟨I, ⟨kp_w (by decide) kp_r, rfl⟩, by first | assumption | omega, by first | assumption | omega⟩)
    · have c22 : (4 : Int) ≤ x1.toInt := o_nlt h20
      unfold J_X11_needHouse_9
      obtain ⟨b23, o24, k25, n26, w27⟩ := gO_11_13 L k_a0
      refine ok_at o24 ?_
      have t28 : (0 : Int32).toNatClampNeg = 0 := rfl
      refine ok_gd (fun hc29 => ?_) ?_
      · rcases hc29 with hc29 | hc29
        · have c30 : (0 : Int) < (0 : Int) := o_lt hc29
          omega
        · omega
      refine ok_gd (fun hc31 => ?_) ?_
      · rcases hc31 with hc31 | hc31
        · have c32 : (0 : Int) < (0 : Int) := o_lt hc31
          omega
        · omega
      refine ok_bdv (fun d33 e34 => ?_)
      have i35 : CI ad h.1 δ0 d33 := by rw [e34]; exact CI.sR L I w27
      have u36 := kp_N kp_r (show q_I d33 = q_I δ by rw [e34]; rfl)
      have v37 : q_V d33 = q_V δ := ((show q_V d33 = q_V δ by rw [e34]; rfl)).trans rfl
      exact ok_some (show CI ad h.1 δ0 d33 ∧ (kp [] δ d33 ∧ q_V d33 = q_V δ) ∧ ((0 = 0) ∧ True) from ⟨i35, ⟨kp_w (by decide) u36, v37⟩, by decide, trivial⟩)
set_option maxHeartbeats 4000000 in
theorem k_X11_needThief {ad : List Nat} {h : hp} (L : Lay TLx ad h) {δ0 : dp} {N : Nat} (hN : 10000000 ≤ N) {a0 : Nat} {x1 : Int32} (k_a0 : q_K h.1 a0 = 11) {δ : dp} (I : CI ad h.1 δ0 δ) : ok (D_X11_needThief N h.1 a0 x1 δ) (fun r => CI ad h.1 δ0 r.2 ∧ (kp [] δ r.2 ∧ q_V r.2 = q_V δ) ∧ match r.1 with | .inl v => 0 ≤ (x1).toInt ∧ (x1).toInt < 4 | .inr n => ((n = 1) ∧ True)) := by
  unfold D_X11_needThief
  have f1 := ti_b x1
  refine ok_ite (fun h2 => ?_) (fun h2 => ?_)
  · have c3 : x1.toInt < (0 : Int) := o_lt h2
    unfold J_X11_needThief_12
    obtain ⟨b4, o5, k6, n7, w8⟩ := gO_11_13 L k_a0
    refine ok_at o5 ?_
    have t9 : (1 : Int32).toNatClampNeg = 1 := rfl
    refine ok_gd (fun hc10 => ?_) ?_
    · rcases hc10 with hc10 | hc10
      · have c11 : (1 : Int) < (0 : Int) := o_lt hc10
        omega
      · omega
    refine ok_gd (fun hc12 => ?_) ?_
    · rcases hc12 with hc12 | hc12
      · have c13 : (1 : Int) < (0 : Int) := o_lt hc12
        omega
      · omega
    refine ok_bdv (fun d14 e15 => ?_)
    have i16 : CI ad h.1 δ0 d14 := by rw [e15]; exact CI.sR L I w8
    have u17 := kp_N kp_r (show q_I d14 = q_I δ by rw [e15]; rfl)
    have v18 : q_V d14 = q_V δ := ((show q_V d14 = q_V δ by rw [e15]; rfl)).trans rfl
    exact ok_some (show CI ad h.1 δ0 d14 ∧ (kp [] δ d14 ∧ q_V d14 = q_V δ) ∧ ((1 = 1) ∧ True) from ⟨i16, ⟨kp_w (by decide) u17, v18⟩, by decide, trivial⟩)
  · have c19 : (0 : Int) ≤ x1.toInt := o_nlt h2
    have f20 := cb_11_5 I k_a0
    refine ok_ite (fun h21 => ?_) (fun h21 => ?_)
    · have c22 : x1.toInt < (q_I δ 11 5 a0).toInt := o_lt h21
      exact ok_some (show CI ad h.1 δ0 δ ∧ (kp [] δ δ ∧ q_V δ = q_V δ) ∧ 0 ≤ (x1).toInt ∧ (x1).toInt < 4 from ⟨I, ⟨kp_w (by decide) kp_r, rfl⟩, by first | assumption | omega, by first | assumption | omega⟩)
    · have c23 : (q_I δ 11 5 a0).toInt ≤ x1.toInt := o_nlt h21
      unfold J_X11_needThief_12
      obtain ⟨b24, o25, k26, n27, w28⟩ := gO_11_13 L k_a0
      refine ok_at o25 ?_
      have t29 : (1 : Int32).toNatClampNeg = 1 := rfl
      refine ok_gd (fun hc30 => ?_) ?_
      · rcases hc30 with hc30 | hc30
        · have c31 : (1 : Int) < (0 : Int) := o_lt hc30
          omega
        · omega
      refine ok_gd (fun hc32 => ?_) ?_
      · rcases hc32 with hc32 | hc32
        · have c33 : (1 : Int) < (0 : Int) := o_lt hc32
          omega
        · omega
      refine ok_bdv (fun d34 e35 => ?_)
      have i36 : CI ad h.1 δ0 d34 := by rw [e35]; exact CI.sR L I w28
      have u37 := kp_N kp_r (show q_I d34 = q_I δ by rw [e35]; rfl)
      have v38 : q_V d34 = q_V δ := ((show q_V d34 = q_V δ by rw [e35]; rfl)).trans rfl
      exact ok_some (show CI ad h.1 δ0 d34 ∧ (kp [] δ d34 ∧ q_V d34 = q_V δ) ∧ ((1 = 1) ∧ True) from ⟨i36, ⟨kp_w (by decide) u37, v38⟩, by decide, trivial⟩)
set_option maxHeartbeats 4000000 in
theorem k_X11_isNumber {ad : List Nat} {h : hp} (L : Lay TLx ad h) {δ0 : dp} {N : Nat} (hN : 10000000 ≤ N) {a0 : Nat} {x1 : Int32} (k_a0 : q_K h.1 a0 = 11) {δ : dp} (I : CI ad h.1 δ0 δ) : ok (D_X11_isNumber N h.1 a0 x1 δ) (fun r => r.2 = δ ∧ bo (r.1)) := by
  unfold D_X11_isNumber
  have f1 := ti_b x1
  refine ok_ite (fun h2 => ?_) (fun h2 => ?_)
  · have c3 : x1.toInt < (0 : Int) := o_lt h2
    unfold J_X11_isNumber_19
    unfold J_X11_isNumber_20
    refine ok_gp (by decide) ?_
    exact ok_some (show δ = δ ∧ bo ((0 : Int32)) from ⟨rfl, bo_0⟩)
  · have c4 : (0 : Int) ≤ x1.toInt := o_nlt h2
    obtain ⟨b5, o6, k7⟩ := gO_11_1 L k_a0
    refine ok_at o6 ?_
    refine ok_bind (k_X5_greatest L hN (a0 := b5) k7 I) (fun r8 hr9 => ?_)
    obtain ⟨i10, p11, p12, p13, p14⟩ := hr9
    try rw [i10]
    have f15 := ti_b r8.1
    have f16 := cb_5_0 I k7
    have f17 := ti_b r8.1
    refine ok_ite (fun h18 => ?_) (fun h18 => ?_)
    · have c19 : r8.1.toInt < x1.toInt := o_lt h18
      unfold J_X11_isNumber_19
      unfold J_X11_isNumber_20
      refine ok_gp (by decide) ?_
      exact ok_some (show δ = δ ∧ bo ((0 : Int32)) from ⟨rfl, bo_0⟩)
    · have c20 : x1.toInt ≤ r8.1.toInt := o_nlt h18
      unfold J_X11_isNumber_20
      refine ok_gp (by decide) ?_
      exact ok_some (show δ = δ ∧ bo ((1 : Int32)) from ⟨rfl, bo_1⟩)
set_option maxHeartbeats 4000000 in
theorem k_X11_needNumber {ad : List Nat} {h : hp} (L : Lay TLx ad h) {δ0 : dp} {N : Nat} (hN : 10000000 ≤ N) {a0 : Nat} {x1 : Int32} (k_a0 : q_K h.1 a0 = 11) {δ : dp} (I : CI ad h.1 δ0 δ) : ok (D_X11_needNumber N h.1 a0 x1 δ) (fun r => CI ad h.1 δ0 r.2 ∧ (kp [] δ r.2 ∧ q_V r.2 = q_V δ) ∧ match r.1 with | .inl v => True | .inr n => ((n = 2) ∧ True)) := by
  unfold D_X11_needNumber
  refine ok_bind (k_X11_isNumber L hN (a0 := a0) (x1 := x1) k_a0 I) (fun r1 hr2 => ?_)
  obtain ⟨i3, p4⟩ := hr2
  try rw [i3]
  have f5 := bo_t p4
  have f6 := ti_b r1.1
  refine ok_bxv (k_X11_need L hN (a0 := a0) (x1 := r1.1) k_a0 I) (fun n d hp => (show CI ad h.1 δ0 d ∧ (kp [] δ d ∧ q_V d = q_V δ) ∧ ((n = 2) ∧ True) from ⟨hp.1, ⟨kp_w (by decide) (kp_t kp_r hp.2.1.1), (hp.2.1.2).trans rfl⟩, (by have hq : n = 2 := hp.2.2.1; omega), trivial⟩)) (fun d7 hp8 => ?_)
  obtain ⟨i9, ⟨u10, u11⟩, p12⟩ := hp8
  have u13 := kp_t kp_r u10
  have v14 : q_V d7 = q_V δ := (u11).trans rfl
  exact ok_some (show CI ad h.1 δ0 d7 ∧ (kp [] δ d7 ∧ q_V d7 = q_V δ) ∧ True from ⟨i9, ⟨kp_w (by decide) u13, v14⟩, trivial⟩)
set_option maxHeartbeats 4000000 in
theorem k_X11_isCall {ad : List Nat} {h : hp} (L : Lay TLx ad h) {δ0 : dp} {N : Nat} (hN : 10000000 ≤ N) {x0 : Int32} {δ : dp} (I : CI ad h.1 δ0 δ) : ok (D_X11_isCall N h.1 x0 δ) (fun r => r.2 = δ ∧ bo (r.1) ∧ ((r.1).toInt = 1 → 0 ≤ (x0).toInt ∧ (x0).toInt < 5)) := by
  unfold D_X11_isCall
  have f1 := ti_b x0
  refine ok_ite (fun h2 => ?_) (fun h2 => ?_)
  · have c3 : x0.toInt < (0 : Int) := o_lt h2
    unfold J_X11_isCall_13
    unfold J_X11_isCall_14
    refine ok_gp (by decide) ?_
    exact ok_some (show δ = δ ∧ bo ((0 : Int32)) ∧ ((0 : Int) = 1 → 0 ≤ (x0).toInt ∧ (x0).toInt < 5) from ⟨rfl, bo_0, by first | assumption | omega⟩)
  · have c4 : (0 : Int) ≤ x0.toInt := o_nlt h2
    refine ok_ite (fun h5 => ?_) (fun h5 => ?_)
    · have c6 : (5 : Int) ≤ x0.toInt := o_le h5
      unfold J_X11_isCall_13
      unfold J_X11_isCall_14
      refine ok_gp (by decide) ?_
      exact ok_some (show δ = δ ∧ bo ((0 : Int32)) ∧ ((0 : Int) = 1 → 0 ≤ (x0).toInt ∧ (x0).toInt < 5) from ⟨rfl, bo_0, by first | assumption | omega⟩)
    · have c7 : x0.toInt < (5 : Int) := o_nle h5
      unfold J_X11_isCall_14
      refine ok_gp (by decide) ?_
      exact ok_some (show δ = δ ∧ bo ((1 : Int32)) ∧ ((1 : Int) = 1 → 0 ≤ (x0).toInt ∧ (x0).toInt < 5) from ⟨rfl, bo_1, by first | assumption | omega⟩)
set_option maxHeartbeats 4000000 in
theorem k_X11_isKind {ad : List Nat} {h : hp} (L : Lay TLx ad h) {δ0 : dp} {N : Nat} (hN : 10000000 ≤ N) {x0 : Int32} {δ : dp} (I : CI ad h.1 δ0 δ) : ok (D_X11_isKind N h.1 x0 δ) (fun r => r.2 = δ ∧ bo (r.1)) := by
  unfold D_X11_isKind
  have f1 := ti_b x0
  refine ok_ite (fun h2 => ?_) (fun h2 => ?_)
  · have c3 : x0.toInt < (0 : Int) := o_lt h2
    unfold J_X11_isKind_13
    unfold J_X11_isKind_14
    refine ok_gp (by decide) ?_
    exact ok_some (show δ = δ ∧ bo ((0 : Int32)) from ⟨rfl, bo_0⟩)
  · have c4 : (0 : Int) ≤ x0.toInt := o_nlt h2
    refine ok_ite (fun h5 => ?_) (fun h5 => ?_)
    · have c6 : (2 : Int) < x0.toInt := o_lt h5
      unfold J_X11_isKind_13
      unfold J_X11_isKind_14
      refine ok_gp (by decide) ?_
      exact ok_some (show δ = δ ∧ bo ((0 : Int32)) from ⟨rfl, bo_0⟩)
    · have c7 : x0.toInt ≤ (2 : Int) := o_nlt h5
      unfold J_X11_isKind_14
      refine ok_gp (by decide) ?_
      exact ok_some (show δ = δ ∧ bo ((1 : Int32)) from ⟨rfl, bo_1⟩)
set_option maxHeartbeats 4000000 in
theorem k_X11_mayAsk {ad : List Nat} {h : hp} (L : Lay TLx ad h) {δ0 : dp} {N : Nat} (hN : 10000000 ≤ N) {a0 : Nat} {x1 : Int32} {x2 : Int32} (k_a0 : q_K h.1 a0 = 11) {δ : dp} (I : CI ad h.1 δ0 δ) : ok (D_X11_mayAsk N h.1 a0 x1 x2 δ) (fun r => r.2 = δ ∧ bo (r.1)) := by
  unfold D_X11_mayAsk
  refine ok_bind (k_X11_isNumber L hN (a0 := a0) (x1 := x2) k_a0 I) (fun r1 hr2 => ?_)
  obtain ⟨i3, p4⟩ := hr2
  try rw [i3]
  have f5 := bo_t p4
  have f6 := ti_b r1.1
  refine ok_ite (fun h7 => ?_) (fun h7 => ?_)
  · have c8 : r1.1.toInt = (0 : Int) := o_eq h7
    have f9 := ti_b x1
    refine ok_ite (fun h10 => ?_) (fun h10 => ?_)
    · have c11 : x1.toInt = (3 : Int) := o_eq h10
      have f12 := ti_b x2
      refine ok_ite (fun h13 => ?_) (fun h13 => ?_)
      · have c14 : x2.toInt = (-1 : Int) := o_eq h13
        unfold J_X11_mayAsk_36
        unfold J_X11_mayAsk_41
        refine ok_gp (by decide) ?_
        exact ok_some (show δ = δ ∧ bo ((1 : Int32)) from ⟨rfl, bo_1⟩)
      · have c15 : x2.toInt ≠ (-1 : Int) := o_ne h13
        unfold J_X11_mayAsk_18
        refine ok_ite (fun h16 => ?_) (fun h16 => ?_)
        · have c17 : x1.toInt = (4 : Int) := o_eq h16
          obtain ⟨b18, o19, k20⟩ := gO_11_1 L k_a0
          refine ok_at o19 ?_
          refine ok_bind (k_X5_greatest L hN (a0 := b18) k20 I) (fun r21 hr22 => ?_)
          obtain ⟨i23, p24, p25, p26, p27⟩ := hr22
          try rw [i23]
          have f28 := ti_b r21.1
          have f29 := cb_5_0 I k20
          have f30 := ti_b r21.1
          first | (have q32 := te_addc (c := 1) (n := 1) rfl r21.1 (by omega) (by omega); obtain ⟨f33, f34, f35⟩ := q32) | (obtain ⟨q32, f33, f34, f35⟩ := ti_addc (c := 1) (n := 1) rfl r21.1)
          refine ok_ite (fun h36 => ?_) (fun h36 => ?_)
          · have c37 : x2.toInt = (r21.1 + (1 : Int32)).toInt := o_eq h36
            unfold J_X11_mayAsk_36
            unfold J_X11_mayAsk_41
            refine ok_gp (by decide) ?_
            exact ok_some (show δ = δ ∧ bo ((1 : Int32)) from ⟨rfl, bo_1⟩)
          · have c38 : x2.toInt ≠ (r21.1 + (1 : Int32)).toInt := o_ne h36
            unfold J_X11_mayAsk_40
            unfold J_X11_mayAsk_41
            refine ok_gp (by decide) ?_
            exact ok_some (show δ = δ ∧ bo ((0 : Int32)) from ⟨rfl, bo_0⟩)
        · have c39 : x1.toInt ≠ (4 : Int) := o_ne h16
          unfold J_X11_mayAsk_40
          unfold J_X11_mayAsk_41
          refine ok_gp (by decide) ?_
          exact ok_some (show δ = δ ∧ bo ((0 : Int32)) from ⟨rfl, bo_0⟩)
    · have c40 : x1.toInt ≠ (3 : Int) := o_ne h10
      unfold J_X11_mayAsk_18
      refine ok_ite (fun h41 => ?_) (fun h41 => ?_)
      · have c42 : x1.toInt = (4 : Int) := o_eq h41
        obtain ⟨b43, o44, k45⟩ := gO_11_1 L k_a0
        refine ok_at o44 ?_
        refine ok_bind (k_X5_greatest L hN (a0 := b43) k45 I) (fun r46 hr47 => ?_)
        obtain ⟨i48, p49, p50, p51, p52⟩ := hr47
        try rw [i48]
        have f53 := ti_b r46.1
        have f54 := cb_5_0 I k45
        have f55 := ti_b r46.1
        have f56 := ti_b x2
        first | (have q58 := te_addc (c := 1) (n := 1) rfl r46.1 (by omega) (by omega); obtain ⟨f59, f60, f61⟩ := q58) | (obtain ⟨q58, f59, f60, f61⟩ := ti_addc (c := 1) (n := 1) rfl r46.1)
        refine ok_ite (fun h62 => ?_) (fun h62 => ?_)
        · have c63 : x2.toInt = (r46.1 + (1 : Int32)).toInt := o_eq h62
          unfold J_X11_mayAsk_36
          unfold J_X11_mayAsk_41
          refine ok_gp (by decide) ?_
          exact ok_some (show δ = δ ∧ bo ((1 : Int32)) from ⟨rfl, bo_1⟩)
        · have c64 : x2.toInt ≠ (r46.1 + (1 : Int32)).toInt := o_ne h62
          unfold J_X11_mayAsk_40
          unfold J_X11_mayAsk_41
          refine ok_gp (by decide) ?_
          exact ok_some (show δ = δ ∧ bo ((0 : Int32)) from ⟨rfl, bo_0⟩)
      · have c65 : x1.toInt ≠ (4 : Int) := o_ne h41
        unfold J_X11_mayAsk_40
        unfold J_X11_mayAsk_41
        refine ok_gp (by decide) ?_
        exact ok_some (show δ = δ ∧ bo ((0 : Int32)) from ⟨rfl, bo_0⟩)
  · have c66 : r1.1.toInt ≠ (0 : Int) := o_ne h7
    unfold J_X11_mayAsk_36
    unfold J_X11_mayAsk_41
    refine ok_gp (by decide) ?_
    exact ok_some (show δ = δ ∧ bo ((1 : Int32)) from ⟨rfl, bo_1⟩)
set_option maxHeartbeats 4000000 in
theorem k_X11_mayGoThroughAll {ad : List Nat} {h : hp} (L : Lay TLx ad h) {δ0 : dp} {N : Nat} (hN : 10000000 ≤ N) {a0 : Nat} {x1 : Int32} {x2 : Int32} (k_a0 : q_K h.1 a0 = 11) {δ : dp} (I : CI ad h.1 δ0 δ) : ok (D_X11_mayGoThroughAll N h.1 a0 x1 x2 δ) (fun r => r.2 = δ ∧ bo (r.1) ∧ ((r.1).toInt = 1 → 0 ≤ (x1).toInt ∧ (x1).toInt < 5 ∧ 0 ≤ (x2).toInt ∧ (x2).toInt ≤ 16)) := by
  unfold D_X11_mayGoThroughAll
  refine ok_bind (k_X11_isCall L hN (x0 := x1)  I) (fun r1 hr2 => ?_)
  obtain ⟨i3, p4, p5⟩ := hr2
  try rw [i3]
  have f6 := bo_t p4
  have f7 := ti_b r1.1
  have f8 := ti_b x1
  have f9 := ti_b r1.1
  refine ok_ite (fun h10 => ?_) (fun h10 => ?_)
  · have c11 : r1.1.toInt = (0 : Int) := o_eq h10
    unfold J_X11_mayGoThroughAll_36
    unfold J_X11_mayGoThroughAll_37
    refine ok_gp (by decide) ?_
    have f12 := ti_b x2
    exact ok_some (show δ = δ ∧ bo ((0 : Int32)) ∧ ((0 : Int) = 1 → 0 ≤ (x1).toInt ∧ (x1).toInt < 5 ∧ 0 ≤ (x2).toInt ∧ (x2).toInt ≤ 16) from ⟨rfl, bo_0, by first | assumption | omega⟩)
  · have c13 : r1.1.toInt ≠ (0 : Int) := o_ne h10
    obtain ⟨b14, o15, k16⟩ := gO_11_1 L k_a0
    refine ok_at o15 ?_
    refine ok_bind (k_X5_isSmall L hN (a0 := b14) k16 I) (fun r17 hr18 => ?_)
    obtain ⟨i19, p20, p21⟩ := hr18
    try rw [i19]
    have f22 := bo_t p20
    have f23 := ti_b r17.1
    have f24 := cb_5_0 I k16
    have f25 := ti_b r17.1
    refine ok_ite (fun h26 => ?_) (fun h26 => ?_)
    · have c27 : r17.1.toInt = (0 : Int) := o_eq h26
      unfold J_X11_mayGoThroughAll_36
      unfold J_X11_mayGoThroughAll_37
      refine ok_gp (by decide) ?_
      have f28 := ti_b x2
      exact ok_some (show δ = δ ∧ bo ((0 : Int32)) ∧ ((0 : Int) = 1 → 0 ≤ (x1).toInt ∧ (x1).toInt < 5 ∧ 0 ≤ (x2).toInt ∧ (x2).toInt ≤ 16) from ⟨rfl, bo_0, by first | assumption | omega⟩)
    · have c29 : r17.1.toInt ≠ (0 : Int) := o_ne h26
      have f30 := ti_b x2
      refine ok_ite (fun h31 => ?_) (fun h31 => ?_)
      · have c32 : x2.toInt < (0 : Int) := o_lt h31
        unfold J_X11_mayGoThroughAll_36
        unfold J_X11_mayGoThroughAll_37
        refine ok_gp (by decide) ?_
        exact ok_some (show δ = δ ∧ bo ((0 : Int32)) ∧ ((0 : Int) = 1 → 0 ≤ (x1).toInt ∧ (x1).toInt < 5 ∧ 0 ≤ (x2).toInt ∧ (x2).toInt ≤ 16) from ⟨rfl, bo_0, by first | assumption | omega⟩)
      · have c33 : (0 : Int) ≤ x2.toInt := o_nlt h31
        refine ok_at o15 ?_
        refine ok_bind (k_X5_mostInSets L hN (a0 := b14) k16 I) (fun r34 hr35 => ?_)
        obtain ⟨i36, p37⟩ := hr35
        try rw [i36]
        have f38 := ti_b r34.1
        have f39 := ti_b r34.1
        refine ok_ite (fun h40 => ?_) (fun h40 => ?_)
        · have c41 : r34.1.toInt < x2.toInt := o_lt h40
          unfold J_X11_mayGoThroughAll_36
          unfold J_X11_mayGoThroughAll_37
          refine ok_gp (by decide) ?_
          exact ok_some (show δ = δ ∧ bo ((0 : Int32)) ∧ ((0 : Int) = 1 → 0 ≤ (x1).toInt ∧ (x1).toInt < 5 ∧ 0 ≤ (x2).toInt ∧ (x2).toInt ≤ 16) from ⟨rfl, bo_0, by first | assumption | omega⟩)
        · have c42 : x2.toInt ≤ r34.1.toInt := o_nlt h40
          unfold J_X11_mayGoThroughAll_37
          refine ok_gp (by decide) ?_
          exact ok_some (show δ = δ ∧ bo ((1 : Int32)) ∧ ((1 : Int) = 1 → 0 ≤ (x1).toInt ∧ (x1).toInt < 5 ∧ 0 ≤ (x2).toInt ∧ (x2).toInt ≤ 16) from ⟨rfl, bo_1, by first | assumption | omega⟩)
set_option maxHeartbeats 4000000 in
theorem k_X11_fault {ad : List Nat} {h : hp} (L : Lay TLx ad h) {δ0 : dp} {N : Nat} (hN : 10000000 ≤ N) {a0 : Nat} (k_a0 : q_K h.1 a0 = 11) {δ : dp} (I : CI ad h.1 δ0 δ) : ok (D_X11_fault N h.1 a0 δ) (fun r => r.2 = δ) := by
  unfold D_X11_fault
  obtain ⟨b1, o2, k3⟩ := gO_11_0 L k_a0
  obtain rfl := gS_11_0 L k_a0 o2
  refine ok_at o2 ?_
  refine ok_bind (k_X7_isSound L hN (a0 := (Ad ad 1)) k3 I) (fun r4 hr5 => ?_)
  obtain ⟨i6, p7, p8, p9⟩ := hr5
  try rw [i6]
  have f10 := bo_t p7
  have f11 := ti_b r4.1
  have f12 := ti_b (q_I δ 7 5 (Ad ad 1))
  have f13 := ti_b r4.1
  refine ok_ite (fun h14 => ?_) (fun h14 => ?_)
  · have c15 : r4.1.toInt = (0 : Int) := o_eq h14
    refine ok_at o2 ?_
    unfold J_X11_fault_21
    exact ok_some (show δ = δ from rfl)
  · have c16 : r4.1.toInt ≠ (0 : Int) := o_ne h14
    unfold J_X11_fault_21
    exact ok_some (show δ = δ from rfl)
set_option maxHeartbeats 4000000 in
theorem kl_X11_image_12 {ad : List Nat} {h : hp} (L : Lay TLx ad h) {δ0 : dp} {N : Nat} (hN : 10000000 ≤ N) {a0 : Nat} (k_a0 : q_K h.1 a0 = 11) : ∀ (n : Nat) (x1v : Int32) (δ : dp), CI ad h.1 δ0 δ → 0 ≤ (x1v).toInt → (x1v).toInt ≤ 4 → (q_I δ 11 12 a0).toInt < 3 → 4 - (x1v).toInt < (n : Int) → ok (L_X11_image_12 N h.1 a0 n x1v δ) (fun r => CI ad h.1 δ0 r.2 ∧ (kp [(11, 12)] δ r.2 ∧ q_V r.2 = q_V δ) ∧ (r.1).toInt = (q_I δ 11 12 a0).toInt + 1 ∧ (q_I r.2 11 12 a0).toInt = (q_I δ 11 12 a0).toInt + 1) := by
  intro n
  induction n with
  | zero =>
    intro x1v δ I j0 j1 j2 hm
    have f1 := ti_b x1v
    have f2 := cb_11_12 I k_a0
    exfalso; omega
  | succ n ih =>
    intro x1v δ I j0 j1 j2 hm
    unfold L_X11_image_12
    have f1 := ti_b x1v
    have f2 := cb_11_12 I k_a0
    refine ok_ite (fun h3 => ?_) (fun h3 => ?_)
    · have c4 : (4 : Int) ≤ x1v.toInt := o_le h3
      first | (have q9 := te_addc (c := 1) (n := 1) rfl (q_I δ 11 12 a0) (by omega) (by omega); obtain ⟨f10, f11, f12⟩ := q9) | (obtain ⟨q9, f10, f11, f12⟩ := ti_addc (c := 1) (n := 1) rfl (q_I δ 11 12 a0))
      refine ok_bdv (fun d5 e6 => ?_)
      have i7 : CI ad h.1 δ0 d5 := by rw [e6]; exact cs_11_12 L I k_a0 (show 0 ≤ ((q_I δ 11 12 a0) + (1 : Int32)).toInt by omega) (show ((q_I δ 11 12 a0) + (1 : Int32)).toInt ≤ 3 by omega)
      have u13 := kp_I kp_r e6
      have v14 : q_V d5 = q_V δ := ((show q_V d5 = q_V δ by rw [e6]; rfl)).trans rfl
      have f15 := cb_11_12 i7 k_a0
      have f16 : (q_I d5 11 12 a0).toInt = ((q_I δ 11 12 a0) + (1 : Int32)).toInt := congrArg Int32.toInt (show q_I d5 11 12 a0 = ((q_I δ 11 12 a0) + (1 : Int32)) by rw [e6]; exact rI_s)
      exact ok_some (show CI ad h.1 δ0 d5 ∧ (kp [(11, 12)] δ d5 ∧ q_V d5 = q_V δ) ∧ ((q_I d5 11 12 a0)).toInt = (q_I δ 11 12 a0).toInt + 1 ∧ (q_I d5 11 12 a0).toInt = (q_I δ 11 12 a0).toInt + 1 from ⟨i7, ⟨kp_w (by decide) u13, v14⟩, by first | assumption | omega, by first | assumption | omega⟩)
    · have c17 : x1v.toInt < (4 : Int) := o_nle h3
      obtain ⟨b18, o19, k20, n21, w22⟩ := gO_11_11 L k_a0
      refine ok_at o19 ?_
      have t23 := ti_tn (q_I δ 11 12 a0)
      refine ok_gd (fun hc24 => ?_) ?_
      · rcases hc24 with hc24 | hc24
        · have c25 : (q_I δ 11 12 a0).toInt < (0 : Int) := o_lt hc24
          omega
        · omega
      obtain ⟨b26, o27, k28, n29, w30⟩ := gW_11_11 L k_a0 o19 (i := (q_I δ 11 12 a0).toNatClampNeg) (by omega)
      refine ok_at o27 ?_
      obtain ⟨b32, o33, k34, n35, w36⟩ := gO_11_6 L k_a0
      refine ok_at o33 ?_
      have t37 := ti_tn x1v
      refine ok_gd (fun hc38 => ?_) ?_
      · rcases hc38 with hc38 | hc38
        · have c39 : x1v.toInt < (0 : Int) := o_lt hc38
          omega
        · omega
      obtain ⟨b40, o41, k42⟩ := gE_11_6 L k_a0 o33 (i := x1v.toNatClampNeg) (by omega)
      refine ok_at o41 ?_
      refine ok_gd (fun hc43 => ?_) ?_
      · rcases hc43 with hc43 | hc43
        · have c44 : x1v.toInt < (0 : Int) := o_lt hc43
          omega
        · omega
      have f48 := cb_2_4 I k42
      refine ok_bdv (fun d45 e46 => ?_)
      have i47 : CI ad h.1 δ0 d45 := by rw [e46]; exact CI.sW L I w30 (show 0 ≤ (q_I δ 2 4 b40).toInt by omega) (show (q_I δ 2 4 b40).toInt ≤ 1000 by omega)
      have u49 := kp_N kp_r (show q_I d45 = q_I δ by rw [e46]; rfl)
      have v50 : q_V d45 = q_V δ := ((show q_V d45 = q_V δ by rw [e46]; rfl)).trans rfl
      refine ok_biv (fun vx51 e52 => ?_)
      first | (have q53 := te_addc (c := 1) (n := 1) rfl x1v (by omega) (by omega); rw [← e52] at q53; obtain ⟨f54, f55, f56⟩ := q53) | (obtain ⟨q53, f54, f55, f56⟩ : ∃ q : Int, vx51.toInt = x1v.toInt + (1 : Int) + 4294967296 * q ∧ -2147483648 ≤ vx51.toInt ∧ vx51.toInt ≤ 2147483647 := by rw [e52]; exact ti_addc (c := 1) (n := 1) rfl x1v)
      have f57 := cb_11_12 i47 k_a0
      have f58 : (q_I d45 11 12 a0).toInt = (q_I δ 11 12 a0).toInt := congrArg Int32.toInt (by rw [e46]; rfl)
      refine ok_mono (ih vx51 d45 i47 (show 0 ≤ (vx51).toInt by first | assumption | omega) (show (vx51).toInt ≤ 4 by first | assumption | omega) (show (q_I d45 11 12 a0).toInt < 3 by first | assumption | omega) (show 4 - (vx51).toInt < _ by omega)) (fun r59 hr60 => ?_)
      obtain ⟨i61, ⟨u64, u65⟩, p62, p63⟩ := hr60
      have u66 := kp_t u49 u64
      have v67 : q_V r59.2 = q_V δ := (u65).trans v50
      have f68 := ti_b r59.1
      have f69 := cb_11_12 i61 k_a0
      have f70 := ti_b r59.1
      exact ⟨by assumption, ⟨kp_w (by decide) u66, v67⟩, by first | assumption | omega, by first | assumption | omega⟩
set_option maxHeartbeats 4000000 in
theorem k_X11_image {ad : List Nat} {h : hp} (L : Lay TLx ad h) {δ0 : dp} {N : Nat} (hN : 10000000 ≤ N) {a0 : Nat} (k_a0 : q_K h.1 a0 = 11) {δ : dp} (I : CI ad h.1 δ0 δ) : ok (D_X11_image N h.1 a0 δ) (fun r => CI ad h.1 δ0 r.2 ∧ (kp [(11, 12)] δ r.2 ∧ q_V r.2 = q_V δ) ∧ ((q_I δ 11 12 a0).toInt < 3 → (r.1).toInt = (q_I δ 11 12 a0).toInt + 1 ∧ (q_I r.2 11 12 a0).toInt = (q_I δ 11 12 a0).toInt + 1) ∧ (3 ≤ (q_I δ 11 12 a0).toInt → (r.1).toInt = -1 ∧ (q_I r.2 11 12 a0).toInt = (q_I δ 11 12 a0).toInt)) := by
  unfold D_X11_image
  have f1 := cb_11_12 I k_a0
  refine ok_ite (fun h2 => ?_) (fun h2 => ?_)
  · have c3 : (q_I δ 11 12 a0).toInt < (3 : Int) := o_lt h2
    refine ok_mono (kl_X11_image_12 L hN   k_a0 _ (0 : Int32) δ I (show 0 ≤ (0 : Int) by first | assumption | omega) (show (0 : Int) ≤ 4 by first | assumption | omega) (show (q_I δ 11 12 a0).toInt < 3 by first | assumption | omega) (show 4 - (0 : Int) < _ by omega)) (fun r4 hr5 => ?_)
    obtain ⟨i6, ⟨u9, u10⟩, p7, p8⟩ := hr5
    have u11 := kp_t kp_r u9
    have v12 : q_V r4.2 = q_V δ := (u10).trans rfl
    have f13 := ti_b r4.1
    have f14 := cb_11_12 i6 k_a0
    have f15 := ti_b r4.1
    exact ⟨by assumption, ⟨kp_w (by decide) u11, v12⟩, by first | assumption | omega, by first | assumption | omega⟩
  · have c16 : (3 : Int) ≤ (q_I δ 11 12 a0).toInt := o_nlt h2
    exact ok_some (show CI ad h.1 δ0 δ ∧ (kp [(11, 12)] δ δ ∧ q_V δ = q_V δ) ∧ ((q_I δ 11 12 a0).toInt < 3 → (-1 : Int) = (q_I δ 11 12 a0).toInt + 1 ∧ (q_I δ 11 12 a0).toInt = (q_I δ 11 12 a0).toInt + 1) ∧ (3 ≤ (q_I δ 11 12 a0).toInt → (-1 : Int) = -1 ∧ (q_I δ 11 12 a0).toInt = (q_I δ 11 12 a0).toInt) from ⟨I, ⟨kp_w (by decide) kp_r, rfl⟩, by first | assumption | omega, by first | assumption | omega⟩)
set_option maxHeartbeats 4000000 in
theorem k_X11_status {ad : List Nat} {h : hp} (L : Lay TLx ad h) {δ0 : dp} {N : Nat} (hN : 10000000 ≤ N) {a0 : Nat} {x1 : Int32} (k_a0 : q_K h.1 a0 = 11) {δ : dp} (I : CI ad h.1 δ0 δ) : ok (D_X11_status N h.1 a0 x1 δ) (fun r => r.2 = δ) := by
  unfold D_X11_status
  have f1 := ti_b x1
  refine ok_ite (fun h2 => ?_) (fun h2 => ?_)
  · have c3 : x1.toInt < (0 : Int) := o_lt h2
    unfold J_X11_status_9
    unfold J_X11_status_19
    exact ok_some (show δ = δ from rfl)
  · have c4 : (0 : Int) ≤ x1.toInt := o_nlt h2
    refine ok_ite (fun h5 => ?_) (fun h5 => ?_)
    · have c6 : x1.toInt < (3 : Int) := o_lt h5
      obtain ⟨b7, o8, k9, n10, w11⟩ := gO_11_13 L k_a0
      refine ok_at o8 ?_
      have t12 := ti_tn x1
      refine ok_gd (fun hc13 => ?_) ?_
      · rcases hc13 with hc13 | hc13
        · have c14 : x1.toInt < (0 : Int) := o_lt hc13
          omega
        · omega
      unfold J_X11_status_19
      exact ok_some (show δ = δ from rfl)
    · have c15 : (3 : Int) ≤ x1.toInt := o_nlt h5
      unfold J_X11_status_9
      unfold J_X11_status_19
      exact ok_some (show δ = δ from rfl)
set_option maxHeartbeats 4000000 in
theorem kl_X11_count_33 {ad : List Nat} {h : hp} (L : Lay TLx ad h) {δ0 : dp} {N : Nat} (hN : 10000000 ≤ N) {a0 : Nat} {x1 : Int32} (k_a0 : q_K h.1 a0 = 11) : ∀ (n : Nat) (x2v : Int32) (x3v : Int32) (δ : dp), CI ad h.1 δ0 δ → 0 ≤ (x3v).toInt → (x3v).toInt ≤ 4 → 4 - (x3v).toInt < (n : Int) → ok (L_X11_count_33 N h.1 a0 x1 n x2v x3v δ) (fun r => r.2 = δ) := by
  intro n
  induction n with
  | zero =>
    intro x2v x3v δ I j0 j1 hm
    have f1 := ti_b x3v
    exfalso; omega
  | succ n ih =>
    intro x2v x3v δ I j0 j1 hm
    unfold L_X11_count_33
    have f1 := ti_b x3v
    refine ok_ite (fun h2 => ?_) (fun h2 => ?_)
    · have c3 : (4 : Int) ≤ x3v.toInt := o_le h2
      exact ok_some (show δ = δ from rfl)
    · have c4 : x3v.toInt < (4 : Int) := o_nle h2
      obtain ⟨b5, o6, k7, n8, w9⟩ := gO_11_6 L k_a0
      refine ok_at o6 ?_
      have t10 := ti_tn x3v
      refine ok_gd (fun hc11 => ?_) ?_
      · rcases hc11 with hc11 | hc11
        · have c12 : x3v.toInt < (0 : Int) := o_lt hc11
          omega
        · omega
      obtain ⟨b13, o14, k15⟩ := gE_11_6 L k_a0 o6 (i := x3v.toNatClampNeg) (by omega)
      refine ok_at o14 ?_
      obtain ⟨b16, o17, k18⟩ := gO_2_0 L k15
      refine ok_at o17 ?_
      have f21 := ti_b x2v
      obtain ⟨b22, o23, k24, ⟨n25, n26⟩, w27⟩ := gO_3_0 L k18
      have f28 := cb_3_1 I k18 o23
      refine ok_biv (fun vx19 e20 => ?_)
      first | (have q29 := te_add x2v (q_I δ 3 1 b16) (by omega) (by omega); rw [← e20] at q29; obtain ⟨f30, f31, f32⟩ := q29) | (obtain ⟨q29, f30, f31, f32⟩ : ∃ q : Int, vx19.toInt = x2v.toInt + (q_I δ 3 1 b16).toInt + 4294967296 * q ∧ -2147483648 ≤ vx19.toInt ∧ vx19.toInt ≤ 2147483647 := by rw [e20]; exact ti_add x2v (q_I δ 3 1 b16))
      refine ok_biv (fun vx33 e34 => ?_)
      first | (have q35 := te_addc (c := 1) (n := 1) rfl x3v (by omega) (by omega); rw [← e34] at q35; obtain ⟨f36, f37, f38⟩ := q35) | (obtain ⟨q35, f36, f37, f38⟩ : ∃ q : Int, vx33.toInt = x3v.toInt + (1 : Int) + 4294967296 * q ∧ -2147483648 ≤ vx33.toInt ∧ vx33.toInt ≤ 2147483647 := by rw [e34]; exact ti_addc (c := 1) (n := 1) rfl x3v)
      refine ok_mono (ih vx19 vx33 δ I (show 0 ≤ (vx33).toInt by first | assumption | omega) (show (vx33).toInt ≤ 4 by first | assumption | omega) (show 4 - (vx33).toInt < _ by omega)) (fun r39 hr40 => ?_)
      have i41 := hr40
      have f42 := ti_b r39.1
      exact by assumption
set_option maxHeartbeats 4000000 in
theorem k_X11_count {ad : List Nat} {h : hp} (L : Lay TLx ad h) {δ0 : dp} {N : Nat} (hN : 10000000 ≤ N) {a0 : Nat} {x1 : Int32} (k_a0 : q_K h.1 a0 = 11) {δ : dp} (I : CI ad h.1 δ0 δ) : ok (D_X11_count N h.1 a0 x1 δ) (fun r => r.2 = δ) := by
  unfold D_X11_count
  have f1 := ti_b x1
  refine ok_ite (fun h2 => ?_) (fun h2 => ?_)
  · have c3 : x1.toInt = (0 : Int) := o_eq h2
    exact ok_some (show δ = δ from rfl)
  · have c4 : x1.toInt ≠ (0 : Int) := o_ne h2
    refine ok_ite (fun h5 => ?_) (fun h5 => ?_)
    · have c6 : x1.toInt = (1 : Int) := o_eq h5
      obtain ⟨b7, o8, k9⟩ := gO_11_0 L k_a0
      obtain rfl := gS_11_0 L k_a0 o8
      refine ok_at o8 ?_
      exact ok_some (show δ = δ from rfl)
    · have c10 : x1.toInt ≠ (1 : Int) := o_ne h5
      refine ok_ite (fun h11 => ?_) (fun h11 => ?_)
      · have c12 : x1.toInt = (2 : Int) := o_eq h11
        refine ok_mono (kl_X11_count_33 L hN   k_a0 _ (0 : Int32) (0 : Int32) δ I (show 0 ≤ (0 : Int) by first | assumption | omega) (show (0 : Int) ≤ 4 by first | assumption | omega) (show 4 - (0 : Int) < _ by omega)) (fun r13 hr14 => ?_)
        have i15 := hr14
        have f16 := ti_b r13.1
        exact by assumption
      · have c17 : x1.toInt ≠ (2 : Int) := o_ne h11
        exact ok_some (show δ = δ from rfl)
set_option maxHeartbeats 4000000 in
theorem kl_X11_restore_21 {ad : List Nat} {h : hp} (L : Lay TLx ad h) {δ0 : dp} {N : Nat} (hN : 10000000 ≤ N) {a0 : Nat} (k_a0 : q_K h.1 a0 = 11) : ∀ (n : Nat) (x1v : Int32) (δ : dp), CI ad h.1 δ0 δ → 0 ≤ (x1v).toInt → (x1v).toInt ≤ 4 → (q_I δ 11 12 a0).toInt < 3 → 4 - (x1v).toInt < (n : Int) → ok (L_X11_restore_21 N h.1 a0 n x1v δ) (fun r => CI ad h.1 δ0 r.2 ∧ (kp [(2, 4), (3, 1), (4, 16), (11, 12)] δ r.2 ∧ q_V r.2 = q_V δ) ∧ (r.1).toInt = (q_I δ 11 12 a0).toInt ∧ (q_I r.2 11 12 a0).toInt = (q_I δ 11 12 a0).toInt) := by
  intro n
  induction n with
  | zero =>
    intro x1v δ I j0 j1 j2 hm
    have f1 := ti_b x1v
    have f2 := cb_11_12 I k_a0
    exfalso; omega
  | succ n ih =>
    intro x1v δ I j0 j1 j2 hm
    unfold L_X11_restore_21
    have f1 := ti_b x1v
    have f2 := cb_11_12 I k_a0
    refine ok_ite (fun h3 => ?_) (fun h3 => ?_)
    · have c4 : (4 : Int) ≤ x1v.toInt := o_le h3
      obtain ⟨b5, o6, k7⟩ := gO_11_8 L k_a0
      refine ok_at o6 ?_
      refine ok_bind (k_X4_forget L hN (a0 := b5) k7 I) (fun r8 hr9 => ?_)
      obtain ⟨i10, ⟨u11, u12, u13⟩⟩ := hr9
      have u14 := kp_t kp_r u11
      have v15 : q_V r8 = q_V δ := (u12).trans rfl
      have f16 := cb_11_12 i10 k_a0
      have f17 : (q_I r8 11 12 a0).toInt = (q_I δ 11 12 a0).toInt := congrArg Int32.toInt (u11 11 12 a0 (by decide))
      exact ok_some (show CI ad h.1 δ0 r8 ∧ (kp [(2, 4), (3, 1), (4, 16), (11, 12)] δ r8 ∧ q_V r8 = q_V δ) ∧ ((q_I r8 11 12 a0)).toInt = (q_I δ 11 12 a0).toInt ∧ (q_I r8 11 12 a0).toInt = (q_I δ 11 12 a0).toInt from ⟨i10, ⟨kp_w (by decide) u14, v15⟩, by first | assumption | omega, by first | assumption | omega⟩)
    · have c18 : x1v.toInt < (4 : Int) := o_nle h3
      obtain ⟨b19, o20, k21, n22, w23⟩ := gO_11_6 L k_a0
      refine ok_at o20 ?_
      have t24 := ti_tn x1v
      refine ok_gd (fun hc25 => ?_) ?_
      · rcases hc25 with hc25 | hc25
        · have c26 : x1v.toInt < (0 : Int) := o_lt hc25
          omega
        · omega
      obtain ⟨b27, o28, k29⟩ := gE_11_6 L k_a0 o20 (i := x1v.toNatClampNeg) (by omega)
      refine ok_at o28 ?_
      obtain ⟨b30, o31, k32, n33, w34⟩ := gO_11_11 L k_a0
      refine ok_at o31 ?_
      have t35 := ti_tn (q_I δ 11 12 a0)
      refine ok_gd (fun hc36 => ?_) ?_
      · rcases hc36 with hc36 | hc36
        · have c37 : (q_I δ 11 12 a0).toInt < (0 : Int) := o_lt hc36
          omega
        · omega
      obtain ⟨b38, o39, k40, n41, w42⟩ := gW_11_11 L k_a0 o31 (i := (q_I δ 11 12 a0).toNatClampNeg) (by omega)
      refine ok_at o39 ?_
      refine ok_gd (fun hc44 => ?_) ?_
      · rcases hc44 with hc44 | hc44
        · have c45 : x1v.toInt < (0 : Int) := o_lt hc44
          omega
        · omega
      have f48 := CI.wR I w42 x1v.toNatClampNeg
      refine ok_bind (k_X2_goBack L hN (a0 := b27) (x1 := (q_R δ b38 x1v.toNatClampNeg)) k29 (show 0 ≤ ((q_R δ b38 x1v.toNatClampNeg)).toInt by first | assumption | omega) I) (fun r46 hr47 => ?_)
      obtain ⟨i49, ⟨u50, u51⟩⟩ := hr47
      have u52 := kp_t kp_r u50
      have v53 : q_V r46 = q_V δ := (u51).trans rfl
      refine ok_biv (fun vx54 e55 => ?_)
      first | (have q56 := te_addc (c := 1) (n := 1) rfl x1v (by omega) (by omega); rw [← e55] at q56; obtain ⟨f57, f58, f59⟩ := q56) | (obtain ⟨q56, f57, f58, f59⟩ : ∃ q : Int, vx54.toInt = x1v.toInt + (1 : Int) + 4294967296 * q ∧ -2147483648 ≤ vx54.toInt ∧ vx54.toInt ≤ 2147483647 := by rw [e55]; exact ti_addc (c := 1) (n := 1) rfl x1v)
      have f60 := cb_11_12 i49 k_a0
      have f61 : (q_I r46 11 12 a0).toInt = (q_I δ 11 12 a0).toInt := congrArg Int32.toInt (u50 11 12 a0 (by decide))
      refine ok_mono (ih vx54 r46 i49 (show 0 ≤ (vx54).toInt by first | assumption | omega) (show (vx54).toInt ≤ 4 by first | assumption | omega) (show (q_I r46 11 12 a0).toInt < 3 by first | assumption | omega) (show 4 - (vx54).toInt < _ by omega)) (fun r62 hr63 => ?_)
      obtain ⟨i64, ⟨u67, u68⟩, p65, p66⟩ := hr63
      have u69 := kp_t u52 u67
      have v70 : q_V r62.2 = q_V δ := (u68).trans v53
      have f71 := ti_b r62.1
      have f72 := cb_11_12 i64 k_a0
      have f73 := ti_b r62.1
      exact ⟨by assumption, ⟨kp_w (by decide) u69, v70⟩, by first | assumption | omega, by first | assumption | omega⟩
set_option maxHeartbeats 4000000 in
theorem k_X11_restore {ad : List Nat} {h : hp} (L : Lay TLx ad h) {δ0 : dp} {N : Nat} (hN : 10000000 ≤ N) {a0 : Nat} (k_a0 : q_K h.1 a0 = 11) {δ : dp} (I : CI ad h.1 δ0 δ) : ok (D_X11_restore N h.1 a0 δ) (fun r => CI ad h.1 δ0 r.2 ∧ (kp [(2, 4), (3, 1), (4, 16), (11, 12)] δ r.2 ∧ q_V r.2 = q_V δ) ∧ (0 < (q_I δ 11 12 a0).toInt → (r.1).toInt = (q_I δ 11 12 a0).toInt - 1 ∧ (q_I r.2 11 12 a0).toInt = (q_I δ 11 12 a0).toInt - 1) ∧ ((q_I δ 11 12 a0).toInt ≤ 0 → (r.1).toInt = -1 ∧ (q_I r.2 11 12 a0).toInt = (q_I δ 11 12 a0).toInt)) := by
  unfold D_X11_restore
  have f1 := cb_11_12 I k_a0
  refine ok_ite (fun h2 => ?_) (fun h2 => ?_)
  · have c3 : (0 : Int) < (q_I δ 11 12 a0).toInt := o_lt h2
    first | (have q8 := te_subc (c := 1) (n := 1) rfl (q_I δ 11 12 a0) (by omega) (by omega); obtain ⟨f9, f10, f11⟩ := q8) | (obtain ⟨q8, f9, f10, f11⟩ := ti_subc (c := 1) (n := 1) rfl (q_I δ 11 12 a0))
    refine ok_bdv (fun d4 e5 => ?_)
    have i6 : CI ad h.1 δ0 d4 := by rw [e5]; exact cs_11_12 L I k_a0 (show 0 ≤ ((q_I δ 11 12 a0) - (1 : Int32)).toInt by omega) (show ((q_I δ 11 12 a0) - (1 : Int32)).toInt ≤ 3 by omega)
    have u12 := kp_I kp_r e5
    have v13 : q_V d4 = q_V δ := ((show q_V d4 = q_V δ by rw [e5]; rfl)).trans rfl
    have f14 := cb_11_12 i6 k_a0
    have f15 : (q_I d4 11 12 a0).toInt = ((q_I δ 11 12 a0) - (1 : Int32)).toInt := congrArg Int32.toInt (show q_I d4 11 12 a0 = ((q_I δ 11 12 a0) - (1 : Int32)) by rw [e5]; exact rI_s)
    refine ok_mono (kl_X11_restore_21 L hN   k_a0 _ (0 : Int32) d4 i6 (show 0 ≤ (0 : Int) by first | assumption | omega) (show (0 : Int) ≤ 4 by first | assumption | omega) (show (q_I d4 11 12 a0).toInt < 3 by first | assumption | omega) (show 4 - (0 : Int) < _ by omega)) (fun r16 hr17 => ?_)
    obtain ⟨i18, ⟨u21, u22⟩, p19, p20⟩ := hr17
    have u23 := kp_t u12 u21
    have v24 : q_V r16.2 = q_V δ := (u22).trans v13
    have f25 := ti_b r16.1
    have f26 := cb_11_12 i18 k_a0
    have f27 := ti_b r16.1
    exact ⟨by assumption, ⟨kp_w (by decide) u23, v24⟩, by first | assumption | omega, by first | assumption | omega⟩
  · have c28 : (q_I δ 11 12 a0).toInt ≤ (0 : Int) := o_nlt h2
    exact ok_some (show CI ad h.1 δ0 δ ∧ (kp [(2, 4), (3, 1), (4, 16), (11, 12)] δ δ ∧ q_V δ = q_V δ) ∧ (0 < (q_I δ 11 12 a0).toInt → (-1 : Int) = (q_I δ 11 12 a0).toInt - 1 ∧ (q_I δ 11 12 a0).toInt = (q_I δ 11 12 a0).toInt - 1) ∧ ((q_I δ 11 12 a0).toInt ≤ 0 → (-1 : Int) = -1 ∧ (q_I δ 11 12 a0).toInt = (q_I δ 11 12 a0).toInt) from ⟨I, ⟨kp_w (by decide) kp_r, rfl⟩, by first | assumption | omega, by first | assumption | omega⟩)
set_option maxHeartbeats 4000000 in
theorem kl_X11_shape_77 {ad : List Nat} {h : hp} (L : Lay TLx ad h) {δ0 : dp} {N : Nat} (hN : 10000000 ≤ N) {a0 : Nat} {x1 : Int32} (k_a0 : q_K h.1 a0 = 11) : ∀ (n : Nat) (x2v : Int32) (δ : dp), CI ad h.1 δ0 δ → 0 ≤ (x2v).toInt → (x2v).toInt ≤ 4 → 4 - (x2v).toInt < (n : Int) → ok (L_X11_shape_77 N h.1 a0 x1 n x2v δ) (fun r => CI ad h.1 δ0 r.2 ∧ (kp [(0, 4), (0, 6), (2, 4), (3, 1), (4, 16), (5, 0), (5, 1), (5, 2), (6, 0), (6, 1), (6, 2), (7, 1), (7, 2), (7, 3), (7, 4), (7, 5), (7, 6), (11, 12)] δ r.2 ∧ q_V r.2 = q_V δ) ∧ match r.1 with | .inl v => (q_I r.2 7 1 (Ad ad 1)).toInt = (q_I δ 7 1 (Ad ad 1)).toInt | .inr n => ((False) ∧ True)) := by
  intro n
  induction n with
  | zero =>
    intro x2v δ I j0 j1 hm
    have f1 := ti_b x2v
    exfalso; omega
  | succ n ih =>
    intro x2v δ I j0 j1 hm
    unfold L_X11_shape_77
    have f1 := ti_b x2v
    refine ok_ite (fun h2 => ?_) (fun h2 => ?_)
    · have c3 : (4 : Int) ≤ x2v.toInt := o_le h2
      refine ok_bdv (fun d4 e5 => ?_)
      have i6 : CI ad h.1 δ0 d4 := by rw [e5]; exact cs_11_12 L I k_a0 (show 0 ≤ (0 : Int) by omega) (show (0 : Int) ≤ 3 by omega)
      have u7 := kp_I kp_r e5
      have v8 : q_V d4 = q_V δ := ((show q_V d4 = q_V δ by rw [e5]; rfl)).trans rfl
      obtain ⟨b9, o10, k11⟩ := gO_11_8 L k_a0
      refine ok_at o10 ?_
      refine ok_bind (k_X4_forget L hN (a0 := b9) k11 i6) (fun r12 hr13 => ?_)
      obtain ⟨i14, ⟨u15, u16, u17⟩⟩ := hr13
      have u18 := kp_t u7 u15
      have v19 : q_V r12 = q_V δ := (u16).trans v8
      obtain ⟨b20, o21, k22⟩ := gO_11_9 L k_a0
      refine ok_at o21 ?_
      refine ok_bind (k_X10_forget L hN (a0 := b20) k22 i14) (fun r23 hr24 => ?_)
      obtain ⟨i25, ⟨u26, u27⟩⟩ := hr24
      have u28 := kp_t u18 u26
      have v29 : q_V r23 = q_V δ := (u27).trans v19
      obtain ⟨b30, o31, k32⟩ := gO_11_10 L k_a0
      refine ok_at o31 ?_
      refine ok_bind (k_X0_forget L hN (a0 := b30) k32 i25) (fun r33 hr34 => ?_)
      obtain ⟨i35, ⟨u36, u37, u38⟩⟩ := hr34
      have u39 := kp_t u28 u36
      have v40 : q_V r33 = q_V δ := (u37).trans v29
      obtain ⟨b41, o42, k43⟩ := gO_11_1 L k_a0
      refine ok_at o42 ?_
      have f44 : (q_I r33 7 1 (Ad ad 1)).toInt = (q_I r23 7 1 (Ad ad 1)).toInt := congrArg Int32.toInt (u36 7 1 (Ad ad 1) (by decide))
      have f45 : (q_I r23 7 1 (Ad ad 1)).toInt = (q_I r12 7 1 (Ad ad 1)).toInt := congrArg Int32.toInt (u26 7 1 (Ad ad 1) (by decide))
      have f46 : (q_I r12 7 1 (Ad ad 1)).toInt = (q_I d4 7 1 (Ad ad 1)).toInt := congrArg Int32.toInt (u15 7 1 (Ad ad 1) (by decide))
      have f47 : (q_I d4 7 1 (Ad ad 1)).toInt = (q_I δ 7 1 (Ad ad 1)).toInt := congrArg Int32.toInt (by rw [e5]; exact rI_o (by decide))
      exact ok_some (show CI ad h.1 δ0 r33 ∧ (kp [(0, 4), (0, 6), (2, 4), (3, 1), (4, 16), (5, 0), (5, 1), (5, 2), (6, 0), (6, 1), (6, 2), (7, 1), (7, 2), (7, 3), (7, 4), (7, 5), (7, 6), (11, 12)] δ r33 ∧ q_V r33 = q_V δ) ∧ (q_I r33 7 1 (Ad ad 1)).toInt = (q_I δ 7 1 (Ad ad 1)).toInt from ⟨i35, ⟨kp_w (by decide) u39, v40⟩, by first | assumption | omega⟩)
    · have c48 : x2v.toInt < (4 : Int) := o_nle h2
      obtain ⟨b49, o50, k51, n52, w53⟩ := gO_11_6 L k_a0
      refine ok_at o50 ?_
      have t54 := ti_tn x2v
      refine ok_gd (fun hc55 => ?_) ?_
      · rcases hc55 with hc55 | hc55
        · have c56 : x2v.toInt < (0 : Int) := o_lt hc55
          omega
        · omega
      obtain ⟨b57, o58, k59⟩ := gE_11_6 L k_a0 o50 (i := x2v.toNatClampNeg) (by omega)
      refine ok_at o58 ?_
      refine ok_bind (k_X2_clear L hN (a0 := b57) k59 I) (fun r60 hr61 => ?_)
      obtain ⟨i62, ⟨u63, u64, u65⟩⟩ := hr61
      have u66 := kp_t kp_r u63
      have v67 : q_V r60 = q_V δ := (u64).trans rfl
      refine ok_biv (fun vx68 e69 => ?_)
      first | (have q70 := te_addc (c := 1) (n := 1) rfl x2v (by omega) (by omega); rw [← e69] at q70; obtain ⟨f71, f72, f73⟩ := q70) | (obtain ⟨q70, f71, f72, f73⟩ : ∃ q : Int, vx68.toInt = x2v.toInt + (1 : Int) + 4294967296 * q ∧ -2147483648 ≤ vx68.toInt ∧ vx68.toInt ≤ 2147483647 := by rw [e69]; exact ti_addc (c := 1) (n := 1) rfl x2v)
      refine ok_mono (ih vx68 r60 i62 (show 0 ≤ (vx68).toInt by first | assumption | omega) (show (vx68).toInt ≤ 4 by first | assumption | omega) (show 4 - (vx68).toInt < _ by omega)) (fun r74 hr75 => ?_)
      rcases r74 with ⟨r74v | r74n, r74d⟩
      · obtain ⟨i76, k77, m78⟩ := hr75
        have i79 : CI ad h.1 δ0 r74d := i76
        have k80 : kp [(0, 4), (0, 6), (2, 4), (3, 1), (4, 16), (5, 0), (5, 1), (5, 2), (6, 0), (6, 1), (6, 2), (7, 1), (7, 2), (7, 3), (7, 4), (7, 5), (7, 6), (11, 12)] r60 r74d ∧ q_V r74d = q_V r60 := k77
        obtain ⟨u82, u83⟩ := k80
        have u84 := kp_t u66 u82
        have v85 : q_V r74d = q_V δ := (u83).trans v67
        have m81 : (q_I r74d 7 1 (Ad ad 1)).toInt = (q_I r60 7 1 (Ad ad 1)).toInt := m78
        have p86 := m81
        have f87 : (q_I r60 7 1 (Ad ad 1)).toInt = (q_I δ 7 1 (Ad ad 1)).toInt := congrArg Int32.toInt (u63 7 1 (Ad ad 1) (by decide))
        exact (show CI ad h.1 δ0 r74d ∧ (kp [(0, 4), (0, 6), (2, 4), (3, 1), (4, 16), (5, 0), (5, 1), (5, 2), (6, 0), (6, 1), (6, 2), (7, 1), (7, 2), (7, 3), (7, 4), (7, 5), (7, 6), (11, 12)] δ r74d ∧ q_V r74d = q_V δ) ∧ (q_I r74d 7 1 (Ad ad 1)).toInt = (q_I δ 7 1 (Ad ad 1)).toInt from ⟨i79, ⟨kp_w (by decide) u84, v85⟩, by first | assumption | omega⟩)
      · obtain ⟨i88, k89, m90⟩ := hr75
        have i91 : CI ad h.1 δ0 r74d := i88
        have k92 : kp [(0, 4), (0, 6), (2, 4), (3, 1), (4, 16), (5, 0), (5, 1), (5, 2), (6, 0), (6, 1), (6, 2), (7, 1), (7, 2), (7, 3), (7, 4), (7, 5), (7, 6), (11, 12)] r60 r74d ∧ q_V r74d = q_V r60 := k89
        obtain ⟨u94, u95⟩ := k92
        have u96 := kp_t u66 u94
        have v97 : q_V r74d = q_V δ := (u95).trans v67
        have m93 : ((False) ∧ True) := m90
        exact m93.1.elim
set_option maxHeartbeats 4000000 in
theorem k_X11_shape {ad : List Nat} {h : hp} (L : Lay TLx ad h) {δ0 : dp} {N : Nat} (hN : 10000000 ≤ N) {a0 : Nat} {x1 : Int32} (k_a0 : q_K h.1 a0 = 11) {δ : dp} (I : CI ad h.1 δ0 δ) : ok (D_X11_shape N h.1 a0 x1 δ) (fun r => CI ad h.1 δ0 r.2 ∧ (kp [(0, 4), (0, 6), (2, 4), (3, 1), (4, 16), (5, 0), (5, 1), (5, 2), (6, 0), (6, 1), (6, 2), (7, 1), (7, 2), (7, 3), (7, 4), (7, 5), (7, 6), (11, 12)] δ r.2 ∧ q_V r.2 = q_V δ) ∧ match r.1 with | .inl v => (q_I r.2 7 1 (Ad ad 1)).toInt = 0 ∧ 0 ≤ (x1).toInt ∧ (x1).toInt ≤ (q_I δ 7 1 (Ad ad 1)).toInt | .inr n => ((n = 2) ∧ (∀ a, q_I r.2 7 1 a = q_I δ 7 1 a) ∧ (((x1).toInt < 0 ∨ (q_I δ 7 1 (Ad ad 1)).toInt < (x1).toInt)))) := by
  unfold D_X11_shape
  have f1 := ti_b x1
  refine ok_ite (fun h2 => ?_) (fun h2 => ?_)
  · have c3 : x1.toInt < (0 : Int) := o_lt h2
    unfold J_X11_shape_20
    unfold J_X11_shape_21
    refine ok_bxv (k_X11_need L hN (a0 := a0) (x1 := (0 : Int32)) k_a0 I) (fun n d hp => (show CI ad h.1 δ0 d ∧ (kp [(0, 4), (0, 6), (2, 4), (3, 1), (4, 16), (5, 0), (5, 1), (5, 2), (6, 0), (6, 1), (6, 2), (7, 1), (7, 2), (7, 3), (7, 4), (7, 5), (7, 6), (11, 12)] δ d ∧ q_V d = q_V δ) ∧ ((n = 2) ∧ (∀ a, q_I d 7 1 a = q_I δ 7 1 a) ∧ (((x1).toInt < 0 ∨ (q_I δ 7 1 (Ad ad 1)).toInt < (x1).toInt))) from ⟨hp.1, ⟨kp_w (by decide) (kp_t kp_r hp.2.1.1), (hp.2.1.2).trans rfl⟩, (by have hq : n = 2 := hp.2.2.1; omega), fun a => (hp.2.1.1 7 1 a (by decide)).trans (kp_r 7 1 a (by decide)), (by have ht0 : ((0 : Int) = 0) := hp.2.2.2.2; omega)⟩)) (fun d4 hp5 => ?_)
    obtain ⟨i6, ⟨u7, u8⟩, p9⟩ := hp5
    have u10 := kp_t kp_r u7
    have v11 : q_V d4 = q_V δ := (u8).trans rfl
    exact absurd rfl (show (0 : Int) ≠ 0 from p9)
  · have c12 : (0 : Int) ≤ x1.toInt := o_nlt h2
    obtain ⟨b13, o14, k15⟩ := gO_11_0 L k_a0
    obtain rfl := gS_11_0 L k_a0 o14
    refine ok_at o14 ?_
    have f16 := cb_7_1 I k15
    refine ok_ite (fun h17 => ?_) (fun h17 => ?_)
    · have c18 : (q_I δ 7 1 (Ad ad 1)).toInt < x1.toInt := o_lt h17
      unfold J_X11_shape_20
      unfold J_X11_shape_21
      refine ok_bxv (k_X11_need L hN (a0 := a0) (x1 := (0 : Int32)) k_a0 I) (fun n d hp => (show CI ad h.1 δ0 d ∧ (kp [(0, 4), (0, 6), (2, 4), (3, 1), (4, 16), (5, 0), (5, 1), (5, 2), (6, 0), (6, 1), (6, 2), (7, 1), (7, 2), (7, 3), (7, 4), (7, 5), (7, 6), (11, 12)] δ d ∧ q_V d = q_V δ) ∧ ((n = 2) ∧ (∀ a, q_I d 7 1 a = q_I δ 7 1 a) ∧ (((x1).toInt < 0 ∨ (q_I δ 7 1 (Ad ad 1)).toInt < (x1).toInt))) from ⟨hp.1, ⟨kp_w (by decide) (kp_t kp_r hp.2.1.1), (hp.2.1.2).trans rfl⟩, (by have hq : n = 2 := hp.2.2.1; omega), fun a => (hp.2.1.1 7 1 a (by decide)).trans (kp_r 7 1 a (by decide)), (by have ht0 : ((0 : Int) = 0) := hp.2.2.2.2; omega)⟩)) (fun d19 hp20 => ?_)
      obtain ⟨i21, ⟨u22, u23⟩, p24⟩ := hp20
      have u25 := kp_t kp_r u22
      have v26 : q_V d19 = q_V δ := (u23).trans rfl
      exact absurd rfl (show (0 : Int) ≠ 0 from p24)
    · have c27 : x1.toInt ≤ (q_I δ 7 1 (Ad ad 1)).toInt := o_nlt h17
      unfold J_X11_shape_21
      refine ok_bxv (k_X11_need L hN (a0 := a0) (x1 := (1 : Int32)) k_a0 I) (fun n d hp => (show CI ad h.1 δ0 d ∧ (kp [(0, 4), (0, 6), (2, 4), (3, 1), (4, 16), (5, 0), (5, 1), (5, 2), (6, 0), (6, 1), (6, 2), (7, 1), (7, 2), (7, 3), (7, 4), (7, 5), (7, 6), (11, 12)] δ d ∧ q_V d = q_V δ) ∧ ((n = 2) ∧ (∀ a, q_I d 7 1 a = q_I δ 7 1 a) ∧ (((x1).toInt < 0 ∨ (q_I δ 7 1 (Ad ad 1)).toInt < (x1).toInt))) from ⟨hp.1, ⟨kp_w (by decide) (kp_t kp_r hp.2.1.1), (hp.2.1.2).trans rfl⟩, (by have hq : n = 2 := hp.2.2.1; omega), fun a => (hp.2.1.1 7 1 a (by decide)).trans (kp_r 7 1 a (by decide)), (by have ht0 : ((1 : Int) = 0) := hp.2.2.2.2; omega)⟩)) (fun d28 hp29 => ?_)
      obtain ⟨i30, ⟨u31, u32⟩, p33⟩ := hp29
      have u34 := kp_t kp_r u31
      have v35 : q_V d28 = q_V δ := (u32).trans rfl
      replace p33 : (1 : Int) ≠ 0 := p33
      refine ok_at o14 ?_
      refine ok_bind (k_X7_open L hN (a0 := (Ad ad 1)) (x1 := x1) k15 (show 0 ≤ (x1).toInt by first | assumption | omega) (show (x1).toInt ≤ 500 by first | assumption | omega) i30) (fun r36 hr37 => ?_)
      obtain ⟨i38, ⟨u41, u42, u43⟩, p39, p40⟩ := hr37
      have u44 := kp_t u34 u41
      have v45 : q_V r36 = q_V δ := (u42).trans v35
      have f46 := ti_b (q_I r36 7 5 (Ad ad 1))
      have f47 := cb_7_1 i38 k15
      obtain ⟨b48, o49, k50⟩ := gO_11_2 L k_a0
      refine ok_at o49 ?_
      refine ok_at o14 ?_
      refine ok_bind (k_X6_read L hN (a0 := b48) (a1 := (Ad ad 1)) k50 k15 i38) (fun r51 hr52 => ?_)
      obtain ⟨i53, ⟨u55, u56⟩, p54⟩ := hr52
      have u57 := kp_t u44 u55
      have v58 : q_V r51 = q_V δ := (u56).trans v45
      have f59 := ti_b (q_I r51 7 5 (Ad ad 1))
      have f60 := ti_b (q_I r51 6 0 b48)
      have f61 := ti_b (q_I r51 6 2 b48)
      refine ok_at o14 ?_
      refine ok_bind (k_X7_isSound L hN (a0 := (Ad ad 1)) k15 i53) (fun r62 hr63 => ?_)
      obtain ⟨i64, p65, p66, p67⟩ := hr63
      try rw [i64]
      have f68 := bo_t p65
      have f69 := ti_b r62.1
      have f70 := ti_b r62.1
      refine ok_ite (fun h71 => ?_) (fun h71 => ?_)
      · have c72 : r62.1.toInt = (0 : Int) := o_eq h71
        refine ok_at o14 ?_
        have f73 := cb_7_1 i53 k15
        have f74 : (q_I r51 7 1 (Ad ad 1)).toInt = (q_I r36 7 1 (Ad ad 1)).toInt := congrArg Int32.toInt (u55 7 1 (Ad ad 1) (by decide))
        exact ok_some (show CI ad h.1 δ0 r51 ∧ (kp [(0, 4), (0, 6), (2, 4), (3, 1), (4, 16), (5, 0), (5, 1), (5, 2), (6, 0), (6, 1), (6, 2), (7, 1), (7, 2), (7, 3), (7, 4), (7, 5), (7, 6), (11, 12)] δ r51 ∧ q_V r51 = q_V δ) ∧ (q_I r51 7 1 (Ad ad 1)).toInt = 0 ∧ 0 ≤ (x1).toInt ∧ (x1).toInt ≤ (q_I δ 7 1 (Ad ad 1)).toInt from ⟨i53, ⟨kp_w (by decide) u57, v58⟩, by first | assumption | omega, by first | assumption | omega, by first | assumption | omega⟩)
      · have c75 : r62.1.toInt ≠ (0 : Int) := o_ne h71
        obtain ⟨b76, o77, k78⟩ := gO_11_1 L k_a0
        refine ok_at o77 ?_
        refine ok_at o49 ?_
        refine ok_bind (k_X5_take L hN (a0 := b76) (a1 := b48) k78 k50 (show 2 ≤ (q_I r51 6 0 b48).toInt by first | assumption | omega) (show (q_I r51 6 0 b48).toInt ≤ 16 by first | assumption | omega) (show 1 ≤ (q_I r51 6 2 b48).toInt by first | assumption | omega) (show (q_I r51 6 2 b48).toInt ≤ 5 by first | assumption | omega) i53) (fun r79 hr80 => ?_)
        obtain ⟨i81, ⟨u82, u83, u84⟩⟩ := hr80
        have u85 := kp_t u57 u82
        have v86 : q_V r79 = q_V δ := (u83).trans v58
        refine ok_mono (kl_X11_shape_77 L hN   k_a0 _ (0 : Int32) r79 i81 (show 0 ≤ (0 : Int) by first | assumption | omega) (show (0 : Int) ≤ 4 by first | assumption | omega) (show 4 - (0 : Int) < _ by omega)) (fun r87 hr88 => ?_)
        rcases r87 with ⟨r87v | r87n, r87d⟩
        · obtain ⟨i89, k90, m91⟩ := hr88
          have i92 : CI ad h.1 δ0 r87d := i89
          have k93 : kp [(0, 4), (0, 6), (2, 4), (3, 1), (4, 16), (5, 0), (5, 1), (5, 2), (6, 0), (6, 1), (6, 2), (7, 1), (7, 2), (7, 3), (7, 4), (7, 5), (7, 6), (11, 12)] r79 r87d ∧ q_V r87d = q_V r79 := k90
          obtain ⟨u95, u96⟩ := k93
          have u97 := kp_t u85 u95
          have v98 : q_V r87d = q_V δ := (u96).trans v86
          have m94 : (q_I r87d 7 1 (Ad ad 1)).toInt = (q_I r79 7 1 (Ad ad 1)).toInt := m91
          have p99 := m94
          have f100 := cb_7_1 i92 k15
          have f101 := cb_7_1 i81 k15
          have f102 : (q_I r79 7 1 (Ad ad 1)).toInt = (q_I r51 7 1 (Ad ad 1)).toInt := congrArg Int32.toInt (u82 7 1 (Ad ad 1) (by decide))
          have f103 := cb_7_1 i53 k15
          have f104 : (q_I r51 7 1 (Ad ad 1)).toInt = (q_I r36 7 1 (Ad ad 1)).toInt := congrArg Int32.toInt (u55 7 1 (Ad ad 1) (by decide))
          exact (show CI ad h.1 δ0 r87d ∧ (kp [(0, 4), (0, 6), (2, 4), (3, 1), (4, 16), (5, 0), (5, 1), (5, 2), (6, 0), (6, 1), (6, 2), (7, 1), (7, 2), (7, 3), (7, 4), (7, 5), (7, 6), (11, 12)] δ r87d ∧ q_V r87d = q_V δ) ∧ (q_I r87d 7 1 (Ad ad 1)).toInt = 0 ∧ 0 ≤ (x1).toInt ∧ (x1).toInt ≤ (q_I δ 7 1 (Ad ad 1)).toInt from ⟨i92, ⟨kp_w (by decide) u97, v98⟩, by first | assumption | omega, by first | assumption | omega, by first | assumption | omega⟩)
        · obtain ⟨i105, k106, m107⟩ := hr88
          have i108 : CI ad h.1 δ0 r87d := i105
          have k109 : kp [(0, 4), (0, 6), (2, 4), (3, 1), (4, 16), (5, 0), (5, 1), (5, 2), (6, 0), (6, 1), (6, 2), (7, 1), (7, 2), (7, 3), (7, 4), (7, 5), (7, 6), (11, 12)] r79 r87d ∧ q_V r87d = q_V r79 := k106
          obtain ⟨u111, u112⟩ := k109
          have u113 := kp_t u85 u111
          have v114 : q_V r87d = q_V δ := (u112).trans v86
          have m110 : ((False) ∧ True) := m107
          exact m110.1.elim
set_option maxHeartbeats 4000000 in
theorem k_X11_thief {ad : List Nat} {h : hp} (L : Lay TLx ad h) {δ0 : dp} {N : Nat} (hN : 10000000 ≤ N) {a0 : Nat} {x1 : Int32} (k_a0 : q_K h.1 a0 = 11) {δ : dp} (I : CI ad h.1 δ0 δ) : ok (D_X11_thief N h.1 a0 x1 δ) (fun r => CI ad h.1 δ0 r.2 ∧ (kp [(7, 1), (7, 2), (7, 3), (7, 4), (7, 5), (7, 6), (8, 2), (8, 3), (9, 2), (9, 3), (9, 4), (11, 5)] δ r.2) ∧ match r.1 with | .inl v => (q_I r.2 7 1 (Ad ad 1)).toInt = 0 ∧ 0 ≤ (x1).toInt ∧ (x1).toInt ≤ (q_I δ 7 1 (Ad ad 1)).toInt | .inr n => ((n = 2) ∧ (∀ a, q_I r.2 7 1 a = q_I δ 7 1 a) ∧ (((x1).toInt < 0 ∨ (q_I δ 7 1 (Ad ad 1)).toInt < (x1).toInt)))) := by
  unfold D_X11_thief
  have f1 := ti_b x1
  refine ok_ite (fun h2 => ?_) (fun h2 => ?_)
  · have c3 : x1.toInt < (0 : Int) := o_lt h2
    unfold J_X11_thief_20
    unfold J_X11_thief_21
    refine ok_bxv (k_X11_need L hN (a0 := a0) (x1 := (0 : Int32)) k_a0 I) (fun n d hp => (show CI ad h.1 δ0 d ∧ (kp [(7, 1), (7, 2), (7, 3), (7, 4), (7, 5), (7, 6), (8, 2), (8, 3), (9, 2), (9, 3), (9, 4), (11, 5)] δ d) ∧ ((n = 2) ∧ (∀ a, q_I d 7 1 a = q_I δ 7 1 a) ∧ (((x1).toInt < 0 ∨ (q_I δ 7 1 (Ad ad 1)).toInt < (x1).toInt))) from ⟨hp.1, kp_w (by decide) (kp_t kp_r hp.2.1.1), (by have hq : n = 2 := hp.2.2.1; omega), fun a => (hp.2.1.1 7 1 a (by decide)).trans (kp_r 7 1 a (by decide)), (by have ht0 : ((0 : Int) = 0) := hp.2.2.2.2; omega)⟩)) (fun d4 hp5 => ?_)
    obtain ⟨i6, ⟨u7, u8⟩, p9⟩ := hp5
    have u10 := kp_t kp_r u7
    exact absurd rfl (show (0 : Int) ≠ 0 from p9)
  · have c11 : (0 : Int) ≤ x1.toInt := o_nlt h2
    obtain ⟨b12, o13, k14⟩ := gO_11_0 L k_a0
    obtain rfl := gS_11_0 L k_a0 o13
    refine ok_at o13 ?_
    have f15 := cb_7_1 I k14
    refine ok_ite (fun h16 => ?_) (fun h16 => ?_)
    · have c17 : (q_I δ 7 1 (Ad ad 1)).toInt < x1.toInt := o_lt h16
      unfold J_X11_thief_20
      unfold J_X11_thief_21
      refine ok_bxv (k_X11_need L hN (a0 := a0) (x1 := (0 : Int32)) k_a0 I) (fun n d hp => (show CI ad h.1 δ0 d ∧ (kp [(7, 1), (7, 2), (7, 3), (7, 4), (7, 5), (7, 6), (8, 2), (8, 3), (9, 2), (9, 3), (9, 4), (11, 5)] δ d) ∧ ((n = 2) ∧ (∀ a, q_I d 7 1 a = q_I δ 7 1 a) ∧ (((x1).toInt < 0 ∨ (q_I δ 7 1 (Ad ad 1)).toInt < (x1).toInt))) from ⟨hp.1, kp_w (by decide) (kp_t kp_r hp.2.1.1), (by have hq : n = 2 := hp.2.2.1; omega), fun a => (hp.2.1.1 7 1 a (by decide)).trans (kp_r 7 1 a (by decide)), (by have ht0 : ((0 : Int) = 0) := hp.2.2.2.2; omega)⟩)) (fun d18 hp19 => ?_)
      obtain ⟨i20, ⟨u21, u22⟩, p23⟩ := hp19
      have u24 := kp_t kp_r u21
      exact absurd rfl (show (0 : Int) ≠ 0 from p23)
    · have c25 : x1.toInt ≤ (q_I δ 7 1 (Ad ad 1)).toInt := o_nlt h16
      unfold J_X11_thief_21
      refine ok_bxv (k_X11_need L hN (a0 := a0) (x1 := (1 : Int32)) k_a0 I) (fun n d hp => (show CI ad h.1 δ0 d ∧ (kp [(7, 1), (7, 2), (7, 3), (7, 4), (7, 5), (7, 6), (8, 2), (8, 3), (9, 2), (9, 3), (9, 4), (11, 5)] δ d) ∧ ((n = 2) ∧ (∀ a, q_I d 7 1 a = q_I δ 7 1 a) ∧ (((x1).toInt < 0 ∨ (q_I δ 7 1 (Ad ad 1)).toInt < (x1).toInt))) from ⟨hp.1, kp_w (by decide) (kp_t kp_r hp.2.1.1), (by have hq : n = 2 := hp.2.2.1; omega), fun a => (hp.2.1.1 7 1 a (by decide)).trans (kp_r 7 1 a (by decide)), (by have ht0 : ((1 : Int) = 0) := hp.2.2.2.2; omega)⟩)) (fun d26 hp27 => ?_)
      obtain ⟨i28, ⟨u29, u30⟩, p31⟩ := hp27
      have u32 := kp_t kp_r u29
      replace p31 : (1 : Int) ≠ 0 := p31
      refine ok_at o13 ?_
      refine ok_bind (k_X7_open L hN (a0 := (Ad ad 1)) (x1 := x1) k14 (show 0 ≤ (x1).toInt by first | assumption | omega) (show (x1).toInt ≤ 500 by first | assumption | omega) i28) (fun r33 hr34 => ?_)
      obtain ⟨i35, ⟨u38, u39, u40⟩, p36, p37⟩ := hr34
      have u41 := kp_t u32 u38
      have f42 := ti_b (q_I r33 7 5 (Ad ad 1))
      have f43 := cb_7_1 i35 k14
      obtain ⟨b44, o45, k46⟩ := gO_11_3 L k_a0
      refine ok_at o45 ?_
      refine ok_at o13 ?_
      obtain ⟨b47, o48, k49, n50, w51⟩ := gO_11_4 L k_a0
      refine ok_at o48 ?_
      have f52 := cb_11_5 i35 k_a0
      have f53 : (q_I r33 11 5 a0).toInt = (q_I d26 11 5 a0).toInt := congrArg Int32.toInt (u38 11 5 a0 (by decide))
      have f54 := cb_11_5 i28 k_a0
      have f55 : (q_I d26 11 5 a0).toInt = (q_I δ 11 5 a0).toInt := congrArg Int32.toInt (u29 11 5 a0 (by decide))
      have f56 := cb_11_5 I k_a0
      have t57 := ti_tn (q_I r33 11 5 a0)
      refine ok_gd (fun hc58 => ?_) ?_
      · rcases hc58 with hc58 | hc58
        · have c59 : (q_I r33 11 5 a0).toInt < (0 : Int) := o_lt hc58
          omega
        · omega
      obtain ⟨b60, o61, k62⟩ := gE_11_4 L k_a0 o48 (i := (q_I r33 11 5 a0).toNatClampNeg) (by omega)
      refine ok_at o61 ?_
      refine ok_bind (k_X9_read L hN (a0 := b44) (a1 := (Ad ad 1)) (a2 := b60) k46 k14 k62 i35) (fun r63 hr64 => ?_)
      obtain ⟨i65, u66⟩ := hr64
      have u67 := kp_t u41 u66
      refine ok_at o13 ?_
      refine ok_bind (k_X7_isSound L hN (a0 := (Ad ad 1)) k14 i65) (fun r68 hr69 => ?_)
      obtain ⟨i70, p71, p72, p73⟩ := hr69
      try rw [i70]
      have f74 := bo_t p71
      have f75 := ti_b r68.1
      have f76 := ti_b (q_I r63 7 5 (Ad ad 1))
      have f77 := ti_b r68.1
      refine ok_ite (fun h78 => ?_) (fun h78 => ?_)
      · have c79 : r68.1.toInt = (0 : Int) := o_eq h78
        refine ok_at o13 ?_
        have f80 := cb_7_1 i65 k14
        have f81 : (q_I r63 7 1 (Ad ad 1)).toInt = (q_I r33 7 1 (Ad ad 1)).toInt := congrArg Int32.toInt (u66 7 1 (Ad ad 1) (by decide))
        exact ok_some (show CI ad h.1 δ0 r63 ∧ (kp [(7, 1), (7, 2), (7, 3), (7, 4), (7, 5), (7, 6), (8, 2), (8, 3), (9, 2), (9, 3), (9, 4), (11, 5)] δ r63) ∧ (q_I r63 7 1 (Ad ad 1)).toInt = 0 ∧ 0 ≤ (x1).toInt ∧ (x1).toInt ≤ (q_I δ 7 1 (Ad ad 1)).toInt from ⟨i65, kp_w (by decide) u67, by first | assumption | omega, by first | assumption | omega, by first | assumption | omega⟩)
      · have c82 : r68.1.toInt ≠ (0 : Int) := o_ne h78
        have f83 := cb_11_5 i65 k_a0
        have f84 : (q_I r63 11 5 a0).toInt = (q_I r33 11 5 a0).toInt := congrArg Int32.toInt (u66 11 5 a0 (by decide))
        refine ok_ite (fun h85 => ?_) (fun h85 => ?_)
        · have c86 : (q_I r63 11 5 a0).toInt < (4 : Int) := o_lt h85
          first | (have q91 := te_addc (c := 1) (n := 1) rfl (q_I r63 11 5 a0) (by omega) (by omega); obtain ⟨f92, f93, f94⟩ := q91) | (obtain ⟨q91, f92, f93, f94⟩ := ti_addc (c := 1) (n := 1) rfl (q_I r63 11 5 a0))
          refine ok_bdv (fun d87 e88 => ?_)
          have i89 : CI ad h.1 δ0 d87 := by rw [e88]; exact cs_11_5 L i65 k_a0 (show 0 ≤ ((q_I r63 11 5 a0) + (1 : Int32)).toInt by omega) (show ((q_I r63 11 5 a0) + (1 : Int32)).toInt ≤ 4 by omega)
          have u95 := kp_I u67 e88
          have f96 := cb_7_1 i89 k14
          have f97 : (q_I d87 7 1 (Ad ad 1)).toInt = (q_I r63 7 1 (Ad ad 1)).toInt := congrArg Int32.toInt (by rw [e88]; exact rI_o (by decide))
          have f98 := cb_7_1 i65 k14
          have f99 : (q_I r63 7 1 (Ad ad 1)).toInt = (q_I r33 7 1 (Ad ad 1)).toInt := congrArg Int32.toInt (u66 7 1 (Ad ad 1) (by decide))
          exact ok_some (show CI ad h.1 δ0 d87 ∧ (kp [(7, 1), (7, 2), (7, 3), (7, 4), (7, 5), (7, 6), (8, 2), (8, 3), (9, 2), (9, 3), (9, 4), (11, 5)] δ d87) ∧ (q_I d87 7 1 (Ad ad 1)).toInt = 0 ∧ 0 ≤ (x1).toInt ∧ (x1).toInt ≤ (q_I δ 7 1 (Ad ad 1)).toInt from ⟨i89, kp_w (by decide) u95, by first | assumption | omega, by first | assumption | omega, by first | assumption | omega⟩)
        · have c100 : (4 : Int) ≤ (q_I r63 11 5 a0).toInt := o_nlt h85
          have f101 := cb_7_1 i65 k14
          have f102 : (q_I r63 7 1 (Ad ad 1)).toInt = (q_I r33 7 1 (Ad ad 1)).toInt := congrArg Int32.toInt (u66 7 1 (Ad ad 1) (by decide))
          exact ok_some (show CI ad h.1 δ0 r63 ∧ (kp [(7, 1), (7, 2), (7, 3), (7, 4), (7, 5), (7, 6), (8, 2), (8, 3), (9, 2), (9, 3), (9, 4), (11, 5)] δ r63) ∧ (q_I r63 7 1 (Ad ad 1)).toInt = 0 ∧ 0 ≤ (x1).toInt ∧ (x1).toInt ≤ (q_I δ 7 1 (Ad ad 1)).toInt from ⟨i65, kp_w (by decide) u67, by first | assumption | omega, by first | assumption | omega, by first | assumption | omega⟩)
set_option maxHeartbeats 4000000 in
theorem kl_X11_split_134 {ad : List Nat} {h : hp} (L : Lay TLx ad h) {δ0 : dp} {N : Nat} (hN : 10000000 ≤ N) {a0 : Nat} {x1 : Int32} {x2 : Int32} {x3 : Int32} (k_a0 : q_K h.1 a0 = 11) : ∀ (n : Nat) (a4v : Nat) (a5v : Nat) (x6v : Int32) (x7v : Int32) (x9v : Int32) (x10v : Int32) (δ : dp), CI ad h.1 δ0 δ → q_K h.1 a4v = 2 → q_K h.1 a5v = 2 → 0 ≤ (x10v).toInt → (x10v).toInt ≤ 2000 → (x7v).toInt ≤ 2000 → 2000 - (x10v).toInt < (n : Int) → ok (L_X11_split_134 N h.1 a0 x1 x2 x3 n a4v a5v x6v x7v x9v x10v δ) (fun r => CI ad h.1 δ0 r.2 ∧ (kp [(1, 3), (1, 4), (1, 5), (1, 6), (1, 7), (1, 8), (1, 9), (1, 10), (1, 11), (1, 12), (1, 13), (1, 14), (1, 15), (2, 4), (3, 1), (4, 16)] δ r.2 ∧ q_V r.2 = q_V δ) ∧ match r.1 with | .inl v => True | .inr n => ((False) ∧ True)) := by
  intro n
  induction n with
  | zero =>
    intro a4v a5v x6v x7v x9v x10v δ I j0 j1 j2 j3 j4 hm
    have f1 := ti_b x10v
    have f2 := ti_b x7v
    exfalso; omega
  | succ n ih =>
    intro a4v a5v x6v x7v x9v x10v δ I j0 j1 j2 j3 j4 hm
    unfold L_X11_split_134
    have f1 := ti_b x10v
    have f2 := ti_b x7v
    refine ok_ite (fun h3 => ?_) (fun h3 => ?_)
    · have c4 : x7v.toInt ≤ x10v.toInt := o_le h3
      exact ok_some (show CI ad h.1 δ0 δ ∧ (kp [(1, 3), (1, 4), (1, 5), (1, 6), (1, 7), (1, 8), (1, 9), (1, 10), (1, 11), (1, 12), (1, 13), (1, 14), (1, 15), (2, 4), (3, 1), (4, 16)] δ δ ∧ q_V δ = q_V δ) ∧ True from ⟨I, ⟨kp_w (by decide) kp_r, rfl⟩, trivial⟩)
    · have c5 : x10v.toInt < x7v.toInt := o_nle h3
      obtain ⟨b6, o7, k8⟩ := gO_2_0 L j0
      refine ok_at o7 ?_
      refine ok_bind (k_X3_at L hN (a0 := b6) (x1 := x6v) k8 I) (fun r9 hr10 => ?_)
      have i11 := hr10
      try rw [i11]
      have f12 := ti_b r9.1
      refine ok_bind (k_X2_make L hN (a0 := a4v) (x1 := (1 : Int32)) (x2 := r9.1) j0 I) (fun r13 hr14 => ?_)
      obtain ⟨i15, ⟨u16, u17⟩⟩ := hr14
      have u18 := kp_t kp_r u16
      have v19 : q_V r13.2 = q_V δ := (u17).trans rfl
      have f20 := ti_b r13.1
      refine ok_bind (k_X2_make L hN (a0 := a5v) (x1 := (0 : Int32)) (x2 := r9.1) j1 i15) (fun r21 hr22 => ?_)
      obtain ⟨i23, ⟨u24, u25⟩⟩ := hr22
      have u26 := kp_t u18 u24
      have v27 : q_V r21.2 = q_V δ := (u25).trans v19
      have f28 := ti_b r21.1
      have f31 := ti_b x9v
      first | (have q33 := te_add r13.1 r21.1 (by omega) (by omega); obtain ⟨f34, f35, f36⟩ := q33) | (obtain ⟨q33, f34, f35, f36⟩ := ti_add r13.1 r21.1)
      refine ok_biv (fun vx29 e30 => ?_)
      first | (have q37 := te_add x9v (r13.1 + r21.1) (by omega) (by omega); rw [← e30] at q37; obtain ⟨f38, f39, f40⟩ := q37) | (obtain ⟨q37, f38, f39, f40⟩ : ∃ q : Int, vx29.toInt = x9v.toInt + (r13.1 + r21.1).toInt + 4294967296 * q ∧ -2147483648 ≤ vx29.toInt ∧ vx29.toInt ≤ 2147483647 := by rw [e30]; exact ti_add x9v (r13.1 + r21.1))
      refine ok_biv (fun vx41 e42 => ?_)
      first | (have q43 := te_addc (c := 1) (n := 1) rfl x10v (by omega) (by omega); rw [← e42] at q43; obtain ⟨f44, f45, f46⟩ := q43) | (obtain ⟨q43, f44, f45, f46⟩ : ∃ q : Int, vx41.toInt = x10v.toInt + (1 : Int) + 4294967296 * q ∧ -2147483648 ≤ vx41.toInt ∧ vx41.toInt ≤ 2147483647 := by rw [e42]; exact ti_addc (c := 1) (n := 1) rfl x10v)
      refine ok_mono (ih a4v a5v x6v x7v vx29 vx41 r21.2 i23 j0 j1 (show 0 ≤ (vx41).toInt by first | assumption | omega) (show (vx41).toInt ≤ 2000 by first | assumption | omega) (show (x7v).toInt ≤ 2000 by first | assumption | omega) (show 2000 - (vx41).toInt < _ by omega)) (fun r47 hr48 => ?_)
      rcases r47 with ⟨r47v | r47n, r47d⟩
      · obtain ⟨i49, k50, m51⟩ := hr48
        have i52 : CI ad h.1 δ0 r47d := i49
        have k53 : kp [(1, 3), (1, 4), (1, 5), (1, 6), (1, 7), (1, 8), (1, 9), (1, 10), (1, 11), (1, 12), (1, 13), (1, 14), (1, 15), (2, 4), (3, 1), (4, 16)] r21.2 r47d ∧ q_V r47d = q_V r21.2 := k50
        obtain ⟨u55, u56⟩ := k53
        have u57 := kp_t u26 u55
        have v58 : q_V r47d = q_V δ := (u56).trans v27
        exact (show CI ad h.1 δ0 r47d ∧ (kp [(1, 3), (1, 4), (1, 5), (1, 6), (1, 7), (1, 8), (1, 9), (1, 10), (1, 11), (1, 12), (1, 13), (1, 14), (1, 15), (2, 4), (3, 1), (4, 16)] δ r47d ∧ q_V r47d = q_V δ) ∧ True from ⟨i52, ⟨kp_w (by decide) u57, v58⟩, trivial⟩)
      · obtain ⟨i59, k60, m61⟩ := hr48
        have i62 : CI ad h.1 δ0 r47d := i59
        have k63 : kp [(1, 3), (1, 4), (1, 5), (1, 6), (1, 7), (1, 8), (1, 9), (1, 10), (1, 11), (1, 12), (1, 13), (1, 14), (1, 15), (2, 4), (3, 1), (4, 16)] r21.2 r47d ∧ q_V r47d = q_V r21.2 := k60
        obtain ⟨u65, u66⟩ := k63
        have u67 := kp_t u26 u65
        have v68 : q_V r47d = q_V δ := (u66).trans v27
        have m64 : ((False) ∧ True) := m61
        exact m64.1.elim
set_option maxHeartbeats 4000000 in
theorem k_X11_split {ad : List Nat} {h : hp} (L : Lay TLx ad h) {δ0 : dp} {N : Nat} (hN : 10000000 ≤ N) {a0 : Nat} {x1 : Int32} {x2 : Int32} {x3 : Int32} (k_a0 : q_K h.1 a0 = 11) {δ : dp} (I : CI ad h.1 δ0 δ) : ok (D_X11_split N h.1 a0 x1 x2 x3 δ) (fun r => CI ad h.1 δ0 r.2 ∧ (kp [(1, 3), (1, 4), (1, 5), (1, 6), (1, 7), (1, 8), (1, 9), (1, 10), (1, 11), (1, 12), (1, 13), (1, 14), (1, 15), (2, 4), (3, 1), (4, 16)] δ r.2 ∧ q_V r.2 = q_V δ) ∧ match r.1 with | .inl v => True | .inr n => ((n = 0 ∨ n = 2) ∧ True)) := by
  unfold D_X11_split
  refine ok_bxv (k_X11_needHouse L hN (a0 := a0) (x1 := x1) k_a0 I) (fun n d hp => (show CI ad h.1 δ0 d ∧ (kp [(1, 3), (1, 4), (1, 5), (1, 6), (1, 7), (1, 8), (1, 9), (1, 10), (1, 11), (1, 12), (1, 13), (1, 14), (1, 15), (2, 4), (3, 1), (4, 16)] δ d ∧ q_V d = q_V δ) ∧ ((n = 0 ∨ n = 2) ∧ True) from ⟨hp.1, ⟨kp_w (by decide) (kp_t kp_r hp.2.1.1), (hp.2.1.2).trans rfl⟩, (by have hq : n = 0 := hp.2.2.1; omega), trivial⟩)) (fun d1 hp2 => ?_)
  obtain ⟨i3, ⟨u4, u5⟩, p6, p7⟩ := hp2
  have u8 := kp_t kp_r u4
  have v9 : q_V d1 = q_V δ := (u5).trans rfl
  have f10 := ti_b x1
  refine ok_bxv (k_X11_needHouse L hN (a0 := a0) (x1 := x2) k_a0 i3) (fun n d hp => (show CI ad h.1 δ0 d ∧ (kp [(1, 3), (1, 4), (1, 5), (1, 6), (1, 7), (1, 8), (1, 9), (1, 10), (1, 11), (1, 12), (1, 13), (1, 14), (1, 15), (2, 4), (3, 1), (4, 16)] δ d ∧ q_V d = q_V δ) ∧ ((n = 0 ∨ n = 2) ∧ True) from ⟨hp.1, ⟨kp_w (by decide) (kp_t u8 hp.2.1.1), (hp.2.1.2).trans v9⟩, (by have hq : n = 0 := hp.2.2.1; omega), trivial⟩)) (fun d11 hp12 => ?_)
  obtain ⟨i13, ⟨u14, u15⟩, p16, p17⟩ := hp12
  have u18 := kp_t u8 u14
  have v19 : q_V d11 = q_V δ := (u15).trans v9
  have f20 := ti_b x2
  refine ok_ite (fun h21 => ?_) (fun h21 => ?_)
  · have c22 : x1.toInt = x2.toInt := o_eq h21
    unfold J_X11_split_28
    unfold J_X11_split_29
    refine ok_bxv (k_X11_need L hN (a0 := a0) (x1 := (0 : Int32)) k_a0 i13) (fun n d hp => (show CI ad h.1 δ0 d ∧ (kp [(1, 3), (1, 4), (1, 5), (1, 6), (1, 7), (1, 8), (1, 9), (1, 10), (1, 11), (1, 12), (1, 13), (1, 14), (1, 15), (2, 4), (3, 1), (4, 16)] δ d ∧ q_V d = q_V δ) ∧ ((n = 0 ∨ n = 2) ∧ True) from ⟨hp.1, ⟨kp_w (by decide) (kp_t u18 hp.2.1.1), (hp.2.1.2).trans v19⟩, (by have hq : n = 2 := hp.2.2.1; omega), trivial⟩)) (fun d23 hp24 => ?_)
    obtain ⟨i25, ⟨u26, u27⟩, p28⟩ := hp24
    have u29 := kp_t u18 u26
    have v30 : q_V d23 = q_V δ := (u27).trans v19
    exact absurd rfl (show (0 : Int) ≠ 0 from p28)
  · have c31 : x1.toInt ≠ x2.toInt := o_ne h21
    refine ok_bind (k_X11_isNumber L hN (a0 := a0) (x1 := x3) k_a0 i13) (fun r32 hr33 => ?_)
    obtain ⟨i34, p35⟩ := hr33
    try rw [i34]
    have f36 := bo_t p35
    have f37 := ti_b r32.1
    refine ok_ite (fun h38 => ?_) (fun h38 => ?_)
    · have c39 : r32.1.toInt = (0 : Int) := o_eq h38
      unfold J_X11_split_28
      unfold J_X11_split_29
      refine ok_bxv (k_X11_need L hN (a0 := a0) (x1 := (0 : Int32)) k_a0 i13) (fun n d hp => (show CI ad h.1 δ0 d ∧ (kp [(1, 3), (1, 4), (1, 5), (1, 6), (1, 7), (1, 8), (1, 9), (1, 10), (1, 11), (1, 12), (1, 13), (1, 14), (1, 15), (2, 4), (3, 1), (4, 16)] δ d ∧ q_V d = q_V δ) ∧ ((n = 0 ∨ n = 2) ∧ True) from ⟨hp.1, ⟨kp_w (by decide) (kp_t u18 hp.2.1.1), (hp.2.1.2).trans v19⟩, (by have hq : n = 2 := hp.2.2.1; omega), trivial⟩)) (fun d40 hp41 => ?_)
      obtain ⟨i42, ⟨u43, u44⟩, p45⟩ := hp41
      have u46 := kp_t u18 u43
      have v47 : q_V d40 = q_V δ := (u44).trans v19
      exact absurd rfl (show (0 : Int) ≠ 0 from p45)
    · have c48 : r32.1.toInt ≠ (0 : Int) := o_ne h38
      unfold J_X11_split_29
      refine ok_bxv (k_X11_need L hN (a0 := a0) (x1 := (1 : Int32)) k_a0 i13) (fun n d hp => (show CI ad h.1 δ0 d ∧ (kp [(1, 3), (1, 4), (1, 5), (1, 6), (1, 7), (1, 8), (1, 9), (1, 10), (1, 11), (1, 12), (1, 13), (1, 14), (1, 15), (2, 4), (3, 1), (4, 16)] δ d ∧ q_V d = q_V δ) ∧ ((n = 0 ∨ n = 2) ∧ True) from ⟨hp.1, ⟨kp_w (by decide) (kp_t u18 hp.2.1.1), (hp.2.1.2).trans v19⟩, (by have hq : n = 2 := hp.2.2.1; omega), trivial⟩)) (fun d49 hp50 => ?_)
      obtain ⟨i51, ⟨u52, u53⟩, p54⟩ := hp50
      have u55 := kp_t u18 u52
      have v56 : q_V d49 = q_V δ := (u53).trans v19
      replace p54 : (1 : Int) ≠ 0 := p54
      obtain ⟨b57, o58, k59, n60, w61⟩ := gO_11_6 L k_a0
      refine ok_at o58 ?_
      have t62 := ti_tn x1
      refine ok_gd (fun hc63 => ?_) ?_
      · rcases hc63 with hc63 | hc63
        · have c64 : x1.toInt < (0 : Int) := o_lt hc63
          omega
        · omega
      obtain ⟨b65, o66, k67⟩ := gE_11_6 L k_a0 o58 (i := x1.toNatClampNeg) (by omega)
      refine ok_at o66 ?_
      refine ok_at o58 ?_
      have t68 := ti_tn x2
      refine ok_gd (fun hc69 => ?_) ?_
      · rcases hc69 with hc69 | hc69
        · have c70 : x2.toInt < (0 : Int) := o_lt hc69
          omega
        · omega
      obtain ⟨b71, o72, k73⟩ := gE_11_6 L k_a0 o58 (i := x2.toNatClampNeg) (by omega)
      refine ok_at o72 ?_
      obtain ⟨b74, o75, k76⟩ := gO_2_0 L k67
      refine ok_at o75 ?_
      refine ok_bind (k_X3_firstFrom L hN (a0 := b74) (x1 := x3) k76 i51) (fun r77 hr78 => ?_)
      obtain ⟨i79, p80, p81⟩ := hr78
      try rw [i79]
      have f82 := ti_b r77.1
      obtain ⟨b83, o84, k85, ⟨n86, n87⟩, w88⟩ := gO_3_0 L k76
      have f89 := cb_3_1 i51 k76 o84
      have f90 : (q_I d49 3 1 b74).toInt = (q_I d11 3 1 b74).toInt := congrArg Int32.toInt (u52 3 1 b74 (by decide))
      have f91 := cb_3_1 i13 k76 o84
      have f92 : (q_I d11 3 1 b74).toInt = (q_I d1 3 1 b74).toInt := congrArg Int32.toInt (u14 3 1 b74 (by decide))
      have f93 := cb_3_1 i3 k76 o84
      have f94 : (q_I d1 3 1 b74).toInt = (q_I δ 3 1 b74).toInt := congrArg Int32.toInt (u4 3 1 b74 (by decide))
      have f95 := cb_3_1 I k76 o84
      have f96 := ti_b r77.1
      refine ok_at o75 ?_
      refine ok_biv (fun vx97 e98 => ?_)
      first | (have q99 := te_sub (q_I d49 3 1 b74) r77.1 (by omega) (by omega); rw [← e98] at q99; obtain ⟨f100, f101, f102⟩ := q99) | (obtain ⟨q99, f100, f101, f102⟩ : ∃ q : Int, vx97.toInt = (q_I d49 3 1 b74).toInt - r77.1.toInt + 4294967296 * q ∧ -2147483648 ≤ vx97.toInt ∧ vx97.toInt ≤ 2147483647 := by rw [e98]; exact ti_sub (q_I d49 3 1 b74) r77.1)
      refine ok_at o75 ?_
      obtain ⟨b103, o104, k105⟩ := gO_2_0 L k73
      refine ok_at o104 ?_
      refine ok_bind (k_X3_commonFrom L hN (a0 := b74) (x1 := r77.1) (a2 := b103) k76 k105 (show 0 ≤ (r77.1).toInt by first | assumption | omega) (show (r77.1).toInt ≤ 2000 by first | assumption | omega) i51) (fun r106 hr107 => ?_)
      have i108 := hr107
      try rw [i108]
      have f109 := ti_b r106.1
      refine ok_bind (k_X2_refusal L hN (a0 := b71) (x1 := (vx97 - r106.1)) (x2 := (0 : Int32)) k73 i51) (fun r110 hr111 => ?_)
      have i112 := hr111
      try rw [i112]
      have f113 := ti_b r110.1
      refine ok_ite (fun h114 => ?_) (fun h114 => ?_)
      · have c115 : r110.1.toInt = (0 : Int) := o_eq h114
        refine ok_bind (k_X2_refusal L hN (a0 := b65) (x1 := (0 : Int32)) (x2 := vx97) k67 i51) (fun r116 hr117 => ?_)
        have i118 := hr117
        try rw [i118]
        have f119 := ti_b r116.1
        unfold J_X11_split_113
        refine ok_ite (fun h120 => ?_) (fun h120 => ?_)
        · have c121 : (0 : Int) ≤ r116.1.toInt := o_le h120
          obtain ⟨b122, o123, k124⟩ := gO_11_8 L k_a0
          refine ok_at o123 ?_
          refine ok_bind (k_X4_forget L hN (a0 := b122) k124 i51) (fun r125 hr126 => ?_)
          obtain ⟨i127, ⟨u128, u129, u130⟩⟩ := hr126
          have u131 := kp_t u55 u128
          have v132 : q_V r125 = q_V δ := (u129).trans v56
          refine ok_mono (kl_X11_split_134 L hN   k_a0 _ b65 b71 r77.1 vx97 (0 : Int32) (0 : Int32) r125 i127 k67 k73 (show 0 ≤ (0 : Int) by first | assumption | omega) (show (0 : Int) ≤ 2000 by first | assumption | omega) (show (vx97).toInt ≤ 2000 by first | assumption | omega) (show 2000 - (0 : Int) < _ by omega)) (fun r133 hr134 => ?_)
          rcases r133 with ⟨r133v | r133n, r133d⟩
          · obtain ⟨i135, k136, m137⟩ := hr134
            have i138 : CI ad h.1 δ0 r133d := i135
            have k139 : kp [(1, 3), (1, 4), (1, 5), (1, 6), (1, 7), (1, 8), (1, 9), (1, 10), (1, 11), (1, 12), (1, 13), (1, 14), (1, 15), (2, 4), (3, 1), (4, 16)] r125 r133d ∧ q_V r133d = q_V r125 := k136
            obtain ⟨u141, u142⟩ := k139
            have u143 := kp_t u131 u141
            have v144 : q_V r133d = q_V δ := (u142).trans v132
            exact (show CI ad h.1 δ0 r133d ∧ (kp [(1, 3), (1, 4), (1, 5), (1, 6), (1, 7), (1, 8), (1, 9), (1, 10), (1, 11), (1, 12), (1, 13), (1, 14), (1, 15), (2, 4), (3, 1), (4, 16)] δ r133d ∧ q_V r133d = q_V δ) ∧ True from ⟨i138, ⟨kp_w (by decide) u143, v144⟩, trivial⟩)
          · obtain ⟨i145, k146, m147⟩ := hr134
            have i148 : CI ad h.1 δ0 r133d := i145
            have k149 : kp [(1, 3), (1, 4), (1, 5), (1, 6), (1, 7), (1, 8), (1, 9), (1, 10), (1, 11), (1, 12), (1, 13), (1, 14), (1, 15), (2, 4), (3, 1), (4, 16)] r125 r133d ∧ q_V r133d = q_V r125 := k146
            obtain ⟨u151, u152⟩ := k149
            have u153 := kp_t u131 u151
            have v154 : q_V r133d = q_V δ := (u152).trans v132
            have m150 : ((False) ∧ True) := m147
            exact m150.1.elim
        · have c155 : r116.1.toInt < (0 : Int) := o_nle h120
          exact ok_some (show CI ad h.1 δ0 d49 ∧ (kp [(1, 3), (1, 4), (1, 5), (1, 6), (1, 7), (1, 8), (1, 9), (1, 10), (1, 11), (1, 12), (1, 13), (1, 14), (1, 15), (2, 4), (3, 1), (4, 16)] δ d49 ∧ q_V d49 = q_V δ) ∧ True from ⟨i51, ⟨kp_w (by decide) u55, v56⟩, trivial⟩)
      · have c156 : r110.1.toInt ≠ (0 : Int) := o_ne h114
        unfold J_X11_split_113
        refine ok_ite (fun h157 => ?_) (fun h157 => ?_)
        · have c158 : (0 : Int) ≤ r110.1.toInt := o_le h157
          obtain ⟨b159, o160, k161⟩ := gO_11_8 L k_a0
          refine ok_at o160 ?_
          refine ok_bind (k_X4_forget L hN (a0 := b159) k161 i51) (fun r162 hr163 => ?_)
          obtain ⟨i164, ⟨u165, u166, u167⟩⟩ := hr163
          have u168 := kp_t u55 u165
          have v169 : q_V r162 = q_V δ := (u166).trans v56
          refine ok_mono (kl_X11_split_134 L hN   k_a0 _ b65 b71 r77.1 vx97 (0 : Int32) (0 : Int32) r162 i164 k67 k73 (show 0 ≤ (0 : Int) by first | assumption | omega) (show (0 : Int) ≤ 2000 by first | assumption | omega) (show (vx97).toInt ≤ 2000 by first | assumption | omega) (show 2000 - (0 : Int) < _ by omega)) (fun r170 hr171 => ?_)
          rcases r170 with ⟨r170v | r170n, r170d⟩
          · obtain ⟨i172, k173, m174⟩ := hr171
            have i175 : CI ad h.1 δ0 r170d := i172
            have k176 : kp [(1, 3), (1, 4), (1, 5), (1, 6), (1, 7), (1, 8), (1, 9), (1, 10), (1, 11), (1, 12), (1, 13), (1, 14), (1, 15), (2, 4), (3, 1), (4, 16)] r162 r170d ∧ q_V r170d = q_V r162 := k173
            obtain ⟨u178, u179⟩ := k176
            have u180 := kp_t u168 u178
            have v181 : q_V r170d = q_V δ := (u179).trans v169
            exact (show CI ad h.1 δ0 r170d ∧ (kp [(1, 3), (1, 4), (1, 5), (1, 6), (1, 7), (1, 8), (1, 9), (1, 10), (1, 11), (1, 12), (1, 13), (1, 14), (1, 15), (2, 4), (3, 1), (4, 16)] δ r170d ∧ q_V r170d = q_V δ) ∧ True from ⟨i175, ⟨kp_w (by decide) u180, v181⟩, trivial⟩)
          · obtain ⟨i182, k183, m184⟩ := hr171
            have i185 : CI ad h.1 δ0 r170d := i182
            have k186 : kp [(1, 3), (1, 4), (1, 5), (1, 6), (1, 7), (1, 8), (1, 9), (1, 10), (1, 11), (1, 12), (1, 13), (1, 14), (1, 15), (2, 4), (3, 1), (4, 16)] r162 r170d ∧ q_V r170d = q_V r162 := k183
            obtain ⟨u188, u189⟩ := k186
            have u190 := kp_t u168 u188
            have v191 : q_V r170d = q_V δ := (u189).trans v169
            have m187 : ((False) ∧ True) := m184
            exact m187.1.elim
        · have c192 : r110.1.toInt < (0 : Int) := o_nle h157
          exact ok_some (show CI ad h.1 δ0 d49 ∧ (kp [(1, 3), (1, 4), (1, 5), (1, 6), (1, 7), (1, 8), (1, 9), (1, 10), (1, 11), (1, 12), (1, 13), (1, 14), (1, 15), (2, 4), (3, 1), (4, 16)] δ d49 ∧ q_V d49 = q_V δ) ∧ True from ⟨i51, ⟨kp_w (by decide) u55, v56⟩, trivial⟩)
set_option maxHeartbeats 4000000 in
theorem kl_X11_reached_21 {ad : List Nat} {h : hp} (L : Lay TLx ad h) {δ0 : dp} {N : Nat} (hN : 10000000 ≤ N) {a0 : Nat} {x1 : Int32} (k_a0 : q_K h.1 a0 = 11) : ∀ (n : Nat) (x2v : Int32) (x3v : Int32) (δ : dp), CI ad h.1 δ0 δ → 0 ≤ (x1).toInt → (x1).toInt < 5 → 0 ≤ (x3v).toInt → (x3v).toInt ≤ 17 → 17 - (x3v).toInt < (n : Int) → ok (L_X11_reached_21 N h.1 a0 x1 n x2v x3v δ) (fun r => CI ad h.1 δ0 r.2 ∧ (kp [(1, 3), (1, 4), (1, 5), (1, 6), (1, 7), (1, 8), (1, 9), (1, 10), (1, 11), (1, 12), (1, 13), (1, 14), (1, 15), (3, 1)] δ r.2 ∧ q_V r.2 = q_V δ) ∧ match r.1 with | .inl v => True | .inr n => ((False) ∧ True)) := by
  intro n
  induction n with
  | zero =>
    intro x2v x3v δ I j0 j1 j2 j3 hm
    have f1 := ti_b x1
    have f2 := ti_b x3v
    exfalso; omega
  | succ n ih =>
    intro x2v x3v δ I j0 j1 j2 j3 hm
    unfold L_X11_reached_21
    have f1 := ti_b x1
    have f2 := ti_b x3v
    obtain ⟨b3, o4, k5⟩ := gO_11_1 L k_a0
    refine ok_at o4 ?_
    refine ok_bind (k_X5_mostInSets L hN (a0 := b3) k5 I) (fun r6 hr7 => ?_)
    obtain ⟨i8, p9⟩ := hr7
    try rw [i8]
    have f10 := ti_b r6.1
    have f11 := cb_5_0 I k5
    have f12 := ti_b r6.1
    refine ok_ite (fun h13 => ?_) (fun h13 => ?_)
    · have c14 : r6.1.toInt < x3v.toInt := o_lt h13
      exact ok_some (show CI ad h.1 δ0 δ ∧ (kp [(1, 3), (1, 4), (1, 5), (1, 6), (1, 7), (1, 8), (1, 9), (1, 10), (1, 11), (1, 12), (1, 13), (1, 14), (1, 15), (3, 1)] δ δ ∧ q_V δ = q_V δ) ∧ True from ⟨I, ⟨kp_w (by decide) kp_r, rfl⟩, trivial⟩)
    · have c15 : x3v.toInt ≤ r6.1.toInt := o_nlt h13
      obtain ⟨b16, o17, k18⟩ := gO_11_9 L k_a0
      refine ok_at o17 ?_
      refine ok_bind (k_X10_learn L hN (a0 := b16) (x1 := x1) (x2 := x3v) k18 (show 0 ≤ (x1).toInt by first | assumption | omega) (show (x1).toInt < 5 by first | assumption | omega) (show 0 ≤ (x3v).toInt by first | assumption | omega) (show (x3v).toInt ≤ 16 by first | assumption | omega) I) (fun r19 hr20 => ?_)
      obtain ⟨i21, ⟨u22, u23⟩⟩ := hr20
      have u24 := kp_t kp_r u22
      have v25 : q_V r19 = q_V δ := (u23).trans rfl
      refine ok_at o17 ?_
      obtain ⟨b26, o27, k28, n29, w30⟩ := gO_10_4 L k18
      refine ok_at o27 ?_
      have t31 := ti_tn x1
      refine ok_gd (fun hc32 => ?_) ?_
      · rcases hc32 with hc32 | hc32
        · have c33 : x1.toInt < (0 : Int) := o_lt hc32
          omega
        · omega
      obtain ⟨b34, o35, k36, n37, w38⟩ := gE_10_4 L k18 o27 (i := x1.toNatClampNeg) (by omega)
      refine ok_at o35 ?_
      have t39 := ti_tn x3v
      refine ok_gd (fun hc40 => ?_) ?_
      · rcases hc40 with hc40 | hc40
        · have c41 : x3v.toInt < (0 : Int) := o_lt hc40
          omega
        · omega
      have f42 := ti_b (q_R r19 b34 x3v.toNatClampNeg)
      have f43 := ti_b x2v
      refine ok_ite (fun h44 => ?_) (fun h44 => ?_)
      · have c45 : (q_R r19 b34 x3v.toNatClampNeg).toInt = x2v.toInt := o_eq h44
        exact ok_some (show CI ad h.1 δ0 r19 ∧ (kp [(1, 3), (1, 4), (1, 5), (1, 6), (1, 7), (1, 8), (1, 9), (1, 10), (1, 11), (1, 12), (1, 13), (1, 14), (1, 15), (3, 1)] δ r19 ∧ q_V r19 = q_V δ) ∧ True from ⟨i21, ⟨kp_w (by decide) u24, v25⟩, trivial⟩)
      · have c46 : (q_R r19 b34 x3v.toNatClampNeg).toInt ≠ x2v.toInt := o_ne h44
        refine ok_biv (fun vx47 e48 => ?_)
        first | (have q49 := te_addc (c := 1) (n := 1) rfl x3v (by omega) (by omega); rw [← e48] at q49; obtain ⟨f50, f51, f52⟩ := q49) | (obtain ⟨q49, f50, f51, f52⟩ : ∃ q : Int, vx47.toInt = x3v.toInt + (1 : Int) + 4294967296 * q ∧ -2147483648 ≤ vx47.toInt ∧ vx47.toInt ≤ 2147483647 := by rw [e48]; exact ti_addc (c := 1) (n := 1) rfl x3v)
        refine ok_mono (ih x2v vx47 r19 i21 (show 0 ≤ (x1).toInt by first | assumption | omega) (show (x1).toInt < 5 by first | assumption | omega) (show 0 ≤ (vx47).toInt by first | assumption | omega) (show (vx47).toInt ≤ 17 by first | assumption | omega) (show 17 - (vx47).toInt < _ by omega)) (fun r53 hr54 => ?_)
        rcases r53 with ⟨r53v | r53n, r53d⟩
        · obtain ⟨i55, k56, m57⟩ := hr54
          have i58 : CI ad h.1 δ0 r53d := i55
          have k59 : kp [(1, 3), (1, 4), (1, 5), (1, 6), (1, 7), (1, 8), (1, 9), (1, 10), (1, 11), (1, 12), (1, 13), (1, 14), (1, 15), (3, 1)] r19 r53d ∧ q_V r53d = q_V r19 := k56
          obtain ⟨u61, u62⟩ := k59
          have u63 := kp_t u24 u61
          have v64 : q_V r53d = q_V δ := (u62).trans v25
          exact (show CI ad h.1 δ0 r53d ∧ (kp [(1, 3), (1, 4), (1, 5), (1, 6), (1, 7), (1, 8), (1, 9), (1, 10), (1, 11), (1, 12), (1, 13), (1, 14), (1, 15), (3, 1)] δ r53d ∧ q_V r53d = q_V δ) ∧ True from ⟨i58, ⟨kp_w (by decide) u63, v64⟩, trivial⟩)
        · obtain ⟨i65, k66, m67⟩ := hr54
          have i68 : CI ad h.1 δ0 r53d := i65
          have k69 : kp [(1, 3), (1, 4), (1, 5), (1, 6), (1, 7), (1, 8), (1, 9), (1, 10), (1, 11), (1, 12), (1, 13), (1, 14), (1, 15), (3, 1)] r19 r53d ∧ q_V r53d = q_V r19 := k66
          obtain ⟨u71, u72⟩ := k69
          have u73 := kp_t u24 u71
          have v74 : q_V r53d = q_V δ := (u72).trans v25
          have m70 : ((False) ∧ True) := m67
          exact m70.1.elim
set_option maxHeartbeats 4000000 in
theorem k_X11_reached {ad : List Nat} {h : hp} (L : Lay TLx ad h) {δ0 : dp} {N : Nat} (hN : 10000000 ≤ N) {a0 : Nat} {x1 : Int32} (k_a0 : q_K h.1 a0 = 11) {δ : dp} (I : CI ad h.1 δ0 δ) : ok (D_X11_reached N h.1 a0 x1 δ) (fun r => CI ad h.1 δ0 r.2 ∧ (kp [(1, 3), (1, 4), (1, 5), (1, 6), (1, 7), (1, 8), (1, 9), (1, 10), (1, 11), (1, 12), (1, 13), (1, 14), (1, 15), (3, 1)] δ r.2 ∧ q_V r.2 = q_V δ) ∧ match r.1 with | .inl v => True | .inr n => ((n = 2) ∧ True)) := by
  unfold D_X11_reached
  refine ok_bind (k_X11_mayGoThroughAll L hN (a0 := a0) (x1 := x1) (x2 := (0 : Int32)) k_a0 I) (fun r1 hr2 => ?_)
  obtain ⟨i3, p4, p5⟩ := hr2
  try rw [i3]
  have f6 := bo_t p4
  have f7 := ti_b r1.1
  have f8 := ti_b x1
  replace p5 : ((r1.1).toInt = 1 → 0 ≤ (x1).toInt ∧ (x1).toInt < 5 ∧ 0 ≤ (0 : Int) ∧ (0 : Int) ≤ 16) := p5
  have f9 := ti_b r1.1
  refine ok_bxv (k_X11_need L hN (a0 := a0) (x1 := r1.1) k_a0 I) (fun n d hp => (show CI ad h.1 δ0 d ∧ (kp [(1, 3), (1, 4), (1, 5), (1, 6), (1, 7), (1, 8), (1, 9), (1, 10), (1, 11), (1, 12), (1, 13), (1, 14), (1, 15), (3, 1)] δ d ∧ q_V d = q_V δ) ∧ ((n = 2) ∧ True) from ⟨hp.1, ⟨kp_w (by decide) (kp_t kp_r hp.2.1.1), (hp.2.1.2).trans rfl⟩, (by have hq : n = 2 := hp.2.2.1; omega), trivial⟩)) (fun d10 hp11 => ?_)
  obtain ⟨i12, ⟨u13, u14⟩, p15⟩ := hp11
  have u16 := kp_t kp_r u13
  have v17 : q_V d10 = q_V δ := (u14).trans rfl
  obtain ⟨b18, o19, k20⟩ := gO_11_1 L k_a0
  refine ok_at o19 ?_
  refine ok_bind (k_X5_boundOf L hN (a0 := b18) (x1 := x1) k20 i12) (fun r21 hr22 => ?_)
  have i23 := hr22
  try rw [i23]
  have f24 := ti_b r21.1
  refine ok_mono (kl_X11_reached_21 L hN   k_a0 _ r21.1 (0 : Int32) d10 i12 (show 0 ≤ (x1).toInt by first | assumption | omega) (show (x1).toInt < 5 by first | assumption | omega) (show 0 ≤ (0 : Int) by first | assumption | omega) (show (0 : Int) ≤ 17 by first | assumption | omega) (show 17 - (0 : Int) < _ by omega)) (fun r25 hr26 => ?_)
  rcases r25 with ⟨r25v | r25n, r25d⟩
  · obtain ⟨i27, k28, m29⟩ := hr26
    have i30 : CI ad h.1 δ0 r25d := i27
    have k31 : kp [(1, 3), (1, 4), (1, 5), (1, 6), (1, 7), (1, 8), (1, 9), (1, 10), (1, 11), (1, 12), (1, 13), (1, 14), (1, 15), (3, 1)] d10 r25d ∧ q_V r25d = q_V d10 := k28
    obtain ⟨u33, u34⟩ := k31
    have u35 := kp_t u16 u33
    have v36 : q_V r25d = q_V δ := (u34).trans v17
    exact (show CI ad h.1 δ0 r25d ∧ (kp [(1, 3), (1, 4), (1, 5), (1, 6), (1, 7), (1, 8), (1, 9), (1, 10), (1, 11), (1, 12), (1, 13), (1, 14), (1, 15), (3, 1)] δ r25d ∧ q_V r25d = q_V δ) ∧ True from ⟨i30, ⟨kp_w (by decide) u35, v36⟩, trivial⟩)
  · obtain ⟨i37, k38, m39⟩ := hr26
    have i40 : CI ad h.1 δ0 r25d := i37
    have k41 : kp [(1, 3), (1, 4), (1, 5), (1, 6), (1, 7), (1, 8), (1, 9), (1, 10), (1, 11), (1, 12), (1, 13), (1, 14), (1, 15), (3, 1)] d10 r25d ∧ q_V r25d = q_V d10 := k38
    obtain ⟨u43, u44⟩ := k41
    have u45 := kp_t u16 u43
    have v46 : q_V r25d = q_V δ := (u44).trans v17
    have m42 : ((False) ∧ True) := m39
    exact m42.1.elim
set_option maxHeartbeats 4000000 in
theorem kl_X11_seeds_72 {ad : List Nat} {h : hp} (L : Lay TLx ad h) {δ0 : dp} {N : Nat} (hN : 10000000 ≤ N) {a0 : Nat} {x1 : Int32} {x2 : Int32} {x3 : Int32} {x4 : Int32} {x5 : Int32} (k_a0 : q_K h.1 a0 = 11) : ∀ (n : Nat) (x6v : Int32) (x7v : Int32) (x8v : Int32) (x9v : Int32) (δ : dp), CI ad h.1 δ0 δ → 0 ≤ (x1).toInt → (x1).toInt < 4 → 0 ≤ (x2).toInt → (x2).toInt < 4 → 0 ≤ (x9v).toInt → (x9v).toInt ≤ 20 → (x8v).toInt ≤ 20 → 20 - (x9v).toInt < (n : Int) → ok (L_X11_seeds_72 N h.1 a0 x1 x2 x3 x4 x5 n x6v x7v x8v x9v δ) (fun r => CI ad h.1 δ0 r.2 ∧ (kp [(1, 3), (1, 4), (1, 5), (1, 6), (1, 7), (1, 8), (1, 9), (1, 10), (1, 11), (1, 12), (1, 13), (1, 14), (1, 15), (3, 1), (4, 5), (4, 6), (4, 7), (4, 8), (4, 9), (4, 10), (4, 11), (4, 12), (4, 13), (4, 14), (4, 15), (4, 16), (4, 19)] δ r.2) ∧ match r.1 with | .inl v => True | .inr n => ((False) ∧ True)) := by
  intro n
  induction n with
  | zero =>
    intro x6v x7v x8v x9v δ I j0 j1 j2 j3 j4 j5 j6 hm
    have f1 := ti_b x1
    have f2 := ti_b x2
    have f3 := ti_b x9v
    have f4 := ti_b x8v
    exfalso; omega
  | succ n ih =>
    intro x6v x7v x8v x9v δ I j0 j1 j2 j3 j4 j5 j6 hm
    unfold L_X11_seeds_72
    have f1 := ti_b x1
    have f2 := ti_b x2
    have f3 := ti_b x9v
    have f4 := ti_b x8v
    refine ok_ite (fun h5 => ?_) (fun h5 => ?_)
    · have c6 : x8v.toInt ≤ x9v.toInt := o_le h5
      have f7 := ti_b x5
      refine ok_ite (fun h8 => ?_) (fun h8 => ?_)
      · have c9 : x5.toInt = (0 : Int) := o_eq h8
        unfold J_X11_seeds_148
        exact ok_some (show CI ad h.1 δ0 δ ∧ (kp [(1, 3), (1, 4), (1, 5), (1, 6), (1, 7), (1, 8), (1, 9), (1, 10), (1, 11), (1, 12), (1, 13), (1, 14), (1, 15), (3, 1), (4, 5), (4, 6), (4, 7), (4, 8), (4, 9), (4, 10), (4, 11), (4, 12), (4, 13), (4, 14), (4, 15), (4, 16), (4, 19)] δ δ) ∧ True from ⟨I, kp_w (by decide) kp_r, trivial⟩)
      · have c10 : x5.toInt ≠ (0 : Int) := o_ne h8
        unfold J_X11_seeds_148
        exact ok_some (show CI ad h.1 δ0 δ ∧ (kp [(1, 3), (1, 4), (1, 5), (1, 6), (1, 7), (1, 8), (1, 9), (1, 10), (1, 11), (1, 12), (1, 13), (1, 14), (1, 15), (3, 1), (4, 5), (4, 6), (4, 7), (4, 8), (4, 9), (4, 10), (4, 11), (4, 12), (4, 13), (4, 14), (4, 15), (4, 16), (4, 19)] δ δ) ∧ True from ⟨I, kp_w (by decide) kp_r, trivial⟩)
    · have c11 : x9v.toInt < x8v.toInt := o_nle h5
      obtain ⟨b12, o13, k14⟩ := gO_11_8 L k_a0
      refine ok_at o13 ?_
      obtain ⟨b15, o16, k17, n18, w19⟩ := gO_11_4 L k_a0
      refine ok_at o16 ?_
      have t20 := ti_tn x1
      refine ok_gd (fun hc21 => ?_) ?_
      · rcases hc21 with hc21 | hc21
        · have c22 : x1.toInt < (0 : Int) := o_lt hc21
          omega
        · omega
      obtain ⟨b23, o24, k25⟩ := gE_11_4 L k_a0 o16 (i := x1.toNatClampNeg) (by omega)
      refine ok_at o24 ?_
      obtain ⟨b26, o27, k28, n29, w30⟩ := gO_11_6 L k_a0
      refine ok_at o27 ?_
      have t31 := ti_tn x2
      refine ok_gd (fun hc32 => ?_) ?_
      · rcases hc32 with hc32 | hc32
        · have c33 : x2.toInt < (0 : Int) := o_lt hc32
          omega
        · omega
      obtain ⟨b34, o35, k36⟩ := gE_11_6 L k_a0 o27 (i := x2.toNatClampNeg) (by omega)
      refine ok_at o35 ?_
      obtain ⟨b37, o38, k39⟩ := gO_2_0 L k36
      refine ok_at o38 ?_
      refine ok_bind (k_X4_go L hN (a0 := b12) (a1 := b23) (a2 := b37) (x3 := (x3 + x9v)) k14 k25 k39 I) (fun r40 hr41 => ?_)
      obtain ⟨i42, u43⟩ := hr41
      have u44 := kp_t kp_r u43
      refine ok_at o13 ?_
      have f45 := ti_b (q_I r40 4 11 b12)
      have f46 := ti_b x6v
      refine ok_ite (fun h47 => ?_) (fun h47 => ?_)
      · have c48 : (q_I r40 4 11 b12).toInt ≤ x6v.toInt := o_le h47
        unfold J_X11_seeds_130
        refine ok_biv (fun vx49 e50 => ?_)
        first | (have q51 := te_addc (c := 1) (n := 1) rfl x9v (by omega) (by omega); rw [← e50] at q51; obtain ⟨f52, f53, f54⟩ := q51) | (obtain ⟨q51, f52, f53, f54⟩ : ∃ q : Int, vx49.toInt = x9v.toInt + (1 : Int) + 4294967296 * q ∧ -2147483648 ≤ vx49.toInt ∧ vx49.toInt ≤ 2147483647 := by rw [e50]; exact ti_addc (c := 1) (n := 1) rfl x9v)
        refine ok_mono (ih x6v x7v x8v vx49 r40 i42 (show 0 ≤ (x1).toInt by first | assumption | omega) (show (x1).toInt < 4 by first | assumption | omega) (show 0 ≤ (x2).toInt by first | assumption | omega) (show (x2).toInt < 4 by first | assumption | omega) (show 0 ≤ (vx49).toInt by first | assumption | omega) (show (vx49).toInt ≤ 20 by first | assumption | omega) (show (x8v).toInt ≤ 20 by first | assumption | omega) (show 20 - (vx49).toInt < _ by omega)) (fun r55 hr56 => ?_)
        rcases r55 with ⟨r55v | r55n, r55d⟩
        · obtain ⟨i57, k58, m59⟩ := hr56
          have i60 : CI ad h.1 δ0 r55d := i57
          have k61 : kp [(1, 3), (1, 4), (1, 5), (1, 6), (1, 7), (1, 8), (1, 9), (1, 10), (1, 11), (1, 12), (1, 13), (1, 14), (1, 15), (3, 1), (4, 5), (4, 6), (4, 7), (4, 8), (4, 9), (4, 10), (4, 11), (4, 12), (4, 13), (4, 14), (4, 15), (4, 16), (4, 19)] r40 r55d := k58
          have u63 := k61
          have u64 := kp_t u44 u63
          exact (show CI ad h.1 δ0 r55d ∧ (kp [(1, 3), (1, 4), (1, 5), (1, 6), (1, 7), (1, 8), (1, 9), (1, 10), (1, 11), (1, 12), (1, 13), (1, 14), (1, 15), (3, 1), (4, 5), (4, 6), (4, 7), (4, 8), (4, 9), (4, 10), (4, 11), (4, 12), (4, 13), (4, 14), (4, 15), (4, 16), (4, 19)] δ r55d) ∧ True from ⟨i60, kp_w (by decide) u64, trivial⟩)
        · obtain ⟨i65, k66, m67⟩ := hr56
          have i68 : CI ad h.1 δ0 r55d := i65
          have k69 : kp [(1, 3), (1, 4), (1, 5), (1, 6), (1, 7), (1, 8), (1, 9), (1, 10), (1, 11), (1, 12), (1, 13), (1, 14), (1, 15), (3, 1), (4, 5), (4, 6), (4, 7), (4, 8), (4, 9), (4, 10), (4, 11), (4, 12), (4, 13), (4, 14), (4, 15), (4, 16), (4, 19)] r40 r55d := k66
          have u71 := k69
          have u72 := kp_t u44 u71
          have m70 : ((False) ∧ True) := m67
          exact m70.1.elim
      · have c73 : x6v.toInt < (q_I r40 4 11 b12).toInt := o_nle h47
        refine ok_at o13 ?_
        refine ok_biv (fun vx74 e75 => ?_)
        have f76 : vx74.toInt = (q_I r40 4 11 b12).toInt := congrArg Int32.toInt e75
        unfold J_X11_seeds_130
        refine ok_biv (fun vx77 e78 => ?_)
        first | (have q79 := te_addc (c := 1) (n := 1) rfl x9v (by omega) (by omega); rw [← e78] at q79; obtain ⟨f80, f81, f82⟩ := q79) | (obtain ⟨q79, f80, f81, f82⟩ : ∃ q : Int, vx77.toInt = x9v.toInt + (1 : Int) + 4294967296 * q ∧ -2147483648 ≤ vx77.toInt ∧ vx77.toInt ≤ 2147483647 := by rw [e78]; exact ti_addc (c := 1) (n := 1) rfl x9v)
        refine ok_mono (ih vx74 x9v x8v vx77 r40 i42 (show 0 ≤ (x1).toInt by first | assumption | omega) (show (x1).toInt < 4 by first | assumption | omega) (show 0 ≤ (x2).toInt by first | assumption | omega) (show (x2).toInt < 4 by first | assumption | omega) (show 0 ≤ (vx77).toInt by first | assumption | omega) (show (vx77).toInt ≤ 20 by first | assumption | omega) (show (x8v).toInt ≤ 20 by first | assumption | omega) (show 20 - (vx77).toInt < _ by omega)) (fun r83 hr84 => ?_)
        rcases r83 with ⟨r83v | r83n, r83d⟩
        · obtain ⟨i85, k86, m87⟩ := hr84
          have i88 : CI ad h.1 δ0 r83d := i85
          have k89 : kp [(1, 3), (1, 4), (1, 5), (1, 6), (1, 7), (1, 8), (1, 9), (1, 10), (1, 11), (1, 12), (1, 13), (1, 14), (1, 15), (3, 1), (4, 5), (4, 6), (4, 7), (4, 8), (4, 9), (4, 10), (4, 11), (4, 12), (4, 13), (4, 14), (4, 15), (4, 16), (4, 19)] r40 r83d := k86
          have u91 := k89
          have u92 := kp_t u44 u91
          exact (show CI ad h.1 δ0 r83d ∧ (kp [(1, 3), (1, 4), (1, 5), (1, 6), (1, 7), (1, 8), (1, 9), (1, 10), (1, 11), (1, 12), (1, 13), (1, 14), (1, 15), (3, 1), (4, 5), (4, 6), (4, 7), (4, 8), (4, 9), (4, 10), (4, 11), (4, 12), (4, 13), (4, 14), (4, 15), (4, 16), (4, 19)] δ r83d) ∧ True from ⟨i88, kp_w (by decide) u92, trivial⟩)
        · obtain ⟨i93, k94, m95⟩ := hr84
          have i96 : CI ad h.1 δ0 r83d := i93
          have k97 : kp [(1, 3), (1, 4), (1, 5), (1, 6), (1, 7), (1, 8), (1, 9), (1, 10), (1, 11), (1, 12), (1, 13), (1, 14), (1, 15), (3, 1), (4, 5), (4, 6), (4, 7), (4, 8), (4, 9), (4, 10), (4, 11), (4, 12), (4, 13), (4, 14), (4, 15), (4, 16), (4, 19)] r40 r83d := k94
          have u99 := k97
          have u100 := kp_t u44 u99
          have m98 : ((False) ∧ True) := m95
          exact m98.1.elim
set_option maxHeartbeats 4000000 in
theorem k_X11_seeds {ad : List Nat} {h : hp} (L : Lay TLx ad h) {δ0 : dp} {N : Nat} (hN : 10000000 ≤ N) {a0 : Nat} {x1 : Int32} {x2 : Int32} {x3 : Int32} {x4 : Int32} {x5 : Int32} (k_a0 : q_K h.1 a0 = 11) {δ : dp} (I : CI ad h.1 δ0 δ) : ok (D_X11_seeds N h.1 a0 x1 x2 x3 x4 x5 δ) (fun r => CI ad h.1 δ0 r.2 ∧ (kp [(1, 3), (1, 4), (1, 5), (1, 6), (1, 7), (1, 8), (1, 9), (1, 10), (1, 11), (1, 12), (1, 13), (1, 14), (1, 15), (3, 1), (4, 5), (4, 6), (4, 7), (4, 8), (4, 9), (4, 10), (4, 11), (4, 12), (4, 13), (4, 14), (4, 15), (4, 16), (4, 19)] δ r.2) ∧ match r.1 with | .inl v => True | .inr n => ((n = 0 ∨ n = 1 ∨ n = 2) ∧ True)) := by
  unfold D_X11_seeds
  refine ok_bxv (k_X11_needHouse L hN (a0 := a0) (x1 := x2) k_a0 I) (fun n d hp => (show CI ad h.1 δ0 d ∧ (kp [(1, 3), (1, 4), (1, 5), (1, 6), (1, 7), (1, 8), (1, 9), (1, 10), (1, 11), (1, 12), (1, 13), (1, 14), (1, 15), (3, 1), (4, 5), (4, 6), (4, 7), (4, 8), (4, 9), (4, 10), (4, 11), (4, 12), (4, 13), (4, 14), (4, 15), (4, 16), (4, 19)] δ d) ∧ ((n = 0 ∨ n = 1 ∨ n = 2) ∧ True) from ⟨hp.1, kp_w (by decide) (kp_t kp_r hp.2.1.1), (by have hq : n = 0 := hp.2.2.1; omega), trivial⟩)) (fun d1 hp2 => ?_)
  obtain ⟨i3, ⟨u4, u5⟩, p6, p7⟩ := hp2
  have u8 := kp_t kp_r u4
  have f9 := ti_b x2
  refine ok_bxv (k_X11_needThief L hN (a0 := a0) (x1 := x1) k_a0 i3) (fun n d hp => (show CI ad h.1 δ0 d ∧ (kp [(1, 3), (1, 4), (1, 5), (1, 6), (1, 7), (1, 8), (1, 9), (1, 10), (1, 11), (1, 12), (1, 13), (1, 14), (1, 15), (3, 1), (4, 5), (4, 6), (4, 7), (4, 8), (4, 9), (4, 10), (4, 11), (4, 12), (4, 13), (4, 14), (4, 15), (4, 16), (4, 19)] δ d) ∧ ((n = 0 ∨ n = 1 ∨ n = 2) ∧ True) from ⟨hp.1, kp_w (by decide) (kp_t u8 hp.2.1.1), (by have hq : n = 1 := hp.2.2.1; omega), trivial⟩)) (fun d10 hp11 => ?_)
  obtain ⟨i12, ⟨u13, u14⟩, p15, p16⟩ := hp11
  have u17 := kp_t u8 u13
  have f18 := ti_b x1
  have f19 := ti_b x4
  refine ok_ite (fun h20 => ?_) (fun h20 => ?_)
  · have c21 : x4.toInt < (1 : Int) := o_lt h20
    unfold J_X11_seeds_39
    unfold J_X11_seeds_40
    refine ok_bxv (k_X11_need L hN (a0 := a0) (x1 := (0 : Int32)) k_a0 i12) (fun n d hp => (show CI ad h.1 δ0 d ∧ (kp [(1, 3), (1, 4), (1, 5), (1, 6), (1, 7), (1, 8), (1, 9), (1, 10), (1, 11), (1, 12), (1, 13), (1, 14), (1, 15), (3, 1), (4, 5), (4, 6), (4, 7), (4, 8), (4, 9), (4, 10), (4, 11), (4, 12), (4, 13), (4, 14), (4, 15), (4, 16), (4, 19)] δ d) ∧ ((n = 0 ∨ n = 1 ∨ n = 2) ∧ True) from ⟨hp.1, kp_w (by decide) (kp_t u17 hp.2.1.1), (by have hq : n = 2 := hp.2.2.1; omega), trivial⟩)) (fun d22 hp23 => ?_)
    obtain ⟨i24, ⟨u25, u26⟩, p27⟩ := hp23
    have u28 := kp_t u17 u25
    exact absurd rfl (show (0 : Int) ≠ 0 from p27)
  · have c29 : (1 : Int) ≤ x4.toInt := o_nlt h20
    refine ok_ite (fun h30 => ?_) (fun h30 => ?_)
    · have c31 : (20 : Int) < x4.toInt := o_lt h30
      unfold J_X11_seeds_39
      unfold J_X11_seeds_40
      refine ok_bxv (k_X11_need L hN (a0 := a0) (x1 := (0 : Int32)) k_a0 i12) (fun n d hp => (show CI ad h.1 δ0 d ∧ (kp [(1, 3), (1, 4), (1, 5), (1, 6), (1, 7), (1, 8), (1, 9), (1, 10), (1, 11), (1, 12), (1, 13), (1, 14), (1, 15), (3, 1), (4, 5), (4, 6), (4, 7), (4, 8), (4, 9), (4, 10), (4, 11), (4, 12), (4, 13), (4, 14), (4, 15), (4, 16), (4, 19)] δ d) ∧ ((n = 0 ∨ n = 1 ∨ n = 2) ∧ True) from ⟨hp.1, kp_w (by decide) (kp_t u17 hp.2.1.1), (by have hq : n = 2 := hp.2.2.1; omega), trivial⟩)) (fun d32 hp33 => ?_)
      obtain ⟨i34, ⟨u35, u36⟩, p37⟩ := hp33
      have u38 := kp_t u17 u35
      exact absurd rfl (show (0 : Int) ≠ 0 from p37)
    · have c39 : x4.toInt ≤ (20 : Int) := o_nlt h30
      have f40 := ti_b x5
      refine ok_ite (fun h41 => ?_) (fun h41 => ?_)
      · have c42 : x5.toInt = (0 : Int) := o_eq h41
        unfold J_X11_seeds_35
        unfold J_X11_seeds_40
        refine ok_bxv (k_X11_need L hN (a0 := a0) (x1 := (1 : Int32)) k_a0 i12) (fun n d hp => (show CI ad h.1 δ0 d ∧ (kp [(1, 3), (1, 4), (1, 5), (1, 6), (1, 7), (1, 8), (1, 9), (1, 10), (1, 11), (1, 12), (1, 13), (1, 14), (1, 15), (3, 1), (4, 5), (4, 6), (4, 7), (4, 8), (4, 9), (4, 10), (4, 11), (4, 12), (4, 13), (4, 14), (4, 15), (4, 16), (4, 19)] δ d) ∧ ((n = 0 ∨ n = 1 ∨ n = 2) ∧ True) from ⟨hp.1, kp_w (by decide) (kp_t u17 hp.2.1.1), (by have hq : n = 2 := hp.2.2.1; omega), trivial⟩)) (fun d43 hp44 => ?_)
        obtain ⟨i45, ⟨u46, u47⟩, p48⟩ := hp44
        have u49 := kp_t u17 u46
        replace p48 : (1 : Int) ≠ 0 := p48
        obtain ⟨b50, o51, k52, n53, w54⟩ := gO_11_4 L k_a0
        refine ok_at o51 ?_
        have t55 := ti_tn x1
        refine ok_gd (fun hc56 => ?_) ?_
        · rcases hc56 with hc56 | hc56
          · have c57 : x1.toInt < (0 : Int) := o_lt hc56
            omega
          · omega
        obtain ⟨b58, o59, k60⟩ := gE_11_4 L k_a0 o51 (i := x1.toNatClampNeg) (by omega)
        refine ok_at o59 ?_
        have f61 := cb_8_3 i45 k60
        have f62 : (q_I d43 8 3 b58).toInt = (q_I d10 8 3 b58).toInt := congrArg Int32.toInt (u46 8 3 b58 (by decide))
        have f63 := cb_8_3 i12 k60
        have f64 : (q_I d10 8 3 b58).toInt = (q_I d1 8 3 b58).toInt := congrArg Int32.toInt (u13 8 3 b58 (by decide))
        have f65 := cb_8_3 i3 k60
        have f66 : (q_I d1 8 3 b58).toInt = (q_I δ 8 3 b58).toInt := congrArg Int32.toInt (u4 8 3 b58 (by decide))
        have f67 := cb_8_3 I k60
        refine ok_ite (fun h68 => ?_) (fun h68 => ?_)
        · have c69 : (q_I d43 8 3 b58).toInt = (0 : Int) := o_eq h68
          unfold J_X11_seeds_67
          refine ok_mono (kl_X11_seeds_72 L hN   k_a0 _ (-1 : Int32) (0 : Int32) (1 : Int32) (0 : Int32) d43 i45 (show 0 ≤ (x1).toInt by first | assumption | omega) (show (x1).toInt < 4 by first | assumption | omega) (show 0 ≤ (x2).toInt by first | assumption | omega) (show (x2).toInt < 4 by first | assumption | omega) (show 0 ≤ (0 : Int) by first | assumption | omega) (show (0 : Int) ≤ 20 by first | assumption | omega) (show (1 : Int) ≤ 20 by first | assumption | omega) (show 20 - (0 : Int) < _ by omega)) (fun r70 hr71 => ?_)
          rcases r70 with ⟨r70v | r70n, r70d⟩
          · obtain ⟨i72, k73, m74⟩ := hr71
            have i75 : CI ad h.1 δ0 r70d := i72
            have k76 : kp [(1, 3), (1, 4), (1, 5), (1, 6), (1, 7), (1, 8), (1, 9), (1, 10), (1, 11), (1, 12), (1, 13), (1, 14), (1, 15), (3, 1), (4, 5), (4, 6), (4, 7), (4, 8), (4, 9), (4, 10), (4, 11), (4, 12), (4, 13), (4, 14), (4, 15), (4, 16), (4, 19)] d43 r70d := k73
            have u78 := k76
            have u79 := kp_t u49 u78
            exact (show CI ad h.1 δ0 r70d ∧ (kp [(1, 3), (1, 4), (1, 5), (1, 6), (1, 7), (1, 8), (1, 9), (1, 10), (1, 11), (1, 12), (1, 13), (1, 14), (1, 15), (3, 1), (4, 5), (4, 6), (4, 7), (4, 8), (4, 9), (4, 10), (4, 11), (4, 12), (4, 13), (4, 14), (4, 15), (4, 16), (4, 19)] δ r70d) ∧ True from ⟨i75, kp_w (by decide) u79, trivial⟩)
          · obtain ⟨i80, k81, m82⟩ := hr71
            have i83 : CI ad h.1 δ0 r70d := i80
            have k84 : kp [(1, 3), (1, 4), (1, 5), (1, 6), (1, 7), (1, 8), (1, 9), (1, 10), (1, 11), (1, 12), (1, 13), (1, 14), (1, 15), (3, 1), (4, 5), (4, 6), (4, 7), (4, 8), (4, 9), (4, 10), (4, 11), (4, 12), (4, 13), (4, 14), (4, 15), (4, 16), (4, 19)] d43 r70d := k81
            have u86 := k84
            have u87 := kp_t u49 u86
            have m85 : ((False) ∧ True) := m82
            exact m85.1.elim
        · have c88 : (q_I d43 8 3 b58).toInt ≠ (0 : Int) := o_ne h68
          unfold J_X11_seeds_67
          refine ok_mono (kl_X11_seeds_72 L hN   k_a0 _ (-1 : Int32) (0 : Int32) x4 (0 : Int32) d43 i45 (show 0 ≤ (x1).toInt by first | assumption | omega) (show (x1).toInt < 4 by first | assumption | omega) (show 0 ≤ (x2).toInt by first | assumption | omega) (show (x2).toInt < 4 by first | assumption | omega) (show 0 ≤ (0 : Int) by first | assumption | omega) (show (0 : Int) ≤ 20 by first | assumption | omega) (show (x4).toInt ≤ 20 by first | assumption | omega) (show 20 - (0 : Int) < _ by omega)) (fun r89 hr90 => ?_)
          rcases r89 with ⟨r89v | r89n, r89d⟩
          · obtain ⟨i91, k92, m93⟩ := hr90
            have i94 : CI ad h.1 δ0 r89d := i91
            have k95 : kp [(1, 3), (1, 4), (1, 5), (1, 6), (1, 7), (1, 8), (1, 9), (1, 10), (1, 11), (1, 12), (1, 13), (1, 14), (1, 15), (3, 1), (4, 5), (4, 6), (4, 7), (4, 8), (4, 9), (4, 10), (4, 11), (4, 12), (4, 13), (4, 14), (4, 15), (4, 16), (4, 19)] d43 r89d := k92
            have u97 := k95
            have u98 := kp_t u49 u97
            exact (show CI ad h.1 δ0 r89d ∧ (kp [(1, 3), (1, 4), (1, 5), (1, 6), (1, 7), (1, 8), (1, 9), (1, 10), (1, 11), (1, 12), (1, 13), (1, 14), (1, 15), (3, 1), (4, 5), (4, 6), (4, 7), (4, 8), (4, 9), (4, 10), (4, 11), (4, 12), (4, 13), (4, 14), (4, 15), (4, 16), (4, 19)] δ r89d) ∧ True from ⟨i94, kp_w (by decide) u98, trivial⟩)
          · obtain ⟨i99, k100, m101⟩ := hr90
            have i102 : CI ad h.1 δ0 r89d := i99
            have k103 : kp [(1, 3), (1, 4), (1, 5), (1, 6), (1, 7), (1, 8), (1, 9), (1, 10), (1, 11), (1, 12), (1, 13), (1, 14), (1, 15), (3, 1), (4, 5), (4, 6), (4, 7), (4, 8), (4, 9), (4, 10), (4, 11), (4, 12), (4, 13), (4, 14), (4, 15), (4, 16), (4, 19)] d43 r89d := k100
            have u105 := k103
            have u106 := kp_t u49 u105
            have m104 : ((False) ∧ True) := m101
            exact m104.1.elim
      · have c107 : x5.toInt ≠ (0 : Int) := o_ne h41
        refine ok_ite (fun h108 => ?_) (fun h108 => ?_)
        · have c109 : x5.toInt = (1 : Int) := o_eq h108
          unfold J_X11_seeds_35
          unfold J_X11_seeds_40
          refine ok_bxv (k_X11_need L hN (a0 := a0) (x1 := (1 : Int32)) k_a0 i12) (fun n d hp => (show CI ad h.1 δ0 d ∧ (kp [(1, 3), (1, 4), (1, 5), (1, 6), (1, 7), (1, 8), (1, 9), (1, 10), (1, 11), (1, 12), (1, 13), (1, 14), (1, 15), (3, 1), (4, 5), (4, 6), (4, 7), (4, 8), (4, 9), (4, 10), (4, 11), (4, 12), (4, 13), (4, 14), (4, 15), (4, 16), (4, 19)] δ d) ∧ ((n = 0 ∨ n = 1 ∨ n = 2) ∧ True) from ⟨hp.1, kp_w (by decide) (kp_t u17 hp.2.1.1), (by have hq : n = 2 := hp.2.2.1; omega), trivial⟩)) (fun d110 hp111 => ?_)
          obtain ⟨i112, ⟨u113, u114⟩, p115⟩ := hp111
          have u116 := kp_t u17 u113
          replace p115 : (1 : Int) ≠ 0 := p115
          obtain ⟨b117, o118, k119, n120, w121⟩ := gO_11_4 L k_a0
          refine ok_at o118 ?_
          have t122 := ti_tn x1
          refine ok_gd (fun hc123 => ?_) ?_
          · rcases hc123 with hc123 | hc123
            · have c124 : x1.toInt < (0 : Int) := o_lt hc123
              omega
            · omega
          obtain ⟨b125, o126, k127⟩ := gE_11_4 L k_a0 o118 (i := x1.toNatClampNeg) (by omega)
          refine ok_at o126 ?_
          have f128 := cb_8_3 i112 k127
          have f129 : (q_I d110 8 3 b125).toInt = (q_I d10 8 3 b125).toInt := congrArg Int32.toInt (u113 8 3 b125 (by decide))
          have f130 := cb_8_3 i12 k127
          have f131 : (q_I d10 8 3 b125).toInt = (q_I d1 8 3 b125).toInt := congrArg Int32.toInt (u13 8 3 b125 (by decide))
          have f132 := cb_8_3 i3 k127
          have f133 : (q_I d1 8 3 b125).toInt = (q_I δ 8 3 b125).toInt := congrArg Int32.toInt (u4 8 3 b125 (by decide))
          have f134 := cb_8_3 I k127
          refine ok_ite (fun h135 => ?_) (fun h135 => ?_)
          · have c136 : (q_I d110 8 3 b125).toInt = (0 : Int) := o_eq h135
            unfold J_X11_seeds_67
            refine ok_mono (kl_X11_seeds_72 L hN   k_a0 _ (-1 : Int32) (0 : Int32) (1 : Int32) (0 : Int32) d110 i112 (show 0 ≤ (x1).toInt by first | assumption | omega) (show (x1).toInt < 4 by first | assumption | omega) (show 0 ≤ (x2).toInt by first | assumption | omega) (show (x2).toInt < 4 by first | assumption | omega) (show 0 ≤ (0 : Int) by first | assumption | omega) (show (0 : Int) ≤ 20 by first | assumption | omega) (show (1 : Int) ≤ 20 by first | assumption | omega) (show 20 - (0 : Int) < _ by omega)) (fun r137 hr138 => ?_)
            rcases r137 with ⟨r137v | r137n, r137d⟩
            · obtain ⟨i139, k140, m141⟩ := hr138
              have i142 : CI ad h.1 δ0 r137d := i139
              have k143 : kp [(1, 3), (1, 4), (1, 5), (1, 6), (1, 7), (1, 8), (1, 9), (1, 10), (1, 11), (1, 12), (1, 13), (1, 14), (1, 15), (3, 1), (4, 5), (4, 6), (4, 7), (4, 8), (4, 9), (4, 10), (4, 11), (4, 12), (4, 13), (4, 14), (4, 15), (4, 16), (4, 19)] d110 r137d := k140
              have u145 := k143
              have u146 := kp_t u116 u145
              exact (show CI ad h.1 δ0 r137d ∧ (kp [(1, 3), (1, 4), (1, 5), (1, 6), (1, 7), (1, 8), (1, 9), (1, 10), (1, 11), (1, 12), (1, 13), (1, 14), (1, 15), (3, 1), (4, 5), (4, 6), (4, 7), (4, 8), (4, 9), (4, 10), (4, 11), (4, 12), (4, 13), (4, 14), (4, 15), (4, 16), (4, 19)] δ r137d) ∧ True from ⟨i142, kp_w (by decide) u146, trivial⟩)
            · obtain ⟨i147, k148, m149⟩ := hr138
              have i150 : CI ad h.1 δ0 r137d := i147
              have k151 : kp [(1, 3), (1, 4), (1, 5), (1, 6), (1, 7), (1, 8), (1, 9), (1, 10), (1, 11), (1, 12), (1, 13), (1, 14), (1, 15), (3, 1), (4, 5), (4, 6), (4, 7), (4, 8), (4, 9), (4, 10), (4, 11), (4, 12), (4, 13), (4, 14), (4, 15), (4, 16), (4, 19)] d110 r137d := k148
              have u153 := k151
              have u154 := kp_t u116 u153
              have m152 : ((False) ∧ True) := m149
              exact m152.1.elim
          · have c155 : (q_I d110 8 3 b125).toInt ≠ (0 : Int) := o_ne h135
            unfold J_X11_seeds_67
            refine ok_mono (kl_X11_seeds_72 L hN   k_a0 _ (-1 : Int32) (0 : Int32) x4 (0 : Int32) d110 i112 (show 0 ≤ (x1).toInt by first | assumption | omega) (show (x1).toInt < 4 by first | assumption | omega) (show 0 ≤ (x2).toInt by first | assumption | omega) (show (x2).toInt < 4 by first | assumption | omega) (show 0 ≤ (0 : Int) by first | assumption | omega) (show (0 : Int) ≤ 20 by first | assumption | omega) (show (x4).toInt ≤ 20 by first | assumption | omega) (show 20 - (0 : Int) < _ by omega)) (fun r156 hr157 => ?_)
            rcases r156 with ⟨r156v | r156n, r156d⟩
            · obtain ⟨i158, k159, m160⟩ := hr157
              have i161 : CI ad h.1 δ0 r156d := i158
              have k162 : kp [(1, 3), (1, 4), (1, 5), (1, 6), (1, 7), (1, 8), (1, 9), (1, 10), (1, 11), (1, 12), (1, 13), (1, 14), (1, 15), (3, 1), (4, 5), (4, 6), (4, 7), (4, 8), (4, 9), (4, 10), (4, 11), (4, 12), (4, 13), (4, 14), (4, 15), (4, 16), (4, 19)] d110 r156d := k159
              have u164 := k162
              have u165 := kp_t u116 u164
              exact (show CI ad h.1 δ0 r156d ∧ (kp [(1, 3), (1, 4), (1, 5), (1, 6), (1, 7), (1, 8), (1, 9), (1, 10), (1, 11), (1, 12), (1, 13), (1, 14), (1, 15), (3, 1), (4, 5), (4, 6), (4, 7), (4, 8), (4, 9), (4, 10), (4, 11), (4, 12), (4, 13), (4, 14), (4, 15), (4, 16), (4, 19)] δ r156d) ∧ True from ⟨i161, kp_w (by decide) u165, trivial⟩)
            · obtain ⟨i166, k167, m168⟩ := hr157
              have i169 : CI ad h.1 δ0 r156d := i166
              have k170 : kp [(1, 3), (1, 4), (1, 5), (1, 6), (1, 7), (1, 8), (1, 9), (1, 10), (1, 11), (1, 12), (1, 13), (1, 14), (1, 15), (3, 1), (4, 5), (4, 6), (4, 7), (4, 8), (4, 9), (4, 10), (4, 11), (4, 12), (4, 13), (4, 14), (4, 15), (4, 16), (4, 19)] d110 r156d := k167
              have u172 := k170
              have u173 := kp_t u116 u172
              have m171 : ((False) ∧ True) := m168
              exact m171.1.elim
        · have c174 : x5.toInt ≠ (1 : Int) := o_ne h108
          unfold J_X11_seeds_39
          unfold J_X11_seeds_40
          refine ok_bxv (k_X11_need L hN (a0 := a0) (x1 := (0 : Int32)) k_a0 i12) (fun n d hp => (show CI ad h.1 δ0 d ∧ (kp [(1, 3), (1, 4), (1, 5), (1, 6), (1, 7), (1, 8), (1, 9), (1, 10), (1, 11), (1, 12), (1, 13), (1, 14), (1, 15), (3, 1), (4, 5), (4, 6), (4, 7), (4, 8), (4, 9), (4, 10), (4, 11), (4, 12), (4, 13), (4, 14), (4, 15), (4, 16), (4, 19)] δ d) ∧ ((n = 0 ∨ n = 1 ∨ n = 2) ∧ True) from ⟨hp.1, kp_w (by decide) (kp_t u17 hp.2.1.1), (by have hq : n = 2 := hp.2.2.1; omega), trivial⟩)) (fun d175 hp176 => ?_)
          obtain ⟨i177, ⟨u178, u179⟩, p180⟩ := hp176
          have u181 := kp_t u17 u178
          exact absurd rfl (show (0 : Int) ≠ 0 from p180)
