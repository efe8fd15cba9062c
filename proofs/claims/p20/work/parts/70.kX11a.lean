/-! 70.kX11a (by gen_safe.py) -/
set_option maxHeartbeats 4000000 in
theorem k_J13_bitCount_95d88 {ad : List Nat} {h : hp} (L : Lay TLx ad h) {δ0 : dp} {N : Nat} (hN : 10000000 ≤ N) {y0 : Int64} {δ : dp} (I : CI ad h.1 δ0 δ) : ok (D_J13_bitCount_95d88 N h.1 y0 δ) (fun r => r.2 = δ) := by
  unfold D_J13_bitCount_95d88
  refine ok_blv (fun vx1 e2 => ?_)
  refine ok_blv (fun vx3 e4 => ?_)
  refine ok_blv (fun vx5 e6 => ?_)
  refine ok_blv (fun vx7 e8 => ?_)
  refine ok_blv (fun vx9 e10 => ?_)
  refine ok_blv (fun vx11 e12 => ?_)
  exact ok_some (show δ = δ from rfl)
set_option maxHeartbeats 4000000 in
theorem k_X11_need {ad : List Nat} {h : hp} (L : Lay TLx ad h) {δ0 : dp} {N : Nat} (hN : 10000000 ≤ N) {a0 : Nat} {x1 : Int32} (k_a0 : q_K h.1 a0 = 11) {δ : dp} (I : CI ad h.1 δ0 δ) : ok (D_X11_need N h.1 a0 x1 δ) (fun r => CI ad h.1 δ0 r.2 ∧ (kp [] δ r.2 ∧ q_V r.2 = q_V δ) ∧ match r.1 with | .inl v => (x1).toInt ≠ 0 | .inr n => ((n = 2) ∧ True ∧ ((x1).toInt = 0))) := by
  unfold D_X11_need
  have f1 := ti_b x1
  refine ok_ite (fun h2 => ?_) (fun h2 => ?_)
  · have c3 : x1.toInt = (0 : Int) := o_eq h2
    obtain ⟨b4, o5, k6, n7, w8⟩ := gO_11_13 L k_a0
    refine ok_at o5 ?_
    have t9 : (2 : Int32).toNatClampNeg = 2 := rfl
    refine ok_gd (fun hc10 => ?_) ?_
    · rcases hc10 with hc10 | hc10
      · have c11 : (2 : Int) < (0 : Int) := o_lt hc10
        omega
      · omega
    refine ok_gd (fun hc12 => ?_) ?_
    · rcases hc12 with hc12 | hc12
      · have c13 : (2 : Int) < (0 : Int) := o_lt hc12
        omega
      · omega
    refine ok_bdv (fun d14 e15 => ?_)
    have i16 : CI ad h.1 δ0 d14 := by rw [e15]; exact CI.sR L I w8
    have u17 := kp_N kp_r (show q_I d14 = q_I δ by rw [e15]; rfl)
    have v18 : q_V d14 = q_V δ := ((show q_V d14 = q_V δ by rw [e15]; rfl)).trans rfl
    exact ok_some (show CI ad h.1 δ0 d14 ∧ (kp [] δ d14 ∧ q_V d14 = q_V δ) ∧ ((2 = 2) ∧ True ∧ ((x1).toInt = 0)) from ⟨i16, ⟨kp_w (by decide) u17, v18⟩, by decide, trivial, by first | with_reducible assumption | omega⟩)
  · have c19 : x1.toInt ≠ (0 : Int) := o_ne h2
    exact ok_some (show CI ad h.1 δ0 δ ∧ (kp [] δ δ ∧ q_V δ = q_V δ) ∧ (x1).toInt ≠ 0 from ⟨I, ⟨kp_w (by decide) kp_r, rfl⟩, by first | with_reducible assumption | omega⟩)
set_option maxHeartbeats 4000000 in
theorem k_X11_needHouse {ad : List Nat} {h : hp} (L : Lay TLx ad h) {δ0 : dp} {N : Nat} (hN : 10000000 ≤ N) {a0 : Nat} {x1 : Int32} (k_a0 : q_K h.1 a0 = 11) {δ : dp} (I : CI ad h.1 δ0 δ) : ok (D_X11_needHouse N h.1 a0 x1 δ) (fun r => CI ad h.1 δ0 r.2 ∧ (kp [] δ r.2 ∧ q_V r.2 = q_V δ) ∧ match r.1 with | .inl v => 0 ≤ (x1).toInt ∧ (x1).toInt < 4 | .inr n => ((n = 0) ∧ True)) := by
  unfold D_X11_needHouse
  have f1 := ti_b x1
  refine ok_ite (fun h2 => ?_) (fun h2 => ?_)
  · have c3 : x1.toInt < (0 : Int) := o_lt h2
    unfold J_X11_needHouse_9
    obtain ⟨b4, o5, k6, n7, w8⟩ := gO_11_13 L k_a0
    refine ok_at o5 ?_
    have t9 : (0 : Int32).toNatClampNeg = 0 := rfl
    refine ok_gd (fun hc10 => ?_) ?_
    · rcases hc10 with hc10 | hc10
      · have c11 : (0 : Int) < (0 : Int) := o_lt hc10
        omega
      · omega
    refine ok_gd (fun hc12 => ?_) ?_
    · rcases hc12 with hc12 | hc12
      · have c13 : (0 : Int) < (0 : Int) := o_lt hc12
        omega
      · omega
    refine ok_bdv (fun d14 e15 => ?_)
    have i16 : CI ad h.1 δ0 d14 := by rw [e15]; exact CI.sR L I w8
    have u17 := kp_N kp_r (show q_I d14 = q_I δ by rw [e15]; rfl)
    have v18 : q_V d14 = q_V δ := ((show q_V d14 = q_V δ by rw [e15]; rfl)).trans rfl
    exact ok_some (show CI ad h.1 δ0 d14 ∧ (kp [] δ d14 ∧ q_V d14 = q_V δ) ∧ ((0 = 0) ∧ True) from ⟨i16, ⟨kp_w (by decide) u17, v18⟩, by decide, trivial⟩)
  · have c19 : (0 : Int) ≤ x1.toInt := o_nlt h2
    refine ok_ite (fun h20 => ?_) (fun h20 => ?_)
    · have c21 : x1.toInt < (4 : Int) := o_lt h20
      exact ok_some (show CI ad h.1 δ0 δ ∧ (kp [] δ δ ∧ q_V δ = q_V δ) ∧ 0 ≤ (x1).toInt ∧ (x1).toInt < 4 from ⟨I, ⟨kp_w (by decide) kp_r, rfl⟩, by first | with_reducible assumption | omega, by first | with_reducible assumption | omega⟩)
    · have c22 : (4 : Int) ≤ x1.toInt := o_nlt h20
      unfold J_X11_needHouse_9
      obtain ⟨b23, o24, k25, n26, w27⟩ := gO_11_13 L k_a0
      refine ok_at o24 ?_
      have t28 : (0 : Int32).toNatClampNeg = 0 := rfl
      refine ok_gd (fun hc29 => ?_) ?_
      · rcases hc29 with hc29 | hc29
        · have c30 : (0 : Int) < (0 : Int) := o_lt hc29
          omega
        · omega
      refine ok_gd (fun hc31 => ?_) ?_
      · rcases hc31 with hc31 | hc31
        · have c32 : (0 : Int) < (0 : Int) := o_lt hc31
          omega
        · omega
      refine ok_bdv (fun d33 e34 => ?_)
      have i35 : CI ad h.1 δ0 d33 := by rw [e34]; exact CI.sR L I w27
      have u36 := kp_N kp_r (show q_I d33 = q_I δ by rw [e34]; rfl)
      have v37 : q_V d33 = q_V δ := ((show q_V d33 = q_V δ by rw [e34]; rfl)).trans rfl
      exact ok_some (show CI ad h.1 δ0 d33 ∧ (kp [] δ d33 ∧ q_V d33 = q_V δ) ∧ ((0 = 0) ∧ True) from ⟨i35, ⟨kp_w (by decide) u36, v37⟩, by decide, trivial⟩)
set_option maxHeartbeats 4000000 in
theorem k_X11_needThief {ad : List Nat} {h : hp} (L : Lay TLx ad h) {δ0 : dp} {N : Nat} (hN : 10000000 ≤ N) {a0 : Nat} {x1 : Int32} (k_a0 : q_K h.1 a0 = 11) {δ : dp} (I : CI ad h.1 δ0 δ) : ok (D_X11_needThief N h.1 a0 x1 δ) (fun r => CI ad h.1 δ0 r.2 ∧ (kp [] δ r.2 ∧ q_V r.2 = q_V δ) ∧ match r.1 with | .inl v => 0 ≤ (x1).toInt ∧ (x1).toInt < 4 | .inr n => ((n = 1) ∧ True)) := by
  unfold D_X11_needThief
  have f1 := ti_b x1
  refine ok_ite (fun h2 => ?_) (fun h2 => ?_)
  · have c3 : x1.toInt < (0 : Int) := o_lt h2
    unfold J_X11_needThief_12
    obtain ⟨b4, o5, k6, n7, w8⟩ := gO_11_13 L k_a0
    refine ok_at o5 ?_
    have t9 : (1 : Int32).toNatClampNeg = 1 := rfl
    refine ok_gd (fun hc10 => ?_) ?_
    · rcases hc10 with hc10 | hc10
      · have c11 : (1 : Int) < (0 : Int) := o_lt hc10
        omega
      · omega
    refine ok_gd (fun hc12 => ?_) ?_
    · rcases hc12 with hc12 | hc12
      · have c13 : (1 : Int) < (0 : Int) := o_lt hc12
        omega
      · omega
    refine ok_bdv (fun d14 e15 => ?_)
    have i16 : CI ad h.1 δ0 d14 := by rw [e15]; exact CI.sR L I w8
    have u17 := kp_N kp_r (show q_I d14 = q_I δ by rw [e15]; rfl)
    have v18 : q_V d14 = q_V δ := ((show q_V d14 = q_V δ by rw [e15]; rfl)).trans rfl
    exact ok_some (show CI ad h.1 δ0 d14 ∧ (kp [] δ d14 ∧ q_V d14 = q_V δ) ∧ ((1 = 1) ∧ True) from ⟨i16, ⟨kp_w (by decide) u17, v18⟩, by decide, trivial⟩)
  · have c19 : (0 : Int) ≤ x1.toInt := o_nlt h2
    have f20 := cb_11_5 I k_a0
    refine ok_ite (fun h21 => ?_) (fun h21 => ?_)
    · have c22 : x1.toInt < (q_I δ 11 5 a0).toInt := o_lt h21
      exact ok_some (show CI ad h.1 δ0 δ ∧ (kp [] δ δ ∧ q_V δ = q_V δ) ∧ 0 ≤ (x1).toInt ∧ (x1).toInt < 4 from ⟨I, ⟨kp_w (by decide) kp_r, rfl⟩, by first | with_reducible assumption | omega, by first | with_reducible assumption | omega⟩)
    · have c23 : (q_I δ 11 5 a0).toInt ≤ x1.toInt := o_nlt h21
      unfold J_X11_needThief_12
      obtain ⟨b24, o25, k26, n27, w28⟩ := gO_11_13 L k_a0
      refine ok_at o25 ?_
      have t29 : (1 : Int32).toNatClampNeg = 1 := rfl
      refine ok_gd (fun hc30 => ?_) ?_
      · rcases hc30 with hc30 | hc30
        · have c31 : (1 : Int) < (0 : Int) := o_lt hc30
          omega
        · omega
      refine ok_gd (fun hc32 => ?_) ?_
      · rcases hc32 with hc32 | hc32
        · have c33 : (1 : Int) < (0 : Int) := o_lt hc32
          omega
        · omega
      refine ok_bdv (fun d34 e35 => ?_)
      have i36 : CI ad h.1 δ0 d34 := by rw [e35]; exact CI.sR L I w28
      have u37 := kp_N kp_r (show q_I d34 = q_I δ by rw [e35]; rfl)
      have v38 : q_V d34 = q_V δ := ((show q_V d34 = q_V δ by rw [e35]; rfl)).trans rfl
      exact ok_some (show CI ad h.1 δ0 d34 ∧ (kp [] δ d34 ∧ q_V d34 = q_V δ) ∧ ((1 = 1) ∧ True) from ⟨i36, ⟨kp_w (by decide) u37, v38⟩, by decide, trivial⟩)
set_option maxHeartbeats 4000000 in
theorem k_X11_isNumber {ad : List Nat} {h : hp} (L : Lay TLx ad h) {δ0 : dp} {N : Nat} (hN : 10000000 ≤ N) {a0 : Nat} {x1 : Int32} (k_a0 : q_K h.1 a0 = 11) {δ : dp} (I : CI ad h.1 δ0 δ) : ok (D_X11_isNumber N h.1 a0 x1 δ) (fun r => r.2 = δ ∧ bo (r.1)) := by
  unfold D_X11_isNumber
  have f1 := ti_b x1
  refine ok_ite (fun h2 => ?_) (fun h2 => ?_)
  · have c3 : x1.toInt < (0 : Int) := o_lt h2
    unfold J_X11_isNumber_19
    unfold J_X11_isNumber_20
    refine ok_gp (by decide) ?_
    exact ok_some (show δ = δ ∧ bo ((0 : Int32)) from ⟨rfl, bo_0⟩)
  · have c4 : (0 : Int) ≤ x1.toInt := o_nlt h2
    obtain ⟨b5, o6, k7⟩ := gO_11_1 L k_a0
    refine ok_at o6 ?_
    refine ok_bind (k_X5_greatest L hN (a0 := b5) k7 I) (fun r8 hr9 => ?_)
    obtain ⟨i10, p11, p12, p13, p14⟩ := hr9
    try rw [i10]
    have f15 := ti_b r8.1
    have f16 := cb_5_0 I k7
    refine ok_ite (fun h17 => ?_) (fun h17 => ?_)
    · have c18 : r8.1.toInt < x1.toInt := o_lt h17
      unfold J_X11_isNumber_19
      unfold J_X11_isNumber_20
      refine ok_gp (by decide) ?_
      exact ok_some (show δ = δ ∧ bo ((0 : Int32)) from ⟨rfl, bo_0⟩)
    · have c19 : x1.toInt ≤ r8.1.toInt := o_nlt h17
      unfold J_X11_isNumber_20
      refine ok_gp (by decide) ?_
      exact ok_some (show δ = δ ∧ bo ((1 : Int32)) from ⟨rfl, bo_1⟩)
set_option maxHeartbeats 4000000 in
theorem k_X11_needNumber {ad : List Nat} {h : hp} (L : Lay TLx ad h) {δ0 : dp} {N : Nat} (hN : 10000000 ≤ N) {a0 : Nat} {x1 : Int32} (k_a0 : q_K h.1 a0 = 11) {δ : dp} (I : CI ad h.1 δ0 δ) : ok (D_X11_needNumber N h.1 a0 x1 δ) (fun r => CI ad h.1 δ0 r.2 ∧ (kp [] δ r.2 ∧ q_V r.2 = q_V δ) ∧ match r.1 with | .inl v => True | .inr n => ((n = 2) ∧ True)) := by
  unfold D_X11_needNumber
  refine ok_bind (k_X11_isNumber L hN (a0 := a0) (x1 := x1) k_a0 I) (fun r1 hr2 => ?_)
  obtain ⟨i3, p4⟩ := hr2
  try rw [i3]
  have f5 := bo_t p4
  have f6 := ti_b r1.1
  refine ok_bxv (k_X11_need L hN (a0 := a0) (x1 := r1.1) k_a0 I) (fun n d hp => (show CI ad h.1 δ0 d ∧ (kp [] δ d ∧ q_V d = q_V δ) ∧ ((n = 2) ∧ True) from ⟨hp.1, ⟨kp_w (by decide) (kp_t kp_r hp.2.1.1), (hp.2.1.2).trans rfl⟩, (by have hq : n = 2 := hp.2.2.1; omega), trivial⟩)) (fun d7 hp8 => ?_)
  obtain ⟨i9, ⟨u10, u11⟩, p12⟩ := hp8
  have u13 := kp_t kp_r u10
  have v14 : q_V d7 = q_V δ := (u11).trans rfl
  exact ok_some (show CI ad h.1 δ0 d7 ∧ (kp [] δ d7 ∧ q_V d7 = q_V δ) ∧ True from ⟨i9, ⟨kp_w (by decide) u13, v14⟩, trivial⟩)
set_option maxHeartbeats 4000000 in
theorem k_X11_isCall {ad : List Nat} {h : hp} (L : Lay TLx ad h) {δ0 : dp} {N : Nat} (hN : 10000000 ≤ N) {x0 : Int32} {δ : dp} (I : CI ad h.1 δ0 δ) : ok (D_X11_isCall N h.1 x0 δ) (fun r => r.2 = δ ∧ bo (r.1) ∧ ((r.1).toInt = 1 → 0 ≤ (x0).toInt ∧ (x0).toInt < 5)) := by
  unfold D_X11_isCall
  have f1 := ti_b x0
  refine ok_ite (fun h2 => ?_) (fun h2 => ?_)
  · have c3 : x0.toInt < (0 : Int) := o_lt h2
    unfold J_X11_isCall_13
    unfold J_X11_isCall_14
    refine ok_gp (by decide) ?_
    exact ok_some (show δ = δ ∧ bo ((0 : Int32)) ∧ ((0 : Int) = 1 → 0 ≤ (x0).toInt ∧ (x0).toInt < 5) from ⟨rfl, bo_0, by first | with_reducible assumption | omega⟩)
  · have c4 : (0 : Int) ≤ x0.toInt := o_nlt h2
    refine ok_ite (fun h5 => ?_) (fun h5 => ?_)
    · have c6 : (5 : Int) ≤ x0.toInt := o_le h5
      unfold J_X11_isCall_13
      unfold J_X11_isCall_14
      refine ok_gp (by decide) ?_
      exact ok_some (show δ = δ ∧ bo ((0 : Int32)) ∧ ((0 : Int) = 1 → 0 ≤ (x0).toInt ∧ (x0).toInt < 5) from ⟨rfl, bo_0, by first | with_reducible assumption | omega⟩)
    · have c7 : x0.toInt < (5 : Int) := o_nle h5
      unfold J_X11_isCall_14
      refine ok_gp (by decide) ?_
      exact ok_some (show δ = δ ∧ bo ((1 : Int32)) ∧ ((1 : Int) = 1 → 0 ≤ (x0).toInt ∧ (x0).toInt < 5) from ⟨rfl, bo_1, by first | with_reducible assumption | omega⟩)
set_option maxHeartbeats 4000000 in
theorem k_X11_isKind {ad : List Nat} {h : hp} (L : Lay TLx ad h) {δ0 : dp} {N : Nat} (hN : 10000000 ≤ N) {x0 : Int32} {δ : dp} (I : CI ad h.1 δ0 δ) : ok (D_X11_isKind N h.1 x0 δ) (fun r => r.2 = δ ∧ bo (r.1)) := by
  unfold D_X11_isKind
  have f1 := ti_b x0
  refine ok_ite (fun h2 => ?_) (fun h2 => ?_)
  · have c3 : x0.toInt < (0 : Int) := o_lt h2
    unfold J_X11_isKind_13
    unfold J_X11_isKind_14
    refine ok_gp (by decide) ?_
    exact ok_some (show δ = δ ∧ bo ((0 : Int32)) from ⟨rfl, bo_0⟩)
  · have c4 : (0 : Int) ≤ x0.toInt := o_nlt h2
    refine ok_ite (fun h5 => ?_) (fun h5 => ?_)
    · have c6 : (2 : Int) < x0.toInt := o_lt h5
      unfold J_X11_isKind_13
      unfold J_X11_isKind_14
      refine ok_gp (by decide) ?_
      exact ok_some (show δ = δ ∧ bo ((0 : Int32)) from ⟨rfl, bo_0⟩)
    · have c7 : x0.toInt ≤ (2 : Int) := o_nlt h5
      unfold J_X11_isKind_14
      refine ok_gp (by decide) ?_
      exact ok_some (show δ = δ ∧ bo ((1 : Int32)) from ⟨rfl, bo_1⟩)
set_option maxHeartbeats 4000000 in
theorem k_X11_mayAsk {ad : List Nat} {h : hp} (L : Lay TLx ad h) {δ0 : dp} {N : Nat} (hN : 10000000 ≤ N) {a0 : Nat} {x1 : Int32} {x2 : Int32} (k_a0 : q_K h.1 a0 = 11) {δ : dp} (I : CI ad h.1 δ0 δ) : ok (D_X11_mayAsk N h.1 a0 x1 x2 δ) (fun r => r.2 = δ ∧ bo (r.1)) := by
  unfold D_X11_mayAsk
  refine ok_bind (k_X11_isNumber L hN (a0 := a0) (x1 := x2) k_a0 I) (fun r1 hr2 => ?_)
  obtain ⟨i3, p4⟩ := hr2
  try rw [i3]
  have f5 := bo_t p4
  have f6 := ti_b r1.1
  refine ok_ite (fun h7 => ?_) (fun h7 => ?_)
  · have c8 : r1.1.toInt = (0 : Int) := o_eq h7
    have f9 := ti_b x1
    refine ok_ite (fun h10 => ?_) (fun h10 => ?_)
    · have c11 : x1.toInt = (3 : Int) := o_eq h10
      have f12 := ti_b x2
      refine ok_ite (fun h13 => ?_) (fun h13 => ?_)
      · have c14 : x2.toInt = (-1 : Int) := o_eq h13
        unfold J_X11_mayAsk_36
        unfold J_X11_mayAsk_41
        refine ok_gp (by decide) ?_
        exact ok_some (show δ = δ ∧ bo ((1 : Int32)) from ⟨rfl, bo_1⟩)
      · have c15 : x2.toInt ≠ (-1 : Int) := o_ne h13
        unfold J_X11_mayAsk_18
        refine ok_ite (fun h16 => ?_) (fun h16 => ?_)
        · have c17 : x1.toInt = (4 : Int) := o_eq h16
          obtain ⟨b18, o19, k20⟩ := gO_11_1 L k_a0
          refine ok_at o19 ?_
          refine ok_bind (k_X5_greatest L hN (a0 := b18) k20 I) (fun r21 hr22 => ?_)
          obtain ⟨i23, p24, p25, p26, p27⟩ := hr22
          try rw [i23]
          have f28 := ti_b r21.1
          have f29 := cb_5_0 I k20
          first | (have q31 := te_addc (c := 1) (n := 1) rfl r21.1 (by omega) (by omega); obtain ⟨f32, f33, f34⟩ := q31) | (obtain ⟨q31, f32, f33, f34⟩ := ti_addc (c := 1) (n := 1) rfl r21.1)
          refine ok_ite (fun h35 => ?_) (fun h35 => ?_)
          · have c36 : x2.toInt = (r21.1 + (1 : Int32)).toInt := o_eq h35
            unfold J_X11_mayAsk_36
            unfold J_X11_mayAsk_41
            refine ok_gp (by decide) ?_
            exact ok_some (show δ = δ ∧ bo ((1 : Int32)) from ⟨rfl, bo_1⟩)
          · have c37 : x2.toInt ≠ (r21.1 + (1 : Int32)).toInt := o_ne h35
            unfold J_X11_mayAsk_40
            unfold J_X11_mayAsk_41
            refine ok_gp (by decide) ?_
            exact ok_some (show δ = δ ∧ bo ((0 : Int32)) from ⟨rfl, bo_0⟩)
        · have c38 : x1.toInt ≠ (4 : Int) := o_ne h16
          unfold J_X11_mayAsk_40
          unfold J_X11_mayAsk_41
          refine ok_gp (by decide) ?_
          exact ok_some (show δ = δ ∧ bo ((0 : Int32)) from ⟨rfl, bo_0⟩)
    · have c39 : x1.toInt ≠ (3 : Int) := o_ne h10
      unfold J_X11_mayAsk_18
      refine ok_ite (fun h40 => ?_) (fun h40 => ?_)
      · have c41 : x1.toInt = (4 : Int) := o_eq h40
        obtain ⟨b42, o43, k44⟩ := gO_11_1 L k_a0
        refine ok_at o43 ?_
        refine ok_bind (k_X5_greatest L hN (a0 := b42) k44 I) (fun r45 hr46 => ?_)
        obtain ⟨i47, p48, p49, p50, p51⟩ := hr46
        try rw [i47]
        have f52 := ti_b r45.1
        have f53 := cb_5_0 I k44
        have f54 := ti_b x2
        first | (have q56 := te_addc (c := 1) (n := 1) rfl r45.1 (by omega) (by omega); obtain ⟨f57, f58, f59⟩ := q56) | (obtain ⟨q56, f57, f58, f59⟩ := ti_addc (c := 1) (n := 1) rfl r45.1)
        refine ok_ite (fun h60 => ?_) (fun h60 => ?_)
        · have c61 : x2.toInt = (r45.1 + (1 : Int32)).toInt := o_eq h60
          unfold J_X11_mayAsk_36
          unfold J_X11_mayAsk_41
          refine ok_gp (by decide) ?_
          exact ok_some (show δ = δ ∧ bo ((1 : Int32)) from ⟨rfl, bo_1⟩)
        · have c62 : x2.toInt ≠ (r45.1 + (1 : Int32)).toInt := o_ne h60
          unfold J_X11_mayAsk_40
          unfold J_X11_mayAsk_41
          refine ok_gp (by decide) ?_
          exact ok_some (show δ = δ ∧ bo ((0 : Int32)) from ⟨rfl, bo_0⟩)
      · have c63 : x1.toInt ≠ (4 : Int) := o_ne h40
        unfold J_X11_mayAsk_40
        unfold J_X11_mayAsk_41
        refine ok_gp (by decide) ?_
        exact ok_some (show δ = δ ∧ bo ((0 : Int32)) from ⟨rfl, bo_0⟩)
  · have c64 : r1.1.toInt ≠ (0 : Int) := o_ne h7
    unfold J_X11_mayAsk_36
    unfold J_X11_mayAsk_41
    refine ok_gp (by decide) ?_
    exact ok_some (show δ = δ ∧ bo ((1 : Int32)) from ⟨rfl, bo_1⟩)
set_option maxHeartbeats 4000000 in
theorem k_X11_mayGoThroughAll {ad : List Nat} {h : hp} (L : Lay TLx ad h) {δ0 : dp} {N : Nat} (hN : 10000000 ≤ N) {a0 : Nat} {x1 : Int32} {x2 : Int32} (k_a0 : q_K h.1 a0 = 11) {δ : dp} (I : CI ad h.1 δ0 δ) : ok (D_X11_mayGoThroughAll N h.1 a0 x1 x2 δ) (fun r => r.2 = δ ∧ bo (r.1) ∧ ((r.1).toInt = 1 → 0 ≤ (x1).toInt ∧ (x1).toInt < 5 ∧ 0 ≤ (x2).toInt ∧ (x2).toInt ≤ 16)) := by
  unfold D_X11_mayGoThroughAll
  refine ok_bind (k_X11_isCall L hN (x0 := x1)  I) (fun r1 hr2 => ?_)
  obtain ⟨i3, p4, p5⟩ := hr2
  try rw [i3]
  have f6 := bo_t p4
  have f7 := ti_b r1.1
  have f8 := ti_b x1
  refine ok_ite (fun h9 => ?_) (fun h9 => ?_)
  · have c10 : r1.1.toInt = (0 : Int) := o_eq h9
    unfold J_X11_mayGoThroughAll_36
    unfold J_X11_mayGoThroughAll_37
    refine ok_gp (by decide) ?_
    have f11 := ti_b x2
    exact ok_some (show δ = δ ∧ bo ((0 : Int32)) ∧ ((0 : Int) = 1 → 0 ≤ (x1).toInt ∧ (x1).toInt < 5 ∧ 0 ≤ (x2).toInt ∧ (x2).toInt ≤ 16) from ⟨rfl, bo_0, by first | with_reducible assumption | omega⟩)
  · have c12 : r1.1.toInt ≠ (0 : Int) := o_ne h9
    obtain ⟨b13, o14, k15⟩ := gO_11_1 L k_a0
    refine ok_at o14 ?_
    refine ok_bind (k_X5_isSmall L hN (a0 := b13) k15 I) (fun r16 hr17 => ?_)
    obtain ⟨i18, p19, p20⟩ := hr17
    try rw [i18]
    have f21 := bo_t p19
    have f22 := ti_b r16.1
    have f23 := cb_5_0 I k15
    refine ok_ite (fun h24 => ?_) (fun h24 => ?_)
    · have c25 : r16.1.toInt = (0 : Int) := o_eq h24
      unfold J_X11_mayGoThroughAll_36
      unfold J_X11_mayGoThroughAll_37
      refine ok_gp (by decide) ?_
      have f26 := ti_b x2
      exact ok_some (show δ = δ ∧ bo ((0 : Int32)) ∧ ((0 : Int) = 1 → 0 ≤ (x1).toInt ∧ (x1).toInt < 5 ∧ 0 ≤ (x2).toInt ∧ (x2).toInt ≤ 16) from ⟨rfl, bo_0, by first | with_reducible assumption | omega⟩)
    · have c27 : r16.1.toInt ≠ (0 : Int) := o_ne h24
      have f28 := ti_b x2
      refine ok_ite (fun h29 => ?_) (fun h29 => ?_)
      · have c30 : x2.toInt < (0 : Int) := o_lt h29
        unfold J_X11_mayGoThroughAll_36
        unfold J_X11_mayGoThroughAll_37
        refine ok_gp (by decide) ?_
        exact ok_some (show δ = δ ∧ bo ((0 : Int32)) ∧ ((0 : Int) = 1 → 0 ≤ (x1).toInt ∧ (x1).toInt < 5 ∧ 0 ≤ (x2).toInt ∧ (x2).toInt ≤ 16) from ⟨rfl, bo_0, by first | with_reducible assumption | omega⟩)
      · have c31 : (0 : Int) ≤ x2.toInt := o_nlt h29
        refine ok_at o14 ?_
        refine ok_bind (k_X5_mostInSets L hN (a0 := b13) k15 I) (fun r32 hr33 => ?_)
        obtain ⟨i34, p35⟩ := hr33
        try rw [i34]
        have f36 := ti_b r32.1
        refine ok_ite (fun h37 => ?_) (fun h37 => ?_)
        · have c38 : r32.1.toInt < x2.toInt := o_lt h37
          unfold J_X11_mayGoThroughAll_36
          unfold J_X11_mayGoThroughAll_37
          refine ok_gp (by decide) ?_
          exact ok_some (show δ = δ ∧ bo ((0 : Int32)) ∧ ((0 : Int) = 1 → 0 ≤ (x1).toInt ∧ (x1).toInt < 5 ∧ 0 ≤ (x2).toInt ∧ (x2).toInt ≤ 16) from ⟨rfl, bo_0, by first | with_reducible assumption | omega⟩)
        · have c39 : x2.toInt ≤ r32.1.toInt := o_nlt h37
          unfold J_X11_mayGoThroughAll_37
          refine ok_gp (by decide) ?_
          exact ok_some (show δ = δ ∧ bo ((1 : Int32)) ∧ ((1 : Int) = 1 → 0 ≤ (x1).toInt ∧ (x1).toInt < 5 ∧ 0 ≤ (x2).toInt ∧ (x2).toInt ≤ 16) from ⟨rfl, bo_1, by first | with_reducible assumption | omega⟩)
set_option maxHeartbeats 4000000 in
theorem k_X11_fault {ad : List Nat} {h : hp} (L : Lay TLx ad h) {δ0 : dp} {N : Nat} (hN : 10000000 ≤ N) {a0 : Nat} (k_a0 : q_K h.1 a0 = 11) {δ : dp} (I : CI ad h.1 δ0 δ) : ok (D_X11_fault N h.1 a0 δ) (fun r => r.2 = δ) := by
  unfold D_X11_fault
  obtain ⟨b1, o2, k3⟩ := gO_11_0 L k_a0
  obtain rfl := gS_11_0 L k_a0 o2
  refine ok_at o2 ?_
  refine ok_bind (k_X7_isSound L hN (a0 := (Ad ad 1)) k3 I) (fun r4 hr5 => ?_)
  obtain ⟨i6, p7, p8, p9⟩ := hr5
  try rw [i6]
  have f10 := bo_t p7
  have f11 := ti_b r4.1
  have f12 := ti_b (q_I δ 7 5 (Ad ad 1))
  refine ok_ite (fun h13 => ?_) (fun h13 => ?_)
  · have c14 : r4.1.toInt = (0 : Int) := o_eq h13
    refine ok_at o2 ?_
    unfold J_X11_fault_21
    exact ok_some (show δ = δ from rfl)
  · have c15 : r4.1.toInt ≠ (0 : Int) := o_ne h13
    unfold J_X11_fault_21
    exact ok_some (show δ = δ from rfl)
set_option maxHeartbeats 4000000 in
theorem kl_X11_image_12 {ad : List Nat} {h : hp} (L : Lay TLx ad h) {δ0 : dp} {N : Nat} (hN : 10000000 ≤ N) {a0 : Nat} (k_a0 : q_K h.1 a0 = 11) : ∀ (n : Nat) (x1v : Int32) (δ : dp), CI ad h.1 δ0 δ → 0 ≤ (x1v).toInt → (x1v).toInt ≤ 4 → (q_I δ 11 12 a0).toInt < 3 → 4 - (x1v).toInt < (n : Int) → ok (L_X11_image_12 N h.1 a0 n x1v δ) (fun r => CI ad h.1 δ0 r.2 ∧ (kp [(11, 12)] δ r.2 ∧ q_V r.2 = q_V δ) ∧ (r.1).toInt = (q_I δ 11 12 a0).toInt + 1 ∧ (q_I r.2 11 12 a0).toInt = (q_I δ 11 12 a0).toInt + 1) := by
  intro n
  induction n with
  | zero =>
    intro x1v δ I j0 j1 j2 hm
    have f1 := ti_b x1v
    have f2 := cb_11_12 I k_a0
    exfalso; omega
  | succ n ih =>
    intro x1v δ I j0 j1 j2 hm
    unfold L_X11_image_12
    have f1 := ti_b x1v
    have f2 := cb_11_12 I k_a0
    refine ok_ite (fun h3 => ?_) (fun h3 => ?_)
    · have c4 : (4 : Int) ≤ x1v.toInt := o_le h3
      first | (have q9 := te_addc (c := 1) (n := 1) rfl (q_I δ 11 12 a0) (by omega) (by omega); obtain ⟨f10, f11, f12⟩ := q9) | (obtain ⟨q9, f10, f11, f12⟩ := ti_addc (c := 1) (n := 1) rfl (q_I δ 11 12 a0))
      refine ok_bdv (fun d5 e6 => ?_)
      have i7 : CI ad h.1 δ0 d5 := by rw [e6]; exact cs_11_12 L I k_a0 (show 0 ≤ ((q_I δ 11 12 a0) + (1 : Int32)).toInt by omega) (show ((q_I δ 11 12 a0) + (1 : Int32)).toInt ≤ 3 by omega)
      have u13 := kp_I kp_r e6
      have v14 : q_V d5 = q_V δ := ((show q_V d5 = q_V δ by rw [e6]; rfl)).trans rfl
      have f15 := cb_11_12 i7 k_a0
      have f16 : (q_I d5 11 12 a0).toInt = ((q_I δ 11 12 a0) + (1 : Int32)).toInt := congrArg Int32.toInt (show q_I d5 11 12 a0 = ((q_I δ 11 12 a0) + (1 : Int32)) by rw [e6]; exact rI_s)
      exact ok_some (show CI ad h.1 δ0 d5 ∧ (kp [(11, 12)] δ d5 ∧ q_V d5 = q_V δ) ∧ ((q_I d5 11 12 a0)).toInt = (q_I δ 11 12 a0).toInt + 1 ∧ (q_I d5 11 12 a0).toInt = (q_I δ 11 12 a0).toInt + 1 from ⟨i7, ⟨kp_w (by decide) u13, v14⟩, by first | with_reducible assumption | omega, by first | with_reducible assumption | omega⟩)
    · have c17 : x1v.toInt < (4 : Int) := o_nle h3
      obtain ⟨b18, o19, k20, n21, w22⟩ := gO_11_11 L k_a0
      refine ok_at o19 ?_
      have t23 := ti_tn (q_I δ 11 12 a0)
      refine ok_gd (fun hc24 => ?_) ?_
      · rcases hc24 with hc24 | hc24
        · have c25 : (q_I δ 11 12 a0).toInt < (0 : Int) := o_lt hc24
          omega
        · omega
      obtain ⟨b26, o27, k28, n29, w30⟩ := gW_11_11 L k_a0 o19 (i := (q_I δ 11 12 a0).toNatClampNeg) (by omega)
      refine ok_at o27 ?_
      obtain ⟨b32, o33, k34, n35, w36⟩ := gO_11_6 L k_a0
      refine ok_at o33 ?_
      have t37 := ti_tn x1v
      refine ok_gd (fun hc38 => ?_) ?_
      · rcases hc38 with hc38 | hc38
        · have c39 : x1v.toInt < (0 : Int) := o_lt hc38
          omega
        · omega
      obtain ⟨b40, o41, k42⟩ := gE_11_6 L k_a0 o33 (i := x1v.toNatClampNeg) (by omega)
      refine ok_at o41 ?_
      refine ok_gd (fun hc43 => ?_) ?_
      · rcases hc43 with hc43 | hc43
        · have c44 : x1v.toInt < (0 : Int) := o_lt hc43
          omega
        · omega
      have f48 := cb_2_4 I k42
      refine ok_bdv (fun d45 e46 => ?_)
      have i47 : CI ad h.1 δ0 d45 := by rw [e46]; exact CI.sW L I w30 (show 0 ≤ (q_I δ 2 4 b40).toInt by omega) (show (q_I δ 2 4 b40).toInt ≤ 1000 by omega)
      have u49 := kp_N kp_r (show q_I d45 = q_I δ by rw [e46]; rfl)
      have v50 : q_V d45 = q_V δ := ((show q_V d45 = q_V δ by rw [e46]; rfl)).trans rfl
      refine ok_biv (fun vx51 e52 => ?_)
      first | (have q53 := te_addc (c := 1) (n := 1) rfl x1v (by omega) (by omega); rw [← e52] at q53; obtain ⟨f54, f55, f56⟩ := q53) | (obtain ⟨q53, f54, f55, f56⟩ : ∃ q : Int, vx51.toInt = x1v.toInt + (1 : Int) + 4294967296 * q ∧ -2147483648 ≤ vx51.toInt ∧ vx51.toInt ≤ 2147483647 := by rw [e52]; exact ti_addc (c := 1) (n := 1) rfl x1v)
      have f57 : (q_I d45 11 12 a0).toInt = (q_I δ 11 12 a0).toInt := congrArg Int32.toInt (by rw [e46]; rfl)
      refine ok_mono (ih vx51 d45 i47 (show 0 ≤ (vx51).toInt by first | with_reducible assumption | omega) (show (vx51).toInt ≤ 4 by first | with_reducible assumption | omega) (show (q_I d45 11 12 a0).toInt < 3 by first | with_reducible assumption | omega) (show 4 - (vx51).toInt < _ by omega)) (fun r58 hr59 => ?_)
      obtain ⟨i60, ⟨u63, u64⟩, p61, p62⟩ := hr59
      have u65 := kp_t u49 u63
      have v66 : q_V r58.2 = q_V δ := (u64).trans v50
      have f67 := ti_b r58.1
      have f68 := cb_11_12 i60 k_a0
      exact ⟨by first | with_reducible assumption | assumption, ⟨kp_w (by decide) u65, v66⟩, by first | with_reducible assumption | omega, by first | with_reducible assumption | omega⟩
set_option maxHeartbeats 4000000 in
theorem k_X11_image {ad : List Nat} {h : hp} (L : Lay TLx ad h) {δ0 : dp} {N : Nat} (hN : 10000000 ≤ N) {a0 : Nat} (k_a0 : q_K h.1 a0 = 11) {δ : dp} (I : CI ad h.1 δ0 δ) : ok (D_X11_image N h.1 a0 δ) (fun r => CI ad h.1 δ0 r.2 ∧ (kp [(11, 12)] δ r.2 ∧ q_V r.2 = q_V δ) ∧ ((q_I δ 11 12 a0).toInt < 3 → (r.1).toInt = (q_I δ 11 12 a0).toInt + 1 ∧ (q_I r.2 11 12 a0).toInt = (q_I δ 11 12 a0).toInt + 1) ∧ (3 ≤ (q_I δ 11 12 a0).toInt → (r.1).toInt = -1 ∧ (q_I r.2 11 12 a0).toInt = (q_I δ 11 12 a0).toInt)) := by
  unfold D_X11_image
  have f1 := cb_11_12 I k_a0
  refine ok_ite (fun h2 => ?_) (fun h2 => ?_)
  · have c3 : (q_I δ 11 12 a0).toInt < (3 : Int) := o_lt h2
    refine ok_mono (kl_X11_image_12 L hN   k_a0 _ (0 : Int32) δ I (show 0 ≤ (0 : Int) by first | with_reducible assumption | omega) (show (0 : Int) ≤ 4 by first | with_reducible assumption | omega) (show (q_I δ 11 12 a0).toInt < 3 by first | with_reducible assumption | omega) (show 4 - (0 : Int) < _ by omega)) (fun r4 hr5 => ?_)
    obtain ⟨i6, ⟨u9, u10⟩, p7, p8⟩ := hr5
    have u11 := kp_t kp_r u9
    have v12 : q_V r4.2 = q_V δ := (u10).trans rfl
    have f13 := ti_b r4.1
    have f14 := cb_11_12 i6 k_a0
    exact ⟨by first | with_reducible assumption | assumption, ⟨kp_w (by decide) u11, v12⟩, by first | with_reducible assumption | omega, by first | with_reducible assumption | omega⟩
  · have c15 : (3 : Int) ≤ (q_I δ 11 12 a0).toInt := o_nlt h2
    exact ok_some (show CI ad h.1 δ0 δ ∧ (kp [(11, 12)] δ δ ∧ q_V δ = q_V δ) ∧ ((q_I δ 11 12 a0).toInt < 3 → (-1 : Int) = (q_I δ 11 12 a0).toInt + 1 ∧ (q_I δ 11 12 a0).toInt = (q_I δ 11 12 a0).toInt + 1) ∧ (3 ≤ (q_I δ 11 12 a0).toInt → (-1 : Int) = -1 ∧ (q_I δ 11 12 a0).toInt = (q_I δ 11 12 a0).toInt) from ⟨I, ⟨kp_w (by decide) kp_r, rfl⟩, by first | with_reducible assumption | omega, by first | with_reducible assumption | omega⟩)
set_option maxHeartbeats 4000000 in
theorem k_X11_status {ad : List Nat} {h : hp} (L : Lay TLx ad h) {δ0 : dp} {N : Nat} (hN : 10000000 ≤ N) {a0 : Nat} {x1 : Int32} (k_a0 : q_K h.1 a0 = 11) {δ : dp} (I : CI ad h.1 δ0 δ) : ok (D_X11_status N h.1 a0 x1 δ) (fun r => r.2 = δ) := by
  unfold D_X11_status
  have f1 := ti_b x1
  refine ok_ite (fun h2 => ?_) (fun h2 => ?_)
  · have c3 : x1.toInt < (0 : Int) := o_lt h2
    unfold J_X11_status_9
    unfold J_X11_status_19
    exact ok_some (show δ = δ from rfl)
  · have c4 : (0 : Int) ≤ x1.toInt := o_nlt h2
    refine ok_ite (fun h5 => ?_) (fun h5 => ?_)
    · have c6 : x1.toInt < (3 : Int) := o_lt h5
      obtain ⟨b7, o8, k9, n10, w11⟩ := gO_11_13 L k_a0
      refine ok_at o8 ?_
      have t12 := ti_tn x1
      refine ok_gd (fun hc13 => ?_) ?_
      · rcases hc13 with hc13 | hc13
        · have c14 : x1.toInt < (0 : Int) := o_lt hc13
          omega
        · omega
      unfold J_X11_status_19
      exact ok_some (show δ = δ from rfl)
    · have c15 : (3 : Int) ≤ x1.toInt := o_nlt h5
      unfold J_X11_status_9
      unfold J_X11_status_19
      exact ok_some (show δ = δ from rfl)
set_option maxHeartbeats 4000000 in
theorem kl_X11_count_33 {ad : List Nat} {h : hp} (L : Lay TLx ad h) {δ0 : dp} {N : Nat} (hN : 10000000 ≤ N) {a0 : Nat} {x1 : Int32} (k_a0 : q_K h.1 a0 = 11) : ∀ (n : Nat) (x2v : Int32) (x3v : Int32) (δ : dp), CI ad h.1 δ0 δ → 0 ≤ (x3v).toInt → (x3v).toInt ≤ 4 → 4 - (x3v).toInt < (n : Int) → ok (L_X11_count_33 N h.1 a0 x1 n x2v x3v δ) (fun r => r.2 = δ) := by
  intro n
  induction n with
  | zero =>
    intro x2v x3v δ I j0 j1 hm
    have f1 := ti_b x3v
    exfalso; omega
  | succ n ih =>
    intro x2v x3v δ I j0 j1 hm
    unfold L_X11_count_33
    have f1 := ti_b x3v
    refine ok_ite (fun h2 => ?_) (fun h2 => ?_)
    · have c3 : (4 : Int) ≤ x3v.toInt := o_le h2
      exact ok_some (show δ = δ from rfl)
    · have c4 : x3v.toInt < (4 : Int) := o_nle h2
      obtain ⟨b5, o6, k7, n8, w9⟩ := gO_11_6 L k_a0
      refine ok_at o6 ?_
      have t10 := ti_tn x3v
      refine ok_gd (fun hc11 => ?_) ?_
      · rcases hc11 with hc11 | hc11
        · have c12 : x3v.toInt < (0 : Int) := o_lt hc11
          omega
        · omega
      obtain ⟨b13, o14, k15⟩ := gE_11_6 L k_a0 o6 (i := x3v.toNatClampNeg) (by omega)
      refine ok_at o14 ?_
      obtain ⟨b16, o17, k18⟩ := gO_2_0 L k15
      refine ok_at o17 ?_
      have f21 := ti_b x2v
      obtain ⟨b22, o23, k24, ⟨n25, n26⟩, w27⟩ := gO_3_0 L k18
      have f28 := cb_3_1 I k18 o23
      refine ok_biv (fun vx19 e20 => ?_)
      first | (have q29 := te_add x2v (q_I δ 3 1 b16) (by omega) (by omega); rw [← e20] at q29; obtain ⟨f30, f31, f32⟩ := q29) | (obtain ⟨q29, f30, f31, f32⟩ : ∃ q : Int, vx19.toInt = x2v.toInt + (q_I δ 3 1 b16).toInt + 4294967296 * q ∧ -2147483648 ≤ vx19.toInt ∧ vx19.toInt ≤ 2147483647 := by rw [e20]; exact ti_add x2v (q_I δ 3 1 b16))
      refine ok_biv (fun vx33 e34 => ?_)
      first | (have q35 := te_addc (c := 1) (n := 1) rfl x3v (by omega) (by omega); rw [← e34] at q35; obtain ⟨f36, f37, f38⟩ := q35) | (obtain ⟨q35, f36, f37, f38⟩ : ∃ q : Int, vx33.toInt = x3v.toInt + (1 : Int) + 4294967296 * q ∧ -2147483648 ≤ vx33.toInt ∧ vx33.toInt ≤ 2147483647 := by rw [e34]; exact ti_addc (c := 1) (n := 1) rfl x3v)
      refine ok_mono (ih vx19 vx33 δ I (show 0 ≤ (vx33).toInt by first | with_reducible assumption | omega) (show (vx33).toInt ≤ 4 by first | with_reducible assumption | omega) (show 4 - (vx33).toInt < _ by omega)) (fun r39 hr40 => ?_)
      have i41 := hr40
      have f42 := ti_b r39.1
      exact by assumption
set_option maxHeartbeats 4000000 in
theorem k_X11_count {ad : List Nat} {h : hp} (L : Lay TLx ad h) {δ0 : dp} {N : Nat} (hN : 10000000 ≤ N) {a0 : Nat} {x1 : Int32} (k_a0 : q_K h.1 a0 = 11) {δ : dp} (I : CI ad h.1 δ0 δ) : ok (D_X11_count N h.1 a0 x1 δ) (fun r => r.2 = δ) := by
  unfold D_X11_count
  have f1 := ti_b x1
  refine ok_ite (fun h2 => ?_) (fun h2 => ?_)
  · have c3 : x1.toInt = (0 : Int) := o_eq h2
    exact ok_some (show δ = δ from rfl)
  · have c4 : x1.toInt ≠ (0 : Int) := o_ne h2
    refine ok_ite (fun h5 => ?_) (fun h5 => ?_)
    · have c6 : x1.toInt = (1 : Int) := o_eq h5
      obtain ⟨b7, o8, k9⟩ := gO_11_0 L k_a0
      obtain rfl := gS_11_0 L k_a0 o8
      refine ok_at o8 ?_
      exact ok_some (show δ = δ from rfl)
    · have c10 : x1.toInt ≠ (1 : Int) := o_ne h5
      refine ok_ite (fun h11 => ?_) (fun h11 => ?_)
      · have c12 : x1.toInt = (2 : Int) := o_eq h11
        refine ok_mono (kl_X11_count_33 L hN   k_a0 _ (0 : Int32) (0 : Int32) δ I (show 0 ≤ (0 : Int) by first | with_reducible assumption | omega) (show (0 : Int) ≤ 4 by first | with_reducible assumption | omega) (show 4 - (0 : Int) < _ by omega)) (fun r13 hr14 => ?_)
        have i15 := hr14
        have f16 := ti_b r13.1
        exact by assumption
      · have c17 : x1.toInt ≠ (2 : Int) := o_ne h11
        exact ok_some (show δ = δ from rfl)
set_option maxHeartbeats 4000000 in
theorem kl_X11_restore_21 {ad : List Nat} {h : hp} (L : Lay TLx ad h) {δ0 : dp} {N : Nat} (hN : 10000000 ≤ N) {a0 : Nat} (k_a0 : q_K h.1 a0 = 11) : ∀ (n : Nat) (x1v : Int32) (δ : dp), CI ad h.1 δ0 δ → 0 ≤ (x1v).toInt → (x1v).toInt ≤ 4 → (q_I δ 11 12 a0).toInt < 3 → 4 - (x1v).toInt < (n : Int) → ok (L_X11_restore_21 N h.1 a0 n x1v δ) (fun r => CI ad h.1 δ0 r.2 ∧ (kp [(2, 4), (3, 1), (4, 16), (11, 12)] δ r.2 ∧ q_V r.2 = q_V δ) ∧ (r.1).toInt = (q_I δ 11 12 a0).toInt ∧ (q_I r.2 11 12 a0).toInt = (q_I δ 11 12 a0).toInt) := by
  intro n
  induction n with
  | zero =>
    intro x1v δ I j0 j1 j2 hm
    have f1 := ti_b x1v
    have f2 := cb_11_12 I k_a0
    exfalso; omega
  | succ n ih =>
    intro x1v δ I j0 j1 j2 hm
    unfold L_X11_restore_21
    have f1 := ti_b x1v
    have f2 := cb_11_12 I k_a0
    refine ok_ite (fun h3 => ?_) (fun h3 => ?_)
    · have c4 : (4 : Int) ≤ x1v.toInt := o_le h3
      obtain ⟨b5, o6, k7⟩ := gO_11_8 L k_a0
      refine ok_at o6 ?_
      refine ok_bind (k_X4_forget L hN (a0 := b5) k7 I) (fun r8 hr9 => ?_)
      obtain ⟨i10, ⟨u11, u12, u13⟩⟩ := hr9
      have u14 := kp_t kp_r u11
      have v15 : q_V r8 = q_V δ := (u12).trans rfl
      have f16 : (q_I r8 11 12 a0).toInt = (q_I δ 11 12 a0).toInt := congrArg Int32.toInt (u11 11 12 a0 (by decide))
      exact ok_some (show CI ad h.1 δ0 r8 ∧ (kp [(2, 4), (3, 1), (4, 16), (11, 12)] δ r8 ∧ q_V r8 = q_V δ) ∧ ((q_I r8 11 12 a0)).toInt = (q_I δ 11 12 a0).toInt ∧ (q_I r8 11 12 a0).toInt = (q_I δ 11 12 a0).toInt from ⟨i10, ⟨kp_w (by decide) u14, v15⟩, by first | with_reducible assumption | omega, by first | with_reducible assumption | omega⟩)
    · have c17 : x1v.toInt < (4 : Int) := o_nle h3
      obtain ⟨b18, o19, k20, n21, w22⟩ := gO_11_6 L k_a0
      refine ok_at o19 ?_
      have t23 := ti_tn x1v
      refine ok_gd (fun hc24 => ?_) ?_
      · rcases hc24 with hc24 | hc24
        · have c25 : x1v.toInt < (0 : Int) := o_lt hc24
          omega
        · omega
      obtain ⟨b26, o27, k28⟩ := gE_11_6 L k_a0 o19 (i := x1v.toNatClampNeg) (by omega)
      refine ok_at o27 ?_
      obtain ⟨b29, o30, k31, n32, w33⟩ := gO_11_11 L k_a0
      refine ok_at o30 ?_
      have t34 := ti_tn (q_I δ 11 12 a0)
      refine ok_gd (fun hc35 => ?_) ?_
      · rcases hc35 with hc35 | hc35
        · have c36 : (q_I δ 11 12 a0).toInt < (0 : Int) := o_lt hc35
          omega
        · omega
      obtain ⟨b37, o38, k39, n40, w41⟩ := gW_11_11 L k_a0 o30 (i := (q_I δ 11 12 a0).toNatClampNeg) (by omega)
      refine ok_at o38 ?_
      refine ok_gd (fun hc43 => ?_) ?_
      · rcases hc43 with hc43 | hc43
        · have c44 : x1v.toInt < (0 : Int) := o_lt hc43
          omega
        · omega
      have f47 := CI.wR I w41 x1v.toNatClampNeg
      refine ok_bind (k_X2_goBack L hN (a0 := b26) (x1 := (q_R δ b37 x1v.toNatClampNeg)) k28 (show 0 ≤ ((q_R δ b37 x1v.toNatClampNeg)).toInt by first | with_reducible assumption | omega) I) (fun r45 hr46 => ?_)
      obtain ⟨i48, ⟨u49, u50⟩⟩ := hr46
      have u51 := kp_t kp_r u49
      have v52 : q_V r45 = q_V δ := (u50).trans rfl
      refine ok_biv (fun vx53 e54 => ?_)
      first | (have q55 := te_addc (c := 1) (n := 1) rfl x1v (by omega) (by omega); rw [← e54] at q55; obtain ⟨f56, f57, f58⟩ := q55) | (obtain ⟨q55, f56, f57, f58⟩ : ∃ q : Int, vx53.toInt = x1v.toInt + (1 : Int) + 4294967296 * q ∧ -2147483648 ≤ vx53.toInt ∧ vx53.toInt ≤ 2147483647 := by rw [e54]; exact ti_addc (c := 1) (n := 1) rfl x1v)
      have f59 : (q_I r45 11 12 a0).toInt = (q_I δ 11 12 a0).toInt := congrArg Int32.toInt (u49 11 12 a0 (by decide))
      refine ok_mono (ih vx53 r45 i48 (show 0 ≤ (vx53).toInt by first | with_reducible assumption | omega) (show (vx53).toInt ≤ 4 by first | with_reducible assumption | omega) (show (q_I r45 11 12 a0).toInt < 3 by first | with_reducible assumption | omega) (show 4 - (vx53).toInt < _ by omega)) (fun r60 hr61 => ?_)
      obtain ⟨i62, ⟨u65, u66⟩, p63, p64⟩ := hr61
      have u67 := kp_t u51 u65
      have v68 : q_V r60.2 = q_V δ := (u66).trans v52
      have f69 := ti_b r60.1
      have f70 := cb_11_12 i62 k_a0
      exact ⟨by first | with_reducible assumption | assumption, ⟨kp_w (by decide) u67, v68⟩, by first | with_reducible assumption | omega, by first | with_reducible assumption | omega⟩
set_option maxHeartbeats 4000000 in
theorem k_X11_restore {ad : List Nat} {h : hp} (L : Lay TLx ad h) {δ0 : dp} {N : Nat} (hN : 10000000 ≤ N) {a0 : Nat} (k_a0 : q_K h.1 a0 = 11) {δ : dp} (I : CI ad h.1 δ0 δ) : ok (D_X11_restore N h.1 a0 δ) (fun r => CI ad h.1 δ0 r.2 ∧ (kp [(2, 4), (3, 1), (4, 16), (11, 12)] δ r.2 ∧ q_V r.2 = q_V δ) ∧ (0 < (q_I δ 11 12 a0).toInt → (r.1).toInt = (q_I δ 11 12 a0).toInt - 1 ∧ (q_I r.2 11 12 a0).toInt = (q_I δ 11 12 a0).toInt - 1) ∧ ((q_I δ 11 12 a0).toInt ≤ 0 → (r.1).toInt = -1 ∧ (q_I r.2 11 12 a0).toInt = (q_I δ 11 12 a0).toInt)) := by
  unfold D_X11_restore
  have f1 := cb_11_12 I k_a0
  refine ok_ite (fun h2 => ?_) (fun h2 => ?_)
  · have c3 : (0 : Int) < (q_I δ 11 12 a0).toInt := o_lt h2
    first | (have q8 := te_subc (c := 1) (n := 1) rfl (q_I δ 11 12 a0) (by omega) (by omega); obtain ⟨f9, f10, f11⟩ := q8) | (obtain ⟨q8, f9, f10, f11⟩ := ti_subc (c := 1) (n := 1) rfl (q_I δ 11 12 a0))
    refine ok_bdv (fun d4 e5 => ?_)
    have i6 : CI ad h.1 δ0 d4 := by rw [e5]; exact cs_11_12 L I k_a0 (show 0 ≤ ((q_I δ 11 12 a0) - (1 : Int32)).toInt by omega) (show ((q_I δ 11 12 a0) - (1 : Int32)).toInt ≤ 3 by omega)
    have u12 := kp_I kp_r e5
    have v13 : q_V d4 = q_V δ := ((show q_V d4 = q_V δ by rw [e5]; rfl)).trans rfl
    have f14 := cb_11_12 i6 k_a0
    have f15 : (q_I d4 11 12 a0).toInt = ((q_I δ 11 12 a0) - (1 : Int32)).toInt := congrArg Int32.toInt (show q_I d4 11 12 a0 = ((q_I δ 11 12 a0) - (1 : Int32)) by rw [e5]; exact rI_s)
    refine ok_mono (kl_X11_restore_21 L hN   k_a0 _ (0 : Int32) d4 i6 (show 0 ≤ (0 : Int) by first | with_reducible assumption | omega) (show (0 : Int) ≤ 4 by first | with_reducible assumption | omega) (show (q_I d4 11 12 a0).toInt < 3 by first | with_reducible assumption | omega) (show 4 - (0 : Int) < _ by omega)) (fun r16 hr17 => ?_)
    obtain ⟨i18, ⟨u21, u22⟩, p19, p20⟩ := hr17
    have u23 := kp_t u12 u21
    have v24 : q_V r16.2 = q_V δ := (u22).trans v13
    have f25 := ti_b r16.1
    have f26 := cb_11_12 i18 k_a0
    exact ⟨by first | with_reducible assumption | assumption, ⟨kp_w (by decide) u23, v24⟩, by first | with_reducible assumption | omega, by first | with_reducible assumption | omega⟩
  · have c27 : (q_I δ 11 12 a0).toInt ≤ (0 : Int) := o_nlt h2
    exact ok_some (show CI ad h.1 δ0 δ ∧ (kp [(2, 4), (3, 1), (4, 16), (11, 12)] δ δ ∧ q_V δ = q_V δ) ∧ (0 < (q_I δ 11 12 a0).toInt → (-1 : Int) = (q_I δ 11 12 a0).toInt - 1 ∧ (q_I δ 11 12 a0).toInt = (q_I δ 11 12 a0).toInt - 1) ∧ ((q_I δ 11 12 a0).toInt ≤ 0 → (-1 : Int) = -1 ∧ (q_I δ 11 12 a0).toInt = (q_I δ 11 12 a0).toInt) from ⟨I, ⟨kp_w (by decide) kp_r, rfl⟩, by first | with_reducible assumption | omega, by first | with_reducible assumption | omega⟩)
set_option maxHeartbeats 4000000 in
theorem kl_X11_shape_77 {ad : List Nat} {h : hp} (L : Lay TLx ad h) {δ0 : dp} {N : Nat} (hN : 10000000 ≤ N) {a0 : Nat} {x1 : Int32} (k_a0 : q_K h.1 a0 = 11) : ∀ (n : Nat) (x2v : Int32) (δ : dp), CI ad h.1 δ0 δ → 0 ≤ (x2v).toInt → (x2v).toInt ≤ 4 → 4 - (x2v).toInt < (n : Int) → ok (L_X11_shape_77 N h.1 a0 x1 n x2v δ) (fun r => CI ad h.1 δ0 r.2 ∧ (kp [(0, 4), (0, 6), (2, 4), (3, 1), (4, 16), (5, 0), (5, 1), (5, 2), (6, 0), (6, 1), (6, 2), (7, 1), (7, 2), (7, 3), (7, 4), (7, 5), (7, 6), (11, 12)] δ r.2 ∧ q_V r.2 = q_V δ) ∧ match r.1 with | .inl v => (q_I r.2 7 1 (Ad ad 1)).toInt = (q_I δ 7 1 (Ad ad 1)).toInt | .inr n => ((False) ∧ True)) := by
  intro n
  induction n with
  | zero =>
    intro x2v δ I j0 j1 hm
    have f1 := ti_b x2v
    exfalso; omega
  | succ n ih =>
    intro x2v δ I j0 j1 hm
    unfold L_X11_shape_77
    have f1 := ti_b x2v
    refine ok_ite (fun h2 => ?_) (fun h2 => ?_)
    · have c3 : (4 : Int) ≤ x2v.toInt := o_le h2
      refine ok_bdv (fun d4 e5 => ?_)
      have i6 : CI ad h.1 δ0 d4 := by rw [e5]; exact cs_11_12 L I k_a0 (show 0 ≤ (0 : Int) by omega) (show (0 : Int) ≤ 3 by omega)
      have u7 := kp_I kp_r e5
      have v8 : q_V d4 = q_V δ := ((show q_V d4 = q_V δ by rw [e5]; rfl)).trans rfl
      obtain ⟨b9, o10, k11⟩ := gO_11_8 L k_a0
      refine ok_at o10 ?_
      refine ok_bind (k_X4_forget L hN (a0 := b9) k11 i6) (fun r12 hr13 => ?_)
      obtain ⟨i14, ⟨u15, u16, u17⟩⟩ := hr13
      have u18 := kp_t u7 u15
      have v19 : q_V r12 = q_V δ := (u16).trans v8
      obtain ⟨b20, o21, k22⟩ := gO_11_9 L k_a0
      refine ok_at o21 ?_
      refine ok_bind (k_X10_forget L hN (a0 := b20) k22 i14) (fun r23 hr24 => ?_)
      obtain ⟨i25, ⟨u26, u27⟩⟩ := hr24
      have u28 := kp_t u18 u26
      have v29 : q_V r23 = q_V δ := (u27).trans v19
      obtain ⟨b30, o31, k32⟩ := gO_11_10 L k_a0
      refine ok_at o31 ?_
      refine ok_bind (k_X0_forget L hN (a0 := b30) k32 i25) (fun r33 hr34 => ?_)
      obtain ⟨i35, ⟨u36, u37, u38⟩⟩ := hr34
      have u39 := kp_t u28 u36
      have v40 : q_V r33 = q_V δ := (u37).trans v29
      obtain ⟨b41, o42, k43⟩ := gO_11_1 L k_a0
      refine ok_at o42 ?_
      have f44 : (q_I r33 7 1 (Ad ad 1)).toInt = (q_I δ 7 1 (Ad ad 1)).toInt := ((show (q_I r33 7 1 (Ad ad 1)).toInt = (q_I r23 7 1 (Ad ad 1)).toInt from congrArg Int32.toInt (u36 7 1 (Ad ad 1) (by decide))).trans ((show (q_I r23 7 1 (Ad ad 1)).toInt = (q_I r12 7 1 (Ad ad 1)).toInt from congrArg Int32.toInt (u26 7 1 (Ad ad 1) (by decide))).trans ((show (q_I r12 7 1 (Ad ad 1)).toInt = (q_I d4 7 1 (Ad ad 1)).toInt from congrArg Int32.toInt (u15 7 1 (Ad ad 1) (by decide))).trans (show (q_I d4 7 1 (Ad ad 1)).toInt = (q_I δ 7 1 (Ad ad 1)).toInt from congrArg Int32.toInt (by rw [e5]; exact rI_o (by decide))))))
      exact ok_some (show CI ad h.1 δ0 r33 ∧ (kp [(0, 4), (0, 6), (2, 4), (3, 1), (4, 16), (5, 0), (5, 1), (5, 2), (6, 0), (6, 1), (6, 2), (7, 1), (7, 2), (7, 3), (7, 4), (7, 5), (7, 6), (11, 12)] δ r33 ∧ q_V r33 = q_V δ) ∧ (q_I r33 7 1 (Ad ad 1)).toInt = (q_I δ 7 1 (Ad ad 1)).toInt from ⟨i35, ⟨kp_w (by decide) u39, v40⟩, by first | with_reducible assumption | omega⟩)
    · have c45 : x2v.toInt < (4 : Int) := o_nle h2
      obtain ⟨b46, o47, k48, n49, w50⟩ := gO_11_6 L k_a0
      refine ok_at o47 ?_
      have t51 := ti_tn x2v
      refine ok_gd (fun hc52 => ?_) ?_
      · rcases hc52 with hc52 | hc52
        · have c53 : x2v.toInt < (0 : Int) := o_lt hc52
          omega
        · omega
      obtain ⟨b54, o55, k56⟩ := gE_11_6 L k_a0 o47 (i := x2v.toNatClampNeg) (by omega)
      refine ok_at o55 ?_
      refine ok_bind (k_X2_clear L hN (a0 := b54) k56 I) (fun r57 hr58 => ?_)
      obtain ⟨i59, ⟨u60, u61, u62⟩⟩ := hr58
      have u63 := kp_t kp_r u60
      have v64 : q_V r57 = q_V δ := (u61).trans rfl
      refine ok_biv (fun vx65 e66 => ?_)
      first | (have q67 := te_addc (c := 1) (n := 1) rfl x2v (by omega) (by omega); rw [← e66] at q67; obtain ⟨f68, f69, f70⟩ := q67) | (obtain ⟨q67, f68, f69, f70⟩ : ∃ q : Int, vx65.toInt = x2v.toInt + (1 : Int) + 4294967296 * q ∧ -2147483648 ≤ vx65.toInt ∧ vx65.toInt ≤ 2147483647 := by rw [e66]; exact ti_addc (c := 1) (n := 1) rfl x2v)
      refine ok_mono (ih vx65 r57 i59 (show 0 ≤ (vx65).toInt by first | with_reducible assumption | omega) (show (vx65).toInt ≤ 4 by first | with_reducible assumption | omega) (show 4 - (vx65).toInt < _ by omega)) (fun r71 hr72 => ?_)
      rcases r71 with ⟨r71v | r71n, r71d⟩
      · obtain ⟨i73, k74, m75⟩ := hr72
        have i76 : CI ad h.1 δ0 r71d := i73
        have k77 : kp [(0, 4), (0, 6), (2, 4), (3, 1), (4, 16), (5, 0), (5, 1), (5, 2), (6, 0), (6, 1), (6, 2), (7, 1), (7, 2), (7, 3), (7, 4), (7, 5), (7, 6), (11, 12)] r57 r71d ∧ q_V r71d = q_V r57 := k74
        obtain ⟨u79, u80⟩ := k77
        have u81 := kp_t u63 u79
        have v82 : q_V r71d = q_V δ := (u80).trans v64
        have m78 : (q_I r71d 7 1 (Ad ad 1)).toInt = (q_I r57 7 1 (Ad ad 1)).toInt := m75
        have p83 := m78
        have f84 : (q_I r57 7 1 (Ad ad 1)).toInt = (q_I δ 7 1 (Ad ad 1)).toInt := congrArg Int32.toInt (u60 7 1 (Ad ad 1) (by decide))
        exact (show CI ad h.1 δ0 r71d ∧ (kp [(0, 4), (0, 6), (2, 4), (3, 1), (4, 16), (5, 0), (5, 1), (5, 2), (6, 0), (6, 1), (6, 2), (7, 1), (7, 2), (7, 3), (7, 4), (7, 5), (7, 6), (11, 12)] δ r71d ∧ q_V r71d = q_V δ) ∧ (q_I r71d 7 1 (Ad ad 1)).toInt = (q_I δ 7 1 (Ad ad 1)).toInt from ⟨i76, ⟨kp_w (by decide) u81, v82⟩, by first | with_reducible assumption | omega⟩)
      · obtain ⟨i85, k86, m87⟩ := hr72
        have i88 : CI ad h.1 δ0 r71d := i85
        have k89 : kp [(0, 4), (0, 6), (2, 4), (3, 1), (4, 16), (5, 0), (5, 1), (5, 2), (6, 0), (6, 1), (6, 2), (7, 1), (7, 2), (7, 3), (7, 4), (7, 5), (7, 6), (11, 12)] r57 r71d ∧ q_V r71d = q_V r57 := k86
        obtain ⟨u91, u92⟩ := k89
        have u93 := kp_t u63 u91
        have v94 : q_V r71d = q_V δ := (u92).trans v64
        have m90 : ((False) ∧ True) := m87
        exact m90.1.elim
set_option maxHeartbeats 4000000 in
theorem k_X11_shape {ad : List Nat} {h : hp} (L : Lay TLx ad h) {δ0 : dp} {N : Nat} (hN : 10000000 ≤ N) {a0 : Nat} {x1 : Int32} (k_a0 : q_K h.1 a0 = 11) {δ : dp} (I : CI ad h.1 δ0 δ) : ok (D_X11_shape N h.1 a0 x1 δ) (fun r => CI ad h.1 δ0 r.2 ∧ (kp [(0, 4), (0, 6), (2, 4), (3, 1), (4, 16), (5, 0), (5, 1), (5, 2), (6, 0), (6, 1), (6, 2), (7, 1), (7, 2), (7, 3), (7, 4), (7, 5), (7, 6), (11, 12)] δ r.2 ∧ q_V r.2 = q_V δ) ∧ match r.1 with | .inl v => (q_I r.2 7 1 (Ad ad 1)).toInt = 0 ∧ 0 ≤ (x1).toInt ∧ (x1).toInt ≤ (q_I δ 7 1 (Ad ad 1)).toInt | .inr n => ((n = 2) ∧ (∀ a, q_I r.2 7 1 a = q_I δ 7 1 a) ∧ (((x1).toInt < 0 ∨ (q_I δ 7 1 (Ad ad 1)).toInt < (x1).toInt)))) := by
  unfold D_X11_shape
  have f1 := ti_b x1
  refine ok_ite (fun h2 => ?_) (fun h2 => ?_)
  · have c3 : x1.toInt < (0 : Int) := o_lt h2
    unfold J_X11_shape_20
    unfold J_X11_shape_21
    refine ok_bxv (k_X11_need L hN (a0 := a0) (x1 := (0 : Int32)) k_a0 I) (fun n d hp => (show CI ad h.1 δ0 d ∧ (kp [(0, 4), (0, 6), (2, 4), (3, 1), (4, 16), (5, 0), (5, 1), (5, 2), (6, 0), (6, 1), (6, 2), (7, 1), (7, 2), (7, 3), (7, 4), (7, 5), (7, 6), (11, 12)] δ d ∧ q_V d = q_V δ) ∧ ((n = 2) ∧ (∀ a, q_I d 7 1 a = q_I δ 7 1 a) ∧ (((x1).toInt < 0 ∨ (q_I δ 7 1 (Ad ad 1)).toInt < (x1).toInt))) from ⟨hp.1, ⟨kp_w (by decide) (kp_t kp_r hp.2.1.1), (hp.2.1.2).trans rfl⟩, (by have hq : n = 2 := hp.2.2.1; omega), fun a => (hp.2.1.1 7 1 a (by decide)).trans (kp_r 7 1 a (by decide)), (by have ht0 : ((0 : Int) = 0) := hp.2.2.2.2; omega)⟩)) (fun d4 hp5 => ?_)
    obtain ⟨i6, ⟨u7, u8⟩, p9⟩ := hp5
    have u10 := kp_t kp_r u7
    have v11 : q_V d4 = q_V δ := (u8).trans rfl
    exact absurd rfl (show (0 : Int) ≠ 0 from p9)
  · have c12 : (0 : Int) ≤ x1.toInt := o_nlt h2
    obtain ⟨b13, o14, k15⟩ := gO_11_0 L k_a0
    obtain rfl := gS_11_0 L k_a0 o14
    refine ok_at o14 ?_
    have f16 := cb_7_1 I k15
    refine ok_ite (fun h17 => ?_) (fun h17 => ?_)
    · have c18 : (q_I δ 7 1 (Ad ad 1)).toInt < x1.toInt := o_lt h17
      unfold J_X11_shape_20
      unfold J_X11_shape_21
      refine ok_bxv (k_X11_need L hN (a0 := a0) (x1 := (0 : Int32)) k_a0 I) (fun n d hp => (show CI ad h.1 δ0 d ∧ (kp [(0, 4), (0, 6), (2, 4), (3, 1), (4, 16), (5, 0), (5, 1), (5, 2), (6, 0), (6, 1), (6, 2), (7, 1), (7, 2), (7, 3), (7, 4), (7, 5), (7, 6), (11, 12)] δ d ∧ q_V d = q_V δ) ∧ ((n = 2) ∧ (∀ a, q_I d 7 1 a = q_I δ 7 1 a) ∧ (((x1).toInt < 0 ∨ (q_I δ 7 1 (Ad ad 1)).toInt < (x1).toInt))) from ⟨hp.1, ⟨kp_w (by decide) (kp_t kp_r hp.2.1.1), (hp.2.1.2).trans rfl⟩, (by have hq : n = 2 := hp.2.2.1; omega), fun a => (hp.2.1.1 7 1 a (by decide)).trans (kp_r 7 1 a (by decide)), (by have ht0 : ((0 : Int) = 0) := hp.2.2.2.2; omega)⟩)) (fun d19 hp20 => ?_)
      obtain ⟨i21, ⟨u22, u23⟩, p24⟩ := hp20
      have u25 := kp_t kp_r u22
      have v26 : q_V d19 = q_V δ := (u23).trans rfl
      exact absurd rfl (show (0 : Int) ≠ 0 from p24)
    · have c27 : x1.toInt ≤ (q_I δ 7 1 (Ad ad 1)).toInt := o_nlt h17
      unfold J_X11_shape_21
      refine ok_bxv (k_X11_need L hN (a0 := a0) (x1 := (1 : Int32)) k_a0 I) (fun n d hp => (show CI ad h.1 δ0 d ∧ (kp [(0, 4), (0, 6), (2, 4), (3, 1), (4, 16), (5, 0), (5, 1), (5, 2), (6, 0), (6, 1), (6, 2), (7, 1), (7, 2), (7, 3), (7, 4), (7, 5), (7, 6), (11, 12)] δ d ∧ q_V d = q_V δ) ∧ ((n = 2) ∧ (∀ a, q_I d 7 1 a = q_I δ 7 1 a) ∧ (((x1).toInt < 0 ∨ (q_I δ 7 1 (Ad ad 1)).toInt < (x1).toInt))) from ⟨hp.1, ⟨kp_w (by decide) (kp_t kp_r hp.2.1.1), (hp.2.1.2).trans rfl⟩, (by have hq : n = 2 := hp.2.2.1; omega), fun a => (hp.2.1.1 7 1 a (by decide)).trans (kp_r 7 1 a (by decide)), (by have ht0 : ((1 : Int) = 0) := hp.2.2.2.2; omega)⟩)) (fun d28 hp29 => ?_)
      obtain ⟨i30, ⟨u31, u32⟩, p33⟩ := hp29
      have u34 := kp_t kp_r u31
      have v35 : q_V d28 = q_V δ := (u32).trans rfl
      replace p33 : (1 : Int) ≠ 0 := p33
      refine ok_at o14 ?_
      refine ok_bind (k_X7_open L hN (a0 := (Ad ad 1)) (x1 := x1) k15 (show 0 ≤ (x1).toInt by first | with_reducible assumption | omega) (show (x1).toInt ≤ 500 by first | with_reducible assumption | omega) i30) (fun r36 hr37 => ?_)
      obtain ⟨i38, ⟨u41, u42, u43⟩, p39, p40⟩ := hr37
      have u44 := kp_t u34 u41
      have v45 : q_V r36 = q_V δ := (u42).trans v35
      have f46 := ti_b (q_I r36 7 5 (Ad ad 1))
      have f47 := cb_7_1 i38 k15
      obtain ⟨b48, o49, k50⟩ := gO_11_2 L k_a0
      refine ok_at o49 ?_
      refine ok_at o14 ?_
      refine ok_bind (k_X6_read L hN (a0 := b48) (a1 := (Ad ad 1)) k50 k15 i38) (fun r51 hr52 => ?_)
      obtain ⟨i53, ⟨u55, u56⟩, p54⟩ := hr52
      have u57 := kp_t u44 u55
      have v58 : q_V r51 = q_V δ := (u56).trans v45
      have f59 := ti_b (q_I r51 7 5 (Ad ad 1))
      have f60 := ti_b (q_I r51 6 0 b48)
      have f61 := ti_b (q_I r51 6 2 b48)
      refine ok_at o14 ?_
      refine ok_bind (k_X7_isSound L hN (a0 := (Ad ad 1)) k15 i53) (fun r62 hr63 => ?_)
      obtain ⟨i64, p65, p66, p67⟩ := hr63
      try rw [i64]
      have f68 := bo_t p65
      have f69 := ti_b r62.1
      refine ok_ite (fun h70 => ?_) (fun h70 => ?_)
      · have c71 : r62.1.toInt = (0 : Int) := o_eq h70
        refine ok_at o14 ?_
        have f72 : (q_I r51 7 1 (Ad ad 1)).toInt = (q_I r36 7 1 (Ad ad 1)).toInt := congrArg Int32.toInt (u55 7 1 (Ad ad 1) (by decide))
        exact ok_some (show CI ad h.1 δ0 r51 ∧ (kp [(0, 4), (0, 6), (2, 4), (3, 1), (4, 16), (5, 0), (5, 1), (5, 2), (6, 0), (6, 1), (6, 2), (7, 1), (7, 2), (7, 3), (7, 4), (7, 5), (7, 6), (11, 12)] δ r51 ∧ q_V r51 = q_V δ) ∧ (q_I r51 7 1 (Ad ad 1)).toInt = 0 ∧ 0 ≤ (x1).toInt ∧ (x1).toInt ≤ (q_I δ 7 1 (Ad ad 1)).toInt from ⟨i53, ⟨kp_w (by decide) u57, v58⟩, by first | with_reducible assumption | omega, by first | with_reducible assumption | omega, by first | with_reducible assumption | omega⟩)
      · have c73 : r62.1.toInt ≠ (0 : Int) := o_ne h70
        obtain ⟨b74, o75, k76⟩ := gO_11_1 L k_a0
        refine ok_at o75 ?_
        refine ok_at o49 ?_
        refine ok_bind (k_X5_take L hN (a0 := b74) (a1 := b48) k76 k50 (show 2 ≤ (q_I r51 6 0 b48).toInt by first | with_reducible assumption | omega) (show (q_I r51 6 0 b48).toInt ≤ 16 by first | with_reducible assumption | omega) (show 1 ≤ (q_I r51 6 2 b48).toInt by first | with_reducible assumption | omega) (show (q_I r51 6 2 b48).toInt ≤ 5 by first | with_reducible assumption | omega) i53) (fun r77 hr78 => ?_)
        obtain ⟨i79, ⟨u80, u81, u82⟩⟩ := hr78
        have u83 := kp_t u57 u80
        have v84 : q_V r77 = q_V δ := (u81).trans v58
        refine ok_mono (kl_X11_shape_77 L hN   k_a0 _ (0 : Int32) r77 i79 (show 0 ≤ (0 : Int) by first | with_reducible assumption | omega) (show (0 : Int) ≤ 4 by first | with_reducible assumption | omega) (show 4 - (0 : Int) < _ by omega)) (fun r85 hr86 => ?_)
        rcases r85 with ⟨r85v | r85n, r85d⟩
        · obtain ⟨i87, k88, m89⟩ := hr86
          have i90 : CI ad h.1 δ0 r85d := i87
          have k91 : kp [(0, 4), (0, 6), (2, 4), (3, 1), (4, 16), (5, 0), (5, 1), (5, 2), (6, 0), (6, 1), (6, 2), (7, 1), (7, 2), (7, 3), (7, 4), (7, 5), (7, 6), (11, 12)] r77 r85d ∧ q_V r85d = q_V r77 := k88
          obtain ⟨u93, u94⟩ := k91
          have u95 := kp_t u83 u93
          have v96 : q_V r85d = q_V δ := (u94).trans v84
          have m92 : (q_I r85d 7 1 (Ad ad 1)).toInt = (q_I r77 7 1 (Ad ad 1)).toInt := m89
          have p97 := m92
          have f98 := cb_7_1 i90 k15
          have f99 : (q_I r77 7 1 (Ad ad 1)).toInt = (q_I r36 7 1 (Ad ad 1)).toInt := ((show (q_I r77 7 1 (Ad ad 1)).toInt = (q_I r51 7 1 (Ad ad 1)).toInt from congrArg Int32.toInt (u80 7 1 (Ad ad 1) (by decide))).trans (show (q_I r51 7 1 (Ad ad 1)).toInt = (q_I r36 7 1 (Ad ad 1)).toInt from congrArg Int32.toInt (u55 7 1 (Ad ad 1) (by decide))))
          exact (show CI ad h.1 δ0 r85d ∧ (kp [(0, 4), (0, 6), (2, 4), (3, 1), (4, 16), (5, 0), (5, 1), (5, 2), (6, 0), (6, 1), (6, 2), (7, 1), (7, 2), (7, 3), (7, 4), (7, 5), (7, 6), (11, 12)] δ r85d ∧ q_V r85d = q_V δ) ∧ (q_I r85d 7 1 (Ad ad 1)).toInt = 0 ∧ 0 ≤ (x1).toInt ∧ (x1).toInt ≤ (q_I δ 7 1 (Ad ad 1)).toInt from ⟨i90, ⟨kp_w (by decide) u95, v96⟩, by first | with_reducible assumption | omega, by first | with_reducible assumption | omega, by first | with_reducible assumption | omega⟩)
        · obtain ⟨i100, k101, m102⟩ := hr86
          have i103 : CI ad h.1 δ0 r85d := i100
          have k104 : kp [(0, 4), (0, 6), (2, 4), (3, 1), (4, 16), (5, 0), (5, 1), (5, 2), (6, 0), (6, 1), (6, 2), (7, 1), (7, 2), (7, 3), (7, 4), (7, 5), (7, 6), (11, 12)] r77 r85d ∧ q_V r85d = q_V r77 := k101
          obtain ⟨u106, u107⟩ := k104
          have u108 := kp_t u83 u106
          have v109 : q_V r85d = q_V δ := (u107).trans v84
          have m105 : ((False) ∧ True) := m102
          exact m105.1.elim
set_option maxHeartbeats 4000000 in
theorem k_X11_thief {ad : List Nat} {h : hp} (L : Lay TLx ad h) {δ0 : dp} {N : Nat} (hN : 10000000 ≤ N) {a0 : Nat} {x1 : Int32} (k_a0 : q_K h.1 a0 = 11) {δ : dp} (I : CI ad h.1 δ0 δ) : ok (D_X11_thief N h.1 a0 x1 δ) (fun r => CI ad h.1 δ0 r.2 ∧ (kp [(7, 1), (7, 2), (7, 3), (7, 4), (7, 5), (7, 6), (8, 2), (8, 3), (9, 2), (9, 3), (9, 4), (11, 5)] δ r.2) ∧ match r.1 with | .inl v => (q_I r.2 7 1 (Ad ad 1)).toInt = 0 ∧ 0 ≤ (x1).toInt ∧ (x1).toInt ≤ (q_I δ 7 1 (Ad ad 1)).toInt | .inr n => ((n = 2) ∧ (∀ a, q_I r.2 7 1 a = q_I δ 7 1 a) ∧ (((x1).toInt < 0 ∨ (q_I δ 7 1 (Ad ad 1)).toInt < (x1).toInt)))) := by
  unfold D_X11_thief
  have f1 := ti_b x1
  refine ok_ite (fun h2 => ?_) (fun h2 => ?_)
  · have c3 : x1.toInt < (0 : Int) := o_lt h2
    unfold J_X11_thief_20
    unfold J_X11_thief_21
    refine ok_bxv (k_X11_need L hN (a0 := a0) (x1 := (0 : Int32)) k_a0 I) (fun n d hp => (show CI ad h.1 δ0 d ∧ (kp [(7, 1), (7, 2), (7, 3), (7, 4), (7, 5), (7, 6), (8, 2), (8, 3), (9, 2), (9, 3), (9, 4), (11, 5)] δ d) ∧ ((n = 2) ∧ (∀ a, q_I d 7 1 a = q_I δ 7 1 a) ∧ (((x1).toInt < 0 ∨ (q_I δ 7 1 (Ad ad 1)).toInt < (x1).toInt))) from ⟨hp.1, kp_w (by decide) (kp_t kp_r hp.2.1.1), (by have hq : n = 2 := hp.2.2.1; omega), fun a => (hp.2.1.1 7 1 a (by decide)).trans (kp_r 7 1 a (by decide)), (by have ht0 : ((0 : Int) = 0) := hp.2.2.2.2; omega)⟩)) (fun d4 hp5 => ?_)
    obtain ⟨i6, ⟨u7, u8⟩, p9⟩ := hp5
    have u10 := kp_t kp_r u7
    exact absurd rfl (show (0 : Int) ≠ 0 from p9)
  · have c11 : (0 : Int) ≤ x1.toInt := o_nlt h2
    obtain ⟨b12, o13, k14⟩ := gO_11_0 L k_a0
    obtain rfl := gS_11_0 L k_a0 o13
    refine ok_at o13 ?_
    have f15 := cb_7_1 I k14
    refine ok_ite (fun h16 => ?_) (fun h16 => ?_)
    · have c17 : (q_I δ 7 1 (Ad ad 1)).toInt < x1.toInt := o_lt h16
      unfold J_X11_thief_20
      unfold J_X11_thief_21
      refine ok_bxv (k_X11_need L hN (a0 := a0) (x1 := (0 : Int32)) k_a0 I) (fun n d hp => (show CI ad h.1 δ0 d ∧ (kp [(7, 1), (7, 2), (7, 3), (7, 4), (7, 5), (7, 6), (8, 2), (8, 3), (9, 2), (9, 3), (9, 4), (11, 5)] δ d) ∧ ((n = 2) ∧ (∀ a, q_I d 7 1 a = q_I δ 7 1 a) ∧ (((x1).toInt < 0 ∨ (q_I δ 7 1 (Ad ad 1)).toInt < (x1).toInt))) from ⟨hp.1, kp_w (by decide) (kp_t kp_r hp.2.1.1), (by have hq : n = 2 := hp.2.2.1; omega), fun a => (hp.2.1.1 7 1 a (by decide)).trans (kp_r 7 1 a (by decide)), (by have ht0 : ((0 : Int) = 0) := hp.2.2.2.2; omega)⟩)) (fun d18 hp19 => ?_)
      obtain ⟨i20, ⟨u21, u22⟩, p23⟩ := hp19
      have u24 := kp_t kp_r u21
      exact absurd rfl (show (0 : Int) ≠ 0 from p23)
    · have c25 : x1.toInt ≤ (q_I δ 7 1 (Ad ad 1)).toInt := o_nlt h16
      unfold J_X11_thief_21
      refine ok_bxv (k_X11_need L hN (a0 := a0) (x1 := (1 : Int32)) k_a0 I) (fun n d hp => (show CI ad h.1 δ0 d ∧ (kp [(7, 1), (7, 2), (7, 3), (7, 4), (7, 5), (7, 6), (8, 2), (8, 3), (9, 2), (9, 3), (9, 4), (11, 5)] δ d) ∧ ((n = 2) ∧ (∀ a, q_I d 7 1 a = q_I δ 7 1 a) ∧ (((x1).toInt < 0 ∨ (q_I δ 7 1 (Ad ad 1)).toInt < (x1).toInt))) from ⟨hp.1, kp_w (by decide) (kp_t kp_r hp.2.1.1), (by have hq : n = 2 := hp.2.2.1; omega), fun a => (hp.2.1.1 7 1 a (by decide)).trans (kp_r 7 1 a (by decide)), (by have ht0 : ((1 : Int) = 0) := hp.2.2.2.2; omega)⟩)) (fun d26 hp27 => ?_)
      obtain ⟨i28, ⟨u29, u30⟩, p31⟩ := hp27
      have u32 := kp_t kp_r u29
      replace p31 : (1 : Int) ≠ 0 := p31
      refine ok_at o13 ?_
      refine ok_bind (k_X7_open L hN (a0 := (Ad ad 1)) (x1 := x1) k14 (show 0 ≤ (x1).toInt by first | with_reducible assumption | omega) (show (x1).toInt ≤ 500 by first | with_reducible assumption | omega) i28) (fun r33 hr34 => ?_)
      obtain ⟨i35, ⟨u38, u39, u40⟩, p36, p37⟩ := hr34
      have u41 := kp_t u32 u38
      have f42 := ti_b (q_I r33 7 5 (Ad ad 1))
      have f43 := cb_7_1 i35 k14
      obtain ⟨b44, o45, k46⟩ := gO_11_3 L k_a0
      refine ok_at o45 ?_
      refine ok_at o13 ?_
      obtain ⟨b47, o48, k49, n50, w51⟩ := gO_11_4 L k_a0
      refine ok_at o48 ?_
      have f52 : (q_I r33 11 5 a0).toInt = (q_I δ 11 5 a0).toInt := ((show (q_I r33 11 5 a0).toInt = (q_I d26 11 5 a0).toInt from congrArg Int32.toInt (u38 11 5 a0 (by decide))).trans (show (q_I d26 11 5 a0).toInt = (q_I δ 11 5 a0).toInt from congrArg Int32.toInt (u29 11 5 a0 (by decide))))
      have f53 := cb_11_5 I k_a0
      have t54 := ti_tn (q_I r33 11 5 a0)
      refine ok_gd (fun hc55 => ?_) ?_
      · rcases hc55 with hc55 | hc55
        · have c56 : (q_I r33 11 5 a0).toInt < (0 : Int) := o_lt hc55
          omega
        · omega
      obtain ⟨b57, o58, k59⟩ := gE_11_4 L k_a0 o48 (i := (q_I r33 11 5 a0).toNatClampNeg) (by omega)
      refine ok_at o58 ?_
      refine ok_bind (k_X9_read L hN (a0 := b44) (a1 := (Ad ad 1)) (a2 := b57) k46 k14 k59 i35) (fun r60 hr61 => ?_)
      obtain ⟨i62, u63⟩ := hr61
      have u64 := kp_t u41 u63
      refine ok_at o13 ?_
      refine ok_bind (k_X7_isSound L hN (a0 := (Ad ad 1)) k14 i62) (fun r65 hr66 => ?_)
      obtain ⟨i67, p68, p69, p70⟩ := hr66
      try rw [i67]
      have f71 := bo_t p68
      have f72 := ti_b r65.1
      have f73 := ti_b (q_I r60 7 5 (Ad ad 1))
      refine ok_ite (fun h74 => ?_) (fun h74 => ?_)
      · have c75 : r65.1.toInt = (0 : Int) := o_eq h74
        refine ok_at o13 ?_
        have f76 : (q_I r60 7 1 (Ad ad 1)).toInt = (q_I r33 7 1 (Ad ad 1)).toInt := congrArg Int32.toInt (u63 7 1 (Ad ad 1) (by decide))
        exact ok_some (show CI ad h.1 δ0 r60 ∧ (kp [(7, 1), (7, 2), (7, 3), (7, 4), (7, 5), (7, 6), (8, 2), (8, 3), (9, 2), (9, 3), (9, 4), (11, 5)] δ r60) ∧ (q_I r60 7 1 (Ad ad 1)).toInt = 0 ∧ 0 ≤ (x1).toInt ∧ (x1).toInt ≤ (q_I δ 7 1 (Ad ad 1)).toInt from ⟨i62, kp_w (by decide) u64, by first | with_reducible assumption | omega, by first | with_reducible assumption | omega, by first | with_reducible assumption | omega⟩)
      · have c77 : r65.1.toInt ≠ (0 : Int) := o_ne h74
        have f78 : (q_I r60 11 5 a0).toInt = (q_I r33 11 5 a0).toInt := congrArg Int32.toInt (u63 11 5 a0 (by decide))
        refine ok_ite (fun h79 => ?_) (fun h79 => ?_)
        · have c80 : (q_I r60 11 5 a0).toInt < (4 : Int) := o_lt h79
          first | (have q85 := te_addc (c := 1) (n := 1) rfl (q_I r60 11 5 a0) (by omega) (by omega); obtain ⟨f86, f87, f88⟩ := q85) | (obtain ⟨q85, f86, f87, f88⟩ := ti_addc (c := 1) (n := 1) rfl (q_I r60 11 5 a0))
          refine ok_bdv (fun d81 e82 => ?_)
          have i83 : CI ad h.1 δ0 d81 := by rw [e82]; exact cs_11_5 L i62 k_a0 (show 0 ≤ ((q_I r60 11 5 a0) + (1 : Int32)).toInt by omega) (show ((q_I r60 11 5 a0) + (1 : Int32)).toInt ≤ 4 by omega)
          have u89 := kp_I u64 e82
          have f90 : (q_I d81 7 1 (Ad ad 1)).toInt = (q_I r33 7 1 (Ad ad 1)).toInt := ((show (q_I d81 7 1 (Ad ad 1)).toInt = (q_I r60 7 1 (Ad ad 1)).toInt from congrArg Int32.toInt (by rw [e82]; exact rI_o (by decide))).trans (show (q_I r60 7 1 (Ad ad 1)).toInt = (q_I r33 7 1 (Ad ad 1)).toInt from congrArg Int32.toInt (u63 7 1 (Ad ad 1) (by decide))))
          exact ok_some (show CI ad h.1 δ0 d81 ∧ (kp [(7, 1), (7, 2), (7, 3), (7, 4), (7, 5), (7, 6), (8, 2), (8, 3), (9, 2), (9, 3), (9, 4), (11, 5)] δ d81) ∧ (q_I d81 7 1 (Ad ad 1)).toInt = 0 ∧ 0 ≤ (x1).toInt ∧ (x1).toInt ≤ (q_I δ 7 1 (Ad ad 1)).toInt from ⟨i83, kp_w (by decide) u89, by first | with_reducible assumption | omega, by first | with_reducible assumption | omega, by first | with_reducible assumption | omega⟩)
        · have c91 : (4 : Int) ≤ (q_I r60 11 5 a0).toInt := o_nlt h79
          have f92 : (q_I r60 7 1 (Ad ad 1)).toInt = (q_I r33 7 1 (Ad ad 1)).toInt := congrArg Int32.toInt (u63 7 1 (Ad ad 1) (by decide))
          exact ok_some (show CI ad h.1 δ0 r60 ∧ (kp [(7, 1), (7, 2), (7, 3), (7, 4), (7, 5), (7, 6), (8, 2), (8, 3), (9, 2), (9, 3), (9, 4), (11, 5)] δ r60) ∧ (q_I r60 7 1 (Ad ad 1)).toInt = 0 ∧ 0 ≤ (x1).toInt ∧ (x1).toInt ≤ (q_I δ 7 1 (Ad ad 1)).toInt from ⟨i62, kp_w (by decide) u64, by first | with_reducible assumption | omega, by first | with_reducible assumption | omega, by first | with_reducible assumption | omega⟩)
set_option maxHeartbeats 4000000 in
theorem kl_X11_split_134 {ad : List Nat} {h : hp} (L : Lay TLx ad h) {δ0 : dp} {N : Nat} (hN : 10000000 ≤ N) {a0 : Nat} {x1 : Int32} {x2 : Int32} {x3 : Int32} (k_a0 : q_K h.1 a0 = 11) : ∀ (n : Nat) (a4v : Nat) (a5v : Nat) (x6v : Int32) (x7v : Int32) (x9v : Int32) (x10v : Int32) (δ : dp), CI ad h.1 δ0 δ → q_K h.1 a4v = 2 → q_K h.1 a5v = 2 → 0 ≤ (x10v).toInt → (x10v).toInt ≤ 2000 → (x7v).toInt ≤ 2000 → 2000 - (x10v).toInt < (n : Int) → ok (L_X11_split_134 N h.1 a0 x1 x2 x3 n a4v a5v x6v x7v x9v x10v δ) (fun r => CI ad h.1 δ0 r.2 ∧ (kp [(1, 3), (1, 4), (1, 5), (1, 6), (1, 7), (1, 8), (1, 9), (1, 10), (1, 11), (1, 12), (1, 13), (1, 14), (1, 15), (2, 4), (3, 1), (4, 16)] δ r.2 ∧ q_V r.2 = q_V δ) ∧ match r.1 with | .inl v => True | .inr n => ((False) ∧ True)) := by
  intro n
  induction n with
  | zero =>
    intro a4v a5v x6v x7v x9v x10v δ I j0 j1 j2 j3 j4 hm
    have f1 := ti_b x10v
    have f2 := ti_b x7v
    exfalso; omega
  | succ n ih =>
    intro a4v a5v x6v x7v x9v x10v δ I j0 j1 j2 j3 j4 hm
    unfold L_X11_split_134
    have f1 := ti_b x10v
    have f2 := ti_b x7v
    refine ok_ite (fun h3 => ?_) (fun h3 => ?_)
    · have c4 : x7v.toInt ≤ x10v.toInt := o_le h3
      exact ok_some (show CI ad h.1 δ0 δ ∧ (kp [(1, 3), (1, 4), (1, 5), (1, 6), (1, 7), (1, 8), (1, 9), (1, 10), (1, 11), (1, 12), (1, 13), (1, 14), (1, 15), (2, 4), (3, 1), (4, 16)] δ δ ∧ q_V δ = q_V δ) ∧ True from ⟨I, ⟨kp_w (by decide) kp_r, rfl⟩, trivial⟩)
    · have c5 : x10v.toInt < x7v.toInt := o_nle h3
      obtain ⟨b6, o7, k8⟩ := gO_2_0 L j0
      refine ok_at o7 ?_
      refine ok_bind (k_X3_at L hN (a0 := b6) (x1 := x6v) k8 I) (fun r9 hr10 => ?_)
      have i11 := hr10
      try rw [i11]
      have f12 := ti_b r9.1
      refine ok_bind (k_X2_make L hN (a0 := a4v) (x1 := (1 : Int32)) (x2 := r9.1) j0 I) (fun r13 hr14 => ?_)
      obtain ⟨i15, ⟨u16, u17⟩⟩ := hr14
      have u18 := kp_t kp_r u16
      have v19 : q_V r13.2 = q_V δ := (u17).trans rfl
      have f20 := ti_b r13.1
      refine ok_bind (k_X2_make L hN (a0 := a5v) (x1 := (0 : Int32)) (x2 := r9.1) j1 i15) (fun r21 hr22 => ?_)
      obtain ⟨i23, ⟨u24, u25⟩⟩ := hr22
      have u26 := kp_t u18 u24
      have v27 : q_V r21.2 = q_V δ := (u25).trans v19
      have f28 := ti_b r21.1
      have f31 := ti_b x9v
      first | (have q33 := te_add r13.1 r21.1 (by omega) (by omega); obtain ⟨f34, f35, f36⟩ := q33) | (obtain ⟨q33, f34, f35, f36⟩ := ti_add r13.1 r21.1)
      refine ok_biv (fun vx29 e30 => ?_)
      first | (have q37 := te_add x9v (r13.1 + r21.1) (by omega) (by omega); rw [← e30] at q37; obtain ⟨f38, f39, f40⟩ := q37) | (obtain ⟨q37, f38, f39, f40⟩ : ∃ q : Int, vx29.toInt = x9v.toInt + (r13.1 + r21.1).toInt + 4294967296 * q ∧ -2147483648 ≤ vx29.toInt ∧ vx29.toInt ≤ 2147483647 := by rw [e30]; exact ti_add x9v (r13.1 + r21.1))
      refine ok_biv (fun vx41 e42 => ?_)
      first | (have q43 := te_addc (c := 1) (n := 1) rfl x10v (by omega) (by omega); rw [← e42] at q43; obtain ⟨f44, f45, f46⟩ := q43) | (obtain ⟨q43, f44, f45, f46⟩ : ∃ q : Int, vx41.toInt = x10v.toInt + (1 : Int) + 4294967296 * q ∧ -2147483648 ≤ vx41.toInt ∧ vx41.toInt ≤ 2147483647 := by rw [e42]; exact ti_addc (c := 1) (n := 1) rfl x10v)
      refine ok_mono (ih a4v a5v x6v x7v vx29 vx41 r21.2 i23 j0 j1 (show 0 ≤ (vx41).toInt by first | with_reducible assumption | omega) (show (vx41).toInt ≤ 2000 by first | with_reducible assumption | omega) (show (x7v).toInt ≤ 2000 by first | with_reducible assumption | omega) (show 2000 - (vx41).toInt < _ by omega)) (fun r47 hr48 => ?_)
      rcases r47 with ⟨r47v | r47n, r47d⟩
      · obtain ⟨i49, k50, m51⟩ := hr48
        have i52 : CI ad h.1 δ0 r47d := i49
        have k53 : kp [(1, 3), (1, 4), (1, 5), (1, 6), (1, 7), (1, 8), (1, 9), (1, 10), (1, 11), (1, 12), (1, 13), (1, 14), (1, 15), (2, 4), (3, 1), (4, 16)] r21.2 r47d ∧ q_V r47d = q_V r21.2 := k50
        obtain ⟨u55, u56⟩ := k53
        have u57 := kp_t u26 u55
        have v58 : q_V r47d = q_V δ := (u56).trans v27
        exact (show CI ad h.1 δ0 r47d ∧ (kp [(1, 3), (1, 4), (1, 5), (1, 6), (1, 7), (1, 8), (1, 9), (1, 10), (1, 11), (1, 12), (1, 13), (1, 14), (1, 15), (2, 4), (3, 1), (4, 16)] δ r47d ∧ q_V r47d = q_V δ) ∧ True from ⟨i52, ⟨kp_w (by decide) u57, v58⟩, trivial⟩)
      · obtain ⟨i59, k60, m61⟩ := hr48
        have i62 : CI ad h.1 δ0 r47d := i59
        have k63 : kp [(1, 3), (1, 4), (1, 5), (1, 6), (1, 7), (1, 8), (1, 9), (1, 10), (1, 11), (1, 12), (1, 13), (1, 14), (1, 15), (2, 4), (3, 1), (4, 16)] r21.2 r47d ∧ q_V r47d = q_V r21.2 := k60
        obtain ⟨u65, u66⟩ := k63
        have u67 := kp_t u26 u65
        have v68 : q_V r47d = q_V δ := (u66).trans v27
        have m64 : ((False) ∧ True) := m61
        exact m64.1.elim
set_option maxHeartbeats 4000000 in
theorem k_X11_split {ad : List Nat} {h : hp} (L : Lay TLx ad h) {δ0 : dp} {N : Nat} (hN : 10000000 ≤ N) {a0 : Nat} {x1 : Int32} {x2 : Int32} {x3 : Int32} (k_a0 : q_K h.1 a0 = 11) {δ : dp} (I : CI ad h.1 δ0 δ) : ok (D_X11_split N h.1 a0 x1 x2 x3 δ) (fun r => CI ad h.1 δ0 r.2 ∧ (kp [(1, 3), (1, 4), (1, 5), (1, 6), (1, 7), (1, 8), (1, 9), (1, 10), (1, 11), (1, 12), (1, 13), (1, 14), (1, 15), (2, 4), (3, 1), (4, 16)] δ r.2 ∧ q_V r.2 = q_V δ) ∧ match r.1 with | .inl v => True | .inr n => ((n = 0 ∨ n = 2) ∧ True)) := by
  unfold D_X11_split
  refine ok_bxv (k_X11_needHouse L hN (a0 := a0) (x1 := x1) k_a0 I) (fun n d hp => (show CI ad h.1 δ0 d ∧ (kp [(1, 3), (1, 4), (1, 5), (1, 6), (1, 7), (1, 8), (1, 9), (1, 10), (1, 11), (1, 12), (1, 13), (1, 14), (1, 15), (2, 4), (3, 1), (4, 16)] δ d ∧ q_V d = q_V δ) ∧ ((n = 0 ∨ n = 2) ∧ True) from ⟨hp.1, ⟨kp_w (by decide) (kp_t kp_r hp.2.1.1), (hp.2.1.2).trans rfl⟩, (by have hq : n = 0 := hp.2.2.1; omega), trivial⟩)) (fun d1 hp2 => ?_)
  obtain ⟨i3, ⟨u4, u5⟩, p6, p7⟩ := hp2
  have u8 := kp_t kp_r u4
  have v9 : q_V d1 = q_V δ := (u5).trans rfl
  have f10 := ti_b x1
  refine ok_bxv (k_X11_needHouse L hN (a0 := a0) (x1 := x2) k_a0 i3) (fun n d hp => (show CI ad h.1 δ0 d ∧ (kp [(1, 3), (1, 4), (1, 5), (1, 6), (1, 7), (1, 8), (1, 9), (1, 10), (1, 11), (1, 12), (1, 13), (1, 14), (1, 15), (2, 4), (3, 1), (4, 16)] δ d ∧ q_V d = q_V δ) ∧ ((n = 0 ∨ n = 2) ∧ True) from ⟨hp.1, ⟨kp_w (by decide) (kp_t u8 hp.2.1.1), (hp.2.1.2).trans v9⟩, (by have hq : n = 0 := hp.2.2.1; omega), trivial⟩)) (fun d11 hp12 => ?_)
  obtain ⟨i13, ⟨u14, u15⟩, p16, p17⟩ := hp12
  have u18 := kp_t u8 u14
  have v19 : q_V d11 = q_V δ := (u15).trans v9
  have f20 := ti_b x2
  refine ok_ite (fun h21 => ?_) (fun h21 => ?_)
  · have c22 : x1.toInt = x2.toInt := o_eq h21
    unfold J_X11_split_28
    unfold J_X11_split_29
    refine ok_bxv (k_X11_need L hN (a0 := a0) (x1 := (0 : Int32)) k_a0 i13) (fun n d hp => (show CI ad h.1 δ0 d ∧ (kp [(1, 3), (1, 4), (1, 5), (1, 6), (1, 7), (1, 8), (1, 9), (1, 10), (1, 11), (1, 12), (1, 13), (1, 14), (1, 15), (2, 4), (3, 1), (4, 16)] δ d ∧ q_V d = q_V δ) ∧ ((n = 0 ∨ n = 2) ∧ True) from ⟨hp.1, ⟨kp_w (by decide) (kp_t u18 hp.2.1.1), (hp.2.1.2).trans v19⟩, (by have hq : n = 2 := hp.2.2.1; omega), trivial⟩)) (fun d23 hp24 => ?_)
    obtain ⟨i25, ⟨u26, u27⟩, p28⟩ := hp24
    have u29 := kp_t u18 u26
    have v30 : q_V d23 = q_V δ := (u27).trans v19
    exact absurd rfl (show (0 : Int) ≠ 0 from p28)
  · have c31 : x1.toInt ≠ x2.toInt := o_ne h21
    refine ok_bind (k_X11_isNumber L hN (a0 := a0) (x1 := x3) k_a0 i13) (fun r32 hr33 => ?_)
    obtain ⟨i34, p35⟩ := hr33
    try rw [i34]
    have f36 := bo_t p35
    have f37 := ti_b r32.1
    refine ok_ite (fun h38 => ?_) (fun h38 => ?_)
    · have c39 : r32.1.toInt = (0 : Int) := o_eq h38
      unfold J_X11_split_28
      unfold J_X11_split_29
      refine ok_bxv (k_X11_need L hN (a0 := a0) (x1 := (0 : Int32)) k_a0 i13) (fun n d hp => (show CI ad h.1 δ0 d ∧ (kp [(1, 3), (1, 4), (1, 5), (1, 6), (1, 7), (1, 8), (1, 9), (1, 10), (1, 11), (1, 12), (1, 13), (1, 14), (1, 15), (2, 4), (3, 1), (4, 16)] δ d ∧ q_V d = q_V δ) ∧ ((n = 0 ∨ n = 2) ∧ True) from ⟨hp.1, ⟨kp_w (by decide) (kp_t u18 hp.2.1.1), (hp.2.1.2).trans v19⟩, (by have hq : n = 2 := hp.2.2.1; omega), trivial⟩)) (fun d40 hp41 => ?_)
      obtain ⟨i42, ⟨u43, u44⟩, p45⟩ := hp41
      have u46 := kp_t u18 u43
      have v47 : q_V d40 = q_V δ := (u44).trans v19
      exact absurd rfl (show (0 : Int) ≠ 0 from p45)
    · have c48 : r32.1.toInt ≠ (0 : Int) := o_ne h38
      unfold J_X11_split_29
      refine ok_bxv (k_X11_need L hN (a0 := a0) (x1 := (1 : Int32)) k_a0 i13) (fun n d hp => (show CI ad h.1 δ0 d ∧ (kp [(1, 3), (1, 4), (1, 5), (1, 6), (1, 7), (1, 8), (1, 9), (1, 10), (1, 11), (1, 12), (1, 13), (1, 14), (1, 15), (2, 4), (3, 1), (4, 16)] δ d ∧ q_V d = q_V δ) ∧ ((n = 0 ∨ n = 2) ∧ True) from ⟨hp.1, ⟨kp_w (by decide) (kp_t u18 hp.2.1.1), (hp.2.1.2).trans v19⟩, (by have hq : n = 2 := hp.2.2.1; omega), trivial⟩)) (fun d49 hp50 => ?_)
      obtain ⟨i51, ⟨u52, u53⟩, p54⟩ := hp50
      have u55 := kp_t u18 u52
      have v56 : q_V d49 = q_V δ := (u53).trans v19
      replace p54 : (1 : Int) ≠ 0 := p54
      obtain ⟨b57, o58, k59, n60, w61⟩ := gO_11_6 L k_a0
      refine ok_at o58 ?_
      have t62 := ti_tn x1
      refine ok_gd (fun hc63 => ?_) ?_
      · rcases hc63 with hc63 | hc63
        · have c64 : x1.toInt < (0 : Int) := o_lt hc63
          omega
        · omega
      obtain ⟨b65, o66, k67⟩ := gE_11_6 L k_a0 o58 (i := x1.toNatClampNeg) (by omega)
      refine ok_at o66 ?_
      refine ok_at o58 ?_
      have t68 := ti_tn x2
      refine ok_gd (fun hc69 => ?_) ?_
      · rcases hc69 with hc69 | hc69
        · have c70 : x2.toInt < (0 : Int) := o_lt hc69
          omega
        · omega
      obtain ⟨b71, o72, k73⟩ := gE_11_6 L k_a0 o58 (i := x2.toNatClampNeg) (by omega)
      refine ok_at o72 ?_
      obtain ⟨b74, o75, k76⟩ := gO_2_0 L k67
      refine ok_at o75 ?_
      refine ok_bind (k_X3_firstFrom L hN (a0 := b74) (x1 := x3) k76 i51) (fun r77 hr78 => ?_)
      obtain ⟨i79, p80, p81⟩ := hr78
      try rw [i79]
      have f82 := ti_b r77.1
      have f83 : (q_I d49 3 1 b74).toInt = (q_I δ 3 1 b74).toInt := ((show (q_I d49 3 1 b74).toInt = (q_I d11 3 1 b74).toInt from congrArg Int32.toInt (u52 3 1 b74 (by decide))).trans ((show (q_I d11 3 1 b74).toInt = (q_I d1 3 1 b74).toInt from congrArg Int32.toInt (u14 3 1 b74 (by decide))).trans (show (q_I d1 3 1 b74).toInt = (q_I δ 3 1 b74).toInt from congrArg Int32.toInt (u4 3 1 b74 (by decide)))))
      obtain ⟨b84, o85, k86, ⟨n87, n88⟩, w89⟩ := gO_3_0 L k76
      have f90 := cb_3_1 I k76 o85
      refine ok_at o75 ?_
      refine ok_biv (fun vx91 e92 => ?_)
      first | (have q93 := te_sub (q_I d49 3 1 b74) r77.1 (by omega) (by omega); rw [← e92] at q93; obtain ⟨f94, f95, f96⟩ := q93) | (obtain ⟨q93, f94, f95, f96⟩ : ∃ q : Int, vx91.toInt = (q_I d49 3 1 b74).toInt - r77.1.toInt + 4294967296 * q ∧ -2147483648 ≤ vx91.toInt ∧ vx91.toInt ≤ 2147483647 := by rw [e92]; exact ti_sub (q_I d49 3 1 b74) r77.1)
      refine ok_at o75 ?_
      obtain ⟨b97, o98, k99⟩ := gO_2_0 L k73
      refine ok_at o98 ?_
      refine ok_bind (k_X3_commonFrom L hN (a0 := b74) (x1 := r77.1) (a2 := b97) k76 k99 (show 0 ≤ (r77.1).toInt by first | with_reducible assumption | omega) (show (r77.1).toInt ≤ 2000 by first | with_reducible assumption | omega) i51) (fun r100 hr101 => ?_)
      have i102 := hr101
      try rw [i102]
      have f103 := ti_b r100.1
      refine ok_bind (k_X2_refusal L hN (a0 := b71) (x1 := (vx91 - r100.1)) (x2 := (0 : Int32)) k73 i51) (fun r104 hr105 => ?_)
      have i106 := hr105
      try rw [i106]
      have f107 := ti_b r104.1
      refine ok_ite (fun h108 => ?_) (fun h108 => ?_)
      · have c109 : r104.1.toInt = (0 : Int) := o_eq h108
        refine ok_bind (k_X2_refusal L hN (a0 := b65) (x1 := (0 : Int32)) (x2 := vx91) k67 i51) (fun r110 hr111 => ?_)
        have i112 := hr111
        try rw [i112]
        have f113 := ti_b r110.1
        unfold J_X11_split_113
        refine ok_ite (fun h114 => ?_) (fun h114 => ?_)
        · have c115 : (0 : Int) ≤ r110.1.toInt := o_le h114
          obtain ⟨b116, o117, k118⟩ := gO_11_8 L k_a0
          refine ok_at o117 ?_
          refine ok_bind (k_X4_forget L hN (a0 := b116) k118 i51) (fun r119 hr120 => ?_)
          obtain ⟨i121, ⟨u122, u123, u124⟩⟩ := hr120
          have u125 := kp_t u55 u122
          have v126 : q_V r119 = q_V δ := (u123).trans v56
          refine ok_mono (kl_X11_split_134 L hN   k_a0 _ b65 b71 r77.1 vx91 (0 : Int32) (0 : Int32) r119 i121 k67 k73 (show 0 ≤ (0 : Int) by first | with_reducible assumption | omega) (show (0 : Int) ≤ 2000 by first | with_reducible assumption | omega) (show (vx91).toInt ≤ 2000 by first | with_reducible assumption | omega) (show 2000 - (0 : Int) < _ by omega)) (fun r127 hr128 => ?_)
          rcases r127 with ⟨r127v | r127n, r127d⟩
          · obtain ⟨i129, k130, m131⟩ := hr128
            have i132 : CI ad h.1 δ0 r127d := i129
            have k133 : kp [(1, 3), (1, 4), (1, 5), (1, 6), (1, 7), (1, 8), (1, 9), (1, 10), (1, 11), (1, 12), (1, 13), (1, 14), (1, 15), (2, 4), (3, 1), (4, 16)] r119 r127d ∧ q_V r127d = q_V r119 := k130
            obtain ⟨u135, u136⟩ := k133
            have u137 := kp_t u125 u135
            have v138 : q_V r127d = q_V δ := (u136).trans v126
            exact (show CI ad h.1 δ0 r127d ∧ (kp [(1, 3), (1, 4), (1, 5), (1, 6), (1, 7), (1, 8), (1, 9), (1, 10), (1, 11), (1, 12), (1, 13), (1, 14), (1, 15), (2, 4), (3, 1), (4, 16)] δ r127d ∧ q_V r127d = q_V δ) ∧ True from ⟨i132, ⟨kp_w (by decide) u137, v138⟩, trivial⟩)
          · obtain ⟨i139, k140, m141⟩ := hr128
            have i142 : CI ad h.1 δ0 r127d := i139
            have k143 : kp [(1, 3), (1, 4), (1, 5), (1, 6), (1, 7), (1, 8), (1, 9), (1, 10), (1, 11), (1, 12), (1, 13), (1, 14), (1, 15), (2, 4), (3, 1), (4, 16)] r119 r127d ∧ q_V r127d = q_V r119 := k140
            obtain ⟨u145, u146⟩ := k143
            have u147 := kp_t u125 u145
            have v148 : q_V r127d = q_V δ := (u146).trans v126
            have m144 : ((False) ∧ True) := m141
            exact m144.1.elim
        · have c149 : r110.1.toInt < (0 : Int) := o_nle h114
          exact ok_some (show CI ad h.1 δ0 d49 ∧ (kp [(1, 3), (1, 4), (1, 5), (1, 6), (1, 7), (1, 8), (1, 9), (1, 10), (1, 11), (1, 12), (1, 13), (1, 14), (1, 15), (2, 4), (3, 1), (4, 16)] δ d49 ∧ q_V d49 = q_V δ) ∧ True from ⟨i51, ⟨kp_w (by decide) u55, v56⟩, trivial⟩)
      · have c150 : r104.1.toInt ≠ (0 : Int) := o_ne h108
        unfold J_X11_split_113
        refine ok_ite (fun h151 => ?_) (fun h151 => ?_)
        · have c152 : (0 : Int) ≤ r104.1.toInt := o_le h151
          obtain ⟨b153, o154, k155⟩ := gO_11_8 L k_a0
          refine ok_at o154 ?_
          refine ok_bind (k_X4_forget L hN (a0 := b153) k155 i51) (fun r156 hr157 => ?_)
          obtain ⟨i158, ⟨u159, u160, u161⟩⟩ := hr157
          have u162 := kp_t u55 u159
          have v163 : q_V r156 = q_V δ := (u160).trans v56
          refine ok_mono (kl_X11_split_134 L hN   k_a0 _ b65 b71 r77.1 vx91 (0 : Int32) (0 : Int32) r156 i158 k67 k73 (show 0 ≤ (0 : Int) by first | with_reducible assumption | omega) (show (0 : Int) ≤ 2000 by first | with_reducible assumption | omega) (show (vx91).toInt ≤ 2000 by first | with_reducible assumption | omega) (show 2000 - (0 : Int) < _ by omega)) (fun r164 hr165 => ?_)
          rcases r164 with ⟨r164v | r164n, r164d⟩
          · obtain ⟨i166, k167, m168⟩ := hr165
            have i169 : CI ad h.1 δ0 r164d := i166
            have k170 : kp [(1, 3), (1, 4), (1, 5), (1, 6), (1, 7), (1, 8), (1, 9), (1, 10), (1, 11), (1, 12), (1, 13), (1, 14), (1, 15), (2, 4), (3, 1), (4, 16)] r156 r164d ∧ q_V r164d = q_V r156 := k167
            obtain ⟨u172, u173⟩ := k170
            have u174 := kp_t u162 u172
            have v175 : q_V r164d = q_V δ := (u173).trans v163
            exact (show CI ad h.1 δ0 r164d ∧ (kp [(1, 3), (1, 4), (1, 5), (1, 6), (1, 7), (1, 8), (1, 9), (1, 10), (1, 11), (1, 12), (1, 13), (1, 14), (1, 15), (2, 4), (3, 1), (4, 16)] δ r164d ∧ q_V r164d = q_V δ) ∧ True from ⟨i169, ⟨kp_w (by decide) u174, v175⟩, trivial⟩)
          · obtain ⟨i176, k177, m178⟩ := hr165
            have i179 : CI ad h.1 δ0 r164d := i176
            have k180 : kp [(1, 3), (1, 4), (1, 5), (1, 6), (1, 7), (1, 8), (1, 9), (1, 10), (1, 11), (1, 12), (1, 13), (1, 14), (1, 15), (2, 4), (3, 1), (4, 16)] r156 r164d ∧ q_V r164d = q_V r156 := k177
            obtain ⟨u182, u183⟩ := k180
            have u184 := kp_t u162 u182
            have v185 : q_V r164d = q_V δ := (u183).trans v163
            have m181 : ((False) ∧ True) := m178
            exact m181.1.elim
        · have c186 : r104.1.toInt < (0 : Int) := o_nle h151
          exact ok_some (show CI ad h.1 δ0 d49 ∧ (kp [(1, 3), (1, 4), (1, 5), (1, 6), (1, 7), (1, 8), (1, 9), (1, 10), (1, 11), (1, 12), (1, 13), (1, 14), (1, 15), (2, 4), (3, 1), (4, 16)] δ d49 ∧ q_V d49 = q_V δ) ∧ True from ⟨i51, ⟨kp_w (by decide) u55, v56⟩, trivial⟩)
set_option maxHeartbeats 4000000 in
theorem kl_X11_reached_21 {ad : List Nat} {h : hp} (L : Lay TLx ad h) {δ0 : dp} {N : Nat} (hN : 10000000 ≤ N) {a0 : Nat} {x1 : Int32} (k_a0 : q_K h.1 a0 = 11) : ∀ (n : Nat) (x2v : Int32) (x3v : Int32) (δ : dp), CI ad h.1 δ0 δ → 0 ≤ (x1).toInt → (x1).toInt < 5 → 0 ≤ (x3v).toInt → (x3v).toInt ≤ 17 → 17 - (x3v).toInt < (n : Int) → ok (L_X11_reached_21 N h.1 a0 x1 n x2v x3v δ) (fun r => CI ad h.1 δ0 r.2 ∧ (kp [(1, 3), (1, 4), (1, 5), (1, 6), (1, 7), (1, 8), (1, 9), (1, 10), (1, 11), (1, 12), (1, 13), (1, 14), (1, 15), (3, 1)] δ r.2 ∧ q_V r.2 = q_V δ) ∧ match r.1 with | .inl v => True | .inr n => ((False) ∧ True)) := by
  intro n
  induction n with
  | zero =>
    intro x2v x3v δ I j0 j1 j2 j3 hm
    have f1 := ti_b x1
    have f2 := ti_b x3v
    exfalso; omega
  | succ n ih =>
    intro x2v x3v δ I j0 j1 j2 j3 hm
    unfold L_X11_reached_21
    have f1 := ti_b x1
    have f2 := ti_b x3v
    obtain ⟨b3, o4, k5⟩ := gO_11_1 L k_a0
    refine ok_at o4 ?_
    refine ok_bind (k_X5_mostInSets L hN (a0 := b3) k5 I) (fun r6 hr7 => ?_)
    obtain ⟨i8, p9⟩ := hr7
    try rw [i8]
    have f10 := ti_b r6.1
    have f11 := cb_5_0 I k5
    refine ok_ite (fun h12 => ?_) (fun h12 => ?_)
    · have c13 : r6.1.toInt < x3v.toInt := o_lt h12
      exact ok_some (show CI ad h.1 δ0 δ ∧ (kp [(1, 3), (1, 4), (1, 5), (1, 6), (1, 7), (1, 8), (1, 9), (1, 10), (1, 11), (1, 12), (1, 13), (1, 14), (1, 15), (3, 1)] δ δ ∧ q_V δ = q_V δ) ∧ True from ⟨I, ⟨kp_w (by decide) kp_r, rfl⟩, trivial⟩)
    · have c14 : x3v.toInt ≤ r6.1.toInt := o_nlt h12
      obtain ⟨b15, o16, k17⟩ := gO_11_9 L k_a0
      refine ok_at o16 ?_
      refine ok_bind (k_X10_learn L hN (a0 := b15) (x1 := x1) (x2 := x3v) k17 (show 0 ≤ (x1).toInt by first | with_reducible assumption | omega) (show (x1).toInt < 5 by first | with_reducible assumption | omega) (show 0 ≤ (x3v).toInt by first | with_reducible assumption | omega) (show (x3v).toInt ≤ 16 by first | with_reducible assumption | omega) I) (fun r18 hr19 => ?_)
      obtain ⟨i20, ⟨u21, u22⟩⟩ := hr19
      have u23 := kp_t kp_r u21
      have v24 : q_V r18 = q_V δ := (u22).trans rfl
      refine ok_at o16 ?_
      obtain ⟨b25, o26, k27, n28, w29⟩ := gO_10_4 L k17
      refine ok_at o26 ?_
      have t30 := ti_tn x1
      refine ok_gd (fun hc31 => ?_) ?_
      · rcases hc31 with hc31 | hc31
        · have c32 : x1.toInt < (0 : Int) := o_lt hc31
          omega
        · omega
      obtain ⟨b33, o34, k35, n36, w37⟩ := gE_10_4 L k17 o26 (i := x1.toNatClampNeg) (by omega)
      refine ok_at o34 ?_
      have t38 := ti_tn x3v
      refine ok_gd (fun hc39 => ?_) ?_
      · rcases hc39 with hc39 | hc39
        · have c40 : x3v.toInt < (0 : Int) := o_lt hc39
          omega
        · omega
      have f41 := ti_b (q_R r18 b33 x3v.toNatClampNeg)
      have f42 := ti_b x2v
      refine ok_ite (fun h43 => ?_) (fun h43 => ?_)
      · have c44 : (q_R r18 b33 x3v.toNatClampNeg).toInt = x2v.toInt := o_eq h43
        exact ok_some (show CI ad h.1 δ0 r18 ∧ (kp [(1, 3), (1, 4), (1, 5), (1, 6), (1, 7), (1, 8), (1, 9), (1, 10), (1, 11), (1, 12), (1, 13), (1, 14), (1, 15), (3, 1)] δ r18 ∧ q_V r18 = q_V δ) ∧ True from ⟨i20, ⟨kp_w (by decide) u23, v24⟩, trivial⟩)
      · have c45 : (q_R r18 b33 x3v.toNatClampNeg).toInt ≠ x2v.toInt := o_ne h43
        refine ok_biv (fun vx46 e47 => ?_)
        first | (have q48 := te_addc (c := 1) (n := 1) rfl x3v (by omega) (by omega); rw [← e47] at q48; obtain ⟨f49, f50, f51⟩ := q48) | (obtain ⟨q48, f49, f50, f51⟩ : ∃ q : Int, vx46.toInt = x3v.toInt + (1 : Int) + 4294967296 * q ∧ -2147483648 ≤ vx46.toInt ∧ vx46.toInt ≤ 2147483647 := by rw [e47]; exact ti_addc (c := 1) (n := 1) rfl x3v)
        refine ok_mono (ih x2v vx46 r18 i20 (show 0 ≤ (x1).toInt by first | with_reducible assumption | omega) (show (x1).toInt < 5 by first | with_reducible assumption | omega) (show 0 ≤ (vx46).toInt by first | with_reducible assumption | omega) (show (vx46).toInt ≤ 17 by first | with_reducible assumption | omega) (show 17 - (vx46).toInt < _ by omega)) (fun r52 hr53 => ?_)
        rcases r52 with ⟨r52v | r52n, r52d⟩
        · obtain ⟨i54, k55, m56⟩ := hr53
          have i57 : CI ad h.1 δ0 r52d := i54
          have k58 : kp [(1, 3), (1, 4), (1, 5), (1, 6), (1, 7), (1, 8), (1, 9), (1, 10), (1, 11), (1, 12), (1, 13), (1, 14), (1, 15), (3, 1)] r18 r52d ∧ q_V r52d = q_V r18 := k55
          obtain ⟨u60, u61⟩ := k58
          have u62 := kp_t u23 u60
          have v63 : q_V r52d = q_V δ := (u61).trans v24
          exact (show CI ad h.1 δ0 r52d ∧ (kp [(1, 3), (1, 4), (1, 5), (1, 6), (1, 7), (1, 8), (1, 9), (1, 10), (1, 11), (1, 12), (1, 13), (1, 14), (1, 15), (3, 1)] δ r52d ∧ q_V r52d = q_V δ) ∧ True from ⟨i57, ⟨kp_w (by decide) u62, v63⟩, trivial⟩)
        · obtain ⟨i64, k65, m66⟩ := hr53
          have i67 : CI ad h.1 δ0 r52d := i64
          have k68 : kp [(1, 3), (1, 4), (1, 5), (1, 6), (1, 7), (1, 8), (1, 9), (1, 10), (1, 11), (1, 12), (1, 13), (1, 14), (1, 15), (3, 1)] r18 r52d ∧ q_V r52d = q_V r18 := k65
          obtain ⟨u70, u71⟩ := k68
          have u72 := kp_t u23 u70
          have v73 : q_V r52d = q_V δ := (u71).trans v24
          have m69 : ((False) ∧ True) := m66
          exact m69.1.elim
set_option maxHeartbeats 4000000 in
theorem k_X11_reached {ad : List Nat} {h : hp} (L : Lay TLx ad h) {δ0 : dp} {N : Nat} (hN : 10000000 ≤ N) {a0 : Nat} {x1 : Int32} (k_a0 : q_K h.1 a0 = 11) {δ : dp} (I : CI ad h.1 δ0 δ) : ok (D_X11_reached N h.1 a0 x1 δ) (fun r => CI ad h.1 δ0 r.2 ∧ (kp [(1, 3), (1, 4), (1, 5), (1, 6), (1, 7), (1, 8), (1, 9), (1, 10), (1, 11), (1, 12), (1, 13), (1, 14), (1, 15), (3, 1)] δ r.2 ∧ q_V r.2 = q_V δ) ∧ match r.1 with | .inl v => True | .inr n => ((n = 2) ∧ True)) := by
  unfold D_X11_reached
  refine ok_bind (k_X11_mayGoThroughAll L hN (a0 := a0) (x1 := x1) (x2 := (0 : Int32)) k_a0 I) (fun r1 hr2 => ?_)
  obtain ⟨i3, p4, p5⟩ := hr2
  try rw [i3]
  have f6 := bo_t p4
  have f7 := ti_b r1.1
  have f8 := ti_b x1
  replace p5 : ((r1.1).toInt = 1 → 0 ≤ (x1).toInt ∧ (x1).toInt < 5 ∧ 0 ≤ (0 : Int) ∧ (0 : Int) ≤ 16) := p5
  refine ok_bxv (k_X11_need L hN (a0 := a0) (x1 := r1.1) k_a0 I) (fun n d hp => (show CI ad h.1 δ0 d ∧ (kp [(1, 3), (1, 4), (1, 5), (1, 6), (1, 7), (1, 8), (1, 9), (1, 10), (1, 11), (1, 12), (1, 13), (1, 14), (1, 15), (3, 1)] δ d ∧ q_V d = q_V δ) ∧ ((n = 2) ∧ True) from ⟨hp.1, ⟨kp_w (by decide) (kp_t kp_r hp.2.1.1), (hp.2.1.2).trans rfl⟩, (by have hq : n = 2 := hp.2.2.1; omega), trivial⟩)) (fun d9 hp10 => ?_)
  obtain ⟨i11, ⟨u12, u13⟩, p14⟩ := hp10
  have u15 := kp_t kp_r u12
  have v16 : q_V d9 = q_V δ := (u13).trans rfl
  obtain ⟨b17, o18, k19⟩ := gO_11_1 L k_a0
  refine ok_at o18 ?_
  refine ok_bind (k_X5_boundOf L hN (a0 := b17) (x1 := x1) k19 i11) (fun r20 hr21 => ?_)
  have i22 := hr21
  try rw [i22]
  have f23 := ti_b r20.1
  refine ok_mono (kl_X11_reached_21 L hN   k_a0 _ r20.1 (0 : Int32) d9 i11 (show 0 ≤ (x1).toInt by first | with_reducible assumption | omega) (show (x1).toInt < 5 by first | with_reducible assumption | omega) (show 0 ≤ (0 : Int) by first | with_reducible assumption | omega) (show (0 : Int) ≤ 17 by first | with_reducible assumption | omega) (show 17 - (0 : Int) < _ by omega)) (fun r24 hr25 => ?_)
  rcases r24 with ⟨r24v | r24n, r24d⟩
  · obtain ⟨i26, k27, m28⟩ := hr25
    have i29 : CI ad h.1 δ0 r24d := i26
    have k30 : kp [(1, 3), (1, 4), (1, 5), (1, 6), (1, 7), (1, 8), (1, 9), (1, 10), (1, 11), (1, 12), (1, 13), (1, 14), (1, 15), (3, 1)] d9 r24d ∧ q_V r24d = q_V d9 := k27
    obtain ⟨u32, u33⟩ := k30
    have u34 := kp_t u15 u32
    have v35 : q_V r24d = q_V δ := (u33).trans v16
    exact (show CI ad h.1 δ0 r24d ∧ (kp [(1, 3), (1, 4), (1, 5), (1, 6), (1, 7), (1, 8), (1, 9), (1, 10), (1, 11), (1, 12), (1, 13), (1, 14), (1, 15), (3, 1)] δ r24d ∧ q_V r24d = q_V δ) ∧ True from ⟨i29, ⟨kp_w (by decide) u34, v35⟩, trivial⟩)
  · obtain ⟨i36, k37, m38⟩ := hr25
    have i39 : CI ad h.1 δ0 r24d := i36
    have k40 : kp [(1, 3), (1, 4), (1, 5), (1, 6), (1, 7), (1, 8), (1, 9), (1, 10), (1, 11), (1, 12), (1, 13), (1, 14), (1, 15), (3, 1)] d9 r24d ∧ q_V r24d = q_V d9 := k37
    obtain ⟨u42, u43⟩ := k40
    have u44 := kp_t u15 u42
    have v45 : q_V r24d = q_V δ := (u43).trans v16
    have m41 : ((False) ∧ True) := m38
    exact m41.1.elim
set_option maxHeartbeats 4000000 in
theorem kl_X11_seeds_72 {ad : List Nat} {h : hp} (L : Lay TLx ad h) {δ0 : dp} {N : Nat} (hN : 10000000 ≤ N) {a0 : Nat} {x1 : Int32} {x2 : Int32} {x3 : Int32} {x4 : Int32} {x5 : Int32} (k_a0 : q_K h.1 a0 = 11) : ∀ (n : Nat) (x6v : Int32) (x7v : Int32) (x8v : Int32) (x9v : Int32) (δ : dp), CI ad h.1 δ0 δ → 0 ≤ (x1).toInt → (x1).toInt < 4 → 0 ≤ (x2).toInt → (x2).toInt < 4 → 0 ≤ (x9v).toInt → (x9v).toInt ≤ 20 → (x8v).toInt ≤ 20 → 20 - (x9v).toInt < (n : Int) → ok (L_X11_seeds_72 N h.1 a0 x1 x2 x3 x4 x5 n x6v x7v x8v x9v δ) (fun r => CI ad h.1 δ0 r.2 ∧ (kp [(1, 3), (1, 4), (1, 5), (1, 6), (1, 7), (1, 8), (1, 9), (1, 10), (1, 11), (1, 12), (1, 13), (1, 14), (1, 15), (3, 1), (4, 5), (4, 6), (4, 7), (4, 8), (4, 9), (4, 10), (4, 11), (4, 12), (4, 13), (4, 14), (4, 15), (4, 16), (4, 19)] δ r.2) ∧ match r.1 with | .inl v => True | .inr n => ((False) ∧ True)) := by
  intro n
  induction n with
  | zero =>
    intro x6v x7v x8v x9v δ I j0 j1 j2 j3 j4 j5 j6 hm
    have f1 := ti_b x1
    have f2 := ti_b x2
    have f3 := ti_b x9v
    have f4 := ti_b x8v
    exfalso; omega
  | succ n ih =>
    intro x6v x7v x8v x9v δ I j0 j1 j2 j3 j4 j5 j6 hm
    unfold L_X11_seeds_72
    have f1 := ti_b x1
    have f2 := ti_b x2
    have f3 := ti_b x9v
    have f4 := ti_b x8v
    refine ok_ite (fun h5 => ?_) (fun h5 => ?_)
    · have c6 : x8v.toInt ≤ x9v.toInt := o_le h5
      have f7 := ti_b x5
      refine ok_ite (fun h8 => ?_) (fun h8 => ?_)
      · have c9 : x5.toInt = (0 : Int) := o_eq h8
        unfold J_X11_seeds_148
        exact ok_some (show CI ad h.1 δ0 δ ∧ (kp [(1, 3), (1, 4), (1, 5), (1, 6), (1, 7), (1, 8), (1, 9), (1, 10), (1, 11), (1, 12), (1, 13), (1, 14), (1, 15), (3, 1), (4, 5), (4, 6), (4, 7), (4, 8), (4, 9), (4, 10), (4, 11), (4, 12), (4, 13), (4, 14), (4, 15), (4, 16), (4, 19)] δ δ) ∧ True from ⟨I, kp_w (by decide) kp_r, trivial⟩)
      · have c10 : x5.toInt ≠ (0 : Int) := o_ne h8
        unfold J_X11_seeds_148
        exact ok_some (show CI ad h.1 δ0 δ ∧ (kp [(1, 3), (1, 4), (1, 5), (1, 6), (1, 7), (1, 8), (1, 9), (1, 10), (1, 11), (1, 12), (1, 13), (1, 14), (1, 15), (3, 1), (4, 5), (4, 6), (4, 7), (4, 8), (4, 9), (4, 10), (4, 11), (4, 12), (4, 13), (4, 14), (4, 15), (4, 16), (4, 19)] δ δ) ∧ True from ⟨I, kp_w (by decide) kp_r, trivial⟩)
    · have c11 : x9v.toInt < x8v.toInt := o_nle h5
      obtain ⟨b12, o13, k14⟩ := gO_11_8 L k_a0
      refine ok_at o13 ?_
      obtain ⟨b15, o16, k17, n18, w19⟩ := gO_11_4 L k_a0
      refine ok_at o16 ?_
      have t20 := ti_tn x1
      refine ok_gd (fun hc21 => ?_) ?_
      · rcases hc21 with hc21 | hc21
        · have c22 : x1.toInt < (0 : Int) := o_lt hc21
          omega
        · omega
      obtain ⟨b23, o24, k25⟩ := gE_11_4 L k_a0 o16 (i := x1.toNatClampNeg) (by omega)
      refine ok_at o24 ?_
      obtain ⟨b26, o27, k28, n29, w30⟩ := gO_11_6 L k_a0
      refine ok_at o27 ?_
      have t31 := ti_tn x2
      refine ok_gd (fun hc32 => ?_) ?_
      · rcases hc32 with hc32 | hc32
        · have c33 : x2.toInt < (0 : Int) := o_lt hc32
          omega
        · omega
      obtain ⟨b34, o35, k36⟩ := gE_11_6 L k_a0 o27 (i := x2.toNatClampNeg) (by omega)
      refine ok_at o35 ?_
      obtain ⟨b37, o38, k39⟩ := gO_2_0 L k36
      refine ok_at o38 ?_
      refine ok_bind (k_X4_go L hN (a0 := b12) (a1 := b23) (a2 := b37) (x3 := (x3 + x9v)) k14 k25 k39 I) (fun r40 hr41 => ?_)
      obtain ⟨i42, u43⟩ := hr41
      have u44 := kp_t kp_r u43
      refine ok_at o13 ?_
      have f45 := ti_b (q_I r40 4 11 b12)
      have f46 := ti_b x6v
      refine ok_ite (fun h47 => ?_) (fun h47 => ?_)
      · have c48 : (q_I r40 4 11 b12).toInt ≤ x6v.toInt := o_le h47
        unfold J_X11_seeds_130
        refine ok_biv (fun vx49 e50 => ?_)
        first | (have q51 := te_addc (c := 1) (n := 1) rfl x9v (by omega) (by omega); rw [← e50] at q51; obtain ⟨f52, f53, f54⟩ := q51) | (obtain ⟨q51, f52, f53, f54⟩ : ∃ q : Int, vx49.toInt = x9v.toInt + (1 : Int) + 4294967296 * q ∧ -2147483648 ≤ vx49.toInt ∧ vx49.toInt ≤ 2147483647 := by rw [e50]; exact ti_addc (c := 1) (n := 1) rfl x9v)
        refine ok_mono (ih x6v x7v x8v vx49 r40 i42 (show 0 ≤ (x1).toInt by first | with_reducible assumption | omega) (show (x1).toInt < 4 by first | with_reducible assumption | omega) (show 0 ≤ (x2).toInt by first | with_reducible assumption | omega) (show (x2).toInt < 4 by first | with_reducible assumption | omega) (show 0 ≤ (vx49).toInt by first | with_reducible assumption | omega) (show (vx49).toInt ≤ 20 by first | with_reducible assumption | omega) (show (x8v).toInt ≤ 20 by first | with_reducible assumption | omega) (show 20 - (vx49).toInt < _ by omega)) (fun r55 hr56 => ?_)
        rcases r55 with ⟨r55v | r55n, r55d⟩
        · obtain ⟨i57, k58, m59⟩ := hr56
          have i60 : CI ad h.1 δ0 r55d := i57
          have k61 : kp [(1, 3), (1, 4), (1, 5), (1, 6), (1, 7), (1, 8), (1, 9), (1, 10), (1, 11), (1, 12), (1, 13), (1, 14), (1, 15), (3, 1), (4, 5), (4, 6), (4, 7), (4, 8), (4, 9), (4, 10), (4, 11), (4, 12), (4, 13), (4, 14), (4, 15), (4, 16), (4, 19)] r40 r55d := k58
          have u63 := k61
          have u64 := kp_t u44 u63
          exact (show CI ad h.1 δ0 r55d ∧ (kp [(1, 3), (1, 4), (1, 5), (1, 6), (1, 7), (1, 8), (1, 9), (1, 10), (1, 11), (1, 12), (1, 13), (1, 14), (1, 15), (3, 1), (4, 5), (4, 6), (4, 7), (4, 8), (4, 9), (4, 10), (4, 11), (4, 12), (4, 13), (4, 14), (4, 15), (4, 16), (4, 19)] δ r55d) ∧ True from ⟨i60, kp_w (by decide) u64, trivial⟩)
        · obtain ⟨i65, k66, m67⟩ := hr56
          have i68 : CI ad h.1 δ0 r55d := i65
          have k69 : kp [(1, 3), (1, 4), (1, 5), (1, 6), (1, 7), (1, 8), (1, 9), (1, 10), (1, 11), (1, 12), (1, 13), (1, 14), (1, 15), (3, 1), (4, 5), (4, 6), (4, 7), (4, 8), (4, 9), (4, 10), (4, 11), (4, 12), (4, 13), (4, 14), (4, 15), (4, 16), (4, 19)] r40 r55d := k66
          have u71 := k69
          have u72 := kp_t u44 u71
          have m70 : ((False) ∧ True) := m67
          exact m70.1.elim
      · have c73 : x6v.toInt < (q_I r40 4 11 b12).toInt := o_nle h47
        refine ok_at o13 ?_
        refine ok_biv (fun vx74 e75 => ?_)
        have f76 : vx74.toInt = (q_I r40 4 11 b12).toInt := congrArg Int32.toInt e75
        unfold J_X11_seeds_130
        refine ok_biv (fun vx77 e78 => ?_)
        first | (have q79 := te_addc (c := 1) (n := 1) rfl x9v (by omega) (by omega); rw [← e78] at q79; obtain ⟨f80, f81, f82⟩ := q79) | (obtain ⟨q79, f80, f81, f82⟩ : ∃ q : Int, vx77.toInt = x9v.toInt + (1 : Int) + 4294967296 * q ∧ -2147483648 ≤ vx77.toInt ∧ vx77.toInt ≤ 2147483647 := by rw [e78]; exact ti_addc (c := 1) (n := 1) rfl x9v)
        refine ok_mono (ih vx74 x9v x8v vx77 r40 i42 (show 0 ≤ (x1).toInt by first | with_reducible assumption | omega) (show (x1).toInt < 4 by first | with_reducible assumption | omega) (show 0 ≤ (x2).toInt by first | with_reducible assumption | omega) (show (x2).toInt < 4 by first | with_reducible assumption | omega) (show 0 ≤ (vx77).toInt by first | with_reducible assumption | omega) (show (vx77).toInt ≤ 20 by first | with_reducible assumption | omega) (show (x8v).toInt ≤ 20 by first | with_reducible assumption | omega) (show 20 - (vx77).toInt < _ by omega)) (fun r83 hr84 => ?_)
        rcases r83 with ⟨r83v | r83n, r83d⟩
        · obtain ⟨i85, k86, m87⟩ := hr84
          have i88 : CI ad h.1 δ0 r83d := i85
          have k89 : kp [(1, 3), (1, 4), (1, 5), (1, 6), (1, 7), (1, 8), (1, 9), (1, 10), (1, 11), (1, 12), (1, 13), (1, 14), (1, 15), (3, 1), (4, 5), (4, 6), (4, 7), (4, 8), (4, 9), (4, 10), (4, 11), (4, 12), (4, 13), (4, 14), (4, 15), (4, 16), (4, 19)] r40 r83d := k86
          have u91 := k89
          have u92 := kp_t u44 u91
          exact (show CI ad h.1 δ0 r83d ∧ (kp [(1, 3), (1, 4), (1, 5), (1, 6), (1, 7), (1, 8), (1, 9), (1, 10), (1, 11), (1, 12), (1, 13), (1, 14), (1, 15), (3, 1), (4, 5), (4, 6), (4, 7), (4, 8), (4, 9), (4, 10), (4, 11), (4, 12), (4, 13), (4, 14), (4, 15), (4, 16), (4, 19)] δ r83d) ∧ True from ⟨i88, kp_w (by decide) u92, trivial⟩)
        · obtain ⟨i93, k94, m95⟩ := hr84
          have i96 : CI ad h.1 δ0 r83d := i93
          have k97 : kp [(1, 3), (1, 4), (1, 5), (1, 6), (1, 7), (1, 8), (1, 9), (1, 10), (1, 11), (1, 12), (1, 13), (1, 14), (1, 15), (3, 1), (4, 5), (4, 6), (4, 7), (4, 8), (4, 9), (4, 10), (4, 11), (4, 12), (4, 13), (4, 14), (4, 15), (4, 16), (4, 19)] r40 r83d := k94
          have u99 := k97
          have u100 := kp_t u44 u99
          have m98 : ((False) ∧ True) := m95
          exact m98.1.elim
set_option maxHeartbeats 4000000 in
theorem k_X11_seeds {ad : List Nat} {h : hp} (L : Lay TLx ad h) {δ0 : dp} {N : Nat} (hN : 10000000 ≤ N) {a0 : Nat} {x1 : Int32} {x2 : Int32} {x3 : Int32} {x4 : Int32} {x5 : Int32} (k_a0 : q_K h.1 a0 = 11) {δ : dp} (I : CI ad h.1 δ0 δ) : ok (D_X11_seeds N h.1 a0 x1 x2 x3 x4 x5 δ) (fun r => CI ad h.1 δ0 r.2 ∧ (kp [(1, 3), (1, 4), (1, 5), (1, 6), (1, 7), (1, 8), (1, 9), (1, 10), (1, 11), (1, 12), (1, 13), (1, 14), (1, 15), (3, 1), (4, 5), (4, 6), (4, 7), (4, 8), (4, 9), (4, 10), (4, 11), (4, 12), (4, 13), (4, 14), (4, 15), (4, 16), (4, 19)] δ r.2) ∧ match r.1 with | .inl v => True | .inr n => ((n = 0 ∨ n = 1 ∨ n = 2) ∧ True)) := by
  unfold D_X11_seeds
  refine ok_bxv (k_X11_needHouse L hN (a0 := a0) (x1 := x2) k_a0 I) (fun n d hp => (show CI ad h.1 δ0 d ∧ (kp [(1, 3), (1, 4), (1, 5), (1, 6), (1, 7), (1, 8), (1, 9), (1, 10), (1, 11), (1, 12), (1, 13), (1, 14), (1, 15), (3, 1), (4, 5), (4, 6), (4, 7), (4, 8), (4, 9), (4, 10), (4, 11), (4, 12), (4, 13), (4, 14), (4, 15), (4, 16), (4, 19)] δ d) ∧ ((n = 0 ∨ n = 1 ∨ n = 2) ∧ True) from ⟨hp.1, kp_w (by decide) (kp_t kp_r hp.2.1.1), (by have hq : n = 0 := hp.2.2.1; omega), trivial⟩)) (fun d1 hp2 => ?_)
  obtain ⟨i3, ⟨u4, u5⟩, p6, p7⟩ := hp2
  have u8 := kp_t kp_r u4
  have f9 := ti_b x2
  refine ok_bxv (k_X11_needThief L hN (a0 := a0) (x1 := x1) k_a0 i3) (fun n d hp => (show CI ad h.1 δ0 d ∧ (kp [(1, 3), (1, 4), (1, 5), (1, 6), (1, 7), (1, 8), (1, 9), (1, 10), (1, 11), (1, 12), (1, 13), (1, 14), (1, 15), (3, 1), (4, 5), (4, 6), (4, 7), (4, 8), (4, 9), (4, 10), (4, 11), (4, 12), (4, 13), (4, 14), (4, 15), (4, 16), (4, 19)] δ d) ∧ ((n = 0 ∨ n = 1 ∨ n = 2) ∧ True) from ⟨hp.1, kp_w (by decide) (kp_t u8 hp.2.1.1), (by have hq : n = 1 := hp.2.2.1; omega), trivial⟩)) (fun d10 hp11 => ?_)
  obtain ⟨i12, ⟨u13, u14⟩, p15, p16⟩ := hp11
  have u17 := kp_t u8 u13
  have f18 := ti_b x1
  have f19 := ti_b x4
  refine ok_ite (fun h20 => ?_) (fun h20 => ?_)
  · have c21 : x4.toInt < (1 : Int) := o_lt h20
    unfold J_X11_seeds_39
    unfold J_X11_seeds_40
    refine ok_bxv (k_X11_need L hN (a0 := a0) (x1 := (0 : Int32)) k_a0 i12) (fun n d hp => (show CI ad h.1 δ0 d ∧ (kp [(1, 3), (1, 4), (1, 5), (1, 6), (1, 7), (1, 8), (1, 9), (1, 10), (1, 11), (1, 12), (1, 13), (1, 14), (1, 15), (3, 1), (4, 5), (4, 6), (4, 7), (4, 8), (4, 9), (4, 10), (4, 11), (4, 12), (4, 13), (4, 14), (4, 15), (4, 16), (4, 19)] δ d) ∧ ((n = 0 ∨ n = 1 ∨ n = 2) ∧ True) from ⟨hp.1, kp_w (by decide) (kp_t u17 hp.2.1.1), (by have hq : n = 2 := hp.2.2.1; omega), trivial⟩)) (fun d22 hp23 => ?_)
    obtain ⟨i24, ⟨u25, u26⟩, p27⟩ := hp23
    have u28 := kp_t u17 u25
    exact absurd rfl (show (0 : Int) ≠ 0 from p27)
  · have c29 : (1 : Int) ≤ x4.toInt := o_nlt h20
    refine ok_ite (fun h30 => ?_) (fun h30 => ?_)
    · have c31 : (20 : Int) < x4.toInt := o_lt h30
      unfold J_X11_seeds_39
      unfold J_X11_seeds_40
      refine ok_bxv (k_X11_need L hN (a0 := a0) (x1 := (0 : Int32)) k_a0 i12) (fun n d hp => (show CI ad h.1 δ0 d ∧ (kp [(1, 3), (1, 4), (1, 5), (1, 6), (1, 7), (1, 8), (1, 9), (1, 10), (1, 11), (1, 12), (1, 13), (1, 14), (1, 15), (3, 1), (4, 5), (4, 6), (4, 7), (4, 8), (4, 9), (4, 10), (4, 11), (4, 12), (4, 13), (4, 14), (4, 15), (4, 16), (4, 19)] δ d) ∧ ((n = 0 ∨ n = 1 ∨ n = 2) ∧ True) from ⟨hp.1, kp_w (by decide) (kp_t u17 hp.2.1.1), (by have hq : n = 2 := hp.2.2.1; omega), trivial⟩)) (fun d32 hp33 => ?_)
      obtain ⟨i34, ⟨u35, u36⟩, p37⟩ := hp33
      have u38 := kp_t u17 u35
      exact absurd rfl (show (0 : Int) ≠ 0 from p37)
    · have c39 : x4.toInt ≤ (20 : Int) := o_nlt h30
      have f40 := ti_b x5
      refine ok_ite (fun h41 => ?_) (fun h41 => ?_)
      · have c42 : x5.toInt = (0 : Int) := o_eq h41
        unfold J_X11_seeds_35
        unfold J_X11_seeds_40
        refine ok_bxv (k_X11_need L hN (a0 := a0) (x1 := (1 : Int32)) k_a0 i12) (fun n d hp => (show CI ad h.1 δ0 d ∧ (kp [(1, 3), (1, 4), (1, 5), (1, 6), (1, 7), (1, 8), (1, 9), (1, 10), (1, 11), (1, 12), (1, 13), (1, 14), (1, 15), (3, 1), (4, 5), (4, 6), (4, 7), (4, 8), (4, 9), (4, 10), (4, 11), (4, 12), (4, 13), (4, 14), (4, 15), (4, 16), (4, 19)] δ d) ∧ ((n = 0 ∨ n = 1 ∨ n = 2) ∧ True) from ⟨hp.1, kp_w (by decide) (kp_t u17 hp.2.1.1), (by have hq : n = 2 := hp.2.2.1; omega), trivial⟩)) (fun d43 hp44 => ?_)
        obtain ⟨i45, ⟨u46, u47⟩, p48⟩ := hp44
        have u49 := kp_t u17 u46
        replace p48 : (1 : Int) ≠ 0 := p48
        obtain ⟨b50, o51, k52, n53, w54⟩ := gO_11_4 L k_a0
        refine ok_at o51 ?_
        have t55 := ti_tn x1
        refine ok_gd (fun hc56 => ?_) ?_
        · rcases hc56 with hc56 | hc56
          · have c57 : x1.toInt < (0 : Int) := o_lt hc56
            omega
          · omega
        obtain ⟨b58, o59, k60⟩ := gE_11_4 L k_a0 o51 (i := x1.toNatClampNeg) (by omega)
        refine ok_at o59 ?_
        have f61 : (q_I d43 8 3 b58).toInt = (q_I δ 8 3 b58).toInt := ((show (q_I d43 8 3 b58).toInt = (q_I d10 8 3 b58).toInt from congrArg Int32.toInt (u46 8 3 b58 (by decide))).trans ((show (q_I d10 8 3 b58).toInt = (q_I d1 8 3 b58).toInt from congrArg Int32.toInt (u13 8 3 b58 (by decide))).trans (show (q_I d1 8 3 b58).toInt = (q_I δ 8 3 b58).toInt from congrArg Int32.toInt (u4 8 3 b58 (by decide)))))
        have f62 := cb_8_3 I k60
        refine ok_ite (fun h63 => ?_) (fun h63 => ?_)
        · have c64 : (q_I d43 8 3 b58).toInt = (0 : Int) := o_eq h63
          unfold J_X11_seeds_67
          refine ok_mono (kl_X11_seeds_72 L hN   k_a0 _ (-1 : Int32) (0 : Int32) (1 : Int32) (0 : Int32) d43 i45 (show 0 ≤ (x1).toInt by first | with_reducible assumption | omega) (show (x1).toInt < 4 by first | with_reducible assumption | omega) (show 0 ≤ (x2).toInt by first | with_reducible assumption | omega) (show (x2).toInt < 4 by first | with_reducible assumption | omega) (show 0 ≤ (0 : Int) by first | with_reducible assumption | omega) (show (0 : Int) ≤ 20 by first | with_reducible assumption | omega) (show (1 : Int) ≤ 20 by first | with_reducible assumption | omega) (show 20 - (0 : Int) < _ by omega)) (fun r65 hr66 => ?_)
          rcases r65 with ⟨r65v | r65n, r65d⟩
          · obtain ⟨i67, k68, m69⟩ := hr66
            have i70 : CI ad h.1 δ0 r65d := i67
            have k71 : kp [(1, 3), (1, 4), (1, 5), (1, 6), (1, 7), (1, 8), (1, 9), (1, 10), (1, 11), (1, 12), (1, 13), (1, 14), (1, 15), (3, 1), (4, 5), (4, 6), (4, 7), (4, 8), (4, 9), (4, 10), (4, 11), (4, 12), (4, 13), (4, 14), (4, 15), (4, 16), (4, 19)] d43 r65d := k68
            have u73 := k71
            have u74 := kp_t u49 u73
            exact (show CI ad h.1 δ0 r65d ∧ (kp [(1, 3), (1, 4), (1, 5), (1, 6), (1, 7), (1, 8), (1, 9), (1, 10), (1, 11), (1, 12), (1, 13), (1, 14), (1, 15), (3, 1), (4, 5), (4, 6), (4, 7), (4, 8), (4, 9), (4, 10), (4, 11), (4, 12), (4, 13), (4, 14), (4, 15), (4, 16), (4, 19)] δ r65d) ∧ True from ⟨i70, kp_w (by decide) u74, trivial⟩)
          · obtain ⟨i75, k76, m77⟩ := hr66
            have i78 : CI ad h.1 δ0 r65d := i75
            have k79 : kp [(1, 3), (1, 4), (1, 5), (1, 6), (1, 7), (1, 8), (1, 9), (1, 10), (1, 11), (1, 12), (1, 13), (1, 14), (1, 15), (3, 1), (4, 5), (4, 6), (4, 7), (4, 8), (4, 9), (4, 10), (4, 11), (4, 12), (4, 13), (4, 14), (4, 15), (4, 16), (4, 19)] d43 r65d := k76
            have u81 := k79
            have u82 := kp_t u49 u81
            have m80 : ((False) ∧ True) := m77
            exact m80.1.elim
        · have c83 : (q_I d43 8 3 b58).toInt ≠ (0 : Int) := o_ne h63
          unfold J_X11_seeds_67
          refine ok_mono (kl_X11_seeds_72 L hN   k_a0 _ (-1 : Int32) (0 : Int32) x4 (0 : Int32) d43 i45 (show 0 ≤ (x1).toInt by first | with_reducible assumption | omega) (show (x1).toInt < 4 by first | with_reducible assumption | omega) (show 0 ≤ (x2).toInt by first | with_reducible assumption | omega) (show (x2).toInt < 4 by first | with_reducible assumption | omega) (show 0 ≤ (0 : Int) by first | with_reducible assumption | omega) (show (0 : Int) ≤ 20 by first | with_reducible assumption | omega) (show (x4).toInt ≤ 20 by first | with_reducible assumption | omega) (show 20 - (0 : Int) < _ by omega)) (fun r84 hr85 => ?_)
          rcases r84 with ⟨r84v | r84n, r84d⟩
          · obtain ⟨i86, k87, m88⟩ := hr85
            have i89 : CI ad h.1 δ0 r84d := i86
            have k90 : kp [(1, 3), (1, 4), (1, 5), (1, 6), (1, 7), (1, 8), (1, 9), (1, 10), (1, 11), (1, 12), (1, 13), (1, 14), (1, 15), (3, 1), (4, 5), (4, 6), (4, 7), (4, 8), (4, 9), (4, 10), (4, 11), (4, 12), (4, 13), (4, 14), (4, 15), (4, 16), (4, 19)] d43 r84d := k87
            have u92 := k90
            have u93 := kp_t u49 u92
            exact (show CI ad h.1 δ0 r84d ∧ (kp [(1, 3), (1, 4), (1, 5), (1, 6), (1, 7), (1, 8), (1, 9), (1, 10), (1, 11), (1, 12), (1, 13), (1, 14), (1, 15), (3, 1), (4, 5), (4, 6), (4, 7), (4, 8), (4, 9), (4, 10), (4, 11), (4, 12), (4, 13), (4, 14), (4, 15), (4, 16), (4, 19)] δ r84d) ∧ True from ⟨i89, kp_w (by decide) u93, trivial⟩)
          · obtain ⟨i94, k95, m96⟩ := hr85
            have i97 : CI ad h.1 δ0 r84d := i94
            have k98 : kp [(1, 3), (1, 4), (1, 5), (1, 6), (1, 7), (1, 8), (1, 9), (1, 10), (1, 11), (1, 12), (1, 13), (1, 14), (1, 15), (3, 1), (4, 5), (4, 6), (4, 7), (4, 8), (4, 9), (4, 10), (4, 11), (4, 12), (4, 13), (4, 14), (4, 15), (4, 16), (4, 19)] d43 r84d := k95
            have u100 := k98
            have u101 := kp_t u49 u100
            have m99 : ((False) ∧ True) := m96
            exact m99.1.elim
      · have c102 : x5.toInt ≠ (0 : Int) := o_ne h41
        refine ok_ite (fun h103 => ?_) (fun h103 => ?_)
        · have c104 : x5.toInt = (1 : Int) := o_eq h103
          unfold J_X11_seeds_35
          unfold J_X11_seeds_40
          refine ok_bxv (k_X11_need L hN (a0 := a0) (x1 := (1 : Int32)) k_a0 i12) (fun n d hp => (show CI ad h.1 δ0 d ∧ (kp [(1, 3), (1, 4), (1, 5), (1, 6), (1, 7), (1, 8), (1, 9), (1, 10), (1, 11), (1, 12), (1, 13), (1, 14), (1, 15), (3, 1), (4, 5), (4, 6), (4, 7), (4, 8), (4, 9), (4, 10), (4, 11), (4, 12), (4, 13), (4, 14), (4, 15), (4, 16), (4, 19)] δ d) ∧ ((n = 0 ∨ n = 1 ∨ n = 2) ∧ True) from ⟨hp.1, kp_w (by decide) (kp_t u17 hp.2.1.1), (by have hq : n = 2 := hp.2.2.1; omega), trivial⟩)) (fun d105 hp106 => ?_)
          obtain ⟨i107, ⟨u108, u109⟩, p110⟩ := hp106
          have u111 := kp_t u17 u108
          replace p110 : (1 : Int) ≠ 0 := p110
          obtain ⟨b112, o113, k114, n115, w116⟩ := gO_11_4 L k_a0
          refine ok_at o113 ?_
          have t117 := ti_tn x1
          refine ok_gd (fun hc118 => ?_) ?_
          · rcases hc118 with hc118 | hc118
            · have c119 : x1.toInt < (0 : Int) := o_lt hc118
              omega
            · omega
          obtain ⟨b120, o121, k122⟩ := gE_11_4 L k_a0 o113 (i := x1.toNatClampNeg) (by omega)
          refine ok_at o121 ?_
          have f123 : (q_I d105 8 3 b120).toInt = (q_I δ 8 3 b120).toInt := ((show (q_I d105 8 3 b120).toInt = (q_I d10 8 3 b120).toInt from congrArg Int32.toInt (u108 8 3 b120 (by decide))).trans ((show (q_I d10 8 3 b120).toInt = (q_I d1 8 3 b120).toInt from congrArg Int32.toInt (u13 8 3 b120 (by decide))).trans (show (q_I d1 8 3 b120).toInt = (q_I δ 8 3 b120).toInt from congrArg Int32.toInt (u4 8 3 b120 (by decide)))))
          have f124 := cb_8_3 I k122
          refine ok_ite (fun h125 => ?_) (fun h125 => ?_)
          · have c126 : (q_I d105 8 3 b120).toInt = (0 : Int) := o_eq h125
            unfold J_X11_seeds_67
            refine ok_mono (kl_X11_seeds_72 L hN   k_a0 _ (-1 : Int32) (0 : Int32) (1 : Int32) (0 : Int32) d105 i107 (show 0 ≤ (x1).toInt by first | with_reducible assumption | omega) (show (x1).toInt < 4 by first | with_reducible assumption | omega) (show 0 ≤ (x2).toInt by first | with_reducible assumption | omega) (show (x2).toInt < 4 by first | with_reducible assumption | omega) (show 0 ≤ (0 : Int) by first | with_reducible assumption | omega) (show (0 : Int) ≤ 20 by first | with_reducible assumption | omega) (show (1 : Int) ≤ 20 by first | with_reducible assumption | omega) (show 20 - (0 : Int) < _ by omega)) (fun r127 hr128 => ?_)
            rcases r127 with ⟨r127v | r127n, r127d⟩
            · obtain ⟨i129, k130, m131⟩ := hr128
              have i132 : CI ad h.1 δ0 r127d := i129
              have k133 : kp [(1, 3), (1, 4), (1, 5), (1, 6), (1, 7), (1, 8), (1, 9), (1, 10), (1, 11), (1, 12), (1, 13), (1, 14), (1, 15), (3, 1), (4, 5), (4, 6), (4, 7), (4, 8), (4, 9), (4, 10), (4, 11), (4, 12), (4, 13), (4, 14), (4, 15), (4, 16), (4, 19)] d105 r127d := k130
              have u135 := k133
              have u136 := kp_t u111 u135
              exact (show CI ad h.1 δ0 r127d ∧ (kp [(1, 3), (1, 4), (1, 5), (1, 6), (1, 7), (1, 8), (1, 9), (1, 10), (1, 11), (1, 12), (1, 13), (1, 14), (1, 15), (3, 1), (4, 5), (4, 6), (4, 7), (4, 8), (4, 9), (4, 10), (4, 11), (4, 12), (4, 13), (4, 14), (4, 15), (4, 16), (4, 19)] δ r127d) ∧ True from ⟨i132, kp_w (by decide) u136, trivial⟩)
            · obtain ⟨i137, k138, m139⟩ := hr128
              have i140 : CI ad h.1 δ0 r127d := i137
              have k141 : kp [(1, 3), (1, 4), (1, 5), (1, 6), (1, 7), (1, 8), (1, 9), (1, 10), (1, 11), (1, 12), (1, 13), (1, 14), (1, 15), (3, 1), (4, 5), (4, 6), (4, 7), (4, 8), (4, 9), (4, 10), (4, 11), (4, 12), (4, 13), (4, 14), (4, 15), (4, 16), (4, 19)] d105 r127d := k138
              have u143 := k141
              have u144 := kp_t u111 u143
              have m142 : ((False) ∧ True) := m139
              exact m142.1.elim
          · have c145 : (q_I d105 8 3 b120).toInt ≠ (0 : Int) := o_ne h125
            unfold J_X11_seeds_67
            refine ok_mono (kl_X11_seeds_72 L hN   k_a0 _ (-1 : Int32) (0 : Int32) x4 (0 : Int32) d105 i107 (show 0 ≤ (x1).toInt by first | with_reducible assumption | omega) (show (x1).toInt < 4 by first | with_reducible assumption | omega) (show 0 ≤ (x2).toInt by first | with_reducible assumption | omega) (show (x2).toInt < 4 by first | with_reducible assumption | omega) (show 0 ≤ (0 : Int) by first | with_reducible assumption | omega) (show (0 : Int) ≤ 20 by first | with_reducible assumption | omega) (show (x4).toInt ≤ 20 by first | with_reducible assumption | omega) (show 20 - (0 : Int) < _ by omega)) (fun r146 hr147 => ?_)
            rcases r146 with ⟨r146v | r146n, r146d⟩
            · obtain ⟨i148, k149, m150⟩ := hr147
              have i151 : CI ad h.1 δ0 r146d := i148
              have k152 : kp [(1, 3), (1, 4), (1, 5), (1, 6), (1, 7), (1, 8), (1, 9), (1, 10), (1, 11), (1, 12), (1, 13), (1, 14), (1, 15), (3, 1), (4, 5), (4, 6), (4, 7), (4, 8), (4, 9), (4, 10), (4, 11), (4, 12), (4, 13), (4, 14), (4, 15), (4, 16), (4, 19)] d105 r146d := k149
              have u154 := k152
              have u155 := kp_t u111 u154
              exact (show CI ad h.1 δ0 r146d ∧ (kp [(1, 3), (1, 4), (1, 5), (1, 6), (1, 7), (1, 8), (1, 9), (1, 10), (1, 11), (1, 12), (1, 13), (1, 14), (1, 15), (3, 1), (4, 5), (4, 6), (4, 7), (4, 8), (4, 9), (4, 10), (4, 11), (4, 12), (4, 13), (4, 14), (4, 15), (4, 16), (4, 19)] δ r146d) ∧ True from ⟨i151, kp_w (by decide) u155, trivial⟩)
            · obtain ⟨i156, k157, m158⟩ := hr147
              have i159 : CI ad h.1 δ0 r146d := i156
              have k160 : kp [(1, 3), (1, 4), (1, 5), (1, 6), (1, 7), (1, 8), (1, 9), (1, 10), (1, 11), (1, 12), (1, 13), (1, 14), (1, 15), (3, 1), (4, 5), (4, 6), (4, 7), (4, 8), (4, 9), (4, 10), (4, 11), (4, 12), (4, 13), (4, 14), (4, 15), (4, 16), (4, 19)] d105 r146d := k157
              have u162 := k160
              have u163 := kp_t u111 u162
              have m161 : ((False) ∧ True) := m158
              exact m161.1.elim
        · have c164 : x5.toInt ≠ (1 : Int) := o_ne h103
          unfold J_X11_seeds_39
          unfold J_X11_seeds_40
          refine ok_bxv (k_X11_need L hN (a0 := a0) (x1 := (0 : Int32)) k_a0 i12) (fun n d hp => (show CI ad h.1 δ0 d ∧ (kp [(1, 3), (1, 4), (1, 5), (1, 6), (1, 7), (1, 8), (1, 9), (1, 10), (1, 11), (1, 12), (1, 13), (1, 14), (1, 15), (3, 1), (4, 5), (4, 6), (4, 7), (4, 8), (4, 9), (4, 10), (4, 11), (4, 12), (4, 13), (4, 14), (4, 15), (4, 16), (4, 19)] δ d) ∧ ((n = 0 ∨ n = 1 ∨ n = 2) ∧ True) from ⟨hp.1, kp_w (by decide) (kp_t u17 hp.2.1.1), (by have hq : n = 2 := hp.2.2.1; omega), trivial⟩)) (fun d165 hp166 => ?_)
          obtain ⟨i167, ⟨u168, u169⟩, p170⟩ := hp166
          have u171 := kp_t u17 u168
          exact absurd rfl (show (0 : Int) ≠ 0 from p170)
