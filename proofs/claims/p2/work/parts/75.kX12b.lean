/-! 75.kX12b (by gen_safe.py) -/
set_option maxHeartbeats 4000000 in
theorem k_X12_told {ad : List Nat} {h : hp} (L : Lay TLx ad h) {δ0 : dp} {N : Nat} (hN : 10000000 ≤ N) {a0 : Nat} {x1 : Int32} (k_a0 : q_K h.1 a0 = 12) {δ : dp} (I : RI ad h.1 δ0 δ) : ok (D_X12_told N h.1 a0 x1 δ) (fun r => RI ad h.1 δ0 r.2 ∧ (kp [(12, 0)] δ r.2 ∧ q_V r.2 = q_V δ ∧ kr ad [100] δ r.2)) := by
  unfold D_X12_told
  refine ok_bdv (fun d1 e2 => ?_)
  have i3 : RI ad h.1 δ0 d1 := by rw [e2]; exact cs_12_0 L I
  have u4 := kp_I kp_r e2
  have v5 : q_V d1 = q_V δ := ((show q_V d1 = q_V δ by rw [e2]; rfl)).trans rfl
  have v6 := kr_N (kr_r (ad := ad)) (show q_R d1 = q_R δ by rw [e2]; rfl)
  refine ok_bind (k_X12_within L hN (x0 := x1) (x1 := (0 : Int32)) (x2 := (3 : Int32))  i3) (fun r7 hr8 => ?_)
  obtain ⟨i9, p10, p11, p12⟩ := hr8
  try rw [i9]
  have f13 := bo_l p10
  have f14 := ti_b r7.1
  have f15 := ti_b x1
  replace p11 : ((r7.1).toInt = 1 → (0 : Int) ≤ (x1).toInt ∧ (x1).toInt ≤ (3 : Int)) := p11
  replace p12 : ((r7.1).toInt = 0 → (x1).toInt < (0 : Int) ∨ (3 : Int) < (x1).toInt) := p12
  have f16 := ti_b r7.1
  refine ok_bind (k_X12_may L hN (a0 := a0) (x1 := r7.1) (x2 := (1 : Int32)) (x3 := (2 : Int32)) k_a0 (show (1 : Int) ≠ 0 by first | assumption | omega) (show 0 ≤ (2 : Int) by first | assumption | omega) (show (2 : Int) ≤ 2 by first | assumption | omega) i3) (fun r17 hr18 => ?_)
  obtain ⟨i19, ⟨u23, u24, u25⟩, p20, p21, p22⟩ := hr18
  have u26 := kp_t u4 u23
  have v27 : q_V r17.2 = q_V δ := (u24).trans v5
  have v28 := kr_t v6 u25
  have f29 := bo_l p20
  have f30 := ti_b r17.1
  have f31 := ti_b (q_I d1 12 0 a0)
  have f32 : (q_I d1 12 0 a0).toInt = (0 : Int) := congrArg Int32.toInt (show q_I d1 12 0 a0 = (0 : Int32) by rw [e2]; exact rI_s)
  have f33 := ti_b r17.1
  refine ok_ite (fun h34 => ?_) (fun h34 => ?_)
  · have c35 : r17.1.toInt = (0 : Int) := o_eq h34
    exact ok_some (show RI ad h.1 δ0 r17.2 ∧ (kp [(12, 0)] δ r17.2 ∧ q_V r17.2 = q_V δ ∧ kr ad [100] δ r17.2) from ⟨i19, ⟨kp_w (by decide) u26, v27, kr_w (by decide) v28⟩⟩)
  · have c36 : r17.1.toInt ≠ (0 : Int) := o_ne h34
    refine ok_ite (fun h37 => ?_) (fun h37 => ?_)
    · have c38 : x1.toInt = (1 : Int) := o_eq h37
      have f39 := cb_12_12 i19 k_a0
      have f40 : (q_I r17.2 12 12 a0).toInt = (q_I d1 12 12 a0).toInt := congrArg Int32.toInt (u23 12 12 a0 (by decide))
      have f41 := cb_12_12 i3 k_a0
      have f42 : (q_I d1 12 12 a0).toInt = (q_I δ 12 12 a0).toInt := congrArg Int32.toInt (by rw [e2]; exact rI_o (by decide))
      have f43 := cb_12_12 I k_a0
      refine ok_ite (fun h44 => ?_) (fun h44 => ?_)
      · have c45 : (q_I r17.2 12 12 a0).toInt = (0 : Int) := o_eq h44
        unfold J_X12_told_39
        exact ok_some (show RI ad h.1 δ0 r17.2 ∧ (kp [(12, 0)] δ r17.2 ∧ q_V r17.2 = q_V δ ∧ kr ad [100] δ r17.2) from ⟨i19, ⟨kp_w (by decide) u26, v27, kr_w (by decide) v28⟩⟩)
      · have c46 : (q_I r17.2 12 12 a0).toInt ≠ (0 : Int) := o_ne h44
        unfold J_X12_told_39
        exact ok_some (show RI ad h.1 δ0 r17.2 ∧ (kp [(12, 0)] δ r17.2 ∧ q_V r17.2 = q_V δ ∧ kr ad [100] δ r17.2) from ⟨i19, ⟨kp_w (by decide) u26, v27, kr_w (by decide) v28⟩⟩)
    · have c47 : x1.toInt ≠ (1 : Int) := o_ne h37
      refine ok_ite (fun h48 => ?_) (fun h48 => ?_)
      · have c49 : x1.toInt = (0 : Int) := o_eq h48
        unfold J_X12_told_67
        exact ok_some (show RI ad h.1 δ0 r17.2 ∧ (kp [(12, 0)] δ r17.2 ∧ q_V r17.2 = q_V δ ∧ kr ad [100] δ r17.2) from ⟨i19, ⟨kp_w (by decide) u26, v27, kr_w (by decide) v28⟩⟩)
      · have c50 : x1.toInt ≠ (0 : Int) := o_ne h48
        refine ok_ite (fun h51 => ?_) (fun h51 => ?_)
        · have c52 : x1.toInt = (2 : Int) := o_eq h51
          unfold J_X12_told_67
          exact ok_some (show RI ad h.1 δ0 r17.2 ∧ (kp [(12, 0)] δ r17.2 ∧ q_V r17.2 = q_V δ ∧ kr ad [100] δ r17.2) from ⟨i19, ⟨kp_w (by decide) u26, v27, kr_w (by decide) v28⟩⟩)
        · have c53 : x1.toInt ≠ (2 : Int) := o_ne h51
          unfold J_X12_told_67
          exact ok_some (show RI ad h.1 δ0 r17.2 ∧ (kp [(12, 0)] δ r17.2 ∧ q_V r17.2 = q_V δ ∧ kr ad [100] δ r17.2) from ⟨i19, ⟨kp_w (by decide) u26, v27, kr_w (by decide) v28⟩⟩)
set_option maxHeartbeats 4000000 in
theorem kl_X12_place_10 {ad : List Nat} {h : hp} (L : Lay TLx ad h) {δ0 : dp} {N : Nat} (hN : 10000000 ≤ N) {a0 : Nat} {x1 : Int32} {x2 : Int32} (k_a0 : q_K h.1 a0 = 12) : ∀ (n : Nat) (x3v : Int32) (x4v : Int32) (δ : dp), RI ad h.1 δ0 δ → 0 ≤ (x1).toInt → (x1).toInt ≤ 3 → 0 ≤ (x3v).toInt → ((x3v).toInt = 0 ∨ (x3v).toInt ≤ (x4v).toInt) → -1000 ≤ (x4v).toInt → (x4v).toInt ≤ (q_R δ (Ad ad 103) (x1).toNatClampNeg).toInt → (x4v).toInt - (x3v).toInt + 1000 < (n : Int) → ok (L_X12_place_10 N h.1 a0 x1 x2 n x3v x4v δ) (fun r => r.2 = δ ∧ 0 ≤ (r.1).toInt ∧ ((r.1).toInt = 0 ∨ (r.1).toInt ≤ (q_R δ (Ad ad 103) (x1).toNatClampNeg).toInt)) := by
  intro n
  induction n with
  | zero =>
    intro x3v x4v δ I j0 j1 j2 j3 j4 j5 hm
    have f1 := ti_b x1
    have f2 := ti_b x3v
    have f3 := ti_b x4v
    have t4 := ti_tn x1
    have f5 := rb_103 L I (x1).toNatClampNeg
    exfalso; omega
  | succ n ih =>
    intro x3v x4v δ I j0 j1 j2 j3 j4 j5 hm
    unfold L_X12_place_10
    have f1 := ti_b x1
    have f2 := ti_b x3v
    have f3 := ti_b x4v
    have t4 := ti_tn x1
    have f5 := rb_103 L I (x1).toNatClampNeg
    refine ok_ite (fun h6 => ?_) (fun h6 => ?_)
    · have c7 : x4v.toInt ≤ x3v.toInt := o_le h6
      exact ok_some (show δ = δ ∧ 0 ≤ (x3v).toInt ∧ ((x3v).toInt = 0 ∨ (x3v).toInt ≤ (q_R δ (Ad ad 103) (x1).toNatClampNeg).toInt) from ⟨rfl, by first | assumption | omega, by first | assumption | omega⟩)
    · have c8 : x3v.toInt < x4v.toInt := o_nle h6
      first | (have q12 := te_add x3v x4v (by omega) (by omega); obtain ⟨f13, f14, f15⟩ := q12) | (obtain ⟨q12, f13, f14, f15⟩ := ti_add x3v x4v)
      have f16 := ti_div (c := 2) (n := 2) rfl (by decide) (x3v + x4v)
      have f17 := ti_b ((x3v + x4v) / (2 : Int32))
      refine ok_biv (fun vx9 e10 => ?_)
      have f18 : vx9.toInt = ((x3v + x4v) / (2 : Int32)).toInt := congrArg Int32.toInt e10
      obtain ⟨b19, o20, k21, n22, w23⟩ := gO_12_13 L k_a0
      obtain rfl := gS_12_13 L k_a0 o20
      refine ok_at o20 ?_
      first | (have q25 := te_mulc (c := 2000) (n := 2000) rfl x1 (by omega) (by omega); obtain ⟨f26, f27, f28⟩ := q25) | (obtain ⟨q25, f26, f27, f28⟩ := ti_mulc (c := 2000) (n := 2000) rfl x1)
      first | (have q30 := te_add ((2000 : Int32) * x1) vx9 (by omega) (by omega); obtain ⟨f31, f32, f33⟩ := q30) | (obtain ⟨q30, f31, f32, f33⟩ := ti_add ((2000 : Int32) * x1) vx9)
      have t34 := ti_tn (((2000 : Int32) * x1) + vx9)
      refine ok_gd (fun hc35 => ?_) ?_
      · rcases hc35 with hc35 | hc35
        · have c36 : (((2000 : Int32) * x1) + vx9).toInt < (0 : Int) := o_lt hc35
          omega
        · omega
      have f37 := ti_b x2
      have f38 := ti_b (q_R δ (Ad ad 102) (((2000 : Int32) * x1) + vx9).toNatClampNeg)
      refine ok_ite (fun h39 => ?_) (fun h39 => ?_)
      · have c40 : x2.toInt ≤ (q_R δ (Ad ad 102) (((2000 : Int32) * x1) + vx9).toNatClampNeg).toInt := o_le h39
        unfold J_X12_place_53
        refine ok_mono (ih x3v vx9 δ I (show 0 ≤ (x1).toInt by first | assumption | omega) (show (x1).toInt ≤ 3 by first | assumption | omega) (show 0 ≤ (x3v).toInt by first | assumption | omega) (show (x3v).toInt = 0 ∨ (x3v).toInt ≤ (vx9).toInt by first | assumption | omega) (show -1000 ≤ (vx9).toInt by first | assumption | omega) (show (vx9).toInt ≤ (q_R δ (Ad ad 103) (x1).toNatClampNeg).toInt by first | assumption | omega) (show (vx9).toInt - (x3v).toInt + 1000 < _ by omega)) (fun r41 hr42 => ?_)
        obtain ⟨i43, p44, p45⟩ := hr42
        have f46 := ti_b r41.1
        have f47 := ti_b r41.1
        exact ⟨by assumption, by first | assumption | omega, by first | assumption | omega⟩
      · have c48 : (q_R δ (Ad ad 102) (((2000 : Int32) * x1) + vx9).toNatClampNeg).toInt < x2.toInt := o_nle h39
        refine ok_biv (fun vx49 e50 => ?_)
        first | (have q51 := te_addc (c := 1) (n := 1) rfl vx9 (by omega) (by omega); rw [← e50] at q51; obtain ⟨f52, f53, f54⟩ := q51) | (obtain ⟨q51, f52, f53, f54⟩ : ∃ q : Int, vx49.toInt = vx9.toInt + (1 : Int) + 4294967296 * q ∧ -2147483648 ≤ vx49.toInt ∧ vx49.toInt ≤ 2147483647 := by rw [e50]; exact ti_addc (c := 1) (n := 1) rfl vx9)
        unfold J_X12_place_53
        refine ok_mono (ih vx49 x4v δ I (show 0 ≤ (x1).toInt by first | assumption | omega) (show (x1).toInt ≤ 3 by first | assumption | omega) (show 0 ≤ (vx49).toInt by first | assumption | omega) (show (vx49).toInt = 0 ∨ (vx49).toInt ≤ (x4v).toInt by first | assumption | omega) (show -1000 ≤ (x4v).toInt by first | assumption | omega) (show (x4v).toInt ≤ (q_R δ (Ad ad 103) (x1).toNatClampNeg).toInt by first | assumption | omega) (show (x4v).toInt - (vx49).toInt + 1000 < _ by omega)) (fun r55 hr56 => ?_)
        obtain ⟨i57, p58, p59⟩ := hr56
        have f60 := ti_b r55.1
        have f61 := ti_b r55.1
        exact ⟨by assumption, by first | assumption | omega, by first | assumption | omega⟩
set_option maxHeartbeats 4000000 in
theorem k_X12_place {ad : List Nat} {h : hp} (L : Lay TLx ad h) {δ0 : dp} {N : Nat} (hN : 10000000 ≤ N) {a0 : Nat} {x1 : Int32} {x2 : Int32} (k_a0 : q_K h.1 a0 = 12) {δ : dp} (z0 : 0 ≤ (x1).toInt) (z1 : (x1).toInt ≤ 3) (I : RI ad h.1 δ0 δ) : ok (D_X12_place N h.1 a0 x1 x2 δ) (fun r => r.2 = δ ∧ 0 ≤ (r.1).toInt ∧ ((r.1).toInt = 0 ∨ (r.1).toInt ≤ (q_R δ (Ad ad 103) (x1).toNatClampNeg).toInt)) := by
  unfold D_X12_place
  have f1 := ti_b x1
  obtain ⟨b2, o3, k4, n5⟩ := gO_12_14 L k_a0
  obtain rfl := gS_12_14 L k_a0 o3
  refine ok_at o3 ?_
  have t6 := ti_tn x1
  refine ok_gd (fun hc7 => ?_) ?_
  · rcases hc7 with hc7 | hc7
    · have c8 : x1.toInt < (0 : Int) := o_lt hc7
      omega
    · omega
  have f11 := rb_103 L I x1.toNatClampNeg
  refine ok_biv (fun vx9 e10 => ?_)
  have f12 : vx9.toInt = (q_R δ (Ad ad 103) x1.toNatClampNeg).toInt := congrArg Int32.toInt e10
  have t13 := ti_tn x1
  have f14 := rb_103 L I (x1).toNatClampNeg
  refine ok_mono (kl_X12_place_10 L hN   k_a0 _ (0 : Int32) vx9 δ I (show 0 ≤ (x1).toInt by first | assumption | omega) (show (x1).toInt ≤ 3 by first | assumption | omega) (show 0 ≤ (0 : Int) by first | assumption | omega) (show (0 : Int) = 0 ∨ (0 : Int) ≤ (vx9).toInt by first | assumption | omega) (show -1000 ≤ (vx9).toInt by first | assumption | omega) (show (vx9).toInt ≤ (q_R δ (Ad ad 103) (x1).toNatClampNeg).toInt by first | assumption | omega) (show (vx9).toInt - (0 : Int) + 1000 < _ by omega)) (fun r15 hr16 => ?_)
  obtain ⟨i17, p18, p19⟩ := hr16
  have f20 := ti_b r15.1
  have f21 := ti_b r15.1
  exact ⟨by assumption, by first | assumption | omega, by first | assumption | omega⟩
set_option maxHeartbeats 4000000 in
theorem k_X12_isThere {ad : List Nat} {h : hp} (L : Lay TLx ad h) {δ0 : dp} {N : Nat} (hN : 10000000 ≤ N) {a0 : Nat} {x1 : Int32} {x2 : Int32} (k_a0 : q_K h.1 a0 = 12) {δ : dp} (z0 : 0 ≤ (x1).toInt) (z1 : (x1).toInt ≤ 3) (I : RI ad h.1 δ0 δ) : ok (D_X12_isThere N h.1 a0 x1 x2 δ) (fun r => r.2 = δ ∧ bo (r.1) ∧ ((r.1).toInt = 1 → 1 ≤ (q_R δ (Ad ad 103) (x1).toNatClampNeg).toInt)) := by
  unfold D_X12_isThere
  have f1 := ti_b x1
  refine ok_bind (k_X12_place L hN (a0 := a0) (x1 := x1) (x2 := x2) k_a0 (show 0 ≤ (x1).toInt by first | assumption | omega) (show (x1).toInt ≤ 3 by first | assumption | omega) I) (fun r2 hr3 => ?_)
  obtain ⟨i4, p5, p6⟩ := hr3
  try rw [i4]
  have f7 := ti_b r2.1
  have t8 := ti_tn x1
  have f9 := rb_103 L I (x1).toNatClampNeg
  have f10 := ti_b r2.1
  obtain ⟨b11, o12, k13, n14⟩ := gO_12_14 L k_a0
  obtain rfl := gS_12_14 L k_a0 o12
  refine ok_at o12 ?_
  have t15 := ti_tn x1
  refine ok_gd (fun hc16 => ?_) ?_
  · rcases hc16 with hc16 | hc16
    · have c17 : x1.toInt < (0 : Int) := o_lt hc16
      omega
    · omega
  have f18 := rb_103 L I x1.toNatClampNeg
  refine ok_ite (fun h19 => ?_) (fun h19 => ?_)
  · have c20 : (q_R δ (Ad ad 103) x1.toNatClampNeg).toInt ≤ r2.1.toInt := o_le h19
    unfold J_X12_isThere_37
    unfold J_X12_isThere_38
    refine ok_gp (by decide) ?_
    exact ok_some (show δ = δ ∧ bo ((0 : Int32)) ∧ ((0 : Int) = 1 → 1 ≤ (q_R δ (Ad ad 103) (x1).toNatClampNeg).toInt) from ⟨rfl, bo_0, by first | assumption | omega⟩)
  · have c21 : r2.1.toInt < (q_R δ (Ad ad 103) x1.toNatClampNeg).toInt := o_nle h19
    obtain ⟨b22, o23, k24, n25, w26⟩ := gO_12_13 L k_a0
    obtain rfl := gS_12_13 L k_a0 o23
    refine ok_at o23 ?_
    first | (have q28 := te_mulc (c := 2000) (n := 2000) rfl x1 (by omega) (by omega); obtain ⟨f29, f30, f31⟩ := q28) | (obtain ⟨q28, f29, f30, f31⟩ := ti_mulc (c := 2000) (n := 2000) rfl x1)
    first | (have q33 := te_add ((2000 : Int32) * x1) r2.1 (by omega) (by omega); obtain ⟨f34, f35, f36⟩ := q33) | (obtain ⟨q33, f34, f35, f36⟩ := ti_add ((2000 : Int32) * x1) r2.1)
    have t37 := ti_tn (((2000 : Int32) * x1) + r2.1)
    refine ok_gd (fun hc38 => ?_) ?_
    · rcases hc38 with hc38 | hc38
      · have c39 : (((2000 : Int32) * x1) + r2.1).toInt < (0 : Int) := o_lt hc38
        omega
      · omega
    have f40 := ti_b (q_R δ (Ad ad 102) (((2000 : Int32) * x1) + r2.1).toNatClampNeg)
    have f41 := ti_b x2
    refine ok_ite (fun h42 => ?_) (fun h42 => ?_)
    · have c43 : (q_R δ (Ad ad 102) (((2000 : Int32) * x1) + r2.1).toNatClampNeg).toInt = x2.toInt := o_eq h42
      unfold J_X12_isThere_38
      refine ok_gp (by decide) ?_
      exact ok_some (show δ = δ ∧ bo ((1 : Int32)) ∧ ((1 : Int) = 1 → 1 ≤ (q_R δ (Ad ad 103) (x1).toNatClampNeg).toInt) from ⟨rfl, bo_1, by first | assumption | omega⟩)
    · have c44 : (q_R δ (Ad ad 102) (((2000 : Int32) * x1) + r2.1).toNatClampNeg).toInt ≠ x2.toInt := o_ne h42
      unfold J_X12_isThere_37
      unfold J_X12_isThere_38
      refine ok_gp (by decide) ?_
      exact ok_some (show δ = δ ∧ bo ((0 : Int32)) ∧ ((0 : Int) = 1 → 1 ≤ (q_R δ (Ad ad 103) (x1).toNatClampNeg).toInt) from ⟨rfl, bo_0, by first | assumption | omega⟩)
set_option maxHeartbeats 4000000 in
theorem kl_X12_comes_27 {ad : List Nat} {h : hp} (L : Lay TLx ad h) {δ0 : dp} {N : Nat} (hN : 10000000 ≤ N) {a0 : Nat} {x1 : Int32} {x2 : Int32} (k_a0 : q_K h.1 a0 = 12) : ∀ (n : Nat) (x3v : Int32) (x4v : Int32) (δ : dp), RI ad h.1 δ0 δ → 0 ≤ (x1).toInt → (x1).toInt ≤ 3 → 2000 * (x1).toInt ≤ (x3v).toInt → (x3v).toInt ≤ 2000 * (x1).toInt + 1999 → (x4v).toInt ≤ 2000 * (x1).toInt + 1999 → (x3v).toInt ≤ (x4v).toInt + 1000 → (q_R δ (Ad ad 103) (x1).toNatClampNeg).toInt < 2000 → (x4v).toInt - (x3v).toInt + 1000 < (n : Int) → ok (L_X12_comes_27 N h.1 a0 x1 x2 n x3v x4v δ) (fun r => RI ad h.1 δ0 r ∧ (kp [] δ r ∧ q_V r = q_V δ ∧ kr ad [102, 103] δ r) ∧ (q_R r (Ad ad 103) (x1).toNatClampNeg).toInt = (q_R δ (Ad ad 103) (x1).toNatClampNeg).toInt + 1) := by
  intro n
  induction n with
  | zero =>
    intro x3v x4v δ I j0 j1 j2 j3 j4 j5 j6 hm
    have f1 := ti_b x1
    have f2 := ti_b x3v
    have f3 := ti_b x4v
    have t4 := ti_tn x1
    have f5 := rb_103 L I (x1).toNatClampNeg
    exfalso; omega
  | succ n ih =>
    intro x3v x4v δ I j0 j1 j2 j3 j4 j5 j6 hm
    unfold L_X12_comes_27
    have f1 := ti_b x1
    have f2 := ti_b x3v
    have f3 := ti_b x4v
    have t4 := ti_tn x1
    have f5 := rb_103 L I (x1).toNatClampNeg
    refine ok_ite (fun h6 => ?_) (fun h6 => ?_)
    · have c7 : x4v.toInt ≤ x3v.toInt := o_le h6
      obtain ⟨b8, o9, k10, n11, w12⟩ := gO_12_13 L k_a0
      obtain rfl := gS_12_13 L k_a0 o9
      refine ok_at o9 ?_
      have t13 := ti_tn x3v
      refine ok_gd (fun hc14 => ?_) ?_
      · rcases hc14 with hc14 | hc14
        · have c15 : x3v.toInt < (0 : Int) := o_lt hc14
          omega
        · omega
      refine ok_bdv (fun d16 e17 => ?_)
      have i18 : RI ad h.1 δ0 d16 := by rw [e17]; exact RI.sR L I w12
      have u19 := kp_N kp_r (show q_I d16 = q_I δ by rw [e17]; rfl)
      have v20 : q_V d16 = q_V δ := ((show q_V d16 = q_V δ by rw [e17]; rfl)).trans rfl
      have v21 := kr_s L (by decide) (kr_r (ad := ad)) e17
      obtain ⟨b22, o23, k24, n25⟩ := gO_12_14 L k_a0
      obtain rfl := gS_12_14 L k_a0 o23
      refine ok_at o23 ?_
      have t26 := ti_tn x1
      refine ok_gd (fun hc27 => ?_) ?_
      · rcases hc27 with hc27 | hc27
        · have c28 : x1.toInt < (0 : Int) := o_lt hc27
          omega
        · omega
      refine ok_gd (fun hc29 => ?_) ?_
      · rcases hc29 with hc29 | hc29
        · have c30 : x1.toInt < (0 : Int) := o_lt hc29
          omega
        · omega
      have f34 : (q_R d16 (Ad ad 103) x1.toNatClampNeg).toInt = (q_R δ (Ad ad 103) x1.toNatClampNeg).toInt := congrArg Int32.toInt (show q_R d16 (Ad ad 103) x1.toNatClampNeg = _ by rw [e17, rR_o (ad_ne L (by decide) (by decide) (by decide))])
      have f35 := rb_103 L I x1.toNatClampNeg
      have f36 := rb_103 L i18 x1.toNatClampNeg
      first | (have q38 := te_addc (c := 1) (n := 1) rfl (q_R d16 (Ad ad 103) x1.toNatClampNeg) (by omega) (by omega); obtain ⟨f39, f40, f41⟩ := q38) | (obtain ⟨q38, f39, f40, f41⟩ := ti_addc (c := 1) (n := 1) rfl (q_R d16 (Ad ad 103) x1.toNatClampNeg))
      refine ok_bdv (fun d31 e32 => ?_)
      have i33 : RI ad h.1 δ0 d31 := by rw [e32]; exact cr_103 L i18 (show -1000 ≤ ((q_R d16 (Ad ad 103) x1.toNatClampNeg) + (1 : Int32)).toInt by omega) (show ((q_R d16 (Ad ad 103) x1.toNatClampNeg) + (1 : Int32)).toInt ≤ 2000 by omega)
      have u42 := kp_N u19 (show q_I d31 = q_I d16 by rw [e32]; rfl)
      have v43 : q_V d31 = q_V δ := ((show q_V d31 = q_V d16 by rw [e32]; rfl)).trans v20
      have v44 := kr_s L (by decide) v21 e32
      have f45 := rb_103 L i33 (x1).toNatClampNeg
      exact ok_some (show RI ad h.1 δ0 d31 ∧ (kp [] δ d31 ∧ q_V d31 = q_V δ ∧ kr ad [102, 103] δ d31) ∧ (q_R d31 (Ad ad 103) (x1).toNatClampNeg).toInt = (q_R δ (Ad ad 103) (x1).toNatClampNeg).toInt + 1 from ⟨i33, ⟨kp_w (by decide) u42, v43, kr_w (by decide) v44⟩, by first | assumption | omega⟩)
    · have c46 : x3v.toInt < x4v.toInt := o_nle h6
      obtain ⟨b47, o48, k49, n50, w51⟩ := gO_12_13 L k_a0
      obtain rfl := gS_12_13 L k_a0 o48
      refine ok_at o48 ?_
      refine ok_at o48 ?_
      first | (have q53 := te_subc (c := 1) (n := 1) rfl x4v (by omega) (by omega); obtain ⟨f54, f55, f56⟩ := q53) | (obtain ⟨q53, f54, f55, f56⟩ := ti_subc (c := 1) (n := 1) rfl x4v)
      have t57 := ti_tn (x4v - (1 : Int32))
      refine ok_gd (fun hc58 => ?_) ?_
      · rcases hc58 with hc58 | hc58
        · have c59 : (x4v - (1 : Int32)).toInt < (0 : Int) := o_lt hc58
          omega
        · omega
      have t60 := ti_tn x4v
      refine ok_gd (fun hc61 => ?_) ?_
      · rcases hc61 with hc61 | hc61
        · have c62 : x4v.toInt < (0 : Int) := o_lt hc61
          omega
        · omega
      refine ok_bdv (fun d63 e64 => ?_)
      have i65 : RI ad h.1 δ0 d63 := by rw [e64]; exact RI.sR L I w51
      have u66 := kp_N kp_r (show q_I d63 = q_I δ by rw [e64]; rfl)
      have v67 : q_V d63 = q_V δ := ((show q_V d63 = q_V δ by rw [e64]; rfl)).trans rfl
      have v68 := kr_s L (by decide) (kr_r (ad := ad)) e64
      refine ok_biv (fun vx69 e70 => ?_)
      first | (have q71 := te_addc (c := -1) (n := -1) (by decide) x4v (by omega) (by omega); rw [← e70] at q71; obtain ⟨f72, f73, f74⟩ := q71) | (obtain ⟨q71, f72, f73, f74⟩ : ∃ q : Int, vx69.toInt = x4v.toInt + (-1 : Int) + 4294967296 * q ∧ -2147483648 ≤ vx69.toInt ∧ vx69.toInt ≤ 2147483647 := by rw [e70]; exact ti_addc (c := -1) (n := -1) (by decide) x4v)
      have f75 : (q_R d63 (Ad ad 103) (x1).toNatClampNeg).toInt = (q_R δ (Ad ad 103) (x1).toNatClampNeg).toInt := congrArg Int32.toInt (show q_R d63 (Ad ad 103) (x1).toNatClampNeg = _ by rw [e64, rR_o (ad_ne L (by decide) (by decide) (by decide))])
      have f76 := rb_103 L i65 (x1).toNatClampNeg
      refine ok_mono (ih x3v vx69 d63 i65 (show 0 ≤ (x1).toInt by first | assumption | omega) (show (x1).toInt ≤ 3 by first | assumption | omega) (show 2000 * (x1).toInt ≤ (x3v).toInt by first | assumption | omega) (show (x3v).toInt ≤ 2000 * (x1).toInt + 1999 by first | assumption | omega) (show (vx69).toInt ≤ 2000 * (x1).toInt + 1999 by first | assumption | omega) (show (x3v).toInt ≤ (vx69).toInt + 1000 by first | assumption | omega) (show (q_R d63 (Ad ad 103) (x1).toNatClampNeg).toInt < 2000 by first | assumption | omega) (show (vx69).toInt - (x3v).toInt + 1000 < _ by omega)) (fun r77 hr78 => ?_)
      obtain ⟨i79, ⟨u81, u82, u83⟩, p80⟩ := hr78
      have u84 := kp_t u66 u81
      have v85 : q_V r77 = q_V δ := (u82).trans v67
      have v86 := kr_t v68 u83
      have f87 := rb_103 L i79 (x1).toNatClampNeg
      exact ⟨by assumption, ⟨kp_w (by decide) u84, v85, kr_w (by decide) v86⟩, by first | assumption | omega⟩
set_option maxHeartbeats 4000000 in
theorem k_X12_comes {ad : List Nat} {h : hp} (L : Lay TLx ad h) {δ0 : dp} {N : Nat} (hN : 10000000 ≤ N) {a0 : Nat} {x1 : Int32} {x2 : Int32} (k_a0 : q_K h.1 a0 = 12) {δ : dp} (z0 : 0 ≤ (x1).toInt) (z1 : (x1).toInt ≤ 3) (z2 : (q_R δ (Ad ad 103) (x1).toNatClampNeg).toInt < 2000) (I : RI ad h.1 δ0 δ) : ok (D_X12_comes N h.1 a0 x1 x2 δ) (fun r => RI ad h.1 δ0 r ∧ (kp [] δ r ∧ q_V r = q_V δ ∧ kr ad [102, 103] δ r) ∧ (q_R r (Ad ad 103) (x1).toNatClampNeg).toInt = (q_R δ (Ad ad 103) (x1).toNatClampNeg).toInt + 1) := by
  unfold D_X12_comes
  have f1 := ti_b x1
  have t2 := ti_tn x1
  have f3 := rb_103 L I (x1).toNatClampNeg
  refine ok_bind (k_X12_place L hN (a0 := a0) (x1 := x1) (x2 := x2) k_a0 (show 0 ≤ (x1).toInt by first | assumption | omega) (show (x1).toInt ≤ 3 by first | assumption | omega) I) (fun r4 hr5 => ?_)
  obtain ⟨i6, p7, p8⟩ := hr5
  try rw [i6]
  have f9 := ti_b r4.1
  have f10 := ti_b r4.1
  first | (have q14 := te_mulc (c := 2000) (n := 2000) rfl x1 (by omega) (by omega); obtain ⟨f15, f16, f17⟩ := q14) | (obtain ⟨q14, f15, f16, f17⟩ := ti_mulc (c := 2000) (n := 2000) rfl x1)
  refine ok_biv (fun vx11 e12 => ?_)
  first | (have q18 := te_add ((2000 : Int32) * x1) r4.1 (by omega) (by omega); rw [← e12] at q18; obtain ⟨f19, f20, f21⟩ := q18) | (obtain ⟨q18, f19, f20, f21⟩ : ∃ q : Int, vx11.toInt = ((2000 : Int32) * x1).toInt + r4.1.toInt + 4294967296 * q ∧ -2147483648 ≤ vx11.toInt ∧ vx11.toInt ≤ 2147483647 := by rw [e12]; exact ti_add ((2000 : Int32) * x1) r4.1)
  obtain ⟨b22, o23, k24, n25⟩ := gO_12_14 L k_a0
  obtain rfl := gS_12_14 L k_a0 o23
  refine ok_at o23 ?_
  have t26 := ti_tn x1
  refine ok_gd (fun hc27 => ?_) ?_
  · rcases hc27 with hc27 | hc27
    · have c28 : x1.toInt < (0 : Int) := o_lt hc27
      omega
    · omega
  have f31 := rb_103 L I x1.toNatClampNeg
  refine ok_biv (fun vx29 e30 => ?_)
  first | (have q32 := te_add ((2000 : Int32) * x1) (q_R δ (Ad ad 103) x1.toNatClampNeg) (by omega) (by omega); rw [← e30] at q32; obtain ⟨f33, f34, f35⟩ := q32) | (obtain ⟨q32, f33, f34, f35⟩ : ∃ q : Int, vx29.toInt = ((2000 : Int32) * x1).toInt + (q_R δ (Ad ad 103) x1.toNatClampNeg).toInt + 4294967296 * q ∧ -2147483648 ≤ vx29.toInt ∧ vx29.toInt ≤ 2147483647 := by rw [e30]; exact ti_add ((2000 : Int32) * x1) (q_R δ (Ad ad 103) x1.toNatClampNeg))
  refine ok_mono (kl_X12_comes_27 L hN   k_a0 _ vx11 vx29 δ I (show 0 ≤ (x1).toInt by first | assumption | omega) (show (x1).toInt ≤ 3 by first | assumption | omega) (show 2000 * (x1).toInt ≤ (vx11).toInt by first | assumption | omega) (show (vx11).toInt ≤ 2000 * (x1).toInt + 1999 by first | assumption | omega) (show (vx29).toInt ≤ 2000 * (x1).toInt + 1999 by first | assumption | omega) (show (vx11).toInt ≤ (vx29).toInt + 1000 by first | assumption | omega) (show (q_R δ (Ad ad 103) (x1).toNatClampNeg).toInt < 2000 by first | assumption | omega) (show (vx29).toInt - (vx11).toInt + 1000 < _ by omega)) (fun r36 hr37 => ?_)
  obtain ⟨i38, ⟨u40, u41, u42⟩, p39⟩ := hr37
  have u43 := kp_t kp_r u40
  have v44 : q_V r36 = q_V δ := (u41).trans rfl
  have v45 := kr_t (kr_r (ad := ad)) u42
  have f46 := rb_103 L i38 (x1).toNatClampNeg
  exact ⟨by assumption, ⟨kp_w (by decide) u43, v44, kr_w (by decide) v45⟩, by first | assumption | omega⟩
set_option maxHeartbeats 4000000 in
theorem kl_X12_leaves_23 {ad : List Nat} {h : hp} (L : Lay TLx ad h) {δ0 : dp} {N : Nat} (hN : 10000000 ≤ N) {a0 : Nat} {x1 : Int32} {x2 : Int32} (k_a0 : q_K h.1 a0 = 12) : ∀ (n : Nat) (x3v : Int32) (δ : dp), RI ad h.1 δ0 δ → 0 ≤ (x1).toInt → (x1).toInt ≤ 3 → 2000 * (x1).toInt ≤ (x3v).toInt → (x3v).toInt ≤ 2000 * (x1).toInt + 2000 → (q_R δ (Ad ad 103) (x1).toNatClampNeg).toInt ≤ 1999 → 2000 * (x1).toInt + 2000 - (x3v).toInt < (n : Int) → ok (L_X12_leaves_23 N h.1 a0 x1 x2 n x3v δ) (fun r => RI ad h.1 δ0 r ∧ (kp [] δ r ∧ q_V r = q_V δ ∧ kr ad [102, 103] δ r) ∧ (q_R r (Ad ad 103) (x1).toNatClampNeg).toInt = (q_R δ (Ad ad 103) (x1).toNatClampNeg).toInt) := by
  intro n
  induction n with
  | zero =>
    intro x3v δ I j0 j1 j2 j3 j4 hm
    have f1 := ti_b x1
    have f2 := ti_b x3v
    have t3 := ti_tn x1
    have f4 := rb_103 L I (x1).toNatClampNeg
    exfalso; omega
  | succ n ih =>
    intro x3v δ I j0 j1 j2 j3 j4 hm
    unfold L_X12_leaves_23
    have f1 := ti_b x1
    have f2 := ti_b x3v
    have t3 := ti_tn x1
    have f4 := rb_103 L I (x1).toNatClampNeg
    obtain ⟨b5, o6, k7, n8⟩ := gO_12_14 L k_a0
    obtain rfl := gS_12_14 L k_a0 o6
    refine ok_at o6 ?_
    have t9 := ti_tn x1
    refine ok_gd (fun hc10 => ?_) ?_
    · rcases hc10 with hc10 | hc10
      · have c11 : x1.toInt < (0 : Int) := o_lt hc10
        omega
      · omega
    first | (have q13 := te_mulc (c := 2000) (n := 2000) rfl x1 (by omega) (by omega); obtain ⟨f14, f15, f16⟩ := q13) | (obtain ⟨q13, f14, f15, f16⟩ := ti_mulc (c := 2000) (n := 2000) rfl x1)
    have f17 := rb_103 L I x1.toNatClampNeg
    first | (have q19 := te_add ((2000 : Int32) * x1) (q_R δ (Ad ad 103) x1.toNatClampNeg) (by omega) (by omega); obtain ⟨f20, f21, f22⟩ := q19) | (obtain ⟨q19, f20, f21, f22⟩ := ti_add ((2000 : Int32) * x1) (q_R δ (Ad ad 103) x1.toNatClampNeg))
    refine ok_ite (fun h23 => ?_) (fun h23 => ?_)
    · have c24 : (((2000 : Int32) * x1) + (q_R δ (Ad ad 103) x1.toNatClampNeg)).toInt ≤ x3v.toInt := o_le h23
      exact ok_some (show RI ad h.1 δ0 δ ∧ (kp [] δ δ ∧ q_V δ = q_V δ ∧ kr ad [102, 103] δ δ) ∧ (q_R δ (Ad ad 103) (x1).toNatClampNeg).toInt = (q_R δ (Ad ad 103) (x1).toNatClampNeg).toInt from ⟨I, ⟨kp_w (by decide) kp_r, rfl, kr_w (by decide) (kr_r (ad := ad))⟩, by first | assumption | omega⟩)
    · have c25 : x3v.toInt < (((2000 : Int32) * x1) + (q_R δ (Ad ad 103) x1.toNatClampNeg)).toInt := o_nle h23
      obtain ⟨b26, o27, k28, n29, w30⟩ := gO_12_13 L k_a0
      obtain rfl := gS_12_13 L k_a0 o27
      refine ok_at o27 ?_
      refine ok_at o27 ?_
      first | (have q32 := te_addc (c := 1) (n := 1) rfl x3v (by omega) (by omega); obtain ⟨f33, f34, f35⟩ := q32) | (obtain ⟨q32, f33, f34, f35⟩ := ti_addc (c := 1) (n := 1) rfl x3v)
      have t36 := ti_tn (x3v + (1 : Int32))
      refine ok_gd (fun hc37 => ?_) ?_
      · rcases hc37 with hc37 | hc37
        · have c38 : (x3v + (1 : Int32)).toInt < (0 : Int) := o_lt hc37
          omega
        · omega
      have t39 := ti_tn x3v
      refine ok_gd (fun hc40 => ?_) ?_
      · rcases hc40 with hc40 | hc40
        · have c41 : x3v.toInt < (0 : Int) := o_lt hc40
          omega
        · omega
      refine ok_bdv (fun d42 e43 => ?_)
      have i44 : RI ad h.1 δ0 d42 := by rw [e43]; exact RI.sR L I w30
      have u45 := kp_N kp_r (show q_I d42 = q_I δ by rw [e43]; rfl)
      have v46 : q_V d42 = q_V δ := ((show q_V d42 = q_V δ by rw [e43]; rfl)).trans rfl
      have v47 := kr_s L (by decide) (kr_r (ad := ad)) e43
      refine ok_biv (fun vx48 e49 => ?_)
      first | (have q50 := te_addc (c := 1) (n := 1) rfl x3v (by omega) (by omega); rw [← e49] at q50; obtain ⟨f51, f52, f53⟩ := q50) | (obtain ⟨q50, f51, f52, f53⟩ : ∃ q : Int, vx48.toInt = x3v.toInt + (1 : Int) + 4294967296 * q ∧ -2147483648 ≤ vx48.toInt ∧ vx48.toInt ≤ 2147483647 := by rw [e49]; exact ti_addc (c := 1) (n := 1) rfl x3v)
      have f54 : (q_R d42 (Ad ad 103) (x1).toNatClampNeg).toInt = (q_R δ (Ad ad 103) (x1).toNatClampNeg).toInt := congrArg Int32.toInt (show q_R d42 (Ad ad 103) (x1).toNatClampNeg = _ by rw [e43, rR_o (ad_ne L (by decide) (by decide) (by decide))])
      have f55 := rb_103 L i44 (x1).toNatClampNeg
      refine ok_mono (ih vx48 d42 i44 (show 0 ≤ (x1).toInt by first | assumption | omega) (show (x1).toInt ≤ 3 by first | assumption | omega) (show 2000 * (x1).toInt ≤ (vx48).toInt by first | assumption | omega) (show (vx48).toInt ≤ 2000 * (x1).toInt + 2000 by first | assumption | omega) (show (q_R d42 (Ad ad 103) (x1).toNatClampNeg).toInt ≤ 1999 by first | assumption | omega) (show 2000 * (x1).toInt + 2000 - (vx48).toInt < _ by omega)) (fun r56 hr57 => ?_)
      obtain ⟨i58, ⟨u60, u61, u62⟩, p59⟩ := hr57
      have u63 := kp_t u45 u60
      have v64 : q_V r56 = q_V δ := (u61).trans v46
      have v65 := kr_t v47 u62
      have f66 := rb_103 L i58 (x1).toNatClampNeg
      exact ⟨by assumption, ⟨kp_w (by decide) u63, v64, kr_w (by decide) v65⟩, by first | assumption | omega⟩
set_option maxHeartbeats 4000000 in
theorem k_X12_leaves {ad : List Nat} {h : hp} (L : Lay TLx ad h) {δ0 : dp} {N : Nat} (hN : 10000000 ≤ N) {a0 : Nat} {x1 : Int32} {x2 : Int32} (k_a0 : q_K h.1 a0 = 12) {δ : dp} (z0 : 0 ≤ (x1).toInt) (z1 : (x1).toInt ≤ 3) (z2 : -999 ≤ (q_R δ (Ad ad 103) (x1).toNatClampNeg).toInt) (I : RI ad h.1 δ0 δ) : ok (D_X12_leaves N h.1 a0 x1 x2 δ) (fun r => RI ad h.1 δ0 r ∧ (kp [] δ r ∧ q_V r = q_V δ ∧ kr ad [102, 103] δ r) ∧ (q_R r (Ad ad 103) (x1).toNatClampNeg).toInt = (q_R δ (Ad ad 103) (x1).toNatClampNeg).toInt - 1) := by
  unfold D_X12_leaves
  have f1 := ti_b x1
  have t2 := ti_tn x1
  have f3 := rb_103 L I (x1).toNatClampNeg
  obtain ⟨b4, o5, k6, n7⟩ := gO_12_14 L k_a0
  obtain rfl := gS_12_14 L k_a0 o5
  refine ok_at o5 ?_
  have t8 := ti_tn x1
  refine ok_gd (fun hc9 => ?_) ?_
  · rcases hc9 with hc9 | hc9
    · have c10 : x1.toInt < (0 : Int) := o_lt hc9
      omega
    · omega
  refine ok_gd (fun hc11 => ?_) ?_
  · rcases hc11 with hc11 | hc11
    · have c12 : x1.toInt < (0 : Int) := o_lt hc11
      omega
    · omega
  have f16 := rb_103 L I x1.toNatClampNeg
  first | (have q18 := te_subc (c := 1) (n := 1) rfl (q_R δ (Ad ad 103) x1.toNatClampNeg) (by omega) (by omega); obtain ⟨f19, f20, f21⟩ := q18) | (obtain ⟨q18, f19, f20, f21⟩ := ti_subc (c := 1) (n := 1) rfl (q_R δ (Ad ad 103) x1.toNatClampNeg))
  refine ok_bdv (fun d13 e14 => ?_)
  have i15 : RI ad h.1 δ0 d13 := by rw [e14]; exact cr_103 L I (show -1000 ≤ ((q_R δ (Ad ad 103) x1.toNatClampNeg) - (1 : Int32)).toInt by omega) (show ((q_R δ (Ad ad 103) x1.toNatClampNeg) - (1 : Int32)).toInt ≤ 2000 by omega)
  have u22 := kp_N kp_r (show q_I d13 = q_I δ by rw [e14]; rfl)
  have v23 : q_V d13 = q_V δ := ((show q_V d13 = q_V δ by rw [e14]; rfl)).trans rfl
  have v24 := kr_s L (by decide) (kr_r (ad := ad)) e14
  refine ok_bind (k_X12_place L hN (a0 := a0) (x1 := x1) (x2 := x2) k_a0 (show 0 ≤ (x1).toInt by first | assumption | omega) (show (x1).toInt ≤ 3 by first | assumption | omega) i15) (fun r25 hr26 => ?_)
  obtain ⟨i27, p28, p29⟩ := hr26
  try rw [i27]
  have f30 := ti_b r25.1
  have f31 := rb_103 L i15 (x1).toNatClampNeg
  have f32 := ti_b r25.1
  first | (have q36 := te_mulc (c := 2000) (n := 2000) rfl x1 (by omega) (by omega); obtain ⟨f37, f38, f39⟩ := q36) | (obtain ⟨q36, f37, f38, f39⟩ := ti_mulc (c := 2000) (n := 2000) rfl x1)
  refine ok_biv (fun vx33 e34 => ?_)
  first | (have q40 := te_add ((2000 : Int32) * x1) r25.1 (by omega) (by omega); rw [← e34] at q40; obtain ⟨f41, f42, f43⟩ := q40) | (obtain ⟨q40, f41, f42, f43⟩ : ∃ q : Int, vx33.toInt = ((2000 : Int32) * x1).toInt + r25.1.toInt + 4294967296 * q ∧ -2147483648 ≤ vx33.toInt ∧ vx33.toInt ≤ 2147483647 := by rw [e34]; exact ti_add ((2000 : Int32) * x1) r25.1)
  refine ok_mono (kl_X12_leaves_23 L hN   k_a0 _ vx33 d13 i15 (show 0 ≤ (x1).toInt by first | assumption | omega) (show (x1).toInt ≤ 3 by first | assumption | omega) (show 2000 * (x1).toInt ≤ (vx33).toInt by first | assumption | omega) (show (vx33).toInt ≤ 2000 * (x1).toInt + 2000 by first | assumption | omega) (show (q_R d13 (Ad ad 103) (x1).toNatClampNeg).toInt ≤ 1999 by first | assumption | omega) (show 2000 * (x1).toInt + 2000 - (vx33).toInt < _ by omega)) (fun r44 hr45 => ?_)
  obtain ⟨i46, ⟨u48, u49, u50⟩, p47⟩ := hr45
  have u51 := kp_t u22 u48
  have v52 : q_V r44 = q_V δ := (u49).trans v23
  have v53 := kr_t v24 u50
  have f54 := rb_103 L i46 (x1).toNatClampNeg
  exact ⟨by assumption, ⟨kp_w (by decide) u51, v52, kr_w (by decide) v53⟩, by first | assumption | omega⟩
set_option maxHeartbeats 4000000 in
theorem k_X12_notesDown {ad : List Nat} {h : hp} (L : Lay TLx ad h) {δ0 : dp} {N : Nat} (hN : 10000000 ≤ N) {a0 : Nat} {x1 : Int32} {x2 : Int32} {x3 : Int32} (k_a0 : q_K h.1 a0 = 12) {δ : dp} (z0 : 0 ≤ (x1).toInt) (z1 : (x1).toInt ≤ 3) (z2 : (q_R δ (Ad ad 106) (x1).toNatClampNeg).toInt < 1000) (I : RI ad h.1 δ0 δ) : ok (D_X12_notesDown N h.1 a0 x1 x2 x3 δ) (fun r => RI ad h.1 δ0 r ∧ (kp [] δ r ∧ q_V r = q_V δ ∧ kr ad [104, 105, 106] δ r) ∧ (q_R r (Ad ad 106) (x1).toNatClampNeg).toInt = (q_R δ (Ad ad 106) (x1).toNatClampNeg).toInt + 1) := by
  unfold D_X12_notesDown
  have f1 := ti_b x1
  have t2 := ti_tn x1
  have f3 := rb_106 L I (x1).toNatClampNeg
  obtain ⟨b4, o5, k6, n7, w8⟩ := gO_12_15 L k_a0
  obtain rfl := gS_12_15 L k_a0 o5
  refine ok_at o5 ?_
  obtain ⟨b9, o10, k11, n12⟩ := gO_12_17 L k_a0
  obtain rfl := gS_12_17 L k_a0 o10
  refine ok_at o10 ?_
  have t13 := ti_tn x1
  refine ok_gd (fun hc14 => ?_) ?_
  · rcases hc14 with hc14 | hc14
    · have c15 : x1.toInt < (0 : Int) := o_lt hc14
      omega
    · omega
  first | (have q17 := te_mulc (c := 1000) (n := 1000) rfl x1 (by omega) (by omega); obtain ⟨f18, f19, f20⟩ := q17) | (obtain ⟨q17, f18, f19, f20⟩ := ti_mulc (c := 1000) (n := 1000) rfl x1)
  have f21 := rb_106 L I x1.toNatClampNeg
  first | (have q23 := te_add ((1000 : Int32) * x1) (q_R δ (Ad ad 106) x1.toNatClampNeg) (by omega) (by omega); obtain ⟨f24, f25, f26⟩ := q23) | (obtain ⟨q23, f24, f25, f26⟩ := ti_add ((1000 : Int32) * x1) (q_R δ (Ad ad 106) x1.toNatClampNeg))
  have t27 := ti_tn (((1000 : Int32) * x1) + (q_R δ (Ad ad 106) x1.toNatClampNeg))
  refine ok_gd (fun hc28 => ?_) ?_
  · rcases hc28 with hc28 | hc28
    · have c29 : (((1000 : Int32) * x1) + (q_R δ (Ad ad 106) x1.toNatClampNeg)).toInt < (0 : Int) := o_lt hc28
      omega
    · omega
  refine ok_bdv (fun d30 e31 => ?_)
  have i32 : RI ad h.1 δ0 d30 := by rw [e31]; exact RI.sR L I w8
  have u33 := kp_N kp_r (show q_I d30 = q_I δ by rw [e31]; rfl)
  have v34 : q_V d30 = q_V δ := ((show q_V d30 = q_V δ by rw [e31]; rfl)).trans rfl
  have v35 := kr_s L (by decide) (kr_r (ad := ad)) e31
  obtain ⟨b36, o37, k38, n39, w40⟩ := gO_12_16 L k_a0
  obtain rfl := gS_12_16 L k_a0 o37
  refine ok_at o37 ?_
  refine ok_at o10 ?_
  refine ok_gd (fun hc41 => ?_) ?_
  · rcases hc41 with hc41 | hc41
    · have c42 : x1.toInt < (0 : Int) := o_lt hc41
      omega
    · omega
  have f43 : (q_R d30 (Ad ad 106) x1.toNatClampNeg).toInt = (q_R δ (Ad ad 106) x1.toNatClampNeg).toInt := congrArg Int32.toInt (show q_R d30 (Ad ad 106) x1.toNatClampNeg = _ by rw [e31, rR_o (ad_ne L (by decide) (by decide) (by decide))])
  have f44 := rb_106 L i32 x1.toNatClampNeg
  first | (have q46 := te_add ((1000 : Int32) * x1) (q_R d30 (Ad ad 106) x1.toNatClampNeg) (by omega) (by omega); obtain ⟨f47, f48, f49⟩ := q46) | (obtain ⟨q46, f47, f48, f49⟩ := ti_add ((1000 : Int32) * x1) (q_R d30 (Ad ad 106) x1.toNatClampNeg))
  have t50 := ti_tn (((1000 : Int32) * x1) + (q_R d30 (Ad ad 106) x1.toNatClampNeg))
  refine ok_gd (fun hc51 => ?_) ?_
  · rcases hc51 with hc51 | hc51
    · have c52 : (((1000 : Int32) * x1) + (q_R d30 (Ad ad 106) x1.toNatClampNeg)).toInt < (0 : Int) := o_lt hc51
      omega
    · omega
  refine ok_bdv (fun d53 e54 => ?_)
  have i55 : RI ad h.1 δ0 d53 := by rw [e54]; exact RI.sR L i32 w40
  have u56 := kp_N u33 (show q_I d53 = q_I d30 by rw [e54]; rfl)
  have v57 : q_V d53 = q_V δ := ((show q_V d53 = q_V d30 by rw [e54]; rfl)).trans v34
  have v58 := kr_s L (by decide) v35 e54
  refine ok_at o10 ?_
  refine ok_gd (fun hc59 => ?_) ?_
  · rcases hc59 with hc59 | hc59
    · have c60 : x1.toInt < (0 : Int) := o_lt hc59
      omega
    · omega
  refine ok_gd (fun hc61 => ?_) ?_
  · rcases hc61 with hc61 | hc61
    · have c62 : x1.toInt < (0 : Int) := o_lt hc61
      omega
    · omega
  have f66 : (q_R d53 (Ad ad 106) x1.toNatClampNeg).toInt = (q_R d30 (Ad ad 106) x1.toNatClampNeg).toInt := congrArg Int32.toInt (show q_R d53 (Ad ad 106) x1.toNatClampNeg = _ by rw [e54, rR_o (ad_ne L (by decide) (by decide) (by decide))])
  have f67 := rb_106 L i55 x1.toNatClampNeg
  first | (have q69 := te_addc (c := 1) (n := 1) rfl (q_R d53 (Ad ad 106) x1.toNatClampNeg) (by omega) (by omega); obtain ⟨f70, f71, f72⟩ := q69) | (obtain ⟨q69, f70, f71, f72⟩ := ti_addc (c := 1) (n := 1) rfl (q_R d53 (Ad ad 106) x1.toNatClampNeg))
  refine ok_bdv (fun d63 e64 => ?_)
  have i65 : RI ad h.1 δ0 d63 := by rw [e64]; exact cr_106 L i55 (show 0 ≤ ((q_R d53 (Ad ad 106) x1.toNatClampNeg) + (1 : Int32)).toInt by omega) (show ((q_R d53 (Ad ad 106) x1.toNatClampNeg) + (1 : Int32)).toInt ≤ 1000 by omega)
  have u73 := kp_N u56 (show q_I d63 = q_I d53 by rw [e64]; rfl)
  have v74 : q_V d63 = q_V δ := ((show q_V d63 = q_V d53 by rw [e64]; rfl)).trans v57
  have v75 := kr_s L (by decide) v58 e64
  have f76 := rb_106 L i65 (x1).toNatClampNeg
  exact ok_some (show RI ad h.1 δ0 d63 ∧ (kp [] δ d63 ∧ q_V d63 = q_V δ ∧ kr ad [104, 105, 106] δ d63) ∧ (q_R d63 (Ad ad 106) (x1).toNatClampNeg).toInt = (q_R δ (Ad ad 106) (x1).toNatClampNeg).toInt + 1 from ⟨i65, ⟨kp_w (by decide) u73, v74, kr_w (by decide) v75⟩, by first | assumption | omega⟩)
set_option maxHeartbeats 4000000 in
theorem k_X12_isHouse {ad : List Nat} {h : hp} (L : Lay TLx ad h) {δ0 : dp} {N : Nat} (hN : 10000000 ≤ N) {a0 : Nat} {x1 : Int32} {x2 : Int32} (k_a0 : q_K h.1 a0 = 12) {δ : dp} (z0 : (x2).toInt ≠ 0) (I : RI ad h.1 δ0 δ) : ok (D_X12_isHouse N h.1 a0 x1 x2 δ) (fun r => RI ad h.1 δ0 r.2 ∧ (kp [(12, 0)] δ r.2 ∧ q_V r.2 = q_V δ ∧ kr ad [100] δ r.2) ∧ bo (r.1) ∧ ((r.1).toInt = 1 → 0 ≤ (x1).toInt ∧ (x1).toInt ≤ 3)) := by
  unfold D_X12_isHouse
  have f1 := ti_b x2
  refine ok_bind (k_X12_within L hN (x0 := x1) (x1 := (0 : Int32)) (x2 := (3 : Int32))  I) (fun r2 hr3 => ?_)
  obtain ⟨i4, p5, p6, p7⟩ := hr3
  try rw [i4]
  have f8 := bo_l p5
  have f9 := ti_b r2.1
  have f10 := ti_b x1
  replace p6 : ((r2.1).toInt = 1 → (0 : Int) ≤ (x1).toInt ∧ (x1).toInt ≤ (3 : Int)) := p6
  replace p7 : ((r2.1).toInt = 0 → (x1).toInt < (0 : Int) ∨ (3 : Int) < (x1).toInt) := p7
  have f11 := ti_b r2.1
  refine ok_bind (k_X12_may L hN (a0 := a0) (x1 := r2.1) (x2 := x2) (x3 := (0 : Int32)) k_a0 (show (x2).toInt ≠ 0 by first | assumption | omega) (show 0 ≤ (0 : Int) by first | assumption | omega) (show (0 : Int) ≤ 2 by first | assumption | omega) I) (fun r12 hr13 => ?_)
  obtain ⟨i14, ⟨u18, u19, u20⟩, p15, p16, p17⟩ := hr13
  have u21 := kp_t kp_r u18
  have v22 : q_V r12.2 = q_V δ := (u19).trans rfl
  have v23 := kr_t (kr_r (ad := ad)) u20
  have f24 := bo_l p15
  have f25 := ti_b r12.1
  have f26 := ti_b (q_I δ 12 0 a0)
  have f27 := ti_b r12.1
  refine ok_gp (show bo r12.1 by first | assumption | exact bo_0 | exact bo_1 | exact bo_i (by omega) (by omega)) ?_
  exact ok_some (show RI ad h.1 δ0 r12.2 ∧ (kp [(12, 0)] δ r12.2 ∧ q_V r12.2 = q_V δ ∧ kr ad [100] δ r12.2) ∧ bo (r12.1) ∧ ((r12.1).toInt = 1 → 0 ≤ (x1).toInt ∧ (x1).toInt ≤ 3) from ⟨i14, ⟨kp_w (by decide) u21, v22, kr_w (by decide) v23⟩, by first | assumption | exact bo_0 | exact bo_1 | exact bo_i (by omega) (by omega), by first | assumption | omega⟩)
set_option maxHeartbeats 4000000 in
theorem k_X12_all {ad : List Nat} {h : hp} (L : Lay TLx ad h) {δ0 : dp} {N : Nat} (hN : 10000000 ≤ N) {a0 : Nat} (k_a0 : q_K h.1 a0 = 12) {δ : dp} (I : RI ad h.1 δ0 δ) : ok (D_X12_all N h.1 a0 δ) (fun r => r.2 = δ ∧ 4 ≤ (r.1).toInt ∧ (r.1).toInt ≤ 65536 ∧ ((q_I δ 12 10 a0).toInt ≤ 6 → (r.1).toInt ≤ 64) ∧ ((q_I δ 12 10 a0).toInt ≤ 4 → (r.1).toInt ≤ 16)) := by
  unfold D_X12_all
  have f1 := cb_12_10 I k_a0
  have f2 := sh_b (q_I δ 12 10 a0)
  have f3 := ti_b ((1 : Int32) <<< ((q_I δ 12 10 a0) &&& 31))
  exact ok_some (show δ = δ ∧ 4 ≤ (((1 : Int32) <<< ((q_I δ 12 10 a0) &&& 31))).toInt ∧ (((1 : Int32) <<< ((q_I δ 12 10 a0) &&& 31))).toInt ≤ 65536 ∧ ((q_I δ 12 10 a0).toInt ≤ 6 → (((1 : Int32) <<< ((q_I δ 12 10 a0) &&& 31))).toInt ≤ 64) ∧ ((q_I δ 12 10 a0).toInt ≤ 4 → (((1 : Int32) <<< ((q_I δ 12 10 a0) &&& 31))).toInt ≤ 16) from ⟨rfl, by first | assumption | omega, by first | assumption | omega, by first | assumption | omega, by first | assumption | omega⟩)
set_option maxHeartbeats 4000000 in
theorem k_X12_isNumber {ad : List Nat} {h : hp} (L : Lay TLx ad h) {δ0 : dp} {N : Nat} (hN : 10000000 ≤ N) {a0 : Nat} {x1 : Int32} (k_a0 : q_K h.1 a0 = 12) {δ : dp} (I : RI ad h.1 δ0 δ) : ok (D_X12_isNumber N h.1 a0 x1 δ) (fun r => r.2 = δ ∧ bo (r.1) ∧ ((r.1).toInt = 1 → 0 ≤ (x1).toInt ∧ (x1).toInt ≤ 65535)) := by
  unfold D_X12_isNumber
  refine ok_bind (k_X12_all L hN (a0 := a0) k_a0 I) (fun r1 hr2 => ?_)
  obtain ⟨i3, p4, p5, p6, p7⟩ := hr2
  try rw [i3]
  have f8 := ti_b r1.1
  have f9 := cb_12_10 I k_a0
  have f10 := ti_b r1.1
  refine ok_bind (k_X12_within L hN (x0 := x1) (x1 := (0 : Int32)) (x2 := (r1.1 - (1 : Int32)))  I) (fun r11 hr12 => ?_)
  obtain ⟨i13, p14, p15, p16⟩ := hr12
  try rw [i13]
  have f17 := bo_l p14
  have f18 := ti_b r11.1
  have f19 := ti_b x1
  first | (have q21 := te_subc (c := 1) (n := 1) rfl r1.1 (by omega) (by omega); obtain ⟨f22, f23, f24⟩ := q21) | (obtain ⟨q21, f22, f23, f24⟩ := ti_subc (c := 1) (n := 1) rfl r1.1)
  replace p15 : ((r11.1).toInt = 1 → (0 : Int) ≤ (x1).toInt ∧ (x1).toInt ≤ ((r1.1 - (1 : Int32))).toInt) := p15
  replace p16 : ((r11.1).toInt = 0 → (x1).toInt < (0 : Int) ∨ ((r1.1 - (1 : Int32))).toInt < (x1).toInt) := p16
  have f25 := ti_b r11.1
  refine ok_gp (show bo r11.1 by first | assumption | exact bo_0 | exact bo_1 | exact bo_i (by omega) (by omega)) ?_
  exact ok_some (show δ = δ ∧ bo (r11.1) ∧ ((r11.1).toInt = 1 → 0 ≤ (x1).toInt ∧ (x1).toInt ≤ 65535) from ⟨rfl, by first | assumption | exact bo_0 | exact bo_1 | exact bo_i (by omega) (by omega), by first | assumption | omega⟩)
set_option maxHeartbeats 4000000 in
theorem k_X12_put {ad : List Nat} {h : hp} (L : Lay TLx ad h) {δ0 : dp} {N : Nat} (hN : 10000000 ≤ N) {a0 : Nat} {x1 : Int32} {x2 : Int32} (k_a0 : q_K h.1 a0 = 12) {δ : dp} (I : RI ad h.1 δ0 δ) : ok (D_X12_put N h.1 a0 x1 x2 δ) (fun r => RI ad h.1 δ0 r.2 ∧ (kp [(12, 0)] δ r.2 ∧ q_V r.2 = q_V δ ∧ kr ad [100, 102, 103, 104, 105, 106] δ r.2)) := by
  unfold D_X12_put
  refine ok_bdv (fun d1 e2 => ?_)
  have i3 : RI ad h.1 δ0 d1 := by rw [e2]; exact cs_12_0 L I
  have u4 := kp_I kp_r e2
  have v5 : q_V d1 = q_V δ := ((show q_V d1 = q_V δ by rw [e2]; rfl)).trans rfl
  have v6 := kr_N (kr_r (ad := ad)) (show q_R d1 = q_R δ by rw [e2]; rfl)
  refine ok_bind (k_X12_isHouse L hN (a0 := a0) (x1 := x1) (x2 := (1 : Int32)) k_a0 (show (1 : Int) ≠ 0 by first | assumption | omega) i3) (fun r7 hr8 => ?_)
  obtain ⟨i9, ⟨u12, u13, u14⟩, p10, p11⟩ := hr8
  have u15 := kp_t u4 u12
  have v16 : q_V r7.2 = q_V δ := (u13).trans v5
  have v17 := kr_t v6 u14
  have f18 := bo_l p10
  have f19 := ti_b r7.1
  have f20 := ti_b x1
  have f21 := ti_b r7.1
  refine ok_ite (fun h22 => ?_) (fun h22 => ?_)
  · have c23 : r7.1.toInt = (0 : Int) := o_eq h22
    unfold J_X12_put_28
    exact ok_some (show RI ad h.1 δ0 r7.2 ∧ (kp [(12, 0)] δ r7.2 ∧ q_V r7.2 = q_V δ ∧ kr ad [100, 102, 103, 104, 105, 106] δ r7.2) from ⟨i9, ⟨kp_w (by decide) u15, v16, kr_w (by decide) v17⟩⟩)
  · have c24 : r7.1.toInt ≠ (0 : Int) := o_ne h22
    refine ok_bind (k_X12_isNumber L hN (a0 := a0) (x1 := x2) k_a0 i9) (fun r25 hr26 => ?_)
    obtain ⟨i27, p28, p29⟩ := hr26
    try rw [i27]
    have f30 := bo_l p28
    have f31 := ti_b r25.1
    have f32 := ti_b x2
    have f33 := ti_b r25.1
    refine ok_bind (k_X12_may L hN (a0 := a0) (x1 := r25.1) (x2 := (2 : Int32)) (x3 := (2 : Int32)) k_a0 (show (2 : Int) ≠ 0 by first | assumption | omega) (show 0 ≤ (2 : Int) by first | assumption | omega) (show (2 : Int) ≤ 2 by first | assumption | omega) i9) (fun r34 hr35 => ?_)
    obtain ⟨i36, ⟨u40, u41, u42⟩, p37, p38, p39⟩ := hr35
    have u43 := kp_t u15 u40
    have v44 : q_V r34.2 = q_V δ := (u41).trans v16
    have v45 := kr_t v17 u42
    have f46 := bo_l p37
    have f47 := ti_b r34.1
    have f48 := ti_b (q_I r7.2 12 0 a0)
    have f49 := ti_b r34.1
    refine ok_ite (fun h50 => ?_) (fun h50 => ?_)
    · have c51 : r34.1.toInt = (0 : Int) := o_eq h50
      unfold J_X12_put_28
      exact ok_some (show RI ad h.1 δ0 r34.2 ∧ (kp [(12, 0)] δ r34.2 ∧ q_V r34.2 = q_V δ ∧ kr ad [100, 102, 103, 104, 105, 106] δ r34.2) from ⟨i36, ⟨kp_w (by decide) u43, v44, kr_w (by decide) v45⟩⟩)
    · have c52 : r34.1.toInt ≠ (0 : Int) := o_ne h50
      refine ok_bind (k_X12_isThere L hN (a0 := a0) (x1 := x1) (x2 := x2) k_a0 (show 0 ≤ (x1).toInt by first | assumption | omega) (show (x1).toInt ≤ 3 by first | assumption | omega) i36) (fun r53 hr54 => ?_)
      obtain ⟨i55, p56, p57⟩ := hr54
      try rw [i55]
      have f58 := bo_l p56
      have f59 := ti_b r53.1
      have t60 := ti_tn x1
      have f61 : (q_R r34.2 (Ad ad 103) (x1).toNatClampNeg).toInt = (q_R r7.2 (Ad ad 103) (x1).toNatClampNeg).toInt := congrArg Int32.toInt (congrFun (u42 103 (by decide) (by decide) (by decide)) _)
      have f62 : (q_R r7.2 (Ad ad 103) (x1).toNatClampNeg).toInt = (q_R d1 (Ad ad 103) (x1).toNatClampNeg).toInt := congrArg Int32.toInt (congrFun (u14 103 (by decide) (by decide) (by decide)) _)
      have f63 : (q_R d1 (Ad ad 103) (x1).toNatClampNeg).toInt = (q_R δ (Ad ad 103) (x1).toNatClampNeg).toInt := congrArg Int32.toInt (show q_R d1 (Ad ad 103) (x1).toNatClampNeg = _ by rw [e2]; rfl)
      have f64 := rb_103 L I (x1).toNatClampNeg
      have f65 := rb_103 L i3 (x1).toNatClampNeg
      have f66 := rb_103 L i9 (x1).toNatClampNeg
      have f67 := rb_103 L i36 (x1).toNatClampNeg
      have f68 := ti_b r53.1
      refine ok_ite (fun h69 => ?_) (fun h69 => ?_)
      · have c70 : r53.1.toInt = (0 : Int) := o_eq h69
        obtain ⟨b71, o72, k73, n74⟩ := gO_12_14 L k_a0
        obtain rfl := gS_12_14 L k_a0 o72
        refine ok_at o72 ?_
        have t75 := ti_tn x1
        refine ok_gd (fun hc76 => ?_) ?_
        · rcases hc76 with hc76 | hc76
          · have c77 : x1.toInt < (0 : Int) := o_lt hc76
            omega
          · omega
        have f78 : (q_R r34.2 (Ad ad 103) x1.toNatClampNeg).toInt = (q_R r7.2 (Ad ad 103) x1.toNatClampNeg).toInt := congrArg Int32.toInt (congrFun (u42 103 (by decide) (by decide) (by decide)) _)
        have f79 : (q_R r7.2 (Ad ad 103) x1.toNatClampNeg).toInt = (q_R d1 (Ad ad 103) x1.toNatClampNeg).toInt := congrArg Int32.toInt (congrFun (u14 103 (by decide) (by decide) (by decide)) _)
        have f80 : (q_R d1 (Ad ad 103) x1.toNatClampNeg).toInt = (q_R δ (Ad ad 103) x1.toNatClampNeg).toInt := congrArg Int32.toInt (show q_R d1 (Ad ad 103) x1.toNatClampNeg = _ by rw [e2]; rfl)
        have f81 := rb_103 L I x1.toNatClampNeg
        have f82 := rb_103 L i3 x1.toNatClampNeg
        have f83 := rb_103 L i9 x1.toNatClampNeg
        have f84 := rb_103 L i36 x1.toNatClampNeg
        refine ok_ite (fun h85 => ?_) (fun h85 => ?_)
        · have c86 : (q_R r34.2 (Ad ad 103) x1.toNatClampNeg).toInt = (2000 : Int) := o_eq h85
          exact ok_some (show RI ad h.1 δ0 r34.2 ∧ (kp [(12, 0)] δ r34.2 ∧ q_V r34.2 = q_V δ ∧ kr ad [100, 102, 103, 104, 105, 106] δ r34.2) from ⟨i36, ⟨kp_w (by decide) u43, v44, kr_w (by decide) v45⟩⟩)
        · have c87 : (q_R r34.2 (Ad ad 103) x1.toNatClampNeg).toInt ≠ (2000 : Int) := o_ne h85
          obtain ⟨b88, o89, k90, n91⟩ := gO_12_17 L k_a0
          obtain rfl := gS_12_17 L k_a0 o89
          refine ok_at o89 ?_
          refine ok_gd (fun hc92 => ?_) ?_
          · rcases hc92 with hc92 | hc92
            · have c93 : x1.toInt < (0 : Int) := o_lt hc92
              omega
            · omega
          have f94 : (q_R r34.2 (Ad ad 106) x1.toNatClampNeg).toInt = (q_R r7.2 (Ad ad 106) x1.toNatClampNeg).toInt := congrArg Int32.toInt (congrFun (u42 106 (by decide) (by decide) (by decide)) _)
          have f95 : (q_R r7.2 (Ad ad 106) x1.toNatClampNeg).toInt = (q_R d1 (Ad ad 106) x1.toNatClampNeg).toInt := congrArg Int32.toInt (congrFun (u14 106 (by decide) (by decide) (by decide)) _)
          have f96 : (q_R d1 (Ad ad 106) x1.toNatClampNeg).toInt = (q_R δ (Ad ad 106) x1.toNatClampNeg).toInt := congrArg Int32.toInt (show q_R d1 (Ad ad 106) x1.toNatClampNeg = _ by rw [e2]; rfl)
          have f97 := rb_106 L I x1.toNatClampNeg
          have f98 := rb_106 L i3 x1.toNatClampNeg
          have f99 := rb_106 L i9 x1.toNatClampNeg
          have f100 := rb_106 L i36 x1.toNatClampNeg
          refine ok_ite (fun h101 => ?_) (fun h101 => ?_)
          · have c102 : (q_R r34.2 (Ad ad 106) x1.toNatClampNeg).toInt = (1000 : Int) := o_eq h101
            exact ok_some (show RI ad h.1 δ0 r34.2 ∧ (kp [(12, 0)] δ r34.2 ∧ q_V r34.2 = q_V δ ∧ kr ad [100, 102, 103, 104, 105, 106] δ r34.2) from ⟨i36, ⟨kp_w (by decide) u43, v44, kr_w (by decide) v45⟩⟩)
          · have c103 : (q_R r34.2 (Ad ad 106) x1.toNatClampNeg).toInt ≠ (1000 : Int) := o_ne h101
            refine ok_bind (k_X12_comes L hN (a0 := a0) (x1 := x1) (x2 := x2) k_a0 (show 0 ≤ (x1).toInt by first | assumption | omega) (show (x1).toInt ≤ 3 by first | assumption | omega) (show (q_R r34.2 (Ad ad 103) (x1).toNatClampNeg).toInt < 2000 by first | assumption | omega) i36) (fun r104 hr105 => ?_)
            obtain ⟨i106, ⟨u108, u109, u110⟩, p107⟩ := hr105
            have u111 := kp_t u43 u108
            have v112 : q_V r104 = q_V δ := (u109).trans v44
            have v113 := kr_t v45 u110
            have f114 := rb_103 L i106 (x1).toNatClampNeg
            have f117 : (q_R r104 (Ad ad 106) (x1).toNatClampNeg).toInt = (q_R r34.2 (Ad ad 106) (x1).toNatClampNeg).toInt := congrArg Int32.toInt (congrFun (u110 106 (by decide) (by decide) (by decide)) _)
            have f118 : (q_R r34.2 (Ad ad 106) (x1).toNatClampNeg).toInt = (q_R r7.2 (Ad ad 106) (x1).toNatClampNeg).toInt := congrArg Int32.toInt (congrFun (u42 106 (by decide) (by decide) (by decide)) _)
            have f119 : (q_R r7.2 (Ad ad 106) (x1).toNatClampNeg).toInt = (q_R d1 (Ad ad 106) (x1).toNatClampNeg).toInt := congrArg Int32.toInt (congrFun (u14 106 (by decide) (by decide) (by decide)) _)
            have f120 : (q_R d1 (Ad ad 106) (x1).toNatClampNeg).toInt = (q_R δ (Ad ad 106) (x1).toNatClampNeg).toInt := congrArg Int32.toInt (show q_R d1 (Ad ad 106) (x1).toNatClampNeg = _ by rw [e2]; rfl)
            have f121 := rb_106 L I (x1).toNatClampNeg
            have f122 := rb_106 L i3 (x1).toNatClampNeg
            have f123 := rb_106 L i9 (x1).toNatClampNeg
            have f124 := rb_106 L i36 (x1).toNatClampNeg
            have f125 := rb_106 L i106 (x1).toNatClampNeg
            refine ok_bind (k_X12_notesDown L hN (a0 := a0) (x1 := x1) (x2 := x2) (x3 := (1 : Int32)) k_a0 (show 0 ≤ (x1).toInt by first | assumption | omega) (show (x1).toInt ≤ 3 by first | assumption | omega) (show (q_R r104 (Ad ad 106) (x1).toNatClampNeg).toInt < 1000 by first | assumption | omega) i106) (fun r115 hr116 => ?_)
            obtain ⟨i126, ⟨u128, u129, u130⟩, p127⟩ := hr116
            have u131 := kp_t u111 u128
            have v132 : q_V r115 = q_V δ := (u129).trans v112
            have v133 := kr_t v113 u130
            have f134 := rb_106 L i126 (x1).toNatClampNeg
            exact ok_some (show RI ad h.1 δ0 r115 ∧ (kp [(12, 0)] δ r115 ∧ q_V r115 = q_V δ ∧ kr ad [100, 102, 103, 104, 105, 106] δ r115) from ⟨i126, ⟨kp_w (by decide) u131, v132, kr_w (by decide) v133⟩⟩)
      · have c135 : r53.1.toInt ≠ (0 : Int) := o_ne h69
        exact ok_some (show RI ad h.1 δ0 r34.2 ∧ (kp [(12, 0)] δ r34.2 ∧ q_V r34.2 = q_V δ ∧ kr ad [100, 102, 103, 104, 105, 106] δ r34.2) from ⟨i36, ⟨kp_w (by decide) u43, v44, kr_w (by decide) v45⟩⟩)
set_option maxHeartbeats 4000000 in
theorem k_X12_drop {ad : List Nat} {h : hp} (L : Lay TLx ad h) {δ0 : dp} {N : Nat} (hN : 10000000 ≤ N) {a0 : Nat} {x1 : Int32} {x2 : Int32} (k_a0 : q_K h.1 a0 = 12) {δ : dp} (I : RI ad h.1 δ0 δ) : ok (D_X12_drop N h.1 a0 x1 x2 δ) (fun r => RI ad h.1 δ0 r.2 ∧ (kp [(12, 0)] δ r.2 ∧ q_V r.2 = q_V δ ∧ kr ad [100, 102, 103, 104, 105, 106] δ r.2)) := by
  unfold D_X12_drop
  refine ok_bdv (fun d1 e2 => ?_)
  have i3 : RI ad h.1 δ0 d1 := by rw [e2]; exact cs_12_0 L I
  have u4 := kp_I kp_r e2
  have v5 : q_V d1 = q_V δ := ((show q_V d1 = q_V δ by rw [e2]; rfl)).trans rfl
  have v6 := kr_N (kr_r (ad := ad)) (show q_R d1 = q_R δ by rw [e2]; rfl)
  refine ok_bind (k_X12_isHouse L hN (a0 := a0) (x1 := x1) (x2 := (1 : Int32)) k_a0 (show (1 : Int) ≠ 0 by first | assumption | omega) i3) (fun r7 hr8 => ?_)
  obtain ⟨i9, ⟨u12, u13, u14⟩, p10, p11⟩ := hr8
  have u15 := kp_t u4 u12
  have v16 : q_V r7.2 = q_V δ := (u13).trans v5
  have v17 := kr_t v6 u14
  have f18 := bo_l p10
  have f19 := ti_b r7.1
  have f20 := ti_b x1
  have f21 := ti_b r7.1
  refine ok_ite (fun h22 => ?_) (fun h22 => ?_)
  · have c23 : r7.1.toInt = (0 : Int) := o_eq h22
    unfold J_X12_drop_28
    exact ok_some (show RI ad h.1 δ0 r7.2 ∧ (kp [(12, 0)] δ r7.2 ∧ q_V r7.2 = q_V δ ∧ kr ad [100, 102, 103, 104, 105, 106] δ r7.2) from ⟨i9, ⟨kp_w (by decide) u15, v16, kr_w (by decide) v17⟩⟩)
  · have c24 : r7.1.toInt ≠ (0 : Int) := o_ne h22
    refine ok_bind (k_X12_isNumber L hN (a0 := a0) (x1 := x2) k_a0 i9) (fun r25 hr26 => ?_)
    obtain ⟨i27, p28, p29⟩ := hr26
    try rw [i27]
    have f30 := bo_l p28
    have f31 := ti_b r25.1
    have f32 := ti_b x2
    have f33 := ti_b r25.1
    refine ok_bind (k_X12_may L hN (a0 := a0) (x1 := r25.1) (x2 := (2 : Int32)) (x3 := (2 : Int32)) k_a0 (show (2 : Int) ≠ 0 by first | assumption | omega) (show 0 ≤ (2 : Int) by first | assumption | omega) (show (2 : Int) ≤ 2 by first | assumption | omega) i9) (fun r34 hr35 => ?_)
    obtain ⟨i36, ⟨u40, u41, u42⟩, p37, p38, p39⟩ := hr35
    have u43 := kp_t u15 u40
    have v44 : q_V r34.2 = q_V δ := (u41).trans v16
    have v45 := kr_t v17 u42
    have f46 := bo_l p37
    have f47 := ti_b r34.1
    have f48 := ti_b (q_I r7.2 12 0 a0)
    have f49 := ti_b r34.1
    refine ok_ite (fun h50 => ?_) (fun h50 => ?_)
    · have c51 : r34.1.toInt = (0 : Int) := o_eq h50
      unfold J_X12_drop_28
      exact ok_some (show RI ad h.1 δ0 r34.2 ∧ (kp [(12, 0)] δ r34.2 ∧ q_V r34.2 = q_V δ ∧ kr ad [100, 102, 103, 104, 105, 106] δ r34.2) from ⟨i36, ⟨kp_w (by decide) u43, v44, kr_w (by decide) v45⟩⟩)
    · have c52 : r34.1.toInt ≠ (0 : Int) := o_ne h50
      refine ok_bind (k_X12_isThere L hN (a0 := a0) (x1 := x1) (x2 := x2) k_a0 (show 0 ≤ (x1).toInt by first | assumption | omega) (show (x1).toInt ≤ 3 by first | assumption | omega) i36) (fun r53 hr54 => ?_)
      obtain ⟨i55, p56, p57⟩ := hr54
      try rw [i55]
      have f58 := bo_l p56
      have f59 := ti_b r53.1
      have t60 := ti_tn x1
      have f61 : (q_R r34.2 (Ad ad 103) (x1).toNatClampNeg).toInt = (q_R r7.2 (Ad ad 103) (x1).toNatClampNeg).toInt := congrArg Int32.toInt (congrFun (u42 103 (by decide) (by decide) (by decide)) _)
      have f62 : (q_R r7.2 (Ad ad 103) (x1).toNatClampNeg).toInt = (q_R d1 (Ad ad 103) (x1).toNatClampNeg).toInt := congrArg Int32.toInt (congrFun (u14 103 (by decide) (by decide) (by decide)) _)
      have f63 : (q_R d1 (Ad ad 103) (x1).toNatClampNeg).toInt = (q_R δ (Ad ad 103) (x1).toNatClampNeg).toInt := congrArg Int32.toInt (show q_R d1 (Ad ad 103) (x1).toNatClampNeg = _ by rw [e2]; rfl)
      have f64 := rb_103 L I (x1).toNatClampNeg
      have f65 := rb_103 L i3 (x1).toNatClampNeg
      have f66 := rb_103 L i9 (x1).toNatClampNeg
      have f67 := rb_103 L i36 (x1).toNatClampNeg
      have f68 := ti_b r53.1
      refine ok_ite (fun h69 => ?_) (fun h69 => ?_)
      · have c70 : r53.1.toInt = (0 : Int) := o_eq h69
        exact ok_some (show RI ad h.1 δ0 r34.2 ∧ (kp [(12, 0)] δ r34.2 ∧ q_V r34.2 = q_V δ ∧ kr ad [100, 102, 103, 104, 105, 106] δ r34.2) from ⟨i36, ⟨kp_w (by decide) u43, v44, kr_w (by decide) v45⟩⟩)
      · have c71 : r53.1.toInt ≠ (0 : Int) := o_ne h69
        obtain ⟨b72, o73, k74, n75⟩ := gO_12_17 L k_a0
        obtain rfl := gS_12_17 L k_a0 o73
        refine ok_at o73 ?_
        have t76 := ti_tn x1
        refine ok_gd (fun hc77 => ?_) ?_
        · rcases hc77 with hc77 | hc77
          · have c78 : x1.toInt < (0 : Int) := o_lt hc77
            omega
          · omega
        have f79 : (q_R r34.2 (Ad ad 106) x1.toNatClampNeg).toInt = (q_R r7.2 (Ad ad 106) x1.toNatClampNeg).toInt := congrArg Int32.toInt (congrFun (u42 106 (by decide) (by decide) (by decide)) _)
        have f80 : (q_R r7.2 (Ad ad 106) x1.toNatClampNeg).toInt = (q_R d1 (Ad ad 106) x1.toNatClampNeg).toInt := congrArg Int32.toInt (congrFun (u14 106 (by decide) (by decide) (by decide)) _)
        have f81 : (q_R d1 (Ad ad 106) x1.toNatClampNeg).toInt = (q_R δ (Ad ad 106) x1.toNatClampNeg).toInt := congrArg Int32.toInt (show q_R d1 (Ad ad 106) x1.toNatClampNeg = _ by rw [e2]; rfl)
        have f82 := rb_106 L I x1.toNatClampNeg
        have f83 := rb_106 L i3 x1.toNatClampNeg
        have f84 := rb_106 L i9 x1.toNatClampNeg
        have f85 := rb_106 L i36 x1.toNatClampNeg
        refine ok_ite (fun h86 => ?_) (fun h86 => ?_)
        · have c87 : (q_R r34.2 (Ad ad 106) x1.toNatClampNeg).toInt = (1000 : Int) := o_eq h86
          exact ok_some (show RI ad h.1 δ0 r34.2 ∧ (kp [(12, 0)] δ r34.2 ∧ q_V r34.2 = q_V δ ∧ kr ad [100, 102, 103, 104, 105, 106] δ r34.2) from ⟨i36, ⟨kp_w (by decide) u43, v44, kr_w (by decide) v45⟩⟩)
        · have c88 : (q_R r34.2 (Ad ad 106) x1.toNatClampNeg).toInt ≠ (1000 : Int) := o_ne h86
          refine ok_bind (k_X12_leaves L hN (a0 := a0) (x1 := x1) (x2 := x2) k_a0 (show 0 ≤ (x1).toInt by first | assumption | omega) (show (x1).toInt ≤ 3 by first | assumption | omega) (show -999 ≤ (q_R r34.2 (Ad ad 103) (x1).toNatClampNeg).toInt by first | assumption | omega) i36) (fun r89 hr90 => ?_)
          obtain ⟨i91, ⟨u93, u94, u95⟩, p92⟩ := hr90
          have u96 := kp_t u43 u93
          have v97 : q_V r89 = q_V δ := (u94).trans v44
          have v98 := kr_t v45 u95
          have f99 := rb_103 L i91 (x1).toNatClampNeg
          have f102 : (q_R r89 (Ad ad 106) (x1).toNatClampNeg).toInt = (q_R r34.2 (Ad ad 106) (x1).toNatClampNeg).toInt := congrArg Int32.toInt (congrFun (u95 106 (by decide) (by decide) (by decide)) _)
          have f103 : (q_R r34.2 (Ad ad 106) (x1).toNatClampNeg).toInt = (q_R r7.2 (Ad ad 106) (x1).toNatClampNeg).toInt := congrArg Int32.toInt (congrFun (u42 106 (by decide) (by decide) (by decide)) _)
          have f104 : (q_R r7.2 (Ad ad 106) (x1).toNatClampNeg).toInt = (q_R d1 (Ad ad 106) (x1).toNatClampNeg).toInt := congrArg Int32.toInt (congrFun (u14 106 (by decide) (by decide) (by decide)) _)
          have f105 : (q_R d1 (Ad ad 106) (x1).toNatClampNeg).toInt = (q_R δ (Ad ad 106) (x1).toNatClampNeg).toInt := congrArg Int32.toInt (show q_R d1 (Ad ad 106) (x1).toNatClampNeg = _ by rw [e2]; rfl)
          have f106 := rb_106 L I (x1).toNatClampNeg
          have f107 := rb_106 L i3 (x1).toNatClampNeg
          have f108 := rb_106 L i9 (x1).toNatClampNeg
          have f109 := rb_106 L i36 (x1).toNatClampNeg
          have f110 := rb_106 L i91 (x1).toNatClampNeg
          refine ok_bind (k_X12_notesDown L hN (a0 := a0) (x1 := x1) (x2 := x2) (x3 := (0 : Int32)) k_a0 (show 0 ≤ (x1).toInt by first | assumption | omega) (show (x1).toInt ≤ 3 by first | assumption | omega) (show (q_R r89 (Ad ad 106) (x1).toNatClampNeg).toInt < 1000 by first | assumption | omega) i91) (fun r100 hr101 => ?_)
          obtain ⟨i111, ⟨u113, u114, u115⟩, p112⟩ := hr101
          have u116 := kp_t u96 u113
          have v117 : q_V r100 = q_V δ := (u114).trans v97
          have v118 := kr_t v98 u115
          have f119 := rb_106 L i111 (x1).toNatClampNeg
          exact ok_some (show RI ad h.1 δ0 r100 ∧ (kp [(12, 0)] δ r100 ∧ q_V r100 = q_V δ ∧ kr ad [100, 102, 103, 104, 105, 106] δ r100) from ⟨i111, ⟨kp_w (by decide) u116, v117, kr_w (by decide) v118⟩⟩)
set_option maxHeartbeats 4000000 in
theorem k_X12_has {ad : List Nat} {h : hp} (L : Lay TLx ad h) {δ0 : dp} {N : Nat} (hN : 10000000 ≤ N) {a0 : Nat} {x1 : Int32} {x2 : Int32} (k_a0 : q_K h.1 a0 = 12) {δ : dp} (I : RI ad h.1 δ0 δ) : ok (D_X12_has N h.1 a0 x1 x2 δ) (fun r => RI ad h.1 δ0 r.2 ∧ (kp [(12, 0)] δ r.2 ∧ q_V r.2 = q_V δ ∧ kr ad [100] δ r.2)) := by
  unfold D_X12_has
  refine ok_bdv (fun d1 e2 => ?_)
  have i3 : RI ad h.1 δ0 d1 := by rw [e2]; exact cs_12_0 L I
  have u4 := kp_I kp_r e2
  have v5 : q_V d1 = q_V δ := ((show q_V d1 = q_V δ by rw [e2]; rfl)).trans rfl
  have v6 := kr_N (kr_r (ad := ad)) (show q_R d1 = q_R δ by rw [e2]; rfl)
  refine ok_bind (k_X12_isHouse L hN (a0 := a0) (x1 := x1) (x2 := (1 : Int32)) k_a0 (show (1 : Int) ≠ 0 by first | assumption | omega) i3) (fun r7 hr8 => ?_)
  obtain ⟨i9, ⟨u12, u13, u14⟩, p10, p11⟩ := hr8
  have u15 := kp_t u4 u12
  have v16 : q_V r7.2 = q_V δ := (u13).trans v5
  have v17 := kr_t v6 u14
  have f18 := bo_l p10
  have f19 := ti_b r7.1
  have f20 := ti_b x1
  have f21 := ti_b r7.1
  refine ok_ite (fun h22 => ?_) (fun h22 => ?_)
  · have c23 : r7.1.toInt = (0 : Int) := o_eq h22
    unfold J_X12_has_28
    refine ok_gp (by decide) ?_
    exact ok_some (show RI ad h.1 δ0 r7.2 ∧ (kp [(12, 0)] δ r7.2 ∧ q_V r7.2 = q_V δ ∧ kr ad [100] δ r7.2) from ⟨i9, ⟨kp_w (by decide) u15, v16, kr_w (by decide) v17⟩⟩)
  · have c24 : r7.1.toInt ≠ (0 : Int) := o_ne h22
    refine ok_bind (k_X12_isNumber L hN (a0 := a0) (x1 := x2) k_a0 i9) (fun r25 hr26 => ?_)
    obtain ⟨i27, p28, p29⟩ := hr26
    try rw [i27]
    have f30 := bo_l p28
    have f31 := ti_b r25.1
    have f32 := ti_b x2
    have f33 := ti_b r25.1
    refine ok_bind (k_X12_may L hN (a0 := a0) (x1 := r25.1) (x2 := (2 : Int32)) (x3 := (2 : Int32)) k_a0 (show (2 : Int) ≠ 0 by first | assumption | omega) (show 0 ≤ (2 : Int) by first | assumption | omega) (show (2 : Int) ≤ 2 by first | assumption | omega) i9) (fun r34 hr35 => ?_)
    obtain ⟨i36, ⟨u40, u41, u42⟩, p37, p38, p39⟩ := hr35
    have u43 := kp_t u15 u40
    have v44 : q_V r34.2 = q_V δ := (u41).trans v16
    have v45 := kr_t v17 u42
    have f46 := bo_l p37
    have f47 := ti_b r34.1
    have f48 := ti_b (q_I r7.2 12 0 a0)
    have f49 := ti_b r34.1
    refine ok_ite (fun h50 => ?_) (fun h50 => ?_)
    · have c51 : r34.1.toInt = (0 : Int) := o_eq h50
      unfold J_X12_has_28
      refine ok_gp (by decide) ?_
      exact ok_some (show RI ad h.1 δ0 r34.2 ∧ (kp [(12, 0)] δ r34.2 ∧ q_V r34.2 = q_V δ ∧ kr ad [100] δ r34.2) from ⟨i36, ⟨kp_w (by decide) u43, v44, kr_w (by decide) v45⟩⟩)
    · have c52 : r34.1.toInt ≠ (0 : Int) := o_ne h50
      refine ok_bind (k_X12_isThere L hN (a0 := a0) (x1 := x1) (x2 := x2) k_a0 (show 0 ≤ (x1).toInt by first | assumption | omega) (show (x1).toInt ≤ 3 by first | assumption | omega) i36) (fun r53 hr54 => ?_)
      obtain ⟨i55, p56, p57⟩ := hr54
      try rw [i55]
      have f58 := bo_l p56
      have f59 := ti_b r53.1
      have t60 := ti_tn x1
      have f61 : (q_R r34.2 (Ad ad 103) (x1).toNatClampNeg).toInt = (q_R r7.2 (Ad ad 103) (x1).toNatClampNeg).toInt := congrArg Int32.toInt (congrFun (u42 103 (by decide) (by decide) (by decide)) _)
      have f62 : (q_R r7.2 (Ad ad 103) (x1).toNatClampNeg).toInt = (q_R d1 (Ad ad 103) (x1).toNatClampNeg).toInt := congrArg Int32.toInt (congrFun (u14 103 (by decide) (by decide) (by decide)) _)
      have f63 : (q_R d1 (Ad ad 103) (x1).toNatClampNeg).toInt = (q_R δ (Ad ad 103) (x1).toNatClampNeg).toInt := congrArg Int32.toInt (show q_R d1 (Ad ad 103) (x1).toNatClampNeg = _ by rw [e2]; rfl)
      have f64 := rb_103 L I (x1).toNatClampNeg
      have f65 := rb_103 L i3 (x1).toNatClampNeg
      have f66 := rb_103 L i9 (x1).toNatClampNeg
      have f67 := rb_103 L i36 (x1).toNatClampNeg
      have f68 := ti_b r53.1
      refine ok_gp (show bo r53.1 by first | assumption | exact bo_0 | exact bo_1 | exact bo_i (by omega) (by omega)) ?_
      exact ok_some (show RI ad h.1 δ0 r34.2 ∧ (kp [(12, 0)] δ r34.2 ∧ q_V r34.2 = q_V δ ∧ kr ad [100] δ r34.2) from ⟨i36, ⟨kp_w (by decide) u43, v44, kr_w (by decide) v45⟩⟩)
set_option maxHeartbeats 4000000 in
theorem k_X12_numberAt {ad : List Nat} {h : hp} (L : Lay TLx ad h) {δ0 : dp} {N : Nat} (hN : 10000000 ≤ N) {a0 : Nat} {x1 : Int32} {x2 : Int32} (k_a0 : q_K h.1 a0 = 12) {δ : dp} (z0 : 0 ≤ (x1).toInt) (z1 : (x1).toInt ≤ 3) (I : RI ad h.1 δ0 δ) : ok (D_X12_numberAt N h.1 a0 x1 x2 δ) (fun r => r.2 = δ) := by
  unfold D_X12_numberAt
  have f1 := ti_b x1
  obtain ⟨b2, o3, k4, n5⟩ := gO_12_14 L k_a0
  obtain rfl := gS_12_14 L k_a0 o3
  refine ok_at o3 ?_
  have t6 := ti_tn x1
  refine ok_gd (fun hc7 => ?_) ?_
  · rcases hc7 with hc7 | hc7
    · have c8 : x1.toInt < (0 : Int) := o_lt hc7
      omega
    · omega
  refine ok_bind (k_X12_within L hN (x0 := x2) (x1 := (0 : Int32)) (x2 := ((q_R δ (Ad ad 103) x1.toNatClampNeg) - (1 : Int32)))  I) (fun r9 hr10 => ?_)
  obtain ⟨i11, p12, p13, p14⟩ := hr10
  try rw [i11]
  have f15 := bo_l p12
  have f16 := ti_b r9.1
  have f17 := ti_b x2
  have f18 := rb_103 L I x1.toNatClampNeg
  first | (have q20 := te_subc (c := 1) (n := 1) rfl (q_R δ (Ad ad 103) x1.toNatClampNeg) (by omega) (by omega); obtain ⟨f21, f22, f23⟩ := q20) | (obtain ⟨q20, f21, f22, f23⟩ := ti_subc (c := 1) (n := 1) rfl (q_R δ (Ad ad 103) x1.toNatClampNeg))
  replace p13 : ((r9.1).toInt = 1 → (0 : Int) ≤ (x2).toInt ∧ (x2).toInt ≤ (((q_R δ (Ad ad 103) x1.toNatClampNeg) - (1 : Int32))).toInt) := p13
  replace p14 : ((r9.1).toInt = 0 → (x2).toInt < (0 : Int) ∨ (((q_R δ (Ad ad 103) x1.toNatClampNeg) - (1 : Int32))).toInt < (x2).toInt) := p14
  have f24 := ti_b r9.1
  refine ok_ite (fun h25 => ?_) (fun h25 => ?_)
  · have c26 : r9.1.toInt = (0 : Int) := o_eq h25
    unfold J_X12_numberAt_32
    exact ok_some (show δ = δ from rfl)
  · have c27 : r9.1.toInt ≠ (0 : Int) := o_ne h25
    obtain ⟨b28, o29, k30, n31, w32⟩ := gO_12_13 L k_a0
    obtain rfl := gS_12_13 L k_a0 o29
    refine ok_at o29 ?_
    first | (have q34 := te_mulc (c := 2000) (n := 2000) rfl x1 (by omega) (by omega); obtain ⟨f35, f36, f37⟩ := q34) | (obtain ⟨q34, f35, f36, f37⟩ := ti_mulc (c := 2000) (n := 2000) rfl x1)
    first | (have q39 := te_add ((2000 : Int32) * x1) x2 (by omega) (by omega); obtain ⟨f40, f41, f42⟩ := q39) | (obtain ⟨q39, f40, f41, f42⟩ := ti_add ((2000 : Int32) * x1) x2)
    have t43 := ti_tn (((2000 : Int32) * x1) + x2)
    refine ok_gd (fun hc44 => ?_) ?_
    · rcases hc44 with hc44 | hc44
      · have c45 : (((2000 : Int32) * x1) + x2).toInt < (0 : Int) := o_lt hc44
        omega
      · omega
    unfold J_X12_numberAt_32
    exact ok_some (show δ = δ from rfl)
set_option maxHeartbeats 4000000 in
theorem k_X12_of_ {ad : List Nat} {h : hp} (L : Lay TLx ad h) {δ0 : dp} {N : Nat} (hN : 10000000 ≤ N) {a0 : Nat} {x1 : Int32} {x2 : Int32} (k_a0 : q_K h.1 a0 = 12) {δ : dp} (I : RI ad h.1 δ0 δ) : ok (D_X12_of_ N h.1 a0 x1 x2 δ) (fun r => RI ad h.1 δ0 r.2 ∧ (kp [(12, 0)] δ r.2 ∧ q_V r.2 = q_V δ ∧ kr ad [100] δ r.2)) := by
  unfold D_X12_of_
  refine ok_bdv (fun d1 e2 => ?_)
  have i3 : RI ad h.1 δ0 d1 := by rw [e2]; exact cs_12_0 L I
  have u4 := kp_I kp_r e2
  have v5 : q_V d1 = q_V δ := ((show q_V d1 = q_V δ by rw [e2]; rfl)).trans rfl
  have v6 := kr_N (kr_r (ad := ad)) (show q_R d1 = q_R δ by rw [e2]; rfl)
  refine ok_bind (k_X12_isHouse L hN (a0 := a0) (x1 := x1) (x2 := (1 : Int32)) k_a0 (show (1 : Int) ≠ 0 by first | assumption | omega) i3) (fun r7 hr8 => ?_)
  obtain ⟨i9, ⟨u12, u13, u14⟩, p10, p11⟩ := hr8
  have u15 := kp_t u4 u12
  have v16 : q_V r7.2 = q_V δ := (u13).trans v5
  have v17 := kr_t v6 u14
  have f18 := bo_l p10
  have f19 := ti_b r7.1
  have f20 := ti_b x1
  have f21 := ti_b r7.1
  refine ok_ite (fun h22 => ?_) (fun h22 => ?_)
  · have c23 : r7.1.toInt = (0 : Int) := o_eq h22
    unfold J_X12_of__29
    exact ok_some (show RI ad h.1 δ0 r7.2 ∧ (kp [(12, 0)] δ r7.2 ∧ q_V r7.2 = q_V δ ∧ kr ad [100] δ r7.2) from ⟨i9, ⟨kp_w (by decide) u15, v16, kr_w (by decide) v17⟩⟩)
  · have c24 : r7.1.toInt ≠ (0 : Int) := o_ne h22
    refine ok_bind (k_X12_within L hN (x0 := x2) (x1 := (0 : Int32)) (x2 := (3 : Int32))  i9) (fun r25 hr26 => ?_)
    obtain ⟨i27, p28, p29, p30⟩ := hr26
    try rw [i27]
    have f31 := bo_l p28
    have f32 := ti_b r25.1
    have f33 := ti_b x2
    replace p29 : ((r25.1).toInt = 1 → (0 : Int) ≤ (x2).toInt ∧ (x2).toInt ≤ (3 : Int)) := p29
    replace p30 : ((r25.1).toInt = 0 → (x2).toInt < (0 : Int) ∨ (3 : Int) < (x2).toInt) := p30
    have f34 := ti_b r25.1
    refine ok_bind (k_X12_may L hN (a0 := a0) (x1 := r25.1) (x2 := (2 : Int32)) (x3 := (2 : Int32)) k_a0 (show (2 : Int) ≠ 0 by first | assumption | omega) (show 0 ≤ (2 : Int) by first | assumption | omega) (show (2 : Int) ≤ 2 by first | assumption | omega) i9) (fun r35 hr36 => ?_)
    obtain ⟨i37, ⟨u41, u42, u43⟩, p38, p39, p40⟩ := hr36
    have u44 := kp_t u15 u41
    have v45 : q_V r35.2 = q_V δ := (u42).trans v16
    have v46 := kr_t v17 u43
    have f47 := bo_l p38
    have f48 := ti_b r35.1
    have f49 := ti_b (q_I r7.2 12 0 a0)
    have f50 := ti_b r35.1
    refine ok_ite (fun h51 => ?_) (fun h51 => ?_)
    · have c52 : r35.1.toInt = (0 : Int) := o_eq h51
      unfold J_X12_of__29
      exact ok_some (show RI ad h.1 δ0 r35.2 ∧ (kp [(12, 0)] δ r35.2 ∧ q_V r35.2 = q_V δ ∧ kr ad [100] δ r35.2) from ⟨i37, ⟨kp_w (by decide) u44, v45, kr_w (by decide) v46⟩⟩)
    · have c53 : r35.1.toInt ≠ (0 : Int) := o_ne h51
      refine ok_ite (fun h54 => ?_) (fun h54 => ?_)
      · have c55 : x2.toInt = (0 : Int) := o_eq h54
        obtain ⟨b56, o57, k58, n59⟩ := gO_12_14 L k_a0
        obtain rfl := gS_12_14 L k_a0 o57
        refine ok_at o57 ?_
        have t60 := ti_tn x1
        refine ok_gd (fun hc61 => ?_) ?_
        · rcases hc61 with hc61 | hc61
          · have c62 : x1.toInt < (0 : Int) := o_lt hc61
            omega
          · omega
        unfold J_X12_of__85
        exact ok_some (show RI ad h.1 δ0 r35.2 ∧ (kp [(12, 0)] δ r35.2 ∧ q_V r35.2 = q_V δ ∧ kr ad [100] δ r35.2) from ⟨i37, ⟨kp_w (by decide) u44, v45, kr_w (by decide) v46⟩⟩)
      · have c63 : x2.toInt ≠ (0 : Int) := o_ne h54
        refine ok_ite (fun h64 => ?_) (fun h64 => ?_)
        · have c65 : x2.toInt = (1 : Int) := o_eq h64
          refine ok_bind (k_X12_numberAt L hN (a0 := a0) (x1 := x1) (x2 := (0 : Int32)) k_a0 (show 0 ≤ (x1).toInt by first | assumption | omega) (show (x1).toInt ≤ 3 by first | assumption | omega) i37) (fun r66 hr67 => ?_)
          have i68 := hr67
          try rw [i68]
          have f69 := ti_b r66.1
          unfold J_X12_of__85
          exact ok_some (show RI ad h.1 δ0 r35.2 ∧ (kp [(12, 0)] δ r35.2 ∧ q_V r35.2 = q_V δ ∧ kr ad [100] δ r35.2) from ⟨i37, ⟨kp_w (by decide) u44, v45, kr_w (by decide) v46⟩⟩)
        · have c70 : x2.toInt ≠ (1 : Int) := o_ne h64
          refine ok_ite (fun h71 => ?_) (fun h71 => ?_)
          · have c72 : x2.toInt = (2 : Int) := o_eq h71
            obtain ⟨b73, o74, k75, n76⟩ := gO_12_14 L k_a0
            obtain rfl := gS_12_14 L k_a0 o74
            refine ok_at o74 ?_
            have t77 := ti_tn x1
            refine ok_gd (fun hc78 => ?_) ?_
            · rcases hc78 with hc78 | hc78
              · have c79 : x1.toInt < (0 : Int) := o_lt hc78
                omega
              · omega
            refine ok_bind (k_X12_numberAt L hN (a0 := a0) (x1 := x1) (x2 := ((q_R r35.2 (Ad ad 103) x1.toNatClampNeg) - (1 : Int32))) k_a0 (show 0 ≤ (x1).toInt by first | assumption | omega) (show (x1).toInt ≤ 3 by first | assumption | omega) i37) (fun r80 hr81 => ?_)
            have i82 := hr81
            try rw [i82]
            have f83 := ti_b r80.1
            unfold J_X12_of__85
            exact ok_some (show RI ad h.1 δ0 r35.2 ∧ (kp [(12, 0)] δ r35.2 ∧ q_V r35.2 = q_V δ ∧ kr ad [100] δ r35.2) from ⟨i37, ⟨kp_w (by decide) u44, v45, kr_w (by decide) v46⟩⟩)
          · have c84 : x2.toInt ≠ (2 : Int) := o_ne h71
            obtain ⟨b85, o86, k87, n88⟩ := gO_12_17 L k_a0
            obtain rfl := gS_12_17 L k_a0 o86
            refine ok_at o86 ?_
            have t89 := ti_tn x1
            refine ok_gd (fun hc90 => ?_) ?_
            · rcases hc90 with hc90 | hc90
              · have c91 : x1.toInt < (0 : Int) := o_lt hc90
                omega
              · omega
            unfold J_X12_of__85
            exact ok_some (show RI ad h.1 δ0 r35.2 ∧ (kp [(12, 0)] δ r35.2 ∧ q_V r35.2 = q_V δ ∧ kr ad [100] δ r35.2) from ⟨i37, ⟨kp_w (by decide) u44, v45, kr_w (by decide) v46⟩⟩)
set_option maxHeartbeats 4000000 in
theorem k_X12_answer {ad : List Nat} {h : hp} (L : Lay TLx ad h) {δ0 : dp} {N : Nat} (hN : 10000000 ≤ N) {a0 : Nat} {x1 : Int32} {x2 : Int32} {x3 : Int32} (k_a0 : q_K h.1 a0 = 12) {δ : dp} (z0 : 0 ≤ (x1).toInt) (z1 : (x1).toInt ≤ 3) (I : RI ad h.1 δ0 δ) : ok (D_X12_answer N h.1 a0 x1 x2 x3 δ) (fun r => r.2 = δ) := by
  unfold D_X12_answer
  have f1 := ti_b x1
  have f2 := ti_b x2
  refine ok_ite (fun h3 => ?_) (fun h3 => ?_)
  · have c4 : x2.toInt = (3 : Int) := o_eq h3
    refine ok_bind (k_X12_place L hN (a0 := a0) (x1 := x1) (x2 := (x3 + (1 : Int32))) k_a0 (show 0 ≤ (x1).toInt by first | assumption | omega) (show (x1).toInt ≤ 3 by first | assumption | omega) I) (fun r5 hr6 => ?_)
    obtain ⟨i7, p8, p9⟩ := hr6
    try rw [i7]
    have f10 := ti_b r5.1
    have t11 := ti_tn x1
    have f12 := rb_103 L I (x1).toNatClampNeg
    have f13 := ti_b r5.1
    refine ok_bind (k_X12_numberAt L hN (a0 := a0) (x1 := x1) (x2 := r5.1) k_a0 (show 0 ≤ (x1).toInt by first | assumption | omega) (show (x1).toInt ≤ 3 by first | assumption | omega) I) (fun r14 hr15 => ?_)
    have i16 := hr15
    try rw [i16]
    have f17 := ti_b r14.1
    exact ok_some (show δ = δ from rfl)
  · have c18 : x2.toInt ≠ (3 : Int) := o_ne h3
    refine ok_ite (fun h19 => ?_) (fun h19 => ?_)
    · have c20 : x2.toInt = (4 : Int) := o_eq h19
      refine ok_bind (k_X12_place L hN (a0 := a0) (x1 := x1) (x2 := x3) k_a0 (show 0 ≤ (x1).toInt by first | assumption | omega) (show (x1).toInt ≤ 3 by first | assumption | omega) I) (fun r21 hr22 => ?_)
      obtain ⟨i23, p24, p25⟩ := hr22
      try rw [i23]
      have f26 := ti_b r21.1
      have t27 := ti_tn x1
      have f28 := rb_103 L I (x1).toNatClampNeg
      have f29 := ti_b r21.1
      refine ok_bind (k_X12_numberAt L hN (a0 := a0) (x1 := x1) (x2 := (r21.1 - (1 : Int32))) k_a0 (show 0 ≤ (x1).toInt by first | assumption | omega) (show (x1).toInt ≤ 3 by first | assumption | omega) I) (fun r30 hr31 => ?_)
      have i32 := hr31
      try rw [i32]
      have f33 := ti_b r30.1
      exact ok_some (show δ = δ from rfl)
    · have c34 : x2.toInt ≠ (4 : Int) := o_ne h19
      refine ok_bind (k_X12_isThere L hN (a0 := a0) (x1 := x1) (x2 := x3) k_a0 (show 0 ≤ (x1).toInt by first | assumption | omega) (show (x1).toInt ≤ 3 by first | assumption | omega) I) (fun r35 hr36 => ?_)
      obtain ⟨i37, p38, p39⟩ := hr36
      try rw [i37]
      have f40 := bo_l p38
      have f41 := ti_b r35.1
      have t42 := ti_tn x1
      have f43 := rb_103 L I (x1).toNatClampNeg
      have f44 := ti_b r35.1
      refine ok_ite (fun h45 => ?_) (fun h45 => ?_)
      · have c46 : r35.1.toInt = (0 : Int) := o_eq h45
        unfold J_X12_answer_52
        exact ok_some (show δ = δ from rfl)
      · have c47 : r35.1.toInt ≠ (0 : Int) := o_ne h45
        unfold J_X12_answer_52
        exact ok_some (show δ = δ from rfl)
set_option maxHeartbeats 4000000 in
theorem k_X12_mayAsk {ad : List Nat} {h : hp} (L : Lay TLx ad h) {δ0 : dp} {N : Nat} (hN : 10000000 ≤ N) {a0 : Nat} {x1 : Int32} {x2 : Int32} (k_a0 : q_K h.1 a0 = 12) {δ : dp} (I : RI ad h.1 δ0 δ) : ok (D_X12_mayAsk N h.1 a0 x1 x2 δ) (fun r => r.2 = δ ∧ bo (r.1) ∧ ((r.1).toInt = 1 → -1 ≤ (x2).toInt ∧ (x2).toInt ≤ 65536)) := by
  unfold D_X12_mayAsk
  have f1 := ti_b x1
  refine ok_ite (fun h2 => ?_) (fun h2 => ?_)
  · have c3 : x1.toInt = (3 : Int) := o_eq h2
    refine ok_bind (k_X12_all L hN (a0 := a0) k_a0 I) (fun r4 hr5 => ?_)
    obtain ⟨i6, p7, p8, p9, p10⟩ := hr5
    try rw [i6]
    have f11 := ti_b r4.1
    have f12 := cb_12_10 I k_a0
    have f13 := ti_b r4.1
    refine ok_bind (k_X12_within L hN (x0 := x2) (x1 := (-1 : Int32)) (x2 := (r4.1 - (1 : Int32)))  I) (fun r14 hr15 => ?_)
    obtain ⟨i16, p17, p18, p19⟩ := hr15
    try rw [i16]
    have f20 := bo_l p17
    have f21 := ti_b r14.1
    have f22 := ti_b x2
    first | (have q24 := te_subc (c := 1) (n := 1) rfl r4.1 (by omega) (by omega); obtain ⟨f25, f26, f27⟩ := q24) | (obtain ⟨q24, f25, f26, f27⟩ := ti_subc (c := 1) (n := 1) rfl r4.1)
    replace p18 : ((r14.1).toInt = 1 → (-1 : Int) ≤ (x2).toInt ∧ (x2).toInt ≤ ((r4.1 - (1 : Int32))).toInt) := p18
    replace p19 : ((r14.1).toInt = 0 → (x2).toInt < (-1 : Int) ∨ ((r4.1 - (1 : Int32))).toInt < (x2).toInt) := p19
    have f28 := ti_b r14.1
    unfold J_X12_mayAsk_41
    refine ok_gp (show bo r14.1 by first | assumption | exact bo_0 | exact bo_1 | exact bo_i (by omega) (by omega)) ?_
    exact ok_some (show δ = δ ∧ bo (r14.1) ∧ ((r14.1).toInt = 1 → -1 ≤ (x2).toInt ∧ (x2).toInt ≤ 65536) from ⟨rfl, by first | assumption | exact bo_0 | exact bo_1 | exact bo_i (by omega) (by omega), by first | assumption | omega⟩)
  · have c29 : x1.toInt ≠ (3 : Int) := o_ne h2
    refine ok_ite (fun h30 => ?_) (fun h30 => ?_)
    · have c31 : x1.toInt = (4 : Int) := o_eq h30
      refine ok_bind (k_X12_all L hN (a0 := a0) k_a0 I) (fun r32 hr33 => ?_)
      obtain ⟨i34, p35, p36, p37, p38⟩ := hr33
      try rw [i34]
      have f39 := ti_b r32.1
      have f40 := cb_12_10 I k_a0
      have f41 := ti_b r32.1
      refine ok_bind (k_X12_within L hN (x0 := x2) (x1 := (0 : Int32)) (x2 := r32.1)  I) (fun r42 hr43 => ?_)
      obtain ⟨i44, p45, p46, p47⟩ := hr43
      try rw [i44]
      have f48 := bo_l p45
      have f49 := ti_b r42.1
      have f50 := ti_b x2
      replace p46 : ((r42.1).toInt = 1 → (0 : Int) ≤ (x2).toInt ∧ (x2).toInt ≤ (r32.1).toInt) := p46
      replace p47 : ((r42.1).toInt = 0 → (x2).toInt < (0 : Int) ∨ (r32.1).toInt < (x2).toInt) := p47
      have f51 := ti_b r42.1
      unfold J_X12_mayAsk_41
      refine ok_gp (show bo r42.1 by first | assumption | exact bo_0 | exact bo_1 | exact bo_i (by omega) (by omega)) ?_
      exact ok_some (show δ = δ ∧ bo (r42.1) ∧ ((r42.1).toInt = 1 → -1 ≤ (x2).toInt ∧ (x2).toInt ≤ 65536) from ⟨rfl, by first | assumption | exact bo_0 | exact bo_1 | exact bo_i (by omega) (by omega), by first | assumption | omega⟩)
    · have c52 : x1.toInt ≠ (4 : Int) := o_ne h30
      refine ok_bind (k_X12_isNumber L hN (a0 := a0) (x1 := x2) k_a0 I) (fun r53 hr54 => ?_)
      obtain ⟨i55, p56, p57⟩ := hr54
      try rw [i55]
      have f58 := bo_l p56
      have f59 := ti_b r53.1
      have f60 := ti_b x2
      have f61 := ti_b r53.1
      unfold J_X12_mayAsk_41
      refine ok_gp (show bo r53.1 by first | assumption | exact bo_0 | exact bo_1 | exact bo_i (by omega) (by omega)) ?_
      exact ok_some (show δ = δ ∧ bo (r53.1) ∧ ((r53.1).toInt = 1 → -1 ≤ (x2).toInt ∧ (x2).toInt ≤ 65536) from ⟨rfl, by first | assumption | exact bo_0 | exact bo_1 | exact bo_i (by omega) (by omega), by first | assumption | omega⟩)
set_option maxHeartbeats 4000000 in
theorem k_X12_next {ad : List Nat} {h : hp} (L : Lay TLx ad h) {δ0 : dp} {N : Nat} (hN : 10000000 ≤ N) {a0 : Nat} {x1 : Int32} {x2 : Int32} (k_a0 : q_K h.1 a0 = 12) {δ : dp} (I : RI ad h.1 δ0 δ) : ok (D_X12_next N h.1 a0 x1 x2 δ) (fun r => RI ad h.1 δ0 r.2 ∧ (kp [(12, 0)] δ r.2 ∧ q_V r.2 = q_V δ ∧ kr ad [100] δ r.2)) := by
  unfold D_X12_next
  refine ok_bdv (fun d1 e2 => ?_)
  have i3 : RI ad h.1 δ0 d1 := by rw [e2]; exact cs_12_0 L I
  have u4 := kp_I kp_r e2
  have v5 : q_V d1 = q_V δ := ((show q_V d1 = q_V δ by rw [e2]; rfl)).trans rfl
  have v6 := kr_N (kr_r (ad := ad)) (show q_R d1 = q_R δ by rw [e2]; rfl)
  refine ok_bind (k_X12_isHouse L hN (a0 := a0) (x1 := x1) (x2 := (1 : Int32)) k_a0 (show (1 : Int) ≠ 0 by first | assumption | omega) i3) (fun r7 hr8 => ?_)
  obtain ⟨i9, ⟨u12, u13, u14⟩, p10, p11⟩ := hr8
  have u15 := kp_t u4 u12
  have v16 : q_V r7.2 = q_V δ := (u13).trans v5
  have v17 := kr_t v6 u14
  have f18 := bo_l p10
  have f19 := ti_b r7.1
  have f20 := ti_b x1
  have f21 := ti_b r7.1
  refine ok_ite (fun h22 => ?_) (fun h22 => ?_)
  · have c23 : r7.1.toInt = (0 : Int) := o_eq h22
    unfold J_X12_next_29
    exact ok_some (show RI ad h.1 δ0 r7.2 ∧ (kp [(12, 0)] δ r7.2 ∧ q_V r7.2 = q_V δ ∧ kr ad [100] δ r7.2) from ⟨i9, ⟨kp_w (by decide) u15, v16, kr_w (by decide) v17⟩⟩)
  · have c24 : r7.1.toInt ≠ (0 : Int) := o_ne h22
    refine ok_bind (k_X12_mayAsk L hN (a0 := a0) (x1 := (3 : Int32)) (x2 := x2) k_a0 i9) (fun r25 hr26 => ?_)
    obtain ⟨i27, p28, p29⟩ := hr26
    try rw [i27]
    have f30 := bo_l p28
    have f31 := ti_b r25.1
    have f32 := ti_b x2
    have f33 := ti_b r25.1
    refine ok_bind (k_X12_may L hN (a0 := a0) (x1 := r25.1) (x2 := (2 : Int32)) (x3 := (2 : Int32)) k_a0 (show (2 : Int) ≠ 0 by first | assumption | omega) (show 0 ≤ (2 : Int) by first | assumption | omega) (show (2 : Int) ≤ 2 by first | assumption | omega) i9) (fun r34 hr35 => ?_)
    obtain ⟨i36, ⟨u40, u41, u42⟩, p37, p38, p39⟩ := hr35
    have u43 := kp_t u15 u40
    have v44 : q_V r34.2 = q_V δ := (u41).trans v16
    have v45 := kr_t v17 u42
    have f46 := bo_l p37
    have f47 := ti_b r34.1
    have f48 := ti_b (q_I r7.2 12 0 a0)
    have f49 := ti_b r34.1
    refine ok_ite (fun h50 => ?_) (fun h50 => ?_)
    · have c51 : r34.1.toInt = (0 : Int) := o_eq h50
      unfold J_X12_next_29
      exact ok_some (show RI ad h.1 δ0 r34.2 ∧ (kp [(12, 0)] δ r34.2 ∧ q_V r34.2 = q_V δ ∧ kr ad [100] δ r34.2) from ⟨i36, ⟨kp_w (by decide) u43, v44, kr_w (by decide) v45⟩⟩)
    · have c52 : r34.1.toInt ≠ (0 : Int) := o_ne h50
      refine ok_bind (k_X12_answer L hN (a0 := a0) (x1 := x1) (x2 := (3 : Int32)) (x3 := x2) k_a0 (show 0 ≤ (x1).toInt by first | assumption | omega) (show (x1).toInt ≤ 3 by first | assumption | omega) i36) (fun r53 hr54 => ?_)
      have i55 := hr54
      try rw [i55]
      have f56 := ti_b r53.1
      exact ok_some (show RI ad h.1 δ0 r34.2 ∧ (kp [(12, 0)] δ r34.2 ∧ q_V r34.2 = q_V δ ∧ kr ad [100] δ r34.2) from ⟨i36, ⟨kp_w (by decide) u43, v44, kr_w (by decide) v45⟩⟩)
set_option maxHeartbeats 4000000 in
theorem k_X12_before {ad : List Nat} {h : hp} (L : Lay TLx ad h) {δ0 : dp} {N : Nat} (hN : 10000000 ≤ N) {a0 : Nat} {x1 : Int32} {x2 : Int32} (k_a0 : q_K h.1 a0 = 12) {δ : dp} (I : RI ad h.1 δ0 δ) : ok (D_X12_before N h.1 a0 x1 x2 δ) (fun r => RI ad h.1 δ0 r.2 ∧ (kp [(12, 0)] δ r.2 ∧ q_V r.2 = q_V δ ∧ kr ad [100] δ r.2)) := by
  unfold D_X12_before
  refine ok_bdv (fun d1 e2 => ?_)
  have i3 : RI ad h.1 δ0 d1 := by rw [e2]; exact cs_12_0 L I
  have u4 := kp_I kp_r e2
  have v5 : q_V d1 = q_V δ := ((show q_V d1 = q_V δ by rw [e2]; rfl)).trans rfl
  have v6 := kr_N (kr_r (ad := ad)) (show q_R d1 = q_R δ by rw [e2]; rfl)
  refine ok_bind (k_X12_isHouse L hN (a0 := a0) (x1 := x1) (x2 := (1 : Int32)) k_a0 (show (1 : Int) ≠ 0 by first | assumption | omega) i3) (fun r7 hr8 => ?_)
  obtain ⟨i9, ⟨u12, u13, u14⟩, p10, p11⟩ := hr8
  have u15 := kp_t u4 u12
  have v16 : q_V r7.2 = q_V δ := (u13).trans v5
  have v17 := kr_t v6 u14
  have f18 := bo_l p10
  have f19 := ti_b r7.1
  have f20 := ti_b x1
  have f21 := ti_b r7.1
  refine ok_ite (fun h22 => ?_) (fun h22 => ?_)
  · have c23 : r7.1.toInt = (0 : Int) := o_eq h22
    unfold J_X12_before_29
    exact ok_some (show RI ad h.1 δ0 r7.2 ∧ (kp [(12, 0)] δ r7.2 ∧ q_V r7.2 = q_V δ ∧ kr ad [100] δ r7.2) from ⟨i9, ⟨kp_w (by decide) u15, v16, kr_w (by decide) v17⟩⟩)
  · have c24 : r7.1.toInt ≠ (0 : Int) := o_ne h22
    refine ok_bind (k_X12_mayAsk L hN (a0 := a0) (x1 := (4 : Int32)) (x2 := x2) k_a0 i9) (fun r25 hr26 => ?_)
    obtain ⟨i27, p28, p29⟩ := hr26
    try rw [i27]
    have f30 := bo_l p28
    have f31 := ti_b r25.1
    have f32 := ti_b x2
    have f33 := ti_b r25.1
    refine ok_bind (k_X12_may L hN (a0 := a0) (x1 := r25.1) (x2 := (2 : Int32)) (x3 := (2 : Int32)) k_a0 (show (2 : Int) ≠ 0 by first | assumption | omega) (show 0 ≤ (2 : Int) by first | assumption | omega) (show (2 : Int) ≤ 2 by first | assumption | omega) i9) (fun r34 hr35 => ?_)
    obtain ⟨i36, ⟨u40, u41, u42⟩, p37, p38, p39⟩ := hr35
    have u43 := kp_t u15 u40
    have v44 : q_V r34.2 = q_V δ := (u41).trans v16
    have v45 := kr_t v17 u42
    have f46 := bo_l p37
    have f47 := ti_b r34.1
    have f48 := ti_b (q_I r7.2 12 0 a0)
    have f49 := ti_b r34.1
    refine ok_ite (fun h50 => ?_) (fun h50 => ?_)
    · have c51 : r34.1.toInt = (0 : Int) := o_eq h50
      unfold J_X12_before_29
      exact ok_some (show RI ad h.1 δ0 r34.2 ∧ (kp [(12, 0)] δ r34.2 ∧ q_V r34.2 = q_V δ ∧ kr ad [100] δ r34.2) from ⟨i36, ⟨kp_w (by decide) u43, v44, kr_w (by decide) v45⟩⟩)
    · have c52 : r34.1.toInt ≠ (0 : Int) := o_ne h50
      refine ok_bind (k_X12_answer L hN (a0 := a0) (x1 := x1) (x2 := (4 : Int32)) (x3 := x2) k_a0 (show 0 ≤ (x1).toInt by first | assumption | omega) (show (x1).toInt ≤ 3 by first | assumption | omega) i36) (fun r53 hr54 => ?_)
      have i55 := hr54
      try rw [i55]
      have f56 := ti_b r53.1
      exact ok_some (show RI ad h.1 δ0 r34.2 ∧ (kp [(12, 0)] δ r34.2 ∧ q_V r34.2 = q_V δ ∧ kr ad [100] δ r34.2) from ⟨i36, ⟨kp_w (by decide) u43, v44, kr_w (by decide) v45⟩⟩)
set_option maxHeartbeats 4000000 in
theorem k_X12_kth {ad : List Nat} {h : hp} (L : Lay TLx ad h) {δ0 : dp} {N : Nat} (hN : 10000000 ≤ N) {a0 : Nat} {x1 : Int32} {x2 : Int32} (k_a0 : q_K h.1 a0 = 12) {δ : dp} (I : RI ad h.1 δ0 δ) : ok (D_X12_kth N h.1 a0 x1 x2 δ) (fun r => RI ad h.1 δ0 r.2 ∧ (kp [(12, 0)] δ r.2 ∧ q_V r.2 = q_V δ ∧ kr ad [100] δ r.2)) := by
  unfold D_X12_kth
  refine ok_bdv (fun d1 e2 => ?_)
  have i3 : RI ad h.1 δ0 d1 := by rw [e2]; exact cs_12_0 L I
  have u4 := kp_I kp_r e2
  have v5 : q_V d1 = q_V δ := ((show q_V d1 = q_V δ by rw [e2]; rfl)).trans rfl
  have v6 := kr_N (kr_r (ad := ad)) (show q_R d1 = q_R δ by rw [e2]; rfl)
  refine ok_bind (k_X12_isHouse L hN (a0 := a0) (x1 := x1) (x2 := (1 : Int32)) k_a0 (show (1 : Int) ≠ 0 by first | assumption | omega) i3) (fun r7 hr8 => ?_)
  obtain ⟨i9, ⟨u12, u13, u14⟩, p10, p11⟩ := hr8
  have u15 := kp_t u4 u12
  have v16 : q_V r7.2 = q_V δ := (u13).trans v5
  have v17 := kr_t v6 u14
  have f18 := bo_l p10
  have f19 := ti_b r7.1
  have f20 := ti_b x1
  have f21 := ti_b r7.1
  refine ok_ite (fun h22 => ?_) (fun h22 => ?_)
  · have c23 : r7.1.toInt = (0 : Int) := o_eq h22
    exact ok_some (show RI ad h.1 δ0 r7.2 ∧ (kp [(12, 0)] δ r7.2 ∧ q_V r7.2 = q_V δ ∧ kr ad [100] δ r7.2) from ⟨i9, ⟨kp_w (by decide) u15, v16, kr_w (by decide) v17⟩⟩)
  · have c24 : r7.1.toInt ≠ (0 : Int) := o_ne h22
    refine ok_bind (k_X12_numberAt L hN (a0 := a0) (x1 := x1) (x2 := x2) k_a0 (show 0 ≤ (x1).toInt by first | assumption | omega) (show (x1).toInt ≤ 3 by first | assumption | omega) i9) (fun r25 hr26 => ?_)
    have i27 := hr26
    try rw [i27]
    have f28 := ti_b r25.1
    exact ok_some (show RI ad h.1 δ0 r7.2 ∧ (kp [(12, 0)] δ r7.2 ∧ q_V r7.2 = q_V δ ∧ kr ad [100] δ r7.2) from ⟨i9, ⟨kp_w (by decide) u15, v16, kr_w (by decide) v17⟩⟩)
set_option maxHeartbeats 4000000 in
theorem k_X12_between {ad : List Nat} {h : hp} (L : Lay TLx ad h) {δ0 : dp} {N : Nat} (hN : 10000000 ≤ N) {a0 : Nat} {x1 : Int32} {x2 : Int32} {x3 : Int32} (k_a0 : q_K h.1 a0 = 12) {δ : dp} (I : RI ad h.1 δ0 δ) : ok (D_X12_between N h.1 a0 x1 x2 x3 δ) (fun r => RI ad h.1 δ0 r.2 ∧ (kp [(12, 0)] δ r.2 ∧ q_V r.2 = q_V δ ∧ kr ad [100] δ r.2)) := by
  unfold D_X12_between
  refine ok_bdv (fun d1 e2 => ?_)
  have i3 : RI ad h.1 δ0 d1 := by rw [e2]; exact cs_12_0 L I
  have u4 := kp_I kp_r e2
  have v5 : q_V d1 = q_V δ := ((show q_V d1 = q_V δ by rw [e2]; rfl)).trans rfl
  have v6 := kr_N (kr_r (ad := ad)) (show q_R d1 = q_R δ by rw [e2]; rfl)
  refine ok_bind (k_X12_isHouse L hN (a0 := a0) (x1 := x1) (x2 := (1 : Int32)) k_a0 (show (1 : Int) ≠ 0 by first | assumption | omega) i3) (fun r7 hr8 => ?_)
  obtain ⟨i9, ⟨u12, u13, u14⟩, p10, p11⟩ := hr8
  have u15 := kp_t u4 u12
  have v16 : q_V r7.2 = q_V δ := (u13).trans v5
  have v17 := kr_t v6 u14
  have f18 := bo_l p10
  have f19 := ti_b r7.1
  have f20 := ti_b x1
  have f21 := ti_b r7.1
  refine ok_ite (fun h22 => ?_) (fun h22 => ?_)
  · have c23 : r7.1.toInt = (0 : Int) := o_eq h22
    unfold J_X12_between_44
    exact ok_some (show RI ad h.1 δ0 r7.2 ∧ (kp [(12, 0)] δ r7.2 ∧ q_V r7.2 = q_V δ ∧ kr ad [100] δ r7.2) from ⟨i9, ⟨kp_w (by decide) u15, v16, kr_w (by decide) v17⟩⟩)
  · have c24 : r7.1.toInt ≠ (0 : Int) := o_ne h22
    refine ok_bind (k_X12_isNumber L hN (a0 := a0) (x1 := x2) k_a0 i9) (fun r25 hr26 => ?_)
    obtain ⟨i27, p28, p29⟩ := hr26
    try rw [i27]
    have f30 := bo_l p28
    have f31 := ti_b r25.1
    have f32 := ti_b x2
    have f33 := ti_b r25.1
    refine ok_ite (fun h34 => ?_) (fun h34 => ?_)
    · have c35 : r25.1.toInt = (0 : Int) := o_eq h34
      unfold J_X12_between_35
      unfold J_X12_between_36
      refine ok_bind (k_X12_may L hN (a0 := a0) (x1 := (0 : Int32)) (x2 := (2 : Int32)) (x3 := (2 : Int32)) k_a0 (show (2 : Int) ≠ 0 by first | assumption | omega) (show 0 ≤ (2 : Int) by first | assumption | omega) (show (2 : Int) ≤ 2 by first | assumption | omega) i9) (fun r36 hr37 => ?_)
      obtain ⟨i38, ⟨u42, u43, u44⟩, p39, p40, p41⟩ := hr37
      have u45 := kp_t u15 u42
      have v46 : q_V r36.2 = q_V δ := (u43).trans v16
      have v47 := kr_t v17 u44
      have f48 := bo_l p39
      have f49 := ti_b r36.1
      replace p40 : ((r36.1).toInt = 1 → (0 : Int) ≠ 0) := p40
      have f50 := ti_b (q_I r7.2 12 0 a0)
      replace p41 : ((q_I r7.2 12 0 a0).toInt = 0 → (r36.1).toInt = 0 → (0 : Int) = 0) := p41
      have f51 := ti_b r36.1
      refine ok_ite (fun h52 => ?_) (fun h52 => ?_)
      · have c53 : r36.1.toInt = (0 : Int) := o_eq h52
        unfold J_X12_between_44
        exact ok_some (show RI ad h.1 δ0 r36.2 ∧ (kp [(12, 0)] δ r36.2 ∧ q_V r36.2 = q_V δ ∧ kr ad [100] δ r36.2) from ⟨i38, ⟨kp_w (by decide) u45, v46, kr_w (by decide) v47⟩⟩)
      · have c54 : r36.1.toInt ≠ (0 : Int) := o_ne h52
        have f55 := ti_b x3
        refine ok_ite (fun h56 => ?_) (fun h56 => ?_)
        · have c57 : x2.toInt ≤ x3.toInt := o_le h56
          refine ok_bind (k_X12_place L hN (a0 := a0) (x1 := x1) (x2 := (x3 + (1 : Int32))) k_a0 (show 0 ≤ (x1).toInt by first | assumption | omega) (show (x1).toInt ≤ 3 by first | assumption | omega) i38) (fun r58 hr59 => ?_)
          obtain ⟨i60, p61, p62⟩ := hr59
          try rw [i60]
          have f63 := ti_b r58.1
          have t64 := ti_tn x1
          have f65 : (q_R r36.2 (Ad ad 103) (x1).toNatClampNeg).toInt = (q_R r7.2 (Ad ad 103) (x1).toNatClampNeg).toInt := congrArg Int32.toInt (congrFun (u44 103 (by decide) (by decide) (by decide)) _)
          have f66 : (q_R r7.2 (Ad ad 103) (x1).toNatClampNeg).toInt = (q_R d1 (Ad ad 103) (x1).toNatClampNeg).toInt := congrArg Int32.toInt (congrFun (u14 103 (by decide) (by decide) (by decide)) _)
          have f67 : (q_R d1 (Ad ad 103) (x1).toNatClampNeg).toInt = (q_R δ (Ad ad 103) (x1).toNatClampNeg).toInt := congrArg Int32.toInt (show q_R d1 (Ad ad 103) (x1).toNatClampNeg = _ by rw [e2]; rfl)
          have f68 := rb_103 L I (x1).toNatClampNeg
          have f69 := rb_103 L i3 (x1).toNatClampNeg
          have f70 := rb_103 L i9 (x1).toNatClampNeg
          have f71 := rb_103 L i38 (x1).toNatClampNeg
          have f72 := ti_b r58.1
          refine ok_bind (k_X12_place L hN (a0 := a0) (x1 := x1) (x2 := x2) k_a0 (show 0 ≤ (x1).toInt by first | assumption | omega) (show (x1).toInt ≤ 3 by first | assumption | omega) i38) (fun r73 hr74 => ?_)
          obtain ⟨i75, p76, p77⟩ := hr74
          try rw [i75]
          have f78 := ti_b r73.1
          have f79 := ti_b r73.1
          unfold J_X12_between_70
          exact ok_some (show RI ad h.1 δ0 r36.2 ∧ (kp [(12, 0)] δ r36.2 ∧ q_V r36.2 = q_V δ ∧ kr ad [100] δ r36.2) from ⟨i38, ⟨kp_w (by decide) u45, v46, kr_w (by decide) v47⟩⟩)
        · have c80 : x3.toInt < x2.toInt := o_nle h56
          unfold J_X12_between_70
          exact ok_some (show RI ad h.1 δ0 r36.2 ∧ (kp [(12, 0)] δ r36.2 ∧ q_V r36.2 = q_V δ ∧ kr ad [100] δ r36.2) from ⟨i38, ⟨kp_w (by decide) u45, v46, kr_w (by decide) v47⟩⟩)
    · have c81 : r25.1.toInt ≠ (0 : Int) := o_ne h34
      refine ok_bind (k_X12_isNumber L hN (a0 := a0) (x1 := x3) k_a0 i9) (fun r82 hr83 => ?_)
      obtain ⟨i84, p85, p86⟩ := hr83
      try rw [i84]
      have f87 := bo_l p85
      have f88 := ti_b r82.1
      have f89 := ti_b x3
      have f90 := ti_b r82.1
      refine ok_ite (fun h91 => ?_) (fun h91 => ?_)
      · have c92 : r82.1.toInt = (0 : Int) := o_eq h91
        unfold J_X12_between_35
        unfold J_X12_between_36
        refine ok_bind (k_X12_may L hN (a0 := a0) (x1 := (0 : Int32)) (x2 := (2 : Int32)) (x3 := (2 : Int32)) k_a0 (show (2 : Int) ≠ 0 by first | assumption | omega) (show 0 ≤ (2 : Int) by first | assumption | omega) (show (2 : Int) ≤ 2 by first | assumption | omega) i9) (fun r93 hr94 => ?_)
        obtain ⟨i95, ⟨u99, u100, u101⟩, p96, p97, p98⟩ := hr94
        have u102 := kp_t u15 u99
        have v103 : q_V r93.2 = q_V δ := (u100).trans v16
        have v104 := kr_t v17 u101
        have f105 := bo_l p96
        have f106 := ti_b r93.1
        replace p97 : ((r93.1).toInt = 1 → (0 : Int) ≠ 0) := p97
        have f107 := ti_b (q_I r7.2 12 0 a0)
        replace p98 : ((q_I r7.2 12 0 a0).toInt = 0 → (r93.1).toInt = 0 → (0 : Int) = 0) := p98
        have f108 := ti_b r93.1
        refine ok_ite (fun h109 => ?_) (fun h109 => ?_)
        · have c110 : r93.1.toInt = (0 : Int) := o_eq h109
          unfold J_X12_between_44
          exact ok_some (show RI ad h.1 δ0 r93.2 ∧ (kp [(12, 0)] δ r93.2 ∧ q_V r93.2 = q_V δ ∧ kr ad [100] δ r93.2) from ⟨i95, ⟨kp_w (by decide) u102, v103, kr_w (by decide) v104⟩⟩)
        · have c111 : r93.1.toInt ≠ (0 : Int) := o_ne h109
          refine ok_ite (fun h112 => ?_) (fun h112 => ?_)
          · have c113 : x2.toInt ≤ x3.toInt := o_le h112
            refine ok_bind (k_X12_place L hN (a0 := a0) (x1 := x1) (x2 := (x3 + (1 : Int32))) k_a0 (show 0 ≤ (x1).toInt by first | assumption | omega) (show (x1).toInt ≤ 3 by first | assumption | omega) i95) (fun r114 hr115 => ?_)
            obtain ⟨i116, p117, p118⟩ := hr115
            try rw [i116]
            have f119 := ti_b r114.1
            have t120 := ti_tn x1
            have f121 : (q_R r93.2 (Ad ad 103) (x1).toNatClampNeg).toInt = (q_R r7.2 (Ad ad 103) (x1).toNatClampNeg).toInt := congrArg Int32.toInt (congrFun (u101 103 (by decide) (by decide) (by decide)) _)
            have f122 : (q_R r7.2 (Ad ad 103) (x1).toNatClampNeg).toInt = (q_R d1 (Ad ad 103) (x1).toNatClampNeg).toInt := congrArg Int32.toInt (congrFun (u14 103 (by decide) (by decide) (by decide)) _)
            have f123 : (q_R d1 (Ad ad 103) (x1).toNatClampNeg).toInt = (q_R δ (Ad ad 103) (x1).toNatClampNeg).toInt := congrArg Int32.toInt (show q_R d1 (Ad ad 103) (x1).toNatClampNeg = _ by rw [e2]; rfl)
            have f124 := rb_103 L I (x1).toNatClampNeg
            have f125 := rb_103 L i3 (x1).toNatClampNeg
            have f126 := rb_103 L i9 (x1).toNatClampNeg
            have f127 := rb_103 L i95 (x1).toNatClampNeg
            have f128 := ti_b r114.1
            refine ok_bind (k_X12_place L hN (a0 := a0) (x1 := x1) (x2 := x2) k_a0 (show 0 ≤ (x1).toInt by first | assumption | omega) (show (x1).toInt ≤ 3 by first | assumption | omega) i95) (fun r129 hr130 => ?_)
            obtain ⟨i131, p132, p133⟩ := hr130
            try rw [i131]
            have f134 := ti_b r129.1
            have f135 := ti_b r129.1
            unfold J_X12_between_70
            exact ok_some (show RI ad h.1 δ0 r93.2 ∧ (kp [(12, 0)] δ r93.2 ∧ q_V r93.2 = q_V δ ∧ kr ad [100] δ r93.2) from ⟨i95, ⟨kp_w (by decide) u102, v103, kr_w (by decide) v104⟩⟩)
          · have c136 : x3.toInt < x2.toInt := o_nle h112
            unfold J_X12_between_70
            exact ok_some (show RI ad h.1 δ0 r93.2 ∧ (kp [(12, 0)] δ r93.2 ∧ q_V r93.2 = q_V δ ∧ kr ad [100] δ r93.2) from ⟨i95, ⟨kp_w (by decide) u102, v103, kr_w (by decide) v104⟩⟩)
      · have c137 : r82.1.toInt ≠ (0 : Int) := o_ne h91
        unfold J_X12_between_36
        refine ok_bind (k_X12_may L hN (a0 := a0) (x1 := (1 : Int32)) (x2 := (2 : Int32)) (x3 := (2 : Int32)) k_a0 (show (2 : Int) ≠ 0 by first | assumption | omega) (show 0 ≤ (2 : Int) by first | assumption | omega) (show (2 : Int) ≤ 2 by first | assumption | omega) i9) (fun r138 hr139 => ?_)
        obtain ⟨i140, ⟨u144, u145, u146⟩, p141, p142, p143⟩ := hr139
        have u147 := kp_t u15 u144
        have v148 : q_V r138.2 = q_V δ := (u145).trans v16
        have v149 := kr_t v17 u146
        have f150 := bo_l p141
        have f151 := ti_b r138.1
        replace p142 : ((r138.1).toInt = 1 → (1 : Int) ≠ 0) := p142
        have f152 := ti_b (q_I r7.2 12 0 a0)
        replace p143 : ((q_I r7.2 12 0 a0).toInt = 0 → (r138.1).toInt = 0 → (1 : Int) = 0) := p143
        have f153 := ti_b r138.1
        refine ok_ite (fun h154 => ?_) (fun h154 => ?_)
        · have c155 : r138.1.toInt = (0 : Int) := o_eq h154
          unfold J_X12_between_44
          exact ok_some (show RI ad h.1 δ0 r138.2 ∧ (kp [(12, 0)] δ r138.2 ∧ q_V r138.2 = q_V δ ∧ kr ad [100] δ r138.2) from ⟨i140, ⟨kp_w (by decide) u147, v148, kr_w (by decide) v149⟩⟩)
        · have c156 : r138.1.toInt ≠ (0 : Int) := o_ne h154
          refine ok_ite (fun h157 => ?_) (fun h157 => ?_)
          · have c158 : x2.toInt ≤ x3.toInt := o_le h157
            refine ok_bind (k_X12_place L hN (a0 := a0) (x1 := x1) (x2 := (x3 + (1 : Int32))) k_a0 (show 0 ≤ (x1).toInt by first | assumption | omega) (show (x1).toInt ≤ 3 by first | assumption | omega) i140) (fun r159 hr160 => ?_)
            obtain ⟨i161, p162, p163⟩ := hr160
            try rw [i161]
            have f164 := ti_b r159.1
            have t165 := ti_tn x1
            have f166 : (q_R r138.2 (Ad ad 103) (x1).toNatClampNeg).toInt = (q_R r7.2 (Ad ad 103) (x1).toNatClampNeg).toInt := congrArg Int32.toInt (congrFun (u146 103 (by decide) (by decide) (by decide)) _)
            have f167 : (q_R r7.2 (Ad ad 103) (x1).toNatClampNeg).toInt = (q_R d1 (Ad ad 103) (x1).toNatClampNeg).toInt := congrArg Int32.toInt (congrFun (u14 103 (by decide) (by decide) (by decide)) _)
            have f168 : (q_R d1 (Ad ad 103) (x1).toNatClampNeg).toInt = (q_R δ (Ad ad 103) (x1).toNatClampNeg).toInt := congrArg Int32.toInt (show q_R d1 (Ad ad 103) (x1).toNatClampNeg = _ by rw [e2]; rfl)
            have f169 := rb_103 L I (x1).toNatClampNeg
            have f170 := rb_103 L i3 (x1).toNatClampNeg
            have f171 := rb_103 L i9 (x1).toNatClampNeg
            have f172 := rb_103 L i140 (x1).toNatClampNeg
            have f173 := ti_b r159.1
            refine ok_bind (k_X12_place L hN (a0 := a0) (x1 := x1) (x2 := x2) k_a0 (show 0 ≤ (x1).toInt by first | assumption | omega) (show (x1).toInt ≤ 3 by first | assumption | omega) i140) (fun r174 hr175 => ?_)
            obtain ⟨i176, p177, p178⟩ := hr175
            try rw [i176]
            have f179 := ti_b r174.1
            have f180 := ti_b r174.1
            unfold J_X12_between_70
            exact ok_some (show RI ad h.1 δ0 r138.2 ∧ (kp [(12, 0)] δ r138.2 ∧ q_V r138.2 = q_V δ ∧ kr ad [100] δ r138.2) from ⟨i140, ⟨kp_w (by decide) u147, v148, kr_w (by decide) v149⟩⟩)
          · have c181 : x3.toInt < x2.toInt := o_nle h157
            unfold J_X12_between_70
            exact ok_some (show RI ad h.1 δ0 r138.2 ∧ (kp [(12, 0)] δ r138.2 ∧ q_V r138.2 = q_V δ ∧ kr ad [100] δ r138.2) from ⟨i140, ⟨kp_w (by decide) u147, v148, kr_w (by decide) v149⟩⟩)
set_option maxHeartbeats 4000000 in
theorem k_X12_isTime {ad : List Nat} {h : hp} (L : Lay TLx ad h) {δ0 : dp} {N : Nat} (hN : 10000000 ≤ N) {a0 : Nat} {x1 : Int32} {x2 : Int32} (k_a0 : q_K h.1 a0 = 12) {δ : dp} (z0 : 0 ≤ (x1).toInt) (z1 : (x1).toInt ≤ 3) (I : RI ad h.1 δ0 δ) : ok (D_X12_isTime N h.1 a0 x1 x2 δ) (fun r => r.2 = δ ∧ bo (r.1) ∧ ((r.1).toInt = 1 → 0 ≤ (x2).toInt ∧ (x2).toInt ≤ (q_R δ (Ad ad 106) (x1).toNatClampNeg).toInt)) := by
  unfold D_X12_isTime
  have f1 := ti_b x1
  obtain ⟨b2, o3, k4, n5⟩ := gO_12_17 L k_a0
  obtain rfl := gS_12_17 L k_a0 o3
  refine ok_at o3 ?_
  have t6 := ti_tn x1
  refine ok_gd (fun hc7 => ?_) ?_
  · rcases hc7 with hc7 | hc7
    · have c8 : x1.toInt < (0 : Int) := o_lt hc7
      omega
    · omega
  refine ok_bind (k_X12_within L hN (x0 := x2) (x1 := (0 : Int32)) (x2 := (q_R δ (Ad ad 106) x1.toNatClampNeg))  I) (fun r9 hr10 => ?_)
  obtain ⟨i11, p12, p13, p14⟩ := hr10
  try rw [i11]
  have f15 := bo_l p12
  have f16 := ti_b r9.1
  have f17 := ti_b x2
  have f18 := rb_106 L I x1.toNatClampNeg
  replace p13 : ((r9.1).toInt = 1 → (0 : Int) ≤ (x2).toInt ∧ (x2).toInt ≤ ((q_R δ (Ad ad 106) x1.toNatClampNeg)).toInt) := p13
  replace p14 : ((r9.1).toInt = 0 → (x2).toInt < (0 : Int) ∨ ((q_R δ (Ad ad 106) x1.toNatClampNeg)).toInt < (x2).toInt) := p14
  have f19 := ti_b r9.1
  refine ok_gp (show bo r9.1 by first | assumption | exact bo_0 | exact bo_1 | exact bo_i (by omega) (by omega)) ?_
  have t20 := ti_tn x1
  have f21 := rb_106 L I (x1).toNatClampNeg
  exact ok_some (show δ = δ ∧ bo (r9.1) ∧ ((r9.1).toInt = 1 → 0 ≤ (x2).toInt ∧ (x2).toInt ≤ (q_R δ (Ad ad 106) (x1).toNatClampNeg).toInt) from ⟨rfl, by first | assumption | exact bo_0 | exact bo_1 | exact bo_i (by omega) (by omega), by first | assumption | omega⟩)
set_option maxHeartbeats 4000000 in
theorem kl_X12_since_57 {ad : List Nat} {h : hp} (L : Lay TLx ad h) {δ0 : dp} {N : Nat} (hN : 10000000 ≤ N) {a0 : Nat} {x1 : Int32} {x2 : Int32} {x3 : Int32} (k_a0 : q_K h.1 a0 = 12) : ∀ (n : Nat) (x4v : Int32) (δ : dp), RI ad h.1 δ0 δ → 0 ≤ (x1).toInt → (x1).toInt ≤ 3 → -1 ≤ (x4v).toInt → (x4v).toInt < 1000 → (x4v).toInt + 1 < (n : Int) → ok (L_X12_since_57 N h.1 a0 x1 x2 x3 n x4v δ) (fun r => RI ad h.1 δ0 r.2 ∧ (kp [(12, 0)] δ r.2 ∧ q_V r.2 = q_V δ ∧ kr ad [100] δ r.2)) := by
  intro n
  induction n with
  | zero =>
    intro x4v δ I j0 j1 j2 j3 hm
    have f1 := ti_b x1
    have f2 := ti_b x4v
    exfalso; omega
  | succ n ih =>
    intro x4v δ I j0 j1 j2 j3 hm
    unfold L_X12_since_57
    have f1 := ti_b x1
    have f2 := ti_b x4v
    refine ok_ite (fun h3 => ?_) (fun h3 => ?_)
    · have c4 : x4v.toInt < (0 : Int) := o_lt h3
      exact ok_some (show RI ad h.1 δ0 δ ∧ (kp [(12, 0)] δ δ ∧ q_V δ = q_V δ ∧ kr ad [100] δ δ) from ⟨I, ⟨kp_w (by decide) kp_r, rfl, kr_w (by decide) (kr_r (ad := ad))⟩⟩)
    · have c5 : (0 : Int) ≤ x4v.toInt := o_nlt h3
      obtain ⟨b6, o7, k8, n9, w10⟩ := gO_12_15 L k_a0
      obtain rfl := gS_12_15 L k_a0 o7
      refine ok_at o7 ?_
      first | (have q12 := te_mulc (c := 1000) (n := 1000) rfl x1 (by omega) (by omega); obtain ⟨f13, f14, f15⟩ := q12) | (obtain ⟨q12, f13, f14, f15⟩ := ti_mulc (c := 1000) (n := 1000) rfl x1)
      first | (have q17 := te_add ((1000 : Int32) * x1) x4v (by omega) (by omega); obtain ⟨f18, f19, f20⟩ := q17) | (obtain ⟨q17, f18, f19, f20⟩ := ti_add ((1000 : Int32) * x1) x4v)
      have t21 := ti_tn (((1000 : Int32) * x1) + x4v)
      refine ok_gd (fun hc22 => ?_) ?_
      · rcases hc22 with hc22 | hc22
        · have c23 : (((1000 : Int32) * x1) + x4v).toInt < (0 : Int) := o_lt hc22
          omega
        · omega
      have f24 := ti_b (q_R δ (Ad ad 104) (((1000 : Int32) * x1) + x4v).toNatClampNeg)
      have f25 := ti_b x2
      refine ok_ite (fun h26 => ?_) (fun h26 => ?_)
      · have c27 : (q_R δ (Ad ad 104) (((1000 : Int32) * x1) + x4v).toNatClampNeg).toInt = x2.toInt := o_eq h26
        obtain ⟨b28, o29, k30, n31, w32⟩ := gO_12_16 L k_a0
        obtain rfl := gS_12_16 L k_a0 o29
        refine ok_at o29 ?_
        refine ok_gd (fun hc33 => ?_) ?_
        · rcases hc33 with hc33 | hc33
          · have c34 : (((1000 : Int32) * x1) + x4v).toInt < (0 : Int) := o_lt hc33
            omega
          · omega
        have f35 := ti_b (q_R δ (Ad ad 105) (((1000 : Int32) * x1) + x4v).toNatClampNeg)
        have f36 := ti_b x3
        first | (have q38 := te_csub (c := 1) (n := 1) rfl x3 (by omega) (by omega); obtain ⟨f39, f40, f41⟩ := q38) | (obtain ⟨q38, f39, f40, f41⟩ := ti_csub (c := 1) (n := 1) rfl x3)
        refine ok_ite (fun h42 => ?_) (fun h42 => ?_)
        · have c43 : (q_R δ (Ad ad 105) (((1000 : Int32) * x1) + x4v).toNatClampNeg).toInt = ((1 : Int32) - x3).toInt := o_eq h42
          exact ok_some (show RI ad h.1 δ0 δ ∧ (kp [(12, 0)] δ δ ∧ q_V δ = q_V δ ∧ kr ad [100] δ δ) from ⟨I, ⟨kp_w (by decide) kp_r, rfl, kr_w (by decide) (kr_r (ad := ad))⟩⟩)
        · have c44 : (q_R δ (Ad ad 105) (((1000 : Int32) * x1) + x4v).toNatClampNeg).toInt ≠ ((1 : Int32) - x3).toInt := o_ne h42
          unfold J_X12_since_103
          refine ok_biv (fun vx45 e46 => ?_)
          first | (have q47 := te_addc (c := -1) (n := -1) (by decide) x4v (by omega) (by omega); rw [← e46] at q47; obtain ⟨f48, f49, f50⟩ := q47) | (obtain ⟨q47, f48, f49, f50⟩ : ∃ q : Int, vx45.toInt = x4v.toInt + (-1 : Int) + 4294967296 * q ∧ -2147483648 ≤ vx45.toInt ∧ vx45.toInt ≤ 2147483647 := by rw [e46]; exact ti_addc (c := -1) (n := -1) (by decide) x4v)
          refine ok_mono (ih vx45 δ I (show 0 ≤ (x1).toInt by first | assumption | omega) (show (x1).toInt ≤ 3 by first | assumption | omega) (show -1 ≤ (vx45).toInt by first | assumption | omega) (show (vx45).toInt < 1000 by first | assumption | omega) (show (vx45).toInt + 1 < _ by omega)) (fun r51 hr52 => ?_)
          obtain ⟨i53, ⟨u54, u55, u56⟩⟩ := hr52
          have u57 := kp_t kp_r u54
          have v58 : q_V r51.2 = q_V δ := (u55).trans rfl
          have v59 := kr_t (kr_r (ad := ad)) u56
          have f60 := ti_b r51.1
          exact ⟨by assumption, ⟨kp_w (by decide) u57, v58, kr_w (by decide) v59⟩⟩
      · have c61 : (q_R δ (Ad ad 104) (((1000 : Int32) * x1) + x4v).toNatClampNeg).toInt ≠ x2.toInt := o_ne h26
        unfold J_X12_since_103
        refine ok_biv (fun vx62 e63 => ?_)
        first | (have q64 := te_addc (c := -1) (n := -1) (by decide) x4v (by omega) (by omega); rw [← e63] at q64; obtain ⟨f65, f66, f67⟩ := q64) | (obtain ⟨q64, f65, f66, f67⟩ : ∃ q : Int, vx62.toInt = x4v.toInt + (-1 : Int) + 4294967296 * q ∧ -2147483648 ≤ vx62.toInt ∧ vx62.toInt ≤ 2147483647 := by rw [e63]; exact ti_addc (c := -1) (n := -1) (by decide) x4v)
        refine ok_mono (ih vx62 δ I (show 0 ≤ (x1).toInt by first | assumption | omega) (show (x1).toInt ≤ 3 by first | assumption | omega) (show -1 ≤ (vx62).toInt by first | assumption | omega) (show (vx62).toInt < 1000 by first | assumption | omega) (show (vx62).toInt + 1 < _ by omega)) (fun r68 hr69 => ?_)
        obtain ⟨i70, ⟨u71, u72, u73⟩⟩ := hr69
        have u74 := kp_t kp_r u71
        have v75 : q_V r68.2 = q_V δ := (u72).trans rfl
        have v76 := kr_t (kr_r (ad := ad)) u73
        have f77 := ti_b r68.1
        exact ⟨by assumption, ⟨kp_w (by decide) u74, v75, kr_w (by decide) v76⟩⟩
set_option maxHeartbeats 4000000 in
theorem k_X12_since {ad : List Nat} {h : hp} (L : Lay TLx ad h) {δ0 : dp} {N : Nat} (hN : 10000000 ≤ N) {a0 : Nat} {x1 : Int32} {x2 : Int32} {x3 : Int32} (k_a0 : q_K h.1 a0 = 12) {δ : dp} (I : RI ad h.1 δ0 δ) : ok (D_X12_since N h.1 a0 x1 x2 x3 δ) (fun r => RI ad h.1 δ0 r.2 ∧ (kp [(12, 0)] δ r.2 ∧ q_V r.2 = q_V δ ∧ kr ad [100] δ r.2)) := by
  unfold D_X12_since
  refine ok_bdv (fun d1 e2 => ?_)
  have i3 : RI ad h.1 δ0 d1 := by rw [e2]; exact cs_12_0 L I
  have u4 := kp_I kp_r e2
  have v5 : q_V d1 = q_V δ := ((show q_V d1 = q_V δ by rw [e2]; rfl)).trans rfl
  have v6 := kr_N (kr_r (ad := ad)) (show q_R d1 = q_R δ by rw [e2]; rfl)
  refine ok_bind (k_X12_isHouse L hN (a0 := a0) (x1 := x1) (x2 := (1 : Int32)) k_a0 (show (1 : Int) ≠ 0 by first | assumption | omega) i3) (fun r7 hr8 => ?_)
  obtain ⟨i9, ⟨u12, u13, u14⟩, p10, p11⟩ := hr8
  have u15 := kp_t u4 u12
  have v16 : q_V r7.2 = q_V δ := (u13).trans v5
  have v17 := kr_t v6 u14
  have f18 := bo_l p10
  have f19 := ti_b r7.1
  have f20 := ti_b x1
  have f21 := ti_b r7.1
  refine ok_ite (fun h22 => ?_) (fun h22 => ?_)
  · have c23 : r7.1.toInt = (0 : Int) := o_eq h22
    unfold J_X12_since_45
    exact ok_some (show RI ad h.1 δ0 r7.2 ∧ (kp [(12, 0)] δ r7.2 ∧ q_V r7.2 = q_V δ ∧ kr ad [100] δ r7.2) from ⟨i9, ⟨kp_w (by decide) u15, v16, kr_w (by decide) v17⟩⟩)
  · have c24 : r7.1.toInt ≠ (0 : Int) := o_ne h22
    refine ok_bind (k_X12_isNumber L hN (a0 := a0) (x1 := x2) k_a0 i9) (fun r25 hr26 => ?_)
    obtain ⟨i27, p28, p29⟩ := hr26
    try rw [i27]
    have f30 := bo_l p28
    have f31 := ti_b r25.1
    have f32 := ti_b x2
    have f33 := ti_b r25.1
    refine ok_ite (fun h34 => ?_) (fun h34 => ?_)
    · have c35 : r25.1.toInt = (0 : Int) := o_eq h34
      unfold J_X12_since_36
      unfold J_X12_since_37
      refine ok_bind (k_X12_may L hN (a0 := a0) (x1 := (0 : Int32)) (x2 := (2 : Int32)) (x3 := (2 : Int32)) k_a0 (show (2 : Int) ≠ 0 by first | assumption | omega) (show 0 ≤ (2 : Int) by first | assumption | omega) (show (2 : Int) ≤ 2 by first | assumption | omega) i9) (fun r36 hr37 => ?_)
      obtain ⟨i38, ⟨u42, u43, u44⟩, p39, p40, p41⟩ := hr37
      have u45 := kp_t u15 u42
      have v46 : q_V r36.2 = q_V δ := (u43).trans v16
      have v47 := kr_t v17 u44
      have f48 := bo_l p39
      have f49 := ti_b r36.1
      replace p40 : ((r36.1).toInt = 1 → (0 : Int) ≠ 0) := p40
      have f50 := ti_b (q_I r7.2 12 0 a0)
      replace p41 : ((q_I r7.2 12 0 a0).toInt = 0 → (r36.1).toInt = 0 → (0 : Int) = 0) := p41
      have f51 := ti_b r36.1
      refine ok_ite (fun h52 => ?_) (fun h52 => ?_)
      · have c53 : r36.1.toInt = (0 : Int) := o_eq h52
        unfold J_X12_since_45
        exact ok_some (show RI ad h.1 δ0 r36.2 ∧ (kp [(12, 0)] δ r36.2 ∧ q_V r36.2 = q_V δ ∧ kr ad [100] δ r36.2) from ⟨i38, ⟨kp_w (by decide) u45, v46, kr_w (by decide) v47⟩⟩)
      · have c54 : r36.1.toInt ≠ (0 : Int) := o_ne h52
        obtain ⟨b55, o56, k57, n58⟩ := gO_12_17 L k_a0
        obtain rfl := gS_12_17 L k_a0 o56
        refine ok_at o56 ?_
        have t59 := ti_tn x1
        refine ok_gd (fun hc60 => ?_) ?_
        · rcases hc60 with hc60 | hc60
          · have c61 : x1.toInt < (0 : Int) := o_lt hc60
            omega
          · omega
        have f64 : (q_R r36.2 (Ad ad 106) x1.toNatClampNeg).toInt = (q_R r7.2 (Ad ad 106) x1.toNatClampNeg).toInt := congrArg Int32.toInt (congrFun (u44 106 (by decide) (by decide) (by decide)) _)
        have f65 : (q_R r7.2 (Ad ad 106) x1.toNatClampNeg).toInt = (q_R d1 (Ad ad 106) x1.toNatClampNeg).toInt := congrArg Int32.toInt (congrFun (u14 106 (by decide) (by decide) (by decide)) _)
        have f66 : (q_R d1 (Ad ad 106) x1.toNatClampNeg).toInt = (q_R δ (Ad ad 106) x1.toNatClampNeg).toInt := congrArg Int32.toInt (show q_R d1 (Ad ad 106) x1.toNatClampNeg = _ by rw [e2]; rfl)
        have f67 := rb_106 L I x1.toNatClampNeg
        have f68 := rb_106 L i3 x1.toNatClampNeg
        have f69 := rb_106 L i9 x1.toNatClampNeg
        have f70 := rb_106 L i38 x1.toNatClampNeg
        refine ok_biv (fun vx62 e63 => ?_)
        first | (have q71 := te_subc (c := 1) (n := 1) rfl (q_R r36.2 (Ad ad 106) x1.toNatClampNeg) (by omega) (by omega); rw [← e63] at q71; obtain ⟨f72, f73, f74⟩ := q71) | (obtain ⟨q71, f72, f73, f74⟩ : ∃ q : Int, vx62.toInt = (q_R r36.2 (Ad ad 106) x1.toNatClampNeg).toInt - (1 : Int) + 4294967296 * q ∧ -2147483648 ≤ vx62.toInt ∧ vx62.toInt ≤ 2147483647 := by rw [e63]; exact ti_subc (c := 1) (n := 1) rfl (q_R r36.2 (Ad ad 106) x1.toNatClampNeg))
        refine ok_mono (kl_X12_since_57 L hN   k_a0 _ vx62 r36.2 i38 (show 0 ≤ (x1).toInt by first | assumption | omega) (show (x1).toInt ≤ 3 by first | assumption | omega) (show -1 ≤ (vx62).toInt by first | assumption | omega) (show (vx62).toInt < 1000 by first | assumption | omega) (show (vx62).toInt + 1 < _ by omega)) (fun r75 hr76 => ?_)
        obtain ⟨i77, ⟨u78, u79, u80⟩⟩ := hr76
        have u81 := kp_t u45 u78
        have v82 : q_V r75.2 = q_V δ := (u79).trans v46
        have v83 := kr_t v47 u80
        have f84 := ti_b r75.1
        exact ⟨by assumption, ⟨kp_w (by decide) u81, v82, kr_w (by decide) v83⟩⟩
    · have c85 : r25.1.toInt ≠ (0 : Int) := o_ne h34
      refine ok_bind (k_X12_within L hN (x0 := x3) (x1 := (0 : Int32)) (x2 := (1 : Int32))  i9) (fun r86 hr87 => ?_)
      obtain ⟨i88, p89, p90, p91⟩ := hr87
      try rw [i88]
      have f92 := bo_l p89
      have f93 := ti_b r86.1
      have f94 := ti_b x3
      replace p90 : ((r86.1).toInt = 1 → (0 : Int) ≤ (x3).toInt ∧ (x3).toInt ≤ (1 : Int)) := p90
      replace p91 : ((r86.1).toInt = 0 → (x3).toInt < (0 : Int) ∨ (1 : Int) < (x3).toInt) := p91
      have f95 := ti_b r86.1
      refine ok_ite (fun h96 => ?_) (fun h96 => ?_)
      · have c97 : r86.1.toInt = (0 : Int) := o_eq h96
        unfold J_X12_since_36
        unfold J_X12_since_37
        refine ok_bind (k_X12_may L hN (a0 := a0) (x1 := (0 : Int32)) (x2 := (2 : Int32)) (x3 := (2 : Int32)) k_a0 (show (2 : Int) ≠ 0 by first | assumption | omega) (show 0 ≤ (2 : Int) by first | assumption | omega) (show (2 : Int) ≤ 2 by first | assumption | omega) i9) (fun r98 hr99 => ?_)
        obtain ⟨i100, ⟨u104, u105, u106⟩, p101, p102, p103⟩ := hr99
        have u107 := kp_t u15 u104
        have v108 : q_V r98.2 = q_V δ := (u105).trans v16
        have v109 := kr_t v17 u106
        have f110 := bo_l p101
        have f111 := ti_b r98.1
        replace p102 : ((r98.1).toInt = 1 → (0 : Int) ≠ 0) := p102
        have f112 := ti_b (q_I r7.2 12 0 a0)
        replace p103 : ((q_I r7.2 12 0 a0).toInt = 0 → (r98.1).toInt = 0 → (0 : Int) = 0) := p103
        have f113 := ti_b r98.1
        refine ok_ite (fun h114 => ?_) (fun h114 => ?_)
        · have c115 : r98.1.toInt = (0 : Int) := o_eq h114
          unfold J_X12_since_45
          exact ok_some (show RI ad h.1 δ0 r98.2 ∧ (kp [(12, 0)] δ r98.2 ∧ q_V r98.2 = q_V δ ∧ kr ad [100] δ r98.2) from ⟨i100, ⟨kp_w (by decide) u107, v108, kr_w (by decide) v109⟩⟩)
        · have c116 : r98.1.toInt ≠ (0 : Int) := o_ne h114
          obtain ⟨b117, o118, k119, n120⟩ := gO_12_17 L k_a0
          obtain rfl := gS_12_17 L k_a0 o118
          refine ok_at o118 ?_
          have t121 := ti_tn x1
          refine ok_gd (fun hc122 => ?_) ?_
          · rcases hc122 with hc122 | hc122
            · have c123 : x1.toInt < (0 : Int) := o_lt hc122
              omega
            · omega
          have f126 : (q_R r98.2 (Ad ad 106) x1.toNatClampNeg).toInt = (q_R r7.2 (Ad ad 106) x1.toNatClampNeg).toInt := congrArg Int32.toInt (congrFun (u106 106 (by decide) (by decide) (by decide)) _)
          have f127 : (q_R r7.2 (Ad ad 106) x1.toNatClampNeg).toInt = (q_R d1 (Ad ad 106) x1.toNatClampNeg).toInt := congrArg Int32.toInt (congrFun (u14 106 (by decide) (by decide) (by decide)) _)
          have f128 : (q_R d1 (Ad ad 106) x1.toNatClampNeg).toInt = (q_R δ (Ad ad 106) x1.toNatClampNeg).toInt := congrArg Int32.toInt (show q_R d1 (Ad ad 106) x1.toNatClampNeg = _ by rw [e2]; rfl)
          have f129 := rb_106 L I x1.toNatClampNeg
          have f130 := rb_106 L i3 x1.toNatClampNeg
          have f131 := rb_106 L i9 x1.toNatClampNeg
          have f132 := rb_106 L i100 x1.toNatClampNeg
          refine ok_biv (fun vx124 e125 => ?_)
          first | (have q133 := te_subc (c := 1) (n := 1) rfl (q_R r98.2 (Ad ad 106) x1.toNatClampNeg) (by omega) (by omega); rw [← e125] at q133; obtain ⟨f134, f135, f136⟩ := q133) | (obtain ⟨q133, f134, f135, f136⟩ : ∃ q : Int, vx124.toInt = (q_R r98.2 (Ad ad 106) x1.toNatClampNeg).toInt - (1 : Int) + 4294967296 * q ∧ -2147483648 ≤ vx124.toInt ∧ vx124.toInt ≤ 2147483647 := by rw [e125]; exact ti_subc (c := 1) (n := 1) rfl (q_R r98.2 (Ad ad 106) x1.toNatClampNeg))
          refine ok_mono (kl_X12_since_57 L hN   k_a0 _ vx124 r98.2 i100 (show 0 ≤ (x1).toInt by first | assumption | omega) (show (x1).toInt ≤ 3 by first | assumption | omega) (show -1 ≤ (vx124).toInt by first | assumption | omega) (show (vx124).toInt < 1000 by first | assumption | omega) (show (vx124).toInt + 1 < _ by omega)) (fun r137 hr138 => ?_)
          obtain ⟨i139, ⟨u140, u141, u142⟩⟩ := hr138
          have u143 := kp_t u107 u140
          have v144 : q_V r137.2 = q_V δ := (u141).trans v108
          have v145 := kr_t v109 u142
          have f146 := ti_b r137.1
          exact ⟨by assumption, ⟨kp_w (by decide) u143, v144, kr_w (by decide) v145⟩⟩
      · have c147 : r86.1.toInt ≠ (0 : Int) := o_ne h96
        unfold J_X12_since_37
        refine ok_bind (k_X12_may L hN (a0 := a0) (x1 := (1 : Int32)) (x2 := (2 : Int32)) (x3 := (2 : Int32)) k_a0 (show (2 : Int) ≠ 0 by first | assumption | omega) (show 0 ≤ (2 : Int) by first | assumption | omega) (show (2 : Int) ≤ 2 by first | assumption | omega) i9) (fun r148 hr149 => ?_)
        obtain ⟨i150, ⟨u154, u155, u156⟩, p151, p152, p153⟩ := hr149
        have u157 := kp_t u15 u154
        have v158 : q_V r148.2 = q_V δ := (u155).trans v16
        have v159 := kr_t v17 u156
        have f160 := bo_l p151
        have f161 := ti_b r148.1
        replace p152 : ((r148.1).toInt = 1 → (1 : Int) ≠ 0) := p152
        have f162 := ti_b (q_I r7.2 12 0 a0)
        replace p153 : ((q_I r7.2 12 0 a0).toInt = 0 → (r148.1).toInt = 0 → (1 : Int) = 0) := p153
        have f163 := ti_b r148.1
        refine ok_ite (fun h164 => ?_) (fun h164 => ?_)
        · have c165 : r148.1.toInt = (0 : Int) := o_eq h164
          unfold J_X12_since_45
          exact ok_some (show RI ad h.1 δ0 r148.2 ∧ (kp [(12, 0)] δ r148.2 ∧ q_V r148.2 = q_V δ ∧ kr ad [100] δ r148.2) from ⟨i150, ⟨kp_w (by decide) u157, v158, kr_w (by decide) v159⟩⟩)
        · have c166 : r148.1.toInt ≠ (0 : Int) := o_ne h164
          obtain ⟨b167, o168, k169, n170⟩ := gO_12_17 L k_a0
          obtain rfl := gS_12_17 L k_a0 o168
          refine ok_at o168 ?_
          have t171 := ti_tn x1
          refine ok_gd (fun hc172 => ?_) ?_
          · rcases hc172 with hc172 | hc172
            · have c173 : x1.toInt < (0 : Int) := o_lt hc172
              omega
            · omega
          have f176 : (q_R r148.2 (Ad ad 106) x1.toNatClampNeg).toInt = (q_R r7.2 (Ad ad 106) x1.toNatClampNeg).toInt := congrArg Int32.toInt (congrFun (u156 106 (by decide) (by decide) (by decide)) _)
          have f177 : (q_R r7.2 (Ad ad 106) x1.toNatClampNeg).toInt = (q_R d1 (Ad ad 106) x1.toNatClampNeg).toInt := congrArg Int32.toInt (congrFun (u14 106 (by decide) (by decide) (by decide)) _)
          have f178 : (q_R d1 (Ad ad 106) x1.toNatClampNeg).toInt = (q_R δ (Ad ad 106) x1.toNatClampNeg).toInt := congrArg Int32.toInt (show q_R d1 (Ad ad 106) x1.toNatClampNeg = _ by rw [e2]; rfl)
          have f179 := rb_106 L I x1.toNatClampNeg
          have f180 := rb_106 L i3 x1.toNatClampNeg
          have f181 := rb_106 L i9 x1.toNatClampNeg
          have f182 := rb_106 L i150 x1.toNatClampNeg
          refine ok_biv (fun vx174 e175 => ?_)
          first | (have q183 := te_subc (c := 1) (n := 1) rfl (q_R r148.2 (Ad ad 106) x1.toNatClampNeg) (by omega) (by omega); rw [← e175] at q183; obtain ⟨f184, f185, f186⟩ := q183) | (obtain ⟨q183, f184, f185, f186⟩ : ∃ q : Int, vx174.toInt = (q_R r148.2 (Ad ad 106) x1.toNatClampNeg).toInt - (1 : Int) + 4294967296 * q ∧ -2147483648 ≤ vx174.toInt ∧ vx174.toInt ≤ 2147483647 := by rw [e175]; exact ti_subc (c := 1) (n := 1) rfl (q_R r148.2 (Ad ad 106) x1.toNatClampNeg))
          refine ok_mono (kl_X12_since_57 L hN   k_a0 _ vx174 r148.2 i150 (show 0 ≤ (x1).toInt by first | assumption | omega) (show (x1).toInt ≤ 3 by first | assumption | omega) (show -1 ≤ (vx174).toInt by first | assumption | omega) (show (vx174).toInt < 1000 by first | assumption | omega) (show (vx174).toInt + 1 < _ by omega)) (fun r187 hr188 => ?_)
          obtain ⟨i189, ⟨u190, u191, u192⟩⟩ := hr188
          have u193 := kp_t u157 u190
          have v194 : q_V r187.2 = q_V δ := (u191).trans v158
          have v195 := kr_t v159 u192
          have f196 := ti_b r187.1
          exact ⟨by assumption, ⟨kp_w (by decide) u193, v194, kr_w (by decide) v195⟩⟩
set_option maxHeartbeats 4000000 in
theorem kl_X12_runs_36 {ad : List Nat} {h : hp} (L : Lay TLx ad h) {δ0 : dp} {N : Nat} (hN : 10000000 ≤ N) {a0 : Nat} {x1 : Int32} {x2 : Int32} (k_a0 : q_K h.1 a0 = 12) : ∀ (n : Nat) (x3v : Int32) (x4v : Int32) (x5v : Int32) (x6v : Int32) (δ : dp), RI ad h.1 δ0 δ → 0 ≤ (x1).toInt → (x1).toInt ≤ 3 → 0 ≤ (x2).toInt → (x2).toInt ≤ 3 → 0 ≤ (x5v).toInt → (x5v).toInt ≤ 2000 → 0 ≤ (x6v).toInt → (x6v).toInt ≤ 2000 → 4000 - (x5v).toInt - (x6v).toInt < (n : Int) → ok (L_X12_runs_36 N h.1 a0 x1 x2 n x3v x4v x5v x6v δ) (fun r => RI ad h.1 δ0 r.2 ∧ (kp [(12, 0)] δ r.2 ∧ q_V r.2 = q_V δ ∧ kr ad [100] δ r.2)) := by
  intro n
  induction n with
  | zero =>
    intro x3v x4v x5v x6v δ I j0 j1 j2 j3 j4 j5 j6 j7 hm
    have f1 := ti_b x1
    have f2 := ti_b x2
    have f3 := ti_b x5v
    have f4 := ti_b x6v
    exfalso; omega
  | succ n ih =>
    intro x3v x4v x5v x6v δ I j0 j1 j2 j3 j4 j5 j6 j7 hm
    unfold L_X12_runs_36
    have f1 := ti_b x1
    have f2 := ti_b x2
    have f3 := ti_b x5v
    have f4 := ti_b x6v
    obtain ⟨b5, o6, k7, n8⟩ := gO_12_14 L k_a0
    obtain rfl := gS_12_14 L k_a0 o6
    refine ok_at o6 ?_
    have t9 := ti_tn x1
    refine ok_gd (fun hc10 => ?_) ?_
    · rcases hc10 with hc10 | hc10
      · have c11 : x1.toInt < (0 : Int) := o_lt hc10
        omega
      · omega
    have f12 := rb_103 L I x1.toNatClampNeg
    refine ok_ite (fun h13 => ?_) (fun h13 => ?_)
    · have c14 : x5v.toInt < (q_R δ (Ad ad 103) x1.toNatClampNeg).toInt := o_lt h13
      unfold J_X12_runs_58
      refine ok_at o6 ?_
      refine ok_gd (fun hc15 => ?_) ?_
      · rcases hc15 with hc15 | hc15
        · have c16 : x1.toInt < (0 : Int) := o_lt hc15
          omega
        · omega
      refine ok_ite (fun h17 => ?_) (fun h17 => ?_)
      · have c18 : (q_R δ (Ad ad 103) x1.toNatClampNeg).toInt ≤ x5v.toInt := o_le h17
        refine ok_bind (k_X12_all L hN (a0 := a0) k_a0 I) (fun r19 hr20 => ?_)
        obtain ⟨i21, p22, p23, p24, p25⟩ := hr20
        try rw [i21]
        have f26 := ti_b r19.1
        have f27 := cb_12_10 I k_a0
        have f28 := ti_b r19.1
        unfold J_X12_runs_83
        refine ok_at o6 ?_
        have t29 := ti_tn x2
        refine ok_gd (fun hc30 => ?_) ?_
        · rcases hc30 with hc30 | hc30
          · have c31 : x2.toInt < (0 : Int) := o_lt hc30
            omega
          · omega
        have f32 := rb_103 L I x2.toNatClampNeg
        refine ok_ite (fun h33 => ?_) (fun h33 => ?_)
        · have c34 : (q_R δ (Ad ad 103) x2.toNatClampNeg).toInt ≤ x6v.toInt := o_le h33
          refine ok_bind (k_X12_all L hN (a0 := a0) k_a0 I) (fun r35 hr36 => ?_)
          obtain ⟨i37, p38, p39, p40, p41⟩ := hr36
          try rw [i37]
          have f42 := ti_b r35.1
          have f43 := ti_b r35.1
          unfold J_X12_runs_110
          refine ok_ite (fun h44 => ?_) (fun h44 => ?_)
          · have c45 : r35.1.toInt < r19.1.toInt := o_lt h44
            unfold J_X12_runs_122
            refine ok_ite (fun h46 => ?_) (fun h46 => ?_)
            · have c47 : r19.1.toInt < r35.1.toInt := o_lt h46
              unfold J_X12_runs_132
              refine ok_ite (fun h48 => ?_) (fun h48 => ?_)
              · have c49 : r19.1.toInt = r35.1.toInt := o_eq h48
                refine ok_mono (ih x3v x4v x5v x6v δ I (show 0 ≤ (x1).toInt by first | assumption | omega) (show (x1).toInt ≤ 3 by first | assumption | omega) (show 0 ≤ (x2).toInt by first | assumption | omega) (show (x2).toInt ≤ 3 by first | assumption | omega) (show 0 ≤ (x5v).toInt by first | assumption | omega) (show (x5v).toInt ≤ 2000 by first | assumption | omega) (show 0 ≤ (x6v).toInt by first | assumption | omega) (show (x6v).toInt ≤ 2000 by first | assumption | omega) (show 4000 - (x5v).toInt - (x6v).toInt < _ by omega)) (fun r50 hr51 => ?_)
                obtain ⟨i52, ⟨u53, u54, u55⟩⟩ := hr51
                have u56 := kp_t kp_r u53
                have v57 : q_V r50.2 = q_V δ := (u54).trans rfl
                have v58 := kr_t (kr_r (ad := ad)) u55
                have f59 := ti_b r50.1
                exact ⟨by assumption, ⟨kp_w (by decide) u56, v57, kr_w (by decide) v58⟩⟩
              · have c60 : r19.1.toInt ≠ r35.1.toInt := o_ne h48
                refine ok_ite (fun h61 => ?_) (fun h61 => ?_)
                · have c62 : r35.1.toInt ≤ r19.1.toInt := o_le h61
                  unfold J_X12_runs_154
                  have f63 := ti_b x4v
                  refine ok_ite (fun h64 => ?_) (fun h64 => ?_)
                  · have c65 : (1 : Int) = x4v.toInt := o_eq h64
                    unfold J_X12_runs_169
                    have f68 := ti_b x3v
                    refine ok_biv (fun vx66 e67 => ?_)
                    first | (have q69 := te_addc (c := 0) (n := 0) rfl x3v (by omega) (by omega); rw [← e67] at q69; obtain ⟨f70, f71, f72⟩ := q69) | (obtain ⟨q69, f70, f71, f72⟩ : ∃ q : Int, vx66.toInt = x3v.toInt + (0 : Int) + 4294967296 * q ∧ -2147483648 ≤ vx66.toInt ∧ vx66.toInt ≤ 2147483647 := by rw [e67]; exact ti_addc (c := 0) (n := 0) rfl x3v)
                    refine ok_mono (ih vx66 (1 : Int32) x5v x6v δ I (show 0 ≤ (x1).toInt by first | assumption | omega) (show (x1).toInt ≤ 3 by first | assumption | omega) (show 0 ≤ (x2).toInt by first | assumption | omega) (show (x2).toInt ≤ 3 by first | assumption | omega) (show 0 ≤ (x5v).toInt by first | assumption | omega) (show (x5v).toInt ≤ 2000 by first | assumption | omega) (show 0 ≤ (x6v).toInt by first | assumption | omega) (show (x6v).toInt ≤ 2000 by first | assumption | omega) (show 4000 - (x5v).toInt - (x6v).toInt < _ by omega)) (fun r73 hr74 => ?_)
                    obtain ⟨i75, ⟨u76, u77, u78⟩⟩ := hr74
                    have u79 := kp_t kp_r u76
                    have v80 : q_V r73.2 = q_V δ := (u77).trans rfl
                    have v81 := kr_t (kr_r (ad := ad)) u78
                    have f82 := ti_b r73.1
                    exact ⟨by assumption, ⟨kp_w (by decide) u79, v80, kr_w (by decide) v81⟩⟩
                  · have c83 : (1 : Int) ≠ x4v.toInt := o_ne h64
                    unfold J_X12_runs_169
                    have f86 := ti_b x3v
                    refine ok_biv (fun vx84 e85 => ?_)
                    first | (have q87 := te_addc (c := 1) (n := 1) rfl x3v (by omega) (by omega); rw [← e85] at q87; obtain ⟨f88, f89, f90⟩ := q87) | (obtain ⟨q87, f88, f89, f90⟩ : ∃ q : Int, vx84.toInt = x3v.toInt + (1 : Int) + 4294967296 * q ∧ -2147483648 ≤ vx84.toInt ∧ vx84.toInt ≤ 2147483647 := by rw [e85]; exact ti_addc (c := 1) (n := 1) rfl x3v)
                    refine ok_mono (ih vx84 (1 : Int32) x5v x6v δ I (show 0 ≤ (x1).toInt by first | assumption | omega) (show (x1).toInt ≤ 3 by first | assumption | omega) (show 0 ≤ (x2).toInt by first | assumption | omega) (show (x2).toInt ≤ 3 by first | assumption | omega) (show 0 ≤ (x5v).toInt by first | assumption | omega) (show (x5v).toInt ≤ 2000 by first | assumption | omega) (show 0 ≤ (x6v).toInt by first | assumption | omega) (show (x6v).toInt ≤ 2000 by first | assumption | omega) (show 4000 - (x5v).toInt - (x6v).toInt < _ by omega)) (fun r91 hr92 => ?_)
                    obtain ⟨i93, ⟨u94, u95, u96⟩⟩ := hr92
                    have u97 := kp_t kp_r u94
                    have v98 : q_V r91.2 = q_V δ := (u95).trans rfl
                    have v99 := kr_t (kr_r (ad := ad)) u96
                    have f100 := ti_b r91.1
                    exact ⟨by assumption, ⟨kp_w (by decide) u97, v98, kr_w (by decide) v99⟩⟩
                · have c101 : r19.1.toInt < r35.1.toInt := o_nle h61
                  unfold J_X12_runs_154
                  have f102 := ti_b x4v
                  refine ok_ite (fun h103 => ?_) (fun h103 => ?_)
                  · have c104 : (0 : Int) = x4v.toInt := o_eq h103
                    unfold J_X12_runs_169
                    have f107 := ti_b x3v
                    refine ok_biv (fun vx105 e106 => ?_)
                    first | (have q108 := te_addc (c := 0) (n := 0) rfl x3v (by omega) (by omega); rw [← e106] at q108; obtain ⟨f109, f110, f111⟩ := q108) | (obtain ⟨q108, f109, f110, f111⟩ : ∃ q : Int, vx105.toInt = x3v.toInt + (0 : Int) + 4294967296 * q ∧ -2147483648 ≤ vx105.toInt ∧ vx105.toInt ≤ 2147483647 := by rw [e106]; exact ti_addc (c := 0) (n := 0) rfl x3v)
                    refine ok_mono (ih vx105 (0 : Int32) x5v x6v δ I (show 0 ≤ (x1).toInt by first | assumption | omega) (show (x1).toInt ≤ 3 by first | assumption | omega) (show 0 ≤ (x2).toInt by first | assumption | omega) (show (x2).toInt ≤ 3 by first | assumption | omega) (show 0 ≤ (x5v).toInt by first | assumption | omega) (show (x5v).toInt ≤ 2000 by first | assumption | omega) (show 0 ≤ (x6v).toInt by first | assumption | omega) (show (x6v).toInt ≤ 2000 by first | assumption | omega) (show 4000 - (x5v).toInt - (x6v).toInt < _ by omega)) (fun r112 hr113 => ?_)
                    obtain ⟨i114, ⟨u115, u116, u117⟩⟩ := hr113
                    have u118 := kp_t kp_r u115
                    have v119 : q_V r112.2 = q_V δ := (u116).trans rfl
                    have v120 := kr_t (kr_r (ad := ad)) u117
                    have f121 := ti_b r112.1
                    exact ⟨by assumption, ⟨kp_w (by decide) u118, v119, kr_w (by decide) v120⟩⟩
                  · have c122 : (0 : Int) ≠ x4v.toInt := o_ne h103
                    unfold J_X12_runs_169
                    have f125 := ti_b x3v
                    refine ok_biv (fun vx123 e124 => ?_)
                    first | (have q126 := te_addc (c := 1) (n := 1) rfl x3v (by omega) (by omega); rw [← e124] at q126; obtain ⟨f127, f128, f129⟩ := q126) | (obtain ⟨q126, f127, f128, f129⟩ : ∃ q : Int, vx123.toInt = x3v.toInt + (1 : Int) + 4294967296 * q ∧ -2147483648 ≤ vx123.toInt ∧ vx123.toInt ≤ 2147483647 := by rw [e124]; exact ti_addc (c := 1) (n := 1) rfl x3v)
                    refine ok_mono (ih vx123 (0 : Int32) x5v x6v δ I (show 0 ≤ (x1).toInt by first | assumption | omega) (show (x1).toInt ≤ 3 by first | assumption | omega) (show 0 ≤ (x2).toInt by first | assumption | omega) (show (x2).toInt ≤ 3 by first | assumption | omega) (show 0 ≤ (x5v).toInt by first | assumption | omega) (show (x5v).toInt ≤ 2000 by first | assumption | omega) (show 0 ≤ (x6v).toInt by first | assumption | omega) (show (x6v).toInt ≤ 2000 by first | assumption | omega) (show 4000 - (x5v).toInt - (x6v).toInt < _ by omega)) (fun r130 hr131 => ?_)
                    obtain ⟨i132, ⟨u133, u134, u135⟩⟩ := hr131
                    have u136 := kp_t kp_r u133
                    have v137 : q_V r130.2 = q_V δ := (u134).trans rfl
                    have v138 := kr_t (kr_r (ad := ad)) u135
                    have f139 := ti_b r130.1
                    exact ⟨by assumption, ⟨kp_w (by decide) u136, v137, kr_w (by decide) v138⟩⟩
            · have c140 : r35.1.toInt ≤ r19.1.toInt := o_nlt h46
              refine ok_biv (fun vx141 e142 => ?_)
              first | (have q143 := te_addc (c := 1) (n := 1) rfl x6v (by omega) (by omega); rw [← e142] at q143; obtain ⟨f144, f145, f146⟩ := q143) | (obtain ⟨q143, f144, f145, f146⟩ : ∃ q : Int, vx141.toInt = x6v.toInt + (1 : Int) + 4294967296 * q ∧ -2147483648 ≤ vx141.toInt ∧ vx141.toInt ≤ 2147483647 := by rw [e142]; exact ti_addc (c := 1) (n := 1) rfl x6v)
              unfold J_X12_runs_132
              refine ok_ite (fun h147 => ?_) (fun h147 => ?_)
              · have c148 : r19.1.toInt = r35.1.toInt := o_eq h147
                refine ok_mono (ih x3v x4v x5v vx141 δ I (show 0 ≤ (x1).toInt by first | assumption | omega) (show (x1).toInt ≤ 3 by first | assumption | omega) (show 0 ≤ (x2).toInt by first | assumption | omega) (show (x2).toInt ≤ 3 by first | assumption | omega) (show 0 ≤ (x5v).toInt by first | assumption | omega) (show (x5v).toInt ≤ 2000 by first | assumption | omega) (show 0 ≤ (vx141).toInt by first | assumption | omega) (show (vx141).toInt ≤ 2000 by first | assumption | omega) (show 4000 - (x5v).toInt - (vx141).toInt < _ by omega)) (fun r149 hr150 => ?_)
                obtain ⟨i151, ⟨u152, u153, u154⟩⟩ := hr150
                have u155 := kp_t kp_r u152
                have v156 : q_V r149.2 = q_V δ := (u153).trans rfl
                have v157 := kr_t (kr_r (ad := ad)) u154
                have f158 := ti_b r149.1
                exact ⟨by assumption, ⟨kp_w (by decide) u155, v156, kr_w (by decide) v157⟩⟩
              · have c159 : r19.1.toInt ≠ r35.1.toInt := o_ne h147
                refine ok_ite (fun h160 => ?_) (fun h160 => ?_)
                · have c161 : r35.1.toInt ≤ r19.1.toInt := o_le h160
                  unfold J_X12_runs_154
                  have f162 := ti_b x4v
                  refine ok_ite (fun h163 => ?_) (fun h163 => ?_)
                  · have c164 : (1 : Int) = x4v.toInt := o_eq h163
                    unfold J_X12_runs_169
                    have f167 := ti_b x3v
                    refine ok_biv (fun vx165 e166 => ?_)
                    first | (have q168 := te_addc (c := 0) (n := 0) rfl x3v (by omega) (by omega); rw [← e166] at q168; obtain ⟨f169, f170, f171⟩ := q168) | (obtain ⟨q168, f169, f170, f171⟩ : ∃ q : Int, vx165.toInt = x3v.toInt + (0 : Int) + 4294967296 * q ∧ -2147483648 ≤ vx165.toInt ∧ vx165.toInt ≤ 2147483647 := by rw [e166]; exact ti_addc (c := 0) (n := 0) rfl x3v)
                    refine ok_mono (ih vx165 (1 : Int32) x5v vx141 δ I (show 0 ≤ (x1).toInt by first | assumption | omega) (show (x1).toInt ≤ 3 by first | assumption | omega) (show 0 ≤ (x2).toInt by first | assumption | omega) (show (x2).toInt ≤ 3 by first | assumption | omega) (show 0 ≤ (x5v).toInt by first | assumption | omega) (show (x5v).toInt ≤ 2000 by first | assumption | omega) (show 0 ≤ (vx141).toInt by first | assumption | omega) (show (vx141).toInt ≤ 2000 by first | assumption | omega) (show 4000 - (x5v).toInt - (vx141).toInt < _ by omega)) (fun r172 hr173 => ?_)
                    obtain ⟨i174, ⟨u175, u176, u177⟩⟩ := hr173
                    have u178 := kp_t kp_r u175
                    have v179 : q_V r172.2 = q_V δ := (u176).trans rfl
                    have v180 := kr_t (kr_r (ad := ad)) u177
                    have f181 := ti_b r172.1
                    exact ⟨by assumption, ⟨kp_w (by decide) u178, v179, kr_w (by decide) v180⟩⟩
                  · have c182 : (1 : Int) ≠ x4v.toInt := o_ne h163
                    unfold J_X12_runs_169
                    have f185 := ti_b x3v
                    refine ok_biv (fun vx183 e184 => ?_)
                    first | (have q186 := te_addc (c := 1) (n := 1) rfl x3v (by omega) (by omega); rw [← e184] at q186; obtain ⟨f187, f188, f189⟩ := q186) | (obtain ⟨q186, f187, f188, f189⟩ : ∃ q : Int, vx183.toInt = x3v.toInt + (1 : Int) + 4294967296 * q ∧ -2147483648 ≤ vx183.toInt ∧ vx183.toInt ≤ 2147483647 := by rw [e184]; exact ti_addc (c := 1) (n := 1) rfl x3v)
                    refine ok_mono (ih vx183 (1 : Int32) x5v vx141 δ I (show 0 ≤ (x1).toInt by first | assumption | omega) (show (x1).toInt ≤ 3 by first | assumption | omega) (show 0 ≤ (x2).toInt by first | assumption | omega) (show (x2).toInt ≤ 3 by first | assumption | omega) (show 0 ≤ (x5v).toInt by first | assumption | omega) (show (x5v).toInt ≤ 2000 by first | assumption | omega) (show 0 ≤ (vx141).toInt by first | assumption | omega) (show (vx141).toInt ≤ 2000 by first | assumption | omega) (show 4000 - (x5v).toInt - (vx141).toInt < _ by omega)) (fun r190 hr191 => ?_)
                    obtain ⟨i192, ⟨u193, u194, u195⟩⟩ := hr191
                    have u196 := kp_t kp_r u193
                    have v197 : q_V r190.2 = q_V δ := (u194).trans rfl
                    have v198 := kr_t (kr_r (ad := ad)) u195
                    have f199 := ti_b r190.1
                    exact ⟨by assumption, ⟨kp_w (by decide) u196, v197, kr_w (by decide) v198⟩⟩
                · have c200 : r19.1.toInt < r35.1.toInt := o_nle h160
                  unfold J_X12_runs_154
                  have f201 := ti_b x4v
                  refine ok_ite (fun h202 => ?_) (fun h202 => ?_)
                  · have c203 : (0 : Int) = x4v.toInt := o_eq h202
                    unfold J_X12_runs_169
                    have f206 := ti_b x3v
                    refine ok_biv (fun vx204 e205 => ?_)
                    first | (have q207 := te_addc (c := 0) (n := 0) rfl x3v (by omega) (by omega); rw [← e205] at q207; obtain ⟨f208, f209, f210⟩ := q207) | (obtain ⟨q207, f208, f209, f210⟩ : ∃ q : Int, vx204.toInt = x3v.toInt + (0 : Int) + 4294967296 * q ∧ -2147483648 ≤ vx204.toInt ∧ vx204.toInt ≤ 2147483647 := by rw [e205]; exact ti_addc (c := 0) (n := 0) rfl x3v)
                    refine ok_mono (ih vx204 (0 : Int32) x5v vx141 δ I (show 0 ≤ (x1).toInt by first | assumption | omega) (show (x1).toInt ≤ 3 by first | assumption | omega) (show 0 ≤ (x2).toInt by first | assumption | omega) (show (x2).toInt ≤ 3 by first | assumption | omega) (show 0 ≤ (x5v).toInt by first | assumption | omega) (show (x5v).toInt ≤ 2000 by first | assumption | omega) (show 0 ≤ (vx141).toInt by first | assumption | omega) (show (vx141).toInt ≤ 2000 by first | assumption | omega) (show 4000 - (x5v).toInt - (vx141).toInt < _ by omega)) (fun r211 hr212 => ?_)
                    obtain ⟨i213, ⟨u214, u215, u216⟩⟩ := hr212
                    have u217 := kp_t kp_r u214
                    have v218 : q_V r211.2 = q_V δ := (u215).trans rfl
                    have v219 := kr_t (kr_r (ad := ad)) u216
                    have f220 := ti_b r211.1
                    exact ⟨by assumption, ⟨kp_w (by decide) u217, v218, kr_w (by decide) v219⟩⟩
                  · have c221 : (0 : Int) ≠ x4v.toInt := o_ne h202
                    unfold J_X12_runs_169
                    have f224 := ti_b x3v
                    refine ok_biv (fun vx222 e223 => ?_)
                    first | (have q225 := te_addc (c := 1) (n := 1) rfl x3v (by omega) (by omega); rw [← e223] at q225; obtain ⟨f226, f227, f228⟩ := q225) | (obtain ⟨q225, f226, f227, f228⟩ : ∃ q : Int, vx222.toInt = x3v.toInt + (1 : Int) + 4294967296 * q ∧ -2147483648 ≤ vx222.toInt ∧ vx222.toInt ≤ 2147483647 := by rw [e223]; exact ti_addc (c := 1) (n := 1) rfl x3v)
                    refine ok_mono (ih vx222 (0 : Int32) x5v vx141 δ I (show 0 ≤ (x1).toInt by first | assumption | omega) (show (x1).toInt ≤ 3 by first | assumption | omega) (show 0 ≤ (x2).toInt by first | assumption | omega) (show (x2).toInt ≤ 3 by first | assumption | omega) (show 0 ≤ (x5v).toInt by first | assumption | omega) (show (x5v).toInt ≤ 2000 by first | assumption | omega) (show 0 ≤ (vx141).toInt by first | assumption | omega) (show (vx141).toInt ≤ 2000 by first | assumption | omega) (show 4000 - (x5v).toInt - (vx141).toInt < _ by omega)) (fun r229 hr230 => ?_)
                    obtain ⟨i231, ⟨u232, u233, u234⟩⟩ := hr230
                    have u235 := kp_t kp_r u232
                    have v236 : q_V r229.2 = q_V δ := (u233).trans rfl
                    have v237 := kr_t (kr_r (ad := ad)) u234
                    have f238 := ti_b r229.1
                    exact ⟨by assumption, ⟨kp_w (by decide) u235, v236, kr_w (by decide) v237⟩⟩
          · have c239 : r19.1.toInt ≤ r35.1.toInt := o_nlt h44
            refine ok_biv (fun vx240 e241 => ?_)
            first | (have q242 := te_addc (c := 1) (n := 1) rfl x5v (by omega) (by omega); rw [← e241] at q242; obtain ⟨f243, f244, f245⟩ := q242) | (obtain ⟨q242, f243, f244, f245⟩ : ∃ q : Int, vx240.toInt = x5v.toInt + (1 : Int) + 4294967296 * q ∧ -2147483648 ≤ vx240.toInt ∧ vx240.toInt ≤ 2147483647 := by rw [e241]; exact ti_addc (c := 1) (n := 1) rfl x5v)
            unfold J_X12_runs_122
            refine ok_ite (fun h246 => ?_) (fun h246 => ?_)
            · have c247 : r19.1.toInt < r35.1.toInt := o_lt h246
              unfold J_X12_runs_132
              refine ok_ite (fun h248 => ?_) (fun h248 => ?_)
              · have c249 : r19.1.toInt = r35.1.toInt := o_eq h248
                refine ok_mono (ih x3v x4v vx240 x6v δ I (show 0 ≤ (x1).toInt by first | assumption | omega) (show (x1).toInt ≤ 3 by first | assumption | omega) (show 0 ≤ (x2).toInt by first | assumption | omega) (show (x2).toInt ≤ 3 by first | assumption | omega) (show 0 ≤ (vx240).toInt by first | assumption | omega) (show (vx240).toInt ≤ 2000 by first | assumption | omega) (show 0 ≤ (x6v).toInt by first | assumption | omega) (show (x6v).toInt ≤ 2000 by first | assumption | omega) (show 4000 - (vx240).toInt - (x6v).toInt < _ by omega)) (fun r250 hr251 => ?_)
                obtain ⟨i252, ⟨u253, u254, u255⟩⟩ := hr251
                have u256 := kp_t kp_r u253
                have v257 : q_V r250.2 = q_V δ := (u254).trans rfl
                have v258 := kr_t (kr_r (ad := ad)) u255
                have f259 := ti_b r250.1
                exact ⟨by assumption, ⟨kp_w (by decide) u256, v257, kr_w (by decide) v258⟩⟩
              · have c260 : r19.1.toInt ≠ r35.1.toInt := o_ne h248
                refine ok_ite (fun h261 => ?_) (fun h261 => ?_)
                · have c262 : r35.1.toInt ≤ r19.1.toInt := o_le h261
                  unfold J_X12_runs_154
                  have f263 := ti_b x4v
                  refine ok_ite (fun h264 => ?_) (fun h264 => ?_)
                  · have c265 : (1 : Int) = x4v.toInt := o_eq h264
                    unfold J_X12_runs_169
                    have f268 := ti_b x3v
                    refine ok_biv (fun vx266 e267 => ?_)
                    first | (have q269 := te_addc (c := 0) (n := 0) rfl x3v (by omega) (by omega); rw [← e267] at q269; obtain ⟨f270, f271, f272⟩ := q269) | (obtain ⟨q269, f270, f271, f272⟩ : ∃ q : Int, vx266.toInt = x3v.toInt + (0 : Int) + 4294967296 * q ∧ -2147483648 ≤ vx266.toInt ∧ vx266.toInt ≤ 2147483647 := by rw [e267]; exact ti_addc (c := 0) (n := 0) rfl x3v)
                    refine ok_mono (ih vx266 (1 : Int32) vx240 x6v δ I (show 0 ≤ (x1).toInt by first | assumption | omega) (show (x1).toInt ≤ 3 by first | assumption | omega) (show 0 ≤ (x2).toInt by first | assumption | omega) (show (x2).toInt ≤ 3 by first | assumption | omega) (show 0 ≤ (vx240).toInt by first | assumption | omega) (show (vx240).toInt ≤ 2000 by first | assumption | omega) (show 0 ≤ (x6v).toInt by first | assumption | omega) (show (x6v).toInt ≤ 2000 by first | assumption | omega) (show 4000 - (vx240).toInt - (x6v).toInt < _ by omega)) (fun r273 hr274 => ?_)
                    obtain ⟨i275, ⟨u276, u277, u278⟩⟩ := hr274
                    have u279 := kp_t kp_r u276
                    have v280 : q_V r273.2 = q_V δ := (u277).trans rfl
                    have v281 := kr_t (kr_r (ad := ad)) u278
                    have f282 := ti_b r273.1
                    exact ⟨by assumption, ⟨kp_w (by decide) u279, v280, kr_w (by decide) v281⟩⟩
                  · have c283 : (1 : Int) ≠ x4v.toInt := o_ne h264
                    unfold J_X12_runs_169
                    have f286 := ti_b x3v
                    refine ok_biv (fun vx284 e285 => ?_)
                    first | (have q287 := te_addc (c := 1) (n := 1) rfl x3v (by omega) (by omega); rw [← e285] at q287; obtain ⟨f288, f289, f290⟩ := q287) | (obtain ⟨q287, f288, f289, f290⟩ : ∃ q : Int, vx284.toInt = x3v.toInt + (1 : Int) + 4294967296 * q ∧ -2147483648 ≤ vx284.toInt ∧ vx284.toInt ≤ 2147483647 := by rw [e285]; exact ti_addc (c := 1) (n := 1) rfl x3v)
                    refine ok_mono (ih vx284 (1 : Int32) vx240 x6v δ I (show 0 ≤ (x1).toInt by first | assumption | omega) (show (x1).toInt ≤ 3 by first | assumption | omega) (show 0 ≤ (x2).toInt by first | assumption | omega) (show (x2).toInt ≤ 3 by first | assumption | omega) (show 0 ≤ (vx240).toInt by first | assumption | omega) (show (vx240).toInt ≤ 2000 by first | assumption | omega) (show 0 ≤ (x6v).toInt by first | assumption | omega) (show (x6v).toInt ≤ 2000 by first | assumption | omega) (show 4000 - (vx240).toInt - (x6v).toInt < _ by omega)) (fun r291 hr292 => ?_)
                    obtain ⟨i293, ⟨u294, u295, u296⟩⟩ := hr292
                    have u297 := kp_t kp_r u294
                    have v298 : q_V r291.2 = q_V δ := (u295).trans rfl
                    have v299 := kr_t (kr_r (ad := ad)) u296
                    have f300 := ti_b r291.1
                    exact ⟨by assumption, ⟨kp_w (by decide) u297, v298, kr_w (by decide) v299⟩⟩
                · have c301 : r19.1.toInt < r35.1.toInt := o_nle h261
                  unfold J_X12_runs_154
                  have f302 := ti_b x4v
                  refine ok_ite (fun h303 => ?_) (fun h303 => ?_)
                  · have c304 : (0 : Int) = x4v.toInt := o_eq h303
                    unfold J_X12_runs_169
                    have f307 := ti_b x3v
                    refine ok_biv (fun vx305 e306 => ?_)
                    first | (have q308 := te_addc (c := 0) (n := 0) rfl x3v (by omega) (by omega); rw [← e306] at q308; obtain ⟨f309, f310, f311⟩ := q308) | (obtain ⟨q308, f309, f310, f311⟩ : ∃ q : Int, vx305.toInt = x3v.toInt + (0 : Int) + 4294967296 * q ∧ -2147483648 ≤ vx305.toInt ∧ vx305.toInt ≤ 2147483647 := by rw [e306]; exact ti_addc (c := 0) (n := 0) rfl x3v)
                    refine ok_mono (ih vx305 (0 : Int32) vx240 x6v δ I (show 0 ≤ (x1).toInt by first | assumption | omega) (show (x1).toInt ≤ 3 by first | assumption | omega) (show 0 ≤ (x2).toInt by first | assumption | omega) (show (x2).toInt ≤ 3 by first | assumption | omega) (show 0 ≤ (vx240).toInt by first | assumption | omega) (show (vx240).toInt ≤ 2000 by first | assumption | omega) (show 0 ≤ (x6v).toInt by first | assumption | omega) (show (x6v).toInt ≤ 2000 by first | assumption | omega) (show 4000 - (vx240).toInt - (x6v).toInt < _ by omega)) (fun r312 hr313 => ?_)
                    obtain ⟨i314, ⟨u315, u316, u317⟩⟩ := hr313
                    have u318 := kp_t kp_r u315
                    have v319 : q_V r312.2 = q_V δ := (u316).trans rfl
                    have v320 := kr_t (kr_r (ad := ad)) u317
                    have f321 := ti_b r312.1
                    exact ⟨by assumption, ⟨kp_w (by decide) u318, v319, kr_w (by decide) v320⟩⟩
                  · have c322 : (0 : Int) ≠ x4v.toInt := o_ne h303
                    unfold J_X12_runs_169
                    have f325 := ti_b x3v
                    refine ok_biv (fun vx323 e324 => ?_)
                    first | (have q326 := te_addc (c := 1) (n := 1) rfl x3v (by omega) (by omega); rw [← e324] at q326; obtain ⟨f327, f328, f329⟩ := q326) | (obtain ⟨q326, f327, f328, f329⟩ : ∃ q : Int, vx323.toInt = x3v.toInt + (1 : Int) + 4294967296 * q ∧ -2147483648 ≤ vx323.toInt ∧ vx323.toInt ≤ 2147483647 := by rw [e324]; exact ti_addc (c := 1) (n := 1) rfl x3v)
                    refine ok_mono (ih vx323 (0 : Int32) vx240 x6v δ I (show 0 ≤ (x1).toInt by first | assumption | omega) (show (x1).toInt ≤ 3 by first | assumption | omega) (show 0 ≤ (x2).toInt by first | assumption | omega) (show (x2).toInt ≤ 3 by first | assumption | omega) (show 0 ≤ (vx240).toInt by first | assumption | omega) (show (vx240).toInt ≤ 2000 by first | assumption | omega) (show 0 ≤ (x6v).toInt by first | assumption | omega) (show (x6v).toInt ≤ 2000 by first | assumption | omega) (show 4000 - (vx240).toInt - (x6v).toInt < _ by omega)) (fun r330 hr331 => ?_)
                    obtain ⟨i332, ⟨u333, u334, u335⟩⟩ := hr331
                    have u336 := kp_t kp_r u333
                    have v337 : q_V r330.2 = q_V δ := (u334).trans rfl
                    have v338 := kr_t (kr_r (ad := ad)) u335
                    have f339 := ti_b r330.1
                    exact ⟨by assumption, ⟨kp_w (by decide) u336, v337, kr_w (by decide) v338⟩⟩
            · have c340 : r35.1.toInt ≤ r19.1.toInt := o_nlt h246
              refine ok_biv (fun vx341 e342 => ?_)
              first | (have q343 := te_addc (c := 1) (n := 1) rfl x6v (by omega) (by omega); rw [← e342] at q343; obtain ⟨f344, f345, f346⟩ := q343) | (obtain ⟨q343, f344, f345, f346⟩ : ∃ q : Int, vx341.toInt = x6v.toInt + (1 : Int) + 4294967296 * q ∧ -2147483648 ≤ vx341.toInt ∧ vx341.toInt ≤ 2147483647 := by rw [e342]; exact ti_addc (c := 1) (n := 1) rfl x6v)
              unfold J_X12_runs_132
              refine ok_ite (fun h347 => ?_) (fun h347 => ?_)
              · have c348 : r19.1.toInt = r35.1.toInt := o_eq h347
                refine ok_mono (ih x3v x4v vx240 vx341 δ I (show 0 ≤ (x1).toInt by first | assumption | omega) (show (x1).toInt ≤ 3 by first | assumption | omega) (show 0 ≤ (x2).toInt by first | assumption | omega) (show (x2).toInt ≤ 3 by first | assumption | omega) (show 0 ≤ (vx240).toInt by first | assumption | omega) (show (vx240).toInt ≤ 2000 by first | assumption | omega) (show 0 ≤ (vx341).toInt by first | assumption | omega) (show (vx341).toInt ≤ 2000 by first | assumption | omega) (show 4000 - (vx240).toInt - (vx341).toInt < _ by omega)) (fun r349 hr350 => ?_)
                obtain ⟨i351, ⟨u352, u353, u354⟩⟩ := hr350
                have u355 := kp_t kp_r u352
                have v356 : q_V r349.2 = q_V δ := (u353).trans rfl
                have v357 := kr_t (kr_r (ad := ad)) u354
                have f358 := ti_b r349.1
                exact ⟨by assumption, ⟨kp_w (by decide) u355, v356, kr_w (by decide) v357⟩⟩
              · have c359 : r19.1.toInt ≠ r35.1.toInt := o_ne h347
                refine ok_ite (fun h360 => ?_) (fun h360 => ?_)
                · have c361 : r35.1.toInt ≤ r19.1.toInt := o_le h360
                  unfold J_X12_runs_154
                  have f362 := ti_b x4v
                  refine ok_ite (fun h363 => ?_) (fun h363 => ?_)
                  · have c364 : (1 : Int) = x4v.toInt := o_eq h363
                    unfold J_X12_runs_169
                    have f367 := ti_b x3v
                    refine ok_biv (fun vx365 e366 => ?_)
                    first | (have q368 := te_addc (c := 0) (n := 0) rfl x3v (by omega) (by omega); rw [← e366] at q368; obtain ⟨f369, f370, f371⟩ := q368) | (obtain ⟨q368, f369, f370, f371⟩ : ∃ q : Int, vx365.toInt = x3v.toInt + (0 : Int) + 4294967296 * q ∧ -2147483648 ≤ vx365.toInt ∧ vx365.toInt ≤ 2147483647 := by rw [e366]; exact ti_addc (c := 0) (n := 0) rfl x3v)
                    refine ok_mono (ih vx365 (1 : Int32) vx240 vx341 δ I (show 0 ≤ (x1).toInt by first | assumption | omega) (show (x1).toInt ≤ 3 by first | assumption | omega) (show 0 ≤ (x2).toInt by first | assumption | omega) (show (x2).toInt ≤ 3 by first | assumption | omega) (show 0 ≤ (vx240).toInt by first | assumption | omega) (show (vx240).toInt ≤ 2000 by first | assumption | omega) (show 0 ≤ (vx341).toInt by first | assumption | omega) (show (vx341).toInt ≤ 2000 by first | assumption | omega) (show 4000 - (vx240).toInt - (vx341).toInt < _ by omega)) (fun r372 hr373 => ?_)
                    obtain ⟨i374, ⟨u375, u376, u377⟩⟩ := hr373
                    have u378 := kp_t kp_r u375
                    have v379 : q_V r372.2 = q_V δ := (u376).trans rfl
                    have v380 := kr_t (kr_r (ad := ad)) u377
                    have f381 := ti_b r372.1
                    exact ⟨by assumption, ⟨kp_w (by decide) u378, v379, kr_w (by decide) v380⟩⟩
                  · have c382 : (1 : Int) ≠ x4v.toInt := o_ne h363
                    unfold J_X12_runs_169
                    have f385 := ti_b x3v
                    refine ok_biv (fun vx383 e384 => ?_)
                    first | (have q386 := te_addc (c := 1) (n := 1) rfl x3v (by omega) (by omega); rw [← e384] at q386; obtain ⟨f387, f388, f389⟩ := q386) | (obtain ⟨q386, f387, f388, f389⟩ : ∃ q : Int, vx383.toInt = x3v.toInt + (1 : Int) + 4294967296 * q ∧ -2147483648 ≤ vx383.toInt ∧ vx383.toInt ≤ 2147483647 := by rw [e384]; exact ti_addc (c := 1) (n := 1) rfl x3v)
                    refine ok_mono (ih vx383 (1 : Int32) vx240 vx341 δ I (show 0 ≤ (x1).toInt by first | assumption | omega) (show (x1).toInt ≤ 3 by first | assumption | omega) (show 0 ≤ (x2).toInt by first | assumption | omega) (show (x2).toInt ≤ 3 by first | assumption | omega) (show 0 ≤ (vx240).toInt by first | assumption | omega) (show (vx240).toInt ≤ 2000 by first | assumption | omega) (show 0 ≤ (vx341).toInt by first | assumption | omega) (show (vx341).toInt ≤ 2000 by first | assumption | omega) (show 4000 - (vx240).toInt - (vx341).toInt < _ by omega)) (fun r390 hr391 => ?_)
                    obtain ⟨i392, ⟨u393, u394, u395⟩⟩ := hr391
                    have u396 := kp_t kp_r u393
                    have v397 : q_V r390.2 = q_V δ := (u394).trans rfl
                    have v398 := kr_t (kr_r (ad := ad)) u395
                    have f399 := ti_b r390.1
                    exact ⟨by assumption, ⟨kp_w (by decide) u396, v397, kr_w (by decide) v398⟩⟩
                · have c400 : r19.1.toInt < r35.1.toInt := o_nle h360
                  unfold J_X12_runs_154
                  have f401 := ti_b x4v
                  refine ok_ite (fun h402 => ?_) (fun h402 => ?_)
                  · have c403 : (0 : Int) = x4v.toInt := o_eq h402
                    unfold J_X12_runs_169
                    have f406 := ti_b x3v
                    refine ok_biv (fun vx404 e405 => ?_)
                    first | (have q407 := te_addc (c := 0) (n := 0) rfl x3v (by omega) (by omega); rw [← e405] at q407; obtain ⟨f408, f409, f410⟩ := q407) | (obtain ⟨q407, f408, f409, f410⟩ : ∃ q : Int, vx404.toInt = x3v.toInt + (0 : Int) + 4294967296 * q ∧ -2147483648 ≤ vx404.toInt ∧ vx404.toInt ≤ 2147483647 := by rw [e405]; exact ti_addc (c := 0) (n := 0) rfl x3v)
                    refine ok_mono (ih vx404 (0 : Int32) vx240 vx341 δ I (show 0 ≤ (x1).toInt by first | assumption | omega) (show (x1).toInt ≤ 3 by first | assumption | omega) (show 0 ≤ (x2).toInt by first | assumption | omega) (show (x2).toInt ≤ 3 by first | assumption | omega) (show 0 ≤ (vx240).toInt by first | assumption | omega) (show (vx240).toInt ≤ 2000 by first | assumption | omega) (show 0 ≤ (vx341).toInt by first | assumption | omega) (show (vx341).toInt ≤ 2000 by first | assumption | omega) (show 4000 - (vx240).toInt - (vx341).toInt < _ by omega)) (fun r411 hr412 => ?_)
                    obtain ⟨i413, ⟨u414, u415, u416⟩⟩ := hr412
                    have u417 := kp_t kp_r u414
                    have v418 : q_V r411.2 = q_V δ := (u415).trans rfl
                    have v419 := kr_t (kr_r (ad := ad)) u416
                    have f420 := ti_b r411.1
                    exact ⟨by assumption, ⟨kp_w (by decide) u417, v418, kr_w (by decide) v419⟩⟩
                  · have c421 : (0 : Int) ≠ x4v.toInt := o_ne h402
                    unfold J_X12_runs_169
                    have f424 := ti_b x3v
                    refine ok_biv (fun vx422 e423 => ?_)
                    first | (have q425 := te_addc (c := 1) (n := 1) rfl x3v (by omega) (by omega); rw [← e423] at q425; obtain ⟨f426, f427, f428⟩ := q425) | (obtain ⟨q425, f426, f427, f428⟩ : ∃ q : Int, vx422.toInt = x3v.toInt + (1 : Int) + 4294967296 * q ∧ -2147483648 ≤ vx422.toInt ∧ vx422.toInt ≤ 2147483647 := by rw [e423]; exact ti_addc (c := 1) (n := 1) rfl x3v)
                    refine ok_mono (ih vx422 (0 : Int32) vx240 vx341 δ I (show 0 ≤ (x1).toInt by first | assumption | omega) (show (x1).toInt ≤ 3 by first | assumption | omega) (show 0 ≤ (x2).toInt by first | assumption | omega) (show (x2).toInt ≤ 3 by first | assumption | omega) (show 0 ≤ (vx240).toInt by first | assumption | omega) (show (vx240).toInt ≤ 2000 by first | assumption | omega) (show 0 ≤ (vx341).toInt by first | assumption | omega) (show (vx341).toInt ≤ 2000 by first | assumption | omega) (show 4000 - (vx240).toInt - (vx341).toInt < _ by omega)) (fun r429 hr430 => ?_)
                    obtain ⟨i431, ⟨u432, u433, u434⟩⟩ := hr430
                    have u435 := kp_t kp_r u432
                    have v436 : q_V r429.2 = q_V δ := (u433).trans rfl
                    have v437 := kr_t (kr_r (ad := ad)) u434
                    have f438 := ti_b r429.1
                    exact ⟨by assumption, ⟨kp_w (by decide) u435, v436, kr_w (by decide) v437⟩⟩
        · have c439 : x6v.toInt < (q_R δ (Ad ad 103) x2.toNatClampNeg).toInt := o_nle h33
          refine ok_bind (k_X12_numberAt L hN (a0 := a0) (x1 := x2) (x2 := x6v) k_a0 (show 0 ≤ (x2).toInt by first | assumption | omega) (show (x2).toInt ≤ 3 by first | assumption | omega) I) (fun r440 hr441 => ?_)
          have i442 := hr441
          try rw [i442]
          have f443 := ti_b r440.1
          unfold J_X12_runs_110
          refine ok_ite (fun h444 => ?_) (fun h444 => ?_)
          · have c445 : r440.1.toInt < r19.1.toInt := o_lt h444
            unfold J_X12_runs_122
            refine ok_ite (fun h446 => ?_) (fun h446 => ?_)
            · have c447 : r19.1.toInt < r440.1.toInt := o_lt h446
              unfold J_X12_runs_132
              refine ok_ite (fun h448 => ?_) (fun h448 => ?_)
              · have c449 : r19.1.toInt = r440.1.toInt := o_eq h448
                refine ok_mono (ih x3v x4v x5v x6v δ I (show 0 ≤ (x1).toInt by first | assumption | omega) (show (x1).toInt ≤ 3 by first | assumption | omega) (show 0 ≤ (x2).toInt by first | assumption | omega) (show (x2).toInt ≤ 3 by first | assumption | omega) (show 0 ≤ (x5v).toInt by first | assumption | omega) (show (x5v).toInt ≤ 2000 by first | assumption | omega) (show 0 ≤ (x6v).toInt by first | assumption | omega) (show (x6v).toInt ≤ 2000 by first | assumption | omega) (show 4000 - (x5v).toInt - (x6v).toInt < _ by omega)) (fun r450 hr451 => ?_)
                obtain ⟨i452, ⟨u453, u454, u455⟩⟩ := hr451
                have u456 := kp_t kp_r u453
                have v457 : q_V r450.2 = q_V δ := (u454).trans rfl
                have v458 := kr_t (kr_r (ad := ad)) u455
                have f459 := ti_b r450.1
                exact ⟨by assumption, ⟨kp_w (by decide) u456, v457, kr_w (by decide) v458⟩⟩
              · have c460 : r19.1.toInt ≠ r440.1.toInt := o_ne h448
                refine ok_ite (fun h461 => ?_) (fun h461 => ?_)
                · have c462 : r440.1.toInt ≤ r19.1.toInt := o_le h461
                  unfold J_X12_runs_154
                  have f463 := ti_b x4v
                  refine ok_ite (fun h464 => ?_) (fun h464 => ?_)
                  · have c465 : (1 : Int) = x4v.toInt := o_eq h464
                    unfold J_X12_runs_169
                    have f468 := ti_b x3v
                    refine ok_biv (fun vx466 e467 => ?_)
                    first | (have q469 := te_addc (c := 0) (n := 0) rfl x3v (by omega) (by omega); rw [← e467] at q469; obtain ⟨f470, f471, f472⟩ := q469) | (obtain ⟨q469, f470, f471, f472⟩ : ∃ q : Int, vx466.toInt = x3v.toInt + (0 : Int) + 4294967296 * q ∧ -2147483648 ≤ vx466.toInt ∧ vx466.toInt ≤ 2147483647 := by rw [e467]; exact ti_addc (c := 0) (n := 0) rfl x3v)
                    refine ok_mono (ih vx466 (1 : Int32) x5v x6v δ I (show 0 ≤ (x1).toInt by first | assumption | omega) (show (x1).toInt ≤ 3 by first | assumption | omega) (show 0 ≤ (x2).toInt by first | assumption | omega) (show (x2).toInt ≤ 3 by first | assumption | omega) (show 0 ≤ (x5v).toInt by first | assumption | omega) (show (x5v).toInt ≤ 2000 by first | assumption | omega) (show 0 ≤ (x6v).toInt by first | assumption | omega) (show (x6v).toInt ≤ 2000 by first | assumption | omega) (show 4000 - (x5v).toInt - (x6v).toInt < _ by omega)) (fun r473 hr474 => ?_)
                    obtain ⟨i475, ⟨u476, u477, u478⟩⟩ := hr474
                    have u479 := kp_t kp_r u476
                    have v480 : q_V r473.2 = q_V δ := (u477).trans rfl
                    have v481 := kr_t (kr_r (ad := ad)) u478
                    have f482 := ti_b r473.1
                    exact ⟨by assumption, ⟨kp_w (by decide) u479, v480, kr_w (by decide) v481⟩⟩
                  · have c483 : (1 : Int) ≠ x4v.toInt := o_ne h464
                    unfold J_X12_runs_169
                    have f486 := ti_b x3v
                    refine ok_biv (fun vx484 e485 => ?_)
                    first | (have q487 := te_addc (c := 1) (n := 1) rfl x3v (by omega) (by omega); rw [← e485] at q487; obtain ⟨f488, f489, f490⟩ := q487) | (obtain ⟨q487, f488, f489, f490⟩ : ∃ q : Int, vx484.toInt = x3v.toInt + (1 : Int) + 4294967296 * q ∧ -2147483648 ≤ vx484.toInt ∧ vx484.toInt ≤ 2147483647 := by rw [e485]; exact ti_addc (c := 1) (n := 1) rfl x3v)
                    refine ok_mono (ih vx484 (1 : Int32) x5v x6v δ I (show 0 ≤ (x1).toInt by first | assumption | omega) (show (x1).toInt ≤ 3 by first | assumption | omega) (show 0 ≤ (x2).toInt by first | assumption | omega) (show (x2).toInt ≤ 3 by first | assumption | omega) (show 0 ≤ (x5v).toInt by first | assumption | omega) (show (x5v).toInt ≤ 2000 by first | assumption | omega) (show 0 ≤ (x6v).toInt by first | assumption | omega) (show (x6v).toInt ≤ 2000 by first | assumption | omega) (show 4000 - (x5v).toInt - (x6v).toInt < _ by omega)) (fun r491 hr492 => ?_)
                    obtain ⟨i493, ⟨u494, u495, u496⟩⟩ := hr492
                    have u497 := kp_t kp_r u494
                    have v498 : q_V r491.2 = q_V δ := (u495).trans rfl
                    have v499 := kr_t (kr_r (ad := ad)) u496
                    have f500 := ti_b r491.1
                    exact ⟨by assumption, ⟨kp_w (by decide) u497, v498, kr_w (by decide) v499⟩⟩
                · have c501 : r19.1.toInt < r440.1.toInt := o_nle h461
                  unfold J_X12_runs_154
                  have f502 := ti_b x4v
                  refine ok_ite (fun h503 => ?_) (fun h503 => ?_)
                  · have c504 : (0 : Int) = x4v.toInt := o_eq h503
                    unfold J_X12_runs_169
                    have f507 := ti_b x3v
                    refine ok_biv (fun vx505 e506 => ?_)
                    first | (have q508 := te_addc (c := 0) (n := 0) rfl x3v (by omega) (by omega); rw [← e506] at q508; obtain ⟨f509, f510, f511⟩ := q508) | (obtain ⟨q508, f509, f510, f511⟩ : ∃ q : Int, vx505.toInt = x3v.toInt + (0 : Int) + 4294967296 * q ∧ -2147483648 ≤ vx505.toInt ∧ vx505.toInt ≤ 2147483647 := by rw [e506]; exact ti_addc (c := 0) (n := 0) rfl x3v)
                    refine ok_mono (ih vx505 (0 : Int32) x5v x6v δ I (show 0 ≤ (x1).toInt by first | assumption | omega) (show (x1).toInt ≤ 3 by first | assumption | omega) (show 0 ≤ (x2).toInt by first | assumption | omega) (show (x2).toInt ≤ 3 by first | assumption | omega) (show 0 ≤ (x5v).toInt by first | assumption | omega) (show (x5v).toInt ≤ 2000 by first | assumption | omega) (show 0 ≤ (x6v).toInt by first | assumption | omega) (show (x6v).toInt ≤ 2000 by first | assumption | omega) (show 4000 - (x5v).toInt - (x6v).toInt < _ by omega)) (fun r512 hr513 => ?_)
                    obtain ⟨i514, ⟨u515, u516, u517⟩⟩ := hr513
                    have u518 := kp_t kp_r u515
                    have v519 : q_V r512.2 = q_V δ := (u516).trans rfl
                    have v520 := kr_t (kr_r (ad := ad)) u517
                    have f521 := ti_b r512.1
                    exact ⟨by assumption, ⟨kp_w (by decide) u518, v519, kr_w (by decide) v520⟩⟩
                  · have c522 : (0 : Int) ≠ x4v.toInt := o_ne h503
                    unfold J_X12_runs_169
                    have f525 := ti_b x3v
                    refine ok_biv (fun vx523 e524 => ?_)
                    first | (have q526 := te_addc (c := 1) (n := 1) rfl x3v (by omega) (by omega); rw [← e524] at q526; obtain ⟨f527, f528, f529⟩ := q526) | (obtain ⟨q526, f527, f528, f529⟩ : ∃ q : Int, vx523.toInt = x3v.toInt + (1 : Int) + 4294967296 * q ∧ -2147483648 ≤ vx523.toInt ∧ vx523.toInt ≤ 2147483647 := by rw [e524]; exact ti_addc (c := 1) (n := 1) rfl x3v)
                    refine ok_mono (ih vx523 (0 : Int32) x5v x6v δ I (show 0 ≤ (x1).toInt by first | assumption | omega) (show (x1).toInt ≤ 3 by first | assumption | omega) (show 0 ≤ (x2).toInt by first | assumption | omega) (show (x2).toInt ≤ 3 by first | assumption | omega) (show 0 ≤ (x5v).toInt by first | assumption | omega) (show (x5v).toInt ≤ 2000 by first | assumption | omega) (show 0 ≤ (x6v).toInt by first | assumption | omega) (show (x6v).toInt ≤ 2000 by first | assumption | omega) (show 4000 - (x5v).toInt - (x6v).toInt < _ by omega)) (fun r530 hr531 => ?_)
                    obtain ⟨i532, ⟨u533, u534, u535⟩⟩ := hr531
                    have u536 := kp_t kp_r u533
                    have v537 : q_V r530.2 = q_V δ := (u534).trans rfl
                    have v538 := kr_t (kr_r (ad := ad)) u535
                    have f539 := ti_b r530.1
                    exact ⟨by assumption, ⟨kp_w (by decide) u536, v537, kr_w (by decide) v538⟩⟩
            · have c540 : r440.1.toInt ≤ r19.1.toInt := o_nlt h446
              refine ok_biv (fun vx541 e542 => ?_)
              first | (have q543 := te_addc (c := 1) (n := 1) rfl x6v (by omega) (by omega); rw [← e542] at q543; obtain ⟨f544, f545, f546⟩ := q543) | (obtain ⟨q543, f544, f545, f546⟩ : ∃ q : Int, vx541.toInt = x6v.toInt + (1 : Int) + 4294967296 * q ∧ -2147483648 ≤ vx541.toInt ∧ vx541.toInt ≤ 2147483647 := by rw [e542]; exact ti_addc (c := 1) (n := 1) rfl x6v)
              unfold J_X12_runs_132
              refine ok_ite (fun h547 => ?_) (fun h547 => ?_)
              · have c548 : r19.1.toInt = r440.1.toInt := o_eq h547
                refine ok_mono (ih x3v x4v x5v vx541 δ I (show 0 ≤ (x1).toInt by first | assumption | omega) (show (x1).toInt ≤ 3 by first | assumption | omega) (show 0 ≤ (x2).toInt by first | assumption | omega) (show (x2).toInt ≤ 3 by first | assumption | omega) (show 0 ≤ (x5v).toInt by first | assumption | omega) (show (x5v).toInt ≤ 2000 by first | assumption | omega) (show 0 ≤ (vx541).toInt by first | assumption | omega) (show (vx541).toInt ≤ 2000 by first | assumption | omega) (show 4000 - (x5v).toInt - (vx541).toInt < _ by omega)) (fun r549 hr550 => ?_)
                obtain ⟨i551, ⟨u552, u553, u554⟩⟩ := hr550
                have u555 := kp_t kp_r u552
                have v556 : q_V r549.2 = q_V δ := (u553).trans rfl
                have v557 := kr_t (kr_r (ad := ad)) u554
                have f558 := ti_b r549.1
                exact ⟨by assumption, ⟨kp_w (by decide) u555, v556, kr_w (by decide) v557⟩⟩
              · have c559 : r19.1.toInt ≠ r440.1.toInt := o_ne h547
                refine ok_ite (fun h560 => ?_) (fun h560 => ?_)
                · have c561 : r440.1.toInt ≤ r19.1.toInt := o_le h560
                  unfold J_X12_runs_154
                  have f562 := ti_b x4v
                  refine ok_ite (fun h563 => ?_) (fun h563 => ?_)
                  · have c564 : (1 : Int) = x4v.toInt := o_eq h563
                    unfold J_X12_runs_169
                    have f567 := ti_b x3v
                    refine ok_biv (fun vx565 e566 => ?_)
                    first | (have q568 := te_addc (c := 0) (n := 0) rfl x3v (by omega) (by omega); rw [← e566] at q568; obtain ⟨f569, f570, f571⟩ := q568) | (obtain ⟨q568, f569, f570, f571⟩ : ∃ q : Int, vx565.toInt = x3v.toInt + (0 : Int) + 4294967296 * q ∧ -2147483648 ≤ vx565.toInt ∧ vx565.toInt ≤ 2147483647 := by rw [e566]; exact ti_addc (c := 0) (n := 0) rfl x3v)
                    refine ok_mono (ih vx565 (1 : Int32) x5v vx541 δ I (show 0 ≤ (x1).toInt by first | assumption | omega) (show (x1).toInt ≤ 3 by first | assumption | omega) (show 0 ≤ (x2).toInt by first | assumption | omega) (show (x2).toInt ≤ 3 by first | assumption | omega) (show 0 ≤ (x5v).toInt by first | assumption | omega) (show (x5v).toInt ≤ 2000 by first | assumption | omega) (show 0 ≤ (vx541).toInt by first | assumption | omega) (show (vx541).toInt ≤ 2000 by first | assumption | omega) (show 4000 - (x5v).toInt - (vx541).toInt < _ by omega)) (fun r572 hr573 => ?_)
                    obtain ⟨i574, ⟨u575, u576, u577⟩⟩ := hr573
                    have u578 := kp_t kp_r u575
                    have v579 : q_V r572.2 = q_V δ := (u576).trans rfl
                    have v580 := kr_t (kr_r (ad := ad)) u577
                    have f581 := ti_b r572.1
                    exact ⟨by assumption, ⟨kp_w (by decide) u578, v579, kr_w (by decide) v580⟩⟩
                  · have c582 : (1 : Int) ≠ x4v.toInt := o_ne h563
                    unfold J_X12_runs_169
                    have f585 := ti_b x3v
                    refine ok_biv (fun vx583 e584 => ?_)
                    first | (have q586 := te_addc (c := 1) (n := 1) rfl x3v (by omega) (by omega); rw [← e584] at q586; obtain ⟨f587, f588, f589⟩ := q586) | (obtain ⟨q586, f587, f588, f589⟩ : ∃ q : Int, vx583.toInt = x3v.toInt + (1 : Int) + 4294967296 * q ∧ -2147483648 ≤ vx583.toInt ∧ vx583.toInt ≤ 2147483647 := by rw [e584]; exact ti_addc (c := 1) (n := 1) rfl x3v)
                    refine ok_mono (ih vx583 (1 : Int32) x5v vx541 δ I (show 0 ≤ (x1).toInt by first | assumption | omega) (show (x1).toInt ≤ 3 by first | assumption | omega) (show 0 ≤ (x2).toInt by first | assumption | omega) (show (x2).toInt ≤ 3 by first | assumption | omega) (show 0 ≤ (x5v).toInt by first | assumption | omega) (show (x5v).toInt ≤ 2000 by first | assumption | omega) (show 0 ≤ (vx541).toInt by first | assumption | omega) (show (vx541).toInt ≤ 2000 by first | assumption | omega) (show 4000 - (x5v).toInt - (vx541).toInt < _ by omega)) (fun r590 hr591 => ?_)
                    obtain ⟨i592, ⟨u593, u594, u595⟩⟩ := hr591
                    have u596 := kp_t kp_r u593
                    have v597 : q_V r590.2 = q_V δ := (u594).trans rfl
                    have v598 := kr_t (kr_r (ad := ad)) u595
                    have f599 := ti_b r590.1
                    exact ⟨by assumption, ⟨kp_w (by decide) u596, v597, kr_w (by decide) v598⟩⟩
                · have c600 : r19.1.toInt < r440.1.toInt := o_nle h560
                  unfold J_X12_runs_154
                  have f601 := ti_b x4v
                  refine ok_ite (fun h602 => ?_) (fun h602 => ?_)
                  · have c603 : (0 : Int) = x4v.toInt := o_eq h602
                    unfold J_X12_runs_169
                    have f606 := ti_b x3v
                    refine ok_biv (fun vx604 e605 => ?_)
                    first | (have q607 := te_addc (c := 0) (n := 0) rfl x3v (by omega) (by omega); rw [← e605] at q607; obtain ⟨f608, f609, f610⟩ := q607) | (obtain ⟨q607, f608, f609, f610⟩ : ∃ q : Int, vx604.toInt = x3v.toInt + (0 : Int) + 4294967296 * q ∧ -2147483648 ≤ vx604.toInt ∧ vx604.toInt ≤ 2147483647 := by rw [e605]; exact ti_addc (c := 0) (n := 0) rfl x3v)
                    refine ok_mono (ih vx604 (0 : Int32) x5v vx541 δ I (show 0 ≤ (x1).toInt by first | assumption | omega) (show (x1).toInt ≤ 3 by first | assumption | omega) (show 0 ≤ (x2).toInt by first | assumption | omega) (show (x2).toInt ≤ 3 by first | assumption | omega) (show 0 ≤ (x5v).toInt by first | assumption | omega) (show (x5v).toInt ≤ 2000 by first | assumption | omega) (show 0 ≤ (vx541).toInt by first | assumption | omega) (show (vx541).toInt ≤ 2000 by first | assumption | omega) (show 4000 - (x5v).toInt - (vx541).toInt < _ by omega)) (fun r611 hr612 => ?_)
                    obtain ⟨i613, ⟨u614, u615, u616⟩⟩ := hr612
                    have u617 := kp_t kp_r u614
                    have v618 : q_V r611.2 = q_V δ := (u615).trans rfl
                    have v619 := kr_t (kr_r (ad := ad)) u616
                    have f620 := ti_b r611.1
                    exact ⟨by assumption, ⟨kp_w (by decide) u617, v618, kr_w (by decide) v619⟩⟩
                  · have c621 : (0 : Int) ≠ x4v.toInt := o_ne h602
                    unfold J_X12_runs_169
                    have f624 := ti_b x3v
                    refine ok_biv (fun vx622 e623 => ?_)
                    first | (have q625 := te_addc (c := 1) (n := 1) rfl x3v (by omega) (by omega); rw [← e623] at q625; obtain ⟨f626, f627, f628⟩ := q625) | (obtain ⟨q625, f626, f627, f628⟩ : ∃ q : Int, vx622.toInt = x3v.toInt + (1 : Int) + 4294967296 * q ∧ -2147483648 ≤ vx622.toInt ∧ vx622.toInt ≤ 2147483647 := by rw [e623]; exact ti_addc (c := 1) (n := 1) rfl x3v)
                    refine ok_mono (ih vx622 (0 : Int32) x5v vx541 δ I (show 0 ≤ (x1).toInt by first | assumption | omega) (show (x1).toInt ≤ 3 by first | assumption | omega) (show 0 ≤ (x2).toInt by first | assumption | omega) (show (x2).toInt ≤ 3 by first | assumption | omega) (show 0 ≤ (x5v).toInt by first | assumption | omega) (show (x5v).toInt ≤ 2000 by first | assumption | omega) (show 0 ≤ (vx541).toInt by first | assumption | omega) (show (vx541).toInt ≤ 2000 by first | assumption | omega) (show 4000 - (x5v).toInt - (vx541).toInt < _ by omega)) (fun r629 hr630 => ?_)
                    obtain ⟨i631, ⟨u632, u633, u634⟩⟩ := hr630
                    have u635 := kp_t kp_r u632
                    have v636 : q_V r629.2 = q_V δ := (u633).trans rfl
                    have v637 := kr_t (kr_r (ad := ad)) u634
                    have f638 := ti_b r629.1
                    exact ⟨by assumption, ⟨kp_w (by decide) u635, v636, kr_w (by decide) v637⟩⟩
          · have c639 : r19.1.toInt ≤ r440.1.toInt := o_nlt h444
            refine ok_biv (fun vx640 e641 => ?_)
            first | (have q642 := te_addc (c := 1) (n := 1) rfl x5v (by omega) (by omega); rw [← e641] at q642; obtain ⟨f643, f644, f645⟩ := q642) | (obtain ⟨q642, f643, f644, f645⟩ : ∃ q : Int, vx640.toInt = x5v.toInt + (1 : Int) + 4294967296 * q ∧ -2147483648 ≤ vx640.toInt ∧ vx640.toInt ≤ 2147483647 := by rw [e641]; exact ti_addc (c := 1) (n := 1) rfl x5v)
            unfold J_X12_runs_122
            refine ok_ite (fun h646 => ?_) (fun h646 => ?_)
            · have c647 : r19.1.toInt < r440.1.toInt := o_lt h646
              unfold J_X12_runs_132
              refine ok_ite (fun h648 => ?_) (fun h648 => ?_)
              · have c649 : r19.1.toInt = r440.1.toInt := o_eq h648
                refine ok_mono (ih x3v x4v vx640 x6v δ I (show 0 ≤ (x1).toInt by first | assumption | omega) (show (x1).toInt ≤ 3 by first | assumption | omega) (show 0 ≤ (x2).toInt by first | assumption | omega) (show (x2).toInt ≤ 3 by first | assumption | omega) (show 0 ≤ (vx640).toInt by first | assumption | omega) (show (vx640).toInt ≤ 2000 by first | assumption | omega) (show 0 ≤ (x6v).toInt by first | assumption | omega) (show (x6v).toInt ≤ 2000 by first | assumption | omega) (show 4000 - (vx640).toInt - (x6v).toInt < _ by omega)) (fun r650 hr651 => ?_)
                obtain ⟨i652, ⟨u653, u654, u655⟩⟩ := hr651
                have u656 := kp_t kp_r u653
                have v657 : q_V r650.2 = q_V δ := (u654).trans rfl
                have v658 := kr_t (kr_r (ad := ad)) u655
                have f659 := ti_b r650.1
                exact ⟨by assumption, ⟨kp_w (by decide) u656, v657, kr_w (by decide) v658⟩⟩
              · have c660 : r19.1.toInt ≠ r440.1.toInt := o_ne h648
                refine ok_ite (fun h661 => ?_) (fun h661 => ?_)
                · have c662 : r440.1.toInt ≤ r19.1.toInt := o_le h661
                  unfold J_X12_runs_154
                  have f663 := ti_b x4v
                  refine ok_ite (fun h664 => ?_) (fun h664 => ?_)
                  · have c665 : (1 : Int) = x4v.toInt := o_eq h664
                    unfold J_X12_runs_169
                    have f668 := ti_b x3v
                    refine ok_biv (fun vx666 e667 => ?_)
                    first | (have q669 := te_addc (c := 0) (n := 0) rfl x3v (by omega) (by omega); rw [← e667] at q669; obtain ⟨f670, f671, f672⟩ := q669) | (obtain ⟨q669, f670, f671, f672⟩ : ∃ q : Int, vx666.toInt = x3v.toInt + (0 : Int) + 4294967296 * q ∧ -2147483648 ≤ vx666.toInt ∧ vx666.toInt ≤ 2147483647 := by rw [e667]; exact ti_addc (c := 0) (n := 0) rfl x3v)
                    refine ok_mono (ih vx666 (1 : Int32) vx640 x6v δ I (show 0 ≤ (x1).toInt by first | assumption | omega) (show (x1).toInt ≤ 3 by first | assumption | omega) (show 0 ≤ (x2).toInt by first | assumption | omega) (show (x2).toInt ≤ 3 by first | assumption | omega) (show 0 ≤ (vx640).toInt by first | assumption | omega) (show (vx640).toInt ≤ 2000 by first | assumption | omega) (show 0 ≤ (x6v).toInt by first | assumption | omega) (show (x6v).toInt ≤ 2000 by first | assumption | omega) (show 4000 - (vx640).toInt - (x6v).toInt < _ by omega)) (fun r673 hr674 => ?_)
                    obtain ⟨i675, ⟨u676, u677, u678⟩⟩ := hr674
                    have u679 := kp_t kp_r u676
                    have v680 : q_V r673.2 = q_V δ := (u677).trans rfl
                    have v681 := kr_t (kr_r (ad := ad)) u678
                    have f682 := ti_b r673.1
                    exact ⟨by assumption, ⟨kp_w (by decide) u679, v680, kr_w (by decide) v681⟩⟩
                  · have c683 : (1 : Int) ≠ x4v.toInt := o_ne h664
                    unfold J_X12_runs_169
                    have f686 := ti_b x3v
                    refine ok_biv (fun vx684 e685 => ?_)
                    first | (have q687 := te_addc (c := 1) (n := 1) rfl x3v (by omega) (by omega); rw [← e685] at q687; obtain ⟨f688, f689, f690⟩ := q687) | (obtain ⟨q687, f688, f689, f690⟩ : ∃ q : Int, vx684.toInt = x3v.toInt + (1 : Int) + 4294967296 * q ∧ -2147483648 ≤ vx684.toInt ∧ vx684.toInt ≤ 2147483647 := by rw [e685]; exact ti_addc (c := 1) (n := 1) rfl x3v)
                    refine ok_mono (ih vx684 (1 : Int32) vx640 x6v δ I (show 0 ≤ (x1).toInt by first | assumption | omega) (show (x1).toInt ≤ 3 by first | assumption | omega) (show 0 ≤ (x2).toInt by first | assumption | omega) (show (x2).toInt ≤ 3 by first | assumption | omega) (show 0 ≤ (vx640).toInt by first | assumption | omega) (show (vx640).toInt ≤ 2000 by first | assumption | omega) (show 0 ≤ (x6v).toInt by first | assumption | omega) (show (x6v).toInt ≤ 2000 by first | assumption | omega) (show 4000 - (vx640).toInt - (x6v).toInt < _ by omega)) (fun r691 hr692 => ?_)
                    obtain ⟨i693, ⟨u694, u695, u696⟩⟩ := hr692
                    have u697 := kp_t kp_r u694
                    have v698 : q_V r691.2 = q_V δ := (u695).trans rfl
                    have v699 := kr_t (kr_r (ad := ad)) u696
                    have f700 := ti_b r691.1
                    exact ⟨by assumption, ⟨kp_w (by decide) u697, v698, kr_w (by decide) v699⟩⟩
                · have c701 : r19.1.toInt < r440.1.toInt := o_nle h661
                  unfold J_X12_runs_154
                  have f702 := ti_b x4v
                  refine ok_ite (fun h703 => ?_) (fun h703 => ?_)
                  · have c704 : (0 : Int) = x4v.toInt := o_eq h703
                    unfold J_X12_runs_169
                    have f707 := ti_b x3v
                    refine ok_biv (fun vx705 e706 => ?_)
                    first | (have q708 := te_addc (c := 0) (n := 0) rfl x3v (by omega) (by omega); rw [← e706] at q708; obtain ⟨f709, f710, f711⟩ := q708) | (obtain ⟨q708, f709, f710, f711⟩ : ∃ q : Int, vx705.toInt = x3v.toInt + (0 : Int) + 4294967296 * q ∧ -2147483648 ≤ vx705.toInt ∧ vx705.toInt ≤ 2147483647 := by rw [e706]; exact ti_addc (c := 0) (n := 0) rfl x3v)
                    refine ok_mono (ih vx705 (0 : Int32) vx640 x6v δ I (show 0 ≤ (x1).toInt by first | assumption | omega) (show (x1).toInt ≤ 3 by first | assumption | omega) (show 0 ≤ (x2).toInt by first | assumption | omega) (show (x2).toInt ≤ 3 by first | assumption | omega) (show 0 ≤ (vx640).toInt by first | assumption | omega) (show (vx640).toInt ≤ 2000 by first | assumption | omega) (show 0 ≤ (x6v).toInt by first | assumption | omega) (show (x6v).toInt ≤ 2000 by first | assumption | omega) (show 4000 - (vx640).toInt - (x6v).toInt < _ by omega)) (fun r712 hr713 => ?_)
                    obtain ⟨i714, ⟨u715, u716, u717⟩⟩ := hr713
                    have u718 := kp_t kp_r u715
                    have v719 : q_V r712.2 = q_V δ := (u716).trans rfl
                    have v720 := kr_t (kr_r (ad := ad)) u717
                    have f721 := ti_b r712.1
                    exact ⟨by assumption, ⟨kp_w (by decide) u718, v719, kr_w (by decide) v720⟩⟩
                  · have c722 : (0 : Int) ≠ x4v.toInt := o_ne h703
                    unfold J_X12_runs_169
                    have f725 := ti_b x3v
                    refine ok_biv (fun vx723 e724 => ?_)
                    first | (have q726 := te_addc (c := 1) (n := 1) rfl x3v (by omega) (by omega); rw [← e724] at q726; obtain ⟨f727, f728, f729⟩ := q726) | (obtain ⟨q726, f727, f728, f729⟩ : ∃ q : Int, vx723.toInt = x3v.toInt + (1 : Int) + 4294967296 * q ∧ -2147483648 ≤ vx723.toInt ∧ vx723.toInt ≤ 2147483647 := by rw [e724]; exact ti_addc (c := 1) (n := 1) rfl x3v)
                    refine ok_mono (ih vx723 (0 : Int32) vx640 x6v δ I (show 0 ≤ (x1).toInt by first | assumption | omega) (show (x1).toInt ≤ 3 by first | assumption | omega) (show 0 ≤ (x2).toInt by first | assumption | omega) (show (x2).toInt ≤ 3 by first | assumption | omega) (show 0 ≤ (vx640).toInt by first | assumption | omega) (show (vx640).toInt ≤ 2000 by first | assumption | omega) (show 0 ≤ (x6v).toInt by first | assumption | omega) (show (x6v).toInt ≤ 2000 by first | assumption | omega) (show 4000 - (vx640).toInt - (x6v).toInt < _ by omega)) (fun r730 hr731 => ?_)
                    obtain ⟨i732, ⟨u733, u734, u735⟩⟩ := hr731
                    have u736 := kp_t kp_r u733
                    have v737 : q_V r730.2 = q_V δ := (u734).trans rfl
                    have v738 := kr_t (kr_r (ad := ad)) u735
                    have f739 := ti_b r730.1
                    exact ⟨by assumption, ⟨kp_w (by decide) u736, v737, kr_w (by decide) v738⟩⟩
            · have c740 : r440.1.toInt ≤ r19.1.toInt := o_nlt h646
              refine ok_biv (fun vx741 e742 => ?_)
              first | (have q743 := te_addc (c := 1) (n := 1) rfl x6v (by omega) (by omega); rw [← e742] at q743; obtain ⟨f744, f745, f746⟩ := q743) | (obtain ⟨q743, f744, f745, f746⟩ : ∃ q : Int, vx741.toInt = x6v.toInt + (1 : Int) + 4294967296 * q ∧ -2147483648 ≤ vx741.toInt ∧ vx741.toInt ≤ 2147483647 := by rw [e742]; exact ti_addc (c := 1) (n := 1) rfl x6v)
              unfold J_X12_runs_132
              refine ok_ite (fun h747 => ?_) (fun h747 => ?_)
              · have c748 : r19.1.toInt = r440.1.toInt := o_eq h747
                refine ok_mono (ih x3v x4v vx640 vx741 δ I (show 0 ≤ (x1).toInt by first | assumption | omega) (show (x1).toInt ≤ 3 by first | assumption | omega) (show 0 ≤ (x2).toInt by first | assumption | omega) (show (x2).toInt ≤ 3 by first | assumption | omega) (show 0 ≤ (vx640).toInt by first | assumption | omega) (show (vx640).toInt ≤ 2000 by first | assumption | omega) (show 0 ≤ (vx741).toInt by first | assumption | omega) (show (vx741).toInt ≤ 2000 by first | assumption | omega) (show 4000 - (vx640).toInt - (vx741).toInt < _ by omega)) (fun r749 hr750 => ?_)
                obtain ⟨i751, ⟨u752, u753, u754⟩⟩ := hr750
                have u755 := kp_t kp_r u752
                have v756 : q_V r749.2 = q_V δ := (u753).trans rfl
                have v757 := kr_t (kr_r (ad := ad)) u754
                have f758 := ti_b r749.1
                exact ⟨by assumption, ⟨kp_w (by decide) u755, v756, kr_w (by decide) v757⟩⟩
              · have c759 : r19.1.toInt ≠ r440.1.toInt := o_ne h747
                refine ok_ite (fun h760 => ?_) (fun h760 => ?_)
                · have c761 : r440.1.toInt ≤ r19.1.toInt := o_le h760
                  unfold J_X12_runs_154
                  have f762 := ti_b x4v
                  refine ok_ite (fun h763 => ?_) (fun h763 => ?_)
                  · have c764 : (1 : Int) = x4v.toInt := o_eq h763
                    unfold J_X12_runs_169
                    have f767 := ti_b x3v
                    refine ok_biv (fun vx765 e766 => ?_)
                    first | (have q768 := te_addc (c := 0) (n := 0) rfl x3v (by omega) (by omega); rw [← e766] at q768; obtain ⟨f769, f770, f771⟩ := q768) | (obtain ⟨q768, f769, f770, f771⟩ : ∃ q : Int, vx765.toInt = x3v.toInt + (0 : Int) + 4294967296 * q ∧ -2147483648 ≤ vx765.toInt ∧ vx765.toInt ≤ 2147483647 := by rw [e766]; exact ti_addc (c := 0) (n := 0) rfl x3v)
                    refine ok_mono (ih vx765 (1 : Int32) vx640 vx741 δ I (show 0 ≤ (x1).toInt by first | assumption | omega) (show (x1).toInt ≤ 3 by first | assumption | omega) (show 0 ≤ (x2).toInt by first | assumption | omega) (show (x2).toInt ≤ 3 by first | assumption | omega) (show 0 ≤ (vx640).toInt by first | assumption | omega) (show (vx640).toInt ≤ 2000 by first | assumption | omega) (show 0 ≤ (vx741).toInt by first | assumption | omega) (show (vx741).toInt ≤ 2000 by first | assumption | omega) (show 4000 - (vx640).toInt - (vx741).toInt < _ by omega)) (fun r772 hr773 => ?_)
                    obtain ⟨i774, ⟨u775, u776, u777⟩⟩ := hr773
                    have u778 := kp_t kp_r u775
                    have v779 : q_V r772.2 = q_V δ := (u776).trans rfl
                    have v780 := kr_t (kr_r (ad := ad)) u777
                    have f781 := ti_b r772.1
                    exact ⟨by assumption, ⟨kp_w (by decide) u778, v779, kr_w (by decide) v780⟩⟩
                  · have c782 : (1 : Int) ≠ x4v.toInt := o_ne h763
                    unfold J_X12_runs_169
                    have f785 := ti_b x3v
                    refine ok_biv (fun vx783 e784 => ?_)
                    first | (have q786 := te_addc (c := 1) (n := 1) rfl x3v (by omega) (by omega); rw [← e784] at q786; obtain ⟨f787, f788, f789⟩ := q786) | (obtain ⟨q786, f787, f788, f789⟩ : ∃ q : Int, vx783.toInt = x3v.toInt + (1 : Int) + 4294967296 * q ∧ -2147483648 ≤ vx783.toInt ∧ vx783.toInt ≤ 2147483647 := by rw [e784]; exact ti_addc (c := 1) (n := 1) rfl x3v)
                    refine ok_mono (ih vx783 (1 : Int32) vx640 vx741 δ I (show 0 ≤ (x1).toInt by first | assumption | omega) (show (x1).toInt ≤ 3 by first | assumption | omega) (show 0 ≤ (x2).toInt by first | assumption | omega) (show (x2).toInt ≤ 3 by first | assumption | omega) (show 0 ≤ (vx640).toInt by first | assumption | omega) (show (vx640).toInt ≤ 2000 by first | assumption | omega) (show 0 ≤ (vx741).toInt by first | assumption | omega) (show (vx741).toInt ≤ 2000 by first | assumption | omega) (show 4000 - (vx640).toInt - (vx741).toInt < _ by omega)) (fun r790 hr791 => ?_)
                    obtain ⟨i792, ⟨u793, u794, u795⟩⟩ := hr791
                    have u796 := kp_t kp_r u793
                    have v797 : q_V r790.2 = q_V δ := (u794).trans rfl
                    have v798 := kr_t (kr_r (ad := ad)) u795
                    have f799 := ti_b r790.1
                    exact ⟨by assumption, ⟨kp_w (by decide) u796, v797, kr_w (by decide) v798⟩⟩
                · have c800 : r19.1.toInt < r440.1.toInt := o_nle h760
                  unfold J_X12_runs_154
                  have f801 := ti_b x4v
                  refine ok_ite (fun h802 => ?_) (fun h802 => ?_)
                  · have c803 : (0 : Int) = x4v.toInt := o_eq h802
                    unfold J_X12_runs_169
                    have f806 := ti_b x3v
                    refine ok_biv (fun vx804 e805 => ?_)
                    first | (have q807 := te_addc (c := 0) (n := 0) rfl x3v (by omega) (by omega); rw [← e805] at q807; obtain ⟨f808, f809, f810⟩ := q807) | (obtain ⟨q807, f808, f809, f810⟩ : ∃ q : Int, vx804.toInt = x3v.toInt + (0 : Int) + 4294967296 * q ∧ -2147483648 ≤ vx804.toInt ∧ vx804.toInt ≤ 2147483647 := by rw [e805]; exact ti_addc (c := 0) (n := 0) rfl x3v)
                    refine ok_mono (ih vx804 (0 : Int32) vx640 vx741 δ I (show 0 ≤ (x1).toInt by first | assumption | omega) (show (x1).toInt ≤ 3 by first | assumption | omega) (show 0 ≤ (x2).toInt by first | assumption | omega) (show (x2).toInt ≤ 3 by first | assumption | omega) (show 0 ≤ (vx640).toInt by first | assumption | omega) (show (vx640).toInt ≤ 2000 by first | assumption | omega) (show 0 ≤ (vx741).toInt by first | assumption | omega) (show (vx741).toInt ≤ 2000 by first | assumption | omega) (show 4000 - (vx640).toInt - (vx741).toInt < _ by omega)) (fun r811 hr812 => ?_)
                    obtain ⟨i813, ⟨u814, u815, u816⟩⟩ := hr812
                    have u817 := kp_t kp_r u814
                    have v818 : q_V r811.2 = q_V δ := (u815).trans rfl
                    have v819 := kr_t (kr_r (ad := ad)) u816
                    have f820 := ti_b r811.1
                    exact ⟨by assumption, ⟨kp_w (by decide) u817, v818, kr_w (by decide) v819⟩⟩
                  · have c821 : (0 : Int) ≠ x4v.toInt := o_ne h802
                    unfold J_X12_runs_169
                    have f824 := ti_b x3v
                    refine ok_biv (fun vx822 e823 => ?_)
                    first | (have q825 := te_addc (c := 1) (n := 1) rfl x3v (by omega) (by omega); rw [← e823] at q825; obtain ⟨f826, f827, f828⟩ := q825) | (obtain ⟨q825, f826, f827, f828⟩ : ∃ q : Int, vx822.toInt = x3v.toInt + (1 : Int) + 4294967296 * q ∧ -2147483648 ≤ vx822.toInt ∧ vx822.toInt ≤ 2147483647 := by rw [e823]; exact ti_addc (c := 1) (n := 1) rfl x3v)
                    refine ok_mono (ih vx822 (0 : Int32) vx640 vx741 δ I (show 0 ≤ (x1).toInt by first | assumption | omega) (show (x1).toInt ≤ 3 by first | assumption | omega) (show 0 ≤ (x2).toInt by first | assumption | omega) (show (x2).toInt ≤ 3 by first | assumption | omega) (show 0 ≤ (vx640).toInt by first | assumption | omega) (show (vx640).toInt ≤ 2000 by first | assumption | omega) (show 0 ≤ (vx741).toInt by first | assumption | omega) (show (vx741).toInt ≤ 2000 by first | assumption | omega) (show 4000 - (vx640).toInt - (vx741).toInt < _ by omega)) (fun r829 hr830 => ?_)
                    obtain ⟨i831, ⟨u832, u833, u834⟩⟩ := hr830
                    have u835 := kp_t kp_r u832
                    have v836 : q_V r829.2 = q_V δ := (u833).trans rfl
                    have v837 := kr_t (kr_r (ad := ad)) u834
                    have f838 := ti_b r829.1
                    exact ⟨by assumption, ⟨kp_w (by decide) u835, v836, kr_w (by decide) v837⟩⟩
      · have c839 : x5v.toInt < (q_R δ (Ad ad 103) x1.toNatClampNeg).toInt := o_nle h17
        refine ok_bind (k_X12_numberAt L hN (a0 := a0) (x1 := x1) (x2 := x5v) k_a0 (show 0 ≤ (x1).toInt by first | assumption | omega) (show (x1).toInt ≤ 3 by first | assumption | omega) I) (fun r840 hr841 => ?_)
        have i842 := hr841
        try rw [i842]
        have f843 := ti_b r840.1
        unfold J_X12_runs_83
        refine ok_at o6 ?_
        have t844 := ti_tn x2
        refine ok_gd (fun hc845 => ?_) ?_
        · rcases hc845 with hc845 | hc845
          · have c846 : x2.toInt < (0 : Int) := o_lt hc845
            omega
          · omega
        have f847 := rb_103 L I x2.toNatClampNeg
        refine ok_ite (fun h848 => ?_) (fun h848 => ?_)
        · have c849 : (q_R δ (Ad ad 103) x2.toNatClampNeg).toInt ≤ x6v.toInt := o_le h848
          refine ok_bind (k_X12_all L hN (a0 := a0) k_a0 I) (fun r850 hr851 => ?_)
          obtain ⟨i852, p853, p854, p855, p856⟩ := hr851
          try rw [i852]
          have f857 := ti_b r850.1
          have f858 := cb_12_10 I k_a0
          have f859 := ti_b r850.1
          unfold J_X12_runs_110
          refine ok_ite (fun h860 => ?_) (fun h860 => ?_)
          · have c861 : r850.1.toInt < r840.1.toInt := o_lt h860
            unfold J_X12_runs_122
            refine ok_ite (fun h862 => ?_) (fun h862 => ?_)
            · have c863 : r840.1.toInt < r850.1.toInt := o_lt h862
              unfold J_X12_runs_132
              refine ok_ite (fun h864 => ?_) (fun h864 => ?_)
              · have c865 : r840.1.toInt = r850.1.toInt := o_eq h864
                refine ok_mono (ih x3v x4v x5v x6v δ I (show 0 ≤ (x1).toInt by first | assumption | omega) (show (x1).toInt ≤ 3 by first | assumption | omega) (show 0 ≤ (x2).toInt by first | assumption | omega) (show (x2).toInt ≤ 3 by first | assumption | omega) (show 0 ≤ (x5v).toInt by first | assumption | omega) (show (x5v).toInt ≤ 2000 by first | assumption | omega) (show 0 ≤ (x6v).toInt by first | assumption | omega) (show (x6v).toInt ≤ 2000 by first | assumption | omega) (show 4000 - (x5v).toInt - (x6v).toInt < _ by omega)) (fun r866 hr867 => ?_)
                obtain ⟨i868, ⟨u869, u870, u871⟩⟩ := hr867
                have u872 := kp_t kp_r u869
                have v873 : q_V r866.2 = q_V δ := (u870).trans rfl
                have v874 := kr_t (kr_r (ad := ad)) u871
                have f875 := ti_b r866.1
                exact ⟨by assumption, ⟨kp_w (by decide) u872, v873, kr_w (by decide) v874⟩⟩
              · have c876 : r840.1.toInt ≠ r850.1.toInt := o_ne h864
                refine ok_ite (fun h877 => ?_) (fun h877 => ?_)
                · have c878 : r850.1.toInt ≤ r840.1.toInt := o_le h877
                  unfold J_X12_runs_154
                  have f879 := ti_b x4v
                  refine ok_ite (fun h880 => ?_) (fun h880 => ?_)
                  · have c881 : (1 : Int) = x4v.toInt := o_eq h880
                    unfold J_X12_runs_169
                    have f884 := ti_b x3v
                    refine ok_biv (fun vx882 e883 => ?_)
                    first | (have q885 := te_addc (c := 0) (n := 0) rfl x3v (by omega) (by omega); rw [← e883] at q885; obtain ⟨f886, f887, f888⟩ := q885) | (obtain ⟨q885, f886, f887, f888⟩ : ∃ q : Int, vx882.toInt = x3v.toInt + (0 : Int) + 4294967296 * q ∧ -2147483648 ≤ vx882.toInt ∧ vx882.toInt ≤ 2147483647 := by rw [e883]; exact ti_addc (c := 0) (n := 0) rfl x3v)
                    refine ok_mono (ih vx882 (1 : Int32) x5v x6v δ I (show 0 ≤ (x1).toInt by first | assumption | omega) (show (x1).toInt ≤ 3 by first | assumption | omega) (show 0 ≤ (x2).toInt by first | assumption | omega) (show (x2).toInt ≤ 3 by first | assumption | omega) (show 0 ≤ (x5v).toInt by first | assumption | omega) (show (x5v).toInt ≤ 2000 by first | assumption | omega) (show 0 ≤ (x6v).toInt by first | assumption | omega) (show (x6v).toInt ≤ 2000 by first | assumption | omega) (show 4000 - (x5v).toInt - (x6v).toInt < _ by omega)) (fun r889 hr890 => ?_)
                    obtain ⟨i891, ⟨u892, u893, u894⟩⟩ := hr890
                    have u895 := kp_t kp_r u892
                    have v896 : q_V r889.2 = q_V δ := (u893).trans rfl
                    have v897 := kr_t (kr_r (ad := ad)) u894
                    have f898 := ti_b r889.1
                    exact ⟨by assumption, ⟨kp_w (by decide) u895, v896, kr_w (by decide) v897⟩⟩
                  · have c899 : (1 : Int) ≠ x4v.toInt := o_ne h880
                    unfold J_X12_runs_169
                    have f902 := ti_b x3v
                    refine ok_biv (fun vx900 e901 => ?_)
                    first | (have q903 := te_addc (c := 1) (n := 1) rfl x3v (by omega) (by omega); rw [← e901] at q903; obtain ⟨f904, f905, f906⟩ := q903) | (obtain ⟨q903, f904, f905, f906⟩ : ∃ q : Int, vx900.toInt = x3v.toInt + (1 : Int) + 4294967296 * q ∧ -2147483648 ≤ vx900.toInt ∧ vx900.toInt ≤ 2147483647 := by rw [e901]; exact ti_addc (c := 1) (n := 1) rfl x3v)
                    refine ok_mono (ih vx900 (1 : Int32) x5v x6v δ I (show 0 ≤ (x1).toInt by first | assumption | omega) (show (x1).toInt ≤ 3 by first | assumption | omega) (show 0 ≤ (x2).toInt by first | assumption | omega) (show (x2).toInt ≤ 3 by first | assumption | omega) (show 0 ≤ (x5v).toInt by first | assumption | omega) (show (x5v).toInt ≤ 2000 by first | assumption | omega) (show 0 ≤ (x6v).toInt by first | assumption | omega) (show (x6v).toInt ≤ 2000 by first | assumption | omega) (show 4000 - (x5v).toInt - (x6v).toInt < _ by omega)) (fun r907 hr908 => ?_)
                    obtain ⟨i909, ⟨u910, u911, u912⟩⟩ := hr908
                    have u913 := kp_t kp_r u910
                    have v914 : q_V r907.2 = q_V δ := (u911).trans rfl
                    have v915 := kr_t (kr_r (ad := ad)) u912
                    have f916 := ti_b r907.1
                    exact ⟨by assumption, ⟨kp_w (by decide) u913, v914, kr_w (by decide) v915⟩⟩
                · have c917 : r840.1.toInt < r850.1.toInt := o_nle h877
                  unfold J_X12_runs_154
                  have f918 := ti_b x4v
                  refine ok_ite (fun h919 => ?_) (fun h919 => ?_)
                  · have c920 : (0 : Int) = x4v.toInt := o_eq h919
                    unfold J_X12_runs_169
                    have f923 := ti_b x3v
                    refine ok_biv (fun vx921 e922 => ?_)
                    first | (have q924 := te_addc (c := 0) (n := 0) rfl x3v (by omega) (by omega); rw [← e922] at q924; obtain ⟨f925, f926, f927⟩ := q924) | (obtain ⟨q924, f925, f926, f927⟩ : ∃ q : Int, vx921.toInt = x3v.toInt + (0 : Int) + 4294967296 * q ∧ -2147483648 ≤ vx921.toInt ∧ vx921.toInt ≤ 2147483647 := by rw [e922]; exact ti_addc (c := 0) (n := 0) rfl x3v)
                    refine ok_mono (ih vx921 (0 : Int32) x5v x6v δ I (show 0 ≤ (x1).toInt by first | assumption | omega) (show (x1).toInt ≤ 3 by first | assumption | omega) (show 0 ≤ (x2).toInt by first | assumption | omega) (show (x2).toInt ≤ 3 by first | assumption | omega) (show 0 ≤ (x5v).toInt by first | assumption | omega) (show (x5v).toInt ≤ 2000 by first | assumption | omega) (show 0 ≤ (x6v).toInt by first | assumption | omega) (show (x6v).toInt ≤ 2000 by first | assumption | omega) (show 4000 - (x5v).toInt - (x6v).toInt < _ by omega)) (fun r928 hr929 => ?_)
                    obtain ⟨i930, ⟨u931, u932, u933⟩⟩ := hr929
                    have u934 := kp_t kp_r u931
                    have v935 : q_V r928.2 = q_V δ := (u932).trans rfl
                    have v936 := kr_t (kr_r (ad := ad)) u933
                    have f937 := ti_b r928.1
                    exact ⟨by assumption, ⟨kp_w (by decide) u934, v935, kr_w (by decide) v936⟩⟩
                  · have c938 : (0 : Int) ≠ x4v.toInt := o_ne h919
                    unfold J_X12_runs_169
                    have f941 := ti_b x3v
                    refine ok_biv (fun vx939 e940 => ?_)
                    first | (have q942 := te_addc (c := 1) (n := 1) rfl x3v (by omega) (by omega); rw [← e940] at q942; obtain ⟨f943, f944, f945⟩ := q942) | (obtain ⟨q942, f943, f944, f945⟩ : ∃ q : Int, vx939.toInt = x3v.toInt + (1 : Int) + 4294967296 * q ∧ -2147483648 ≤ vx939.toInt ∧ vx939.toInt ≤ 2147483647 := by rw [e940]; exact ti_addc (c := 1) (n := 1) rfl x3v)
                    refine ok_mono (ih vx939 (0 : Int32) x5v x6v δ I (show 0 ≤ (x1).toInt by first | assumption | omega) (show (x1).toInt ≤ 3 by first | assumption | omega) (show 0 ≤ (x2).toInt by first | assumption | omega) (show (x2).toInt ≤ 3 by first | assumption | omega) (show 0 ≤ (x5v).toInt by first | assumption | omega) (show (x5v).toInt ≤ 2000 by first | assumption | omega) (show 0 ≤ (x6v).toInt by first | assumption | omega) (show (x6v).toInt ≤ 2000 by first | assumption | omega) (show 4000 - (x5v).toInt - (x6v).toInt < _ by omega)) (fun r946 hr947 => ?_)
                    obtain ⟨i948, ⟨u949, u950, u951⟩⟩ := hr947
                    have u952 := kp_t kp_r u949
                    have v953 : q_V r946.2 = q_V δ := (u950).trans rfl
                    have v954 := kr_t (kr_r (ad := ad)) u951
                    have f955 := ti_b r946.1
                    exact ⟨by assumption, ⟨kp_w (by decide) u952, v953, kr_w (by decide) v954⟩⟩
            · have c956 : r850.1.toInt ≤ r840.1.toInt := o_nlt h862
              refine ok_biv (fun vx957 e958 => ?_)
              first | (have q959 := te_addc (c := 1) (n := 1) rfl x6v (by omega) (by omega); rw [← e958] at q959; obtain ⟨f960, f961, f962⟩ := q959) | (obtain ⟨q959, f960, f961, f962⟩ : ∃ q : Int, vx957.toInt = x6v.toInt + (1 : Int) + 4294967296 * q ∧ -2147483648 ≤ vx957.toInt ∧ vx957.toInt ≤ 2147483647 := by rw [e958]; exact ti_addc (c := 1) (n := 1) rfl x6v)
              unfold J_X12_runs_132
              refine ok_ite (fun h963 => ?_) (fun h963 => ?_)
              · have c964 : r840.1.toInt = r850.1.toInt := o_eq h963
                refine ok_mono (ih x3v x4v x5v vx957 δ I (show 0 ≤ (x1).toInt by first | assumption | omega) (show (x1).toInt ≤ 3 by first | assumption | omega) (show 0 ≤ (x2).toInt by first | assumption | omega) (show (x2).toInt ≤ 3 by first | assumption | omega) (show 0 ≤ (x5v).toInt by first | assumption | omega) (show (x5v).toInt ≤ 2000 by first | assumption | omega) (show 0 ≤ (vx957).toInt by first | assumption | omega) (show (vx957).toInt ≤ 2000 by first | assumption | omega) (show 4000 - (x5v).toInt - (vx957).toInt < _ by omega)) (fun r965 hr966 => ?_)
                obtain ⟨i967, ⟨u968, u969, u970⟩⟩ := hr966
                have u971 := kp_t kp_r u968
                have v972 : q_V r965.2 = q_V δ := (u969).trans rfl
                have v973 := kr_t (kr_r (ad := ad)) u970
                have f974 := ti_b r965.1
                exact ⟨by assumption, ⟨kp_w (by decide) u971, v972, kr_w (by decide) v973⟩⟩
              · have c975 : r840.1.toInt ≠ r850.1.toInt := o_ne h963
                refine ok_ite (fun h976 => ?_) (fun h976 => ?_)
                · have c977 : r850.1.toInt ≤ r840.1.toInt := o_le h976
                  unfold J_X12_runs_154
                  have f978 := ti_b x4v
                  refine ok_ite (fun h979 => ?_) (fun h979 => ?_)
                  · have c980 : (1 : Int) = x4v.toInt := o_eq h979
                    unfold J_X12_runs_169
                    have f983 := ti_b x3v
                    refine ok_biv (fun vx981 e982 => ?_)
                    first | (have q984 := te_addc (c := 0) (n := 0) rfl x3v (by omega) (by omega); rw [← e982] at q984; obtain ⟨f985, f986, f987⟩ := q984) | (obtain ⟨q984, f985, f986, f987⟩ : ∃ q : Int, vx981.toInt = x3v.toInt + (0 : Int) + 4294967296 * q ∧ -2147483648 ≤ vx981.toInt ∧ vx981.toInt ≤ 2147483647 := by rw [e982]; exact ti_addc (c := 0) (n := 0) rfl x3v)
                    refine ok_mono (ih vx981 (1 : Int32) x5v vx957 δ I (show 0 ≤ (x1).toInt by first | assumption | omega) (show (x1).toInt ≤ 3 by first | assumption | omega) (show 0 ≤ (x2).toInt by first | assumption | omega) (show (x2).toInt ≤ 3 by first | assumption | omega) (show 0 ≤ (x5v).toInt by first | assumption | omega) (show (x5v).toInt ≤ 2000 by first | assumption | omega) (show 0 ≤ (vx957).toInt by first | assumption | omega) (show (vx957).toInt ≤ 2000 by first | assumption | omega) (show 4000 - (x5v).toInt - (vx957).toInt < _ by omega)) (fun r988 hr989 => ?_)
                    obtain ⟨i990, ⟨u991, u992, u993⟩⟩ := hr989
                    have u994 := kp_t kp_r u991
                    have v995 : q_V r988.2 = q_V δ := (u992).trans rfl
                    have v996 := kr_t (kr_r (ad := ad)) u993
                    have f997 := ti_b r988.1
                    exact ⟨by assumption, ⟨kp_w (by decide) u994, v995, kr_w (by decide) v996⟩⟩
                  · have c998 : (1 : Int) ≠ x4v.toInt := o_ne h979
                    unfold J_X12_runs_169
                    have f1001 := ti_b x3v
                    refine ok_biv (fun vx999 e1000 => ?_)
                    first | (have q1002 := te_addc (c := 1) (n := 1) rfl x3v (by omega) (by omega); rw [← e1000] at q1002; obtain ⟨f1003, f1004, f1005⟩ := q1002) | (obtain ⟨q1002, f1003, f1004, f1005⟩ : ∃ q : Int, vx999.toInt = x3v.toInt + (1 : Int) + 4294967296 * q ∧ -2147483648 ≤ vx999.toInt ∧ vx999.toInt ≤ 2147483647 := by rw [e1000]; exact ti_addc (c := 1) (n := 1) rfl x3v)
                    refine ok_mono (ih vx999 (1 : Int32) x5v vx957 δ I (show 0 ≤ (x1).toInt by first | assumption | omega) (show (x1).toInt ≤ 3 by first | assumption | omega) (show 0 ≤ (x2).toInt by first | assumption | omega) (show (x2).toInt ≤ 3 by first | assumption | omega) (show 0 ≤ (x5v).toInt by first | assumption | omega) (show (x5v).toInt ≤ 2000 by first | assumption | omega) (show 0 ≤ (vx957).toInt by first | assumption | omega) (show (vx957).toInt ≤ 2000 by first | assumption | omega) (show 4000 - (x5v).toInt - (vx957).toInt < _ by omega)) (fun r1006 hr1007 => ?_)
                    obtain ⟨i1008, ⟨u1009, u1010, u1011⟩⟩ := hr1007
                    have u1012 := kp_t kp_r u1009
                    have v1013 : q_V r1006.2 = q_V δ := (u1010).trans rfl
                    have v1014 := kr_t (kr_r (ad := ad)) u1011
                    have f1015 := ti_b r1006.1
                    exact ⟨by assumption, ⟨kp_w (by decide) u1012, v1013, kr_w (by decide) v1014⟩⟩
                · have c1016 : r840.1.toInt < r850.1.toInt := o_nle h976
                  unfold J_X12_runs_154
                  have f1017 := ti_b x4v
                  refine ok_ite (fun h1018 => ?_) (fun h1018 => ?_)
                  · have c1019 : (0 : Int) = x4v.toInt := o_eq h1018
                    unfold J_X12_runs_169
                    have f1022 := ti_b x3v
                    refine ok_biv (fun vx1020 e1021 => ?_)
                    first | (have q1023 := te_addc (c := 0) (n := 0) rfl x3v (by omega) (by omega); rw [← e1021] at q1023; obtain ⟨f1024, f1025, f1026⟩ := q1023) | (obtain ⟨q1023, f1024, f1025, f1026⟩ : ∃ q : Int, vx1020.toInt = x3v.toInt + (0 : Int) + 4294967296 * q ∧ -2147483648 ≤ vx1020.toInt ∧ vx1020.toInt ≤ 2147483647 := by rw [e1021]; exact ti_addc (c := 0) (n := 0) rfl x3v)
                    refine ok_mono (ih vx1020 (0 : Int32) x5v vx957 δ I (show 0 ≤ (x1).toInt by first | assumption | omega) (show (x1).toInt ≤ 3 by first | assumption | omega) (show 0 ≤ (x2).toInt by first | assumption | omega) (show (x2).toInt ≤ 3 by first | assumption | omega) (show 0 ≤ (x5v).toInt by first | assumption | omega) (show (x5v).toInt ≤ 2000 by first | assumption | omega) (show 0 ≤ (vx957).toInt by first | assumption | omega) (show (vx957).toInt ≤ 2000 by first | assumption | omega) (show 4000 - (x5v).toInt - (vx957).toInt < _ by omega)) (fun r1027 hr1028 => ?_)
                    obtain ⟨i1029, ⟨u1030, u1031, u1032⟩⟩ := hr1028
                    have u1033 := kp_t kp_r u1030
                    have v1034 : q_V r1027.2 = q_V δ := (u1031).trans rfl
                    have v1035 := kr_t (kr_r (ad := ad)) u1032
                    have f1036 := ti_b r1027.1
                    exact ⟨by assumption, ⟨kp_w (by decide) u1033, v1034, kr_w (by decide) v1035⟩⟩
                  · have c1037 : (0 : Int) ≠ x4v.toInt := o_ne h1018
                    unfold J_X12_runs_169
                    have f1040 := ti_b x3v
                    refine ok_biv (fun vx1038 e1039 => ?_)
                    first | (have q1041 := te_addc (c := 1) (n := 1) rfl x3v (by omega) (by omega); rw [← e1039] at q1041; obtain ⟨f1042, f1043, f1044⟩ := q1041) | (obtain ⟨q1041, f1042, f1043, f1044⟩ : ∃ q : Int, vx1038.toInt = x3v.toInt + (1 : Int) + 4294967296 * q ∧ -2147483648 ≤ vx1038.toInt ∧ vx1038.toInt ≤ 2147483647 := by rw [e1039]; exact ti_addc (c := 1) (n := 1) rfl x3v)
                    refine ok_mono (ih vx1038 (0 : Int32) x5v vx957 δ I (show 0 ≤ (x1).toInt by first | assumption | omega) (show (x1).toInt ≤ 3 by first | assumption | omega) (show 0 ≤ (x2).toInt by first | assumption | omega) (show (x2).toInt ≤ 3 by first | assumption | omega) (show 0 ≤ (x5v).toInt by first | assumption | omega) (show (x5v).toInt ≤ 2000 by first | assumption | omega) (show 0 ≤ (vx957).toInt by first | assumption | omega) (show (vx957).toInt ≤ 2000 by first | assumption | omega) (show 4000 - (x5v).toInt - (vx957).toInt < _ by omega)) (fun r1045 hr1046 => ?_)
                    obtain ⟨i1047, ⟨u1048, u1049, u1050⟩⟩ := hr1046
                    have u1051 := kp_t kp_r u1048
                    have v1052 : q_V r1045.2 = q_V δ := (u1049).trans rfl
                    have v1053 := kr_t (kr_r (ad := ad)) u1050
                    have f1054 := ti_b r1045.1
                    exact ⟨by assumption, ⟨kp_w (by decide) u1051, v1052, kr_w (by decide) v1053⟩⟩
          · have c1055 : r840.1.toInt ≤ r850.1.toInt := o_nlt h860
            refine ok_biv (fun vx1056 e1057 => ?_)
            first | (have q1058 := te_addc (c := 1) (n := 1) rfl x5v (by omega) (by omega); rw [← e1057] at q1058; obtain ⟨f1059, f1060, f1061⟩ := q1058) | (obtain ⟨q1058, f1059, f1060, f1061⟩ : ∃ q : Int, vx1056.toInt = x5v.toInt + (1 : Int) + 4294967296 * q ∧ -2147483648 ≤ vx1056.toInt ∧ vx1056.toInt ≤ 2147483647 := by rw [e1057]; exact ti_addc (c := 1) (n := 1) rfl x5v)
            unfold J_X12_runs_122
            refine ok_ite (fun h1062 => ?_) (fun h1062 => ?_)
            · have c1063 : r840.1.toInt < r850.1.toInt := o_lt h1062
              unfold J_X12_runs_132
              refine ok_ite (fun h1064 => ?_) (fun h1064 => ?_)
              · have c1065 : r840.1.toInt = r850.1.toInt := o_eq h1064
                refine ok_mono (ih x3v x4v vx1056 x6v δ I (show 0 ≤ (x1).toInt by first | assumption | omega) (show (x1).toInt ≤ 3 by first | assumption | omega) (show 0 ≤ (x2).toInt by first | assumption | omega) (show (x2).toInt ≤ 3 by first | assumption | omega) (show 0 ≤ (vx1056).toInt by first | assumption | omega) (show (vx1056).toInt ≤ 2000 by first | assumption | omega) (show 0 ≤ (x6v).toInt by first | assumption | omega) (show (x6v).toInt ≤ 2000 by first | assumption | omega) (show 4000 - (vx1056).toInt - (x6v).toInt < _ by omega)) (fun r1066 hr1067 => ?_)
                obtain ⟨i1068, ⟨u1069, u1070, u1071⟩⟩ := hr1067
                have u1072 := kp_t kp_r u1069
                have v1073 : q_V r1066.2 = q_V δ := (u1070).trans rfl
                have v1074 := kr_t (kr_r (ad := ad)) u1071
                have f1075 := ti_b r1066.1
                exact ⟨by assumption, ⟨kp_w (by decide) u1072, v1073, kr_w (by decide) v1074⟩⟩
              · have c1076 : r840.1.toInt ≠ r850.1.toInt := o_ne h1064
                refine ok_ite (fun h1077 => ?_) (fun h1077 => ?_)
                · have c1078 : r850.1.toInt ≤ r840.1.toInt := o_le h1077
                  unfold J_X12_runs_154
                  have f1079 := ti_b x4v
                  refine ok_ite (fun h1080 => ?_) (fun h1080 => ?_)
                  · have c1081 : (1 : Int) = x4v.toInt := o_eq h1080
                    unfold J_X12_runs_169
                    have f1084 := ti_b x3v
                    refine ok_biv (fun vx1082 e1083 => ?_)
                    first | (have q1085 := te_addc (c := 0) (n := 0) rfl x3v (by omega) (by omega); rw [← e1083] at q1085; obtain ⟨f1086, f1087, f1088⟩ := q1085) | (obtain ⟨q1085, f1086, f1087, f1088⟩ : ∃ q : Int, vx1082.toInt = x3v.toInt + (0 : Int) + 4294967296 * q ∧ -2147483648 ≤ vx1082.toInt ∧ vx1082.toInt ≤ 2147483647 := by rw [e1083]; exact ti_addc (c := 0) (n := 0) rfl x3v)
                    refine ok_mono (ih vx1082 (1 : Int32) vx1056 x6v δ I (show 0 ≤ (x1).toInt by first | assumption | omega) (show (x1).toInt ≤ 3 by first | assumption | omega) (show 0 ≤ (x2).toInt by first | assumption | omega) (show (x2).toInt ≤ 3 by first | assumption | omega) (show 0 ≤ (vx1056).toInt by first | assumption | omega) (show (vx1056).toInt ≤ 2000 by first | assumption | omega) (show 0 ≤ (x6v).toInt by first | assumption | omega) (show (x6v).toInt ≤ 2000 by first | assumption | omega) (show 4000 - (vx1056).toInt - (x6v).toInt < _ by omega)) (fun r1089 hr1090 => ?_)
                    obtain ⟨i1091, ⟨u1092, u1093, u1094⟩⟩ := hr1090
                    have u1095 := kp_t kp_r u1092
                    have v1096 : q_V r1089.2 = q_V δ := (u1093).trans rfl
                    have v1097 := kr_t (kr_r (ad := ad)) u1094
                    have f1098 := ti_b r1089.1
                    exact ⟨by assumption, ⟨kp_w (by decide) u1095, v1096, kr_w (by decide) v1097⟩⟩
                  · have c1099 : (1 : Int) ≠ x4v.toInt := o_ne h1080
                    unfold J_X12_runs_169
                    have f1102 := ti_b x3v
                    refine ok_biv (fun vx1100 e1101 => ?_)
                    first | (have q1103 := te_addc (c := 1) (n := 1) rfl x3v (by omega) (by omega); rw [← e1101] at q1103; obtain ⟨f1104, f1105, f1106⟩ := q1103) | (obtain ⟨q1103, f1104, f1105, f1106⟩ : ∃ q : Int, vx1100.toInt = x3v.toInt + (1 : Int) + 4294967296 * q ∧ -2147483648 ≤ vx1100.toInt ∧ vx1100.toInt ≤ 2147483647 := by rw [e1101]; exact ti_addc (c := 1) (n := 1) rfl x3v)
                    refine ok_mono (ih vx1100 (1 : Int32) vx1056 x6v δ I (show 0 ≤ (x1).toInt by first | assumption | omega) (show (x1).toInt ≤ 3 by first | assumption | omega) (show 0 ≤ (x2).toInt by first | assumption | omega) (show (x2).toInt ≤ 3 by first | assumption | omega) (show 0 ≤ (vx1056).toInt by first | assumption | omega) (show (vx1056).toInt ≤ 2000 by first | assumption | omega) (show 0 ≤ (x6v).toInt by first | assumption | omega) (show (x6v).toInt ≤ 2000 by first | assumption | omega) (show 4000 - (vx1056).toInt - (x6v).toInt < _ by omega)) (fun r1107 hr1108 => ?_)
                    obtain ⟨i1109, ⟨u1110, u1111, u1112⟩⟩ := hr1108
                    have u1113 := kp_t kp_r u1110
                    have v1114 : q_V r1107.2 = q_V δ := (u1111).trans rfl
                    have v1115 := kr_t (kr_r (ad := ad)) u1112
                    have f1116 := ti_b r1107.1
                    exact ⟨by assumption, ⟨kp_w (by decide) u1113, v1114, kr_w (by decide) v1115⟩⟩
                · have c1117 : r840.1.toInt < r850.1.toInt := o_nle h1077
                  unfold J_X12_runs_154
                  have f1118 := ti_b x4v
                  refine ok_ite (fun h1119 => ?_) (fun h1119 => ?_)
                  · have c1120 : (0 : Int) = x4v.toInt := o_eq h1119
                    unfold J_X12_runs_169
                    have f1123 := ti_b x3v
                    refine ok_biv (fun vx1121 e1122 => ?_)
                    first | (have q1124 := te_addc (c := 0) (n := 0) rfl x3v (by omega) (by omega); rw [← e1122] at q1124; obtain ⟨f1125, f1126, f1127⟩ := q1124) | (obtain ⟨q1124, f1125, f1126, f1127⟩ : ∃ q : Int, vx1121.toInt = x3v.toInt + (0 : Int) + 4294967296 * q ∧ -2147483648 ≤ vx1121.toInt ∧ vx1121.toInt ≤ 2147483647 := by rw [e1122]; exact ti_addc (c := 0) (n := 0) rfl x3v)
                    refine ok_mono (ih vx1121 (0 : Int32) vx1056 x6v δ I (show 0 ≤ (x1).toInt by first | assumption | omega) (show (x1).toInt ≤ 3 by first | assumption | omega) (show 0 ≤ (x2).toInt by first | assumption | omega) (show (x2).toInt ≤ 3 by first | assumption | omega) (show 0 ≤ (vx1056).toInt by first | assumption | omega) (show (vx1056).toInt ≤ 2000 by first | assumption | omega) (show 0 ≤ (x6v).toInt by first | assumption | omega) (show (x6v).toInt ≤ 2000 by first | assumption | omega) (show 4000 - (vx1056).toInt - (x6v).toInt < _ by omega)) (fun r1128 hr1129 => ?_)
                    obtain ⟨i1130, ⟨u1131, u1132, u1133⟩⟩ := hr1129
                    have u1134 := kp_t kp_r u1131
                    have v1135 : q_V r1128.2 = q_V δ := (u1132).trans rfl
                    have v1136 := kr_t (kr_r (ad := ad)) u1133
                    have f1137 := ti_b r1128.1
                    exact ⟨by assumption, ⟨kp_w (by decide) u1134, v1135, kr_w (by decide) v1136⟩⟩
                  · have c1138 : (0 : Int) ≠ x4v.toInt := o_ne h1119
                    unfold J_X12_runs_169
                    have f1141 := ti_b x3v
                    refine ok_biv (fun vx1139 e1140 => ?_)
                    first | (have q1142 := te_addc (c := 1) (n := 1) rfl x3v (by omega) (by omega); rw [← e1140] at q1142; obtain ⟨f1143, f1144, f1145⟩ := q1142) | (obtain ⟨q1142, f1143, f1144, f1145⟩ : ∃ q : Int, vx1139.toInt = x3v.toInt + (1 : Int) + 4294967296 * q ∧ -2147483648 ≤ vx1139.toInt ∧ vx1139.toInt ≤ 2147483647 := by rw [e1140]; exact ti_addc (c := 1) (n := 1) rfl x3v)
                    refine ok_mono (ih vx1139 (0 : Int32) vx1056 x6v δ I (show 0 ≤ (x1).toInt by first | assumption | omega) (show (x1).toInt ≤ 3 by first | assumption | omega) (show 0 ≤ (x2).toInt by first | assumption | omega) (show (x2).toInt ≤ 3 by first | assumption | omega) (show 0 ≤ (vx1056).toInt by first | assumption | omega) (show (vx1056).toInt ≤ 2000 by first | assumption | omega) (show 0 ≤ (x6v).toInt by first | assumption | omega) (show (x6v).toInt ≤ 2000 by first | assumption | omega) (show 4000 - (vx1056).toInt - (x6v).toInt < _ by omega)) (fun r1146 hr1147 => ?_)
                    obtain ⟨i1148, ⟨u1149, u1150, u1151⟩⟩ := hr1147
                    have u1152 := kp_t kp_r u1149
                    have v1153 : q_V r1146.2 = q_V δ := (u1150).trans rfl
                    have v1154 := kr_t (kr_r (ad := ad)) u1151
                    have f1155 := ti_b r1146.1
                    exact ⟨by assumption, ⟨kp_w (by decide) u1152, v1153, kr_w (by decide) v1154⟩⟩
            · have c1156 : r850.1.toInt ≤ r840.1.toInt := o_nlt h1062
              refine ok_biv (fun vx1157 e1158 => ?_)
              first | (have q1159 := te_addc (c := 1) (n := 1) rfl x6v (by omega) (by omega); rw [← e1158] at q1159; obtain ⟨f1160, f1161, f1162⟩ := q1159) | (obtain ⟨q1159, f1160, f1161, f1162⟩ : ∃ q : Int, vx1157.toInt = x6v.toInt + (1 : Int) + 4294967296 * q ∧ -2147483648 ≤ vx1157.toInt ∧ vx1157.toInt ≤ 2147483647 := by rw [e1158]; exact ti_addc (c := 1) (n := 1) rfl x6v)
              unfold J_X12_runs_132
              refine ok_ite (fun h1163 => ?_) (fun h1163 => ?_)
              · have c1164 : r840.1.toInt = r850.1.toInt := o_eq h1163
                refine ok_mono (ih x3v x4v vx1056 vx1157 δ I (show 0 ≤ (x1).toInt by first | assumption | omega) (show (x1).toInt ≤ 3 by first | assumption | omega) (show 0 ≤ (x2).toInt by first | assumption | omega) (show (x2).toInt ≤ 3 by first | assumption | omega) (show 0 ≤ (vx1056).toInt by first | assumption | omega) (show (vx1056).toInt ≤ 2000 by first | assumption | omega) (show 0 ≤ (vx1157).toInt by first | assumption | omega) (show (vx1157).toInt ≤ 2000 by first | assumption | omega) (show 4000 - (vx1056).toInt - (vx1157).toInt < _ by omega)) (fun r1165 hr1166 => ?_)
                obtain ⟨i1167, ⟨u1168, u1169, u1170⟩⟩ := hr1166
                have u1171 := kp_t kp_r u1168
                have v1172 : q_V r1165.2 = q_V δ := (u1169).trans rfl
                have v1173 := kr_t (kr_r (ad := ad)) u1170
                have f1174 := ti_b r1165.1
                exact ⟨by assumption, ⟨kp_w (by decide) u1171, v1172, kr_w (by decide) v1173⟩⟩
              · have c1175 : r840.1.toInt ≠ r850.1.toInt := o_ne h1163
                refine ok_ite (fun h1176 => ?_) (fun h1176 => ?_)
                · have c1177 : r850.1.toInt ≤ r840.1.toInt := o_le h1176
                  unfold J_X12_runs_154
                  have f1178 := ti_b x4v
                  refine ok_ite (fun h1179 => ?_) (fun h1179 => ?_)
                  · have c1180 : (1 : Int) = x4v.toInt := o_eq h1179
                    unfold J_X12_runs_169
                    have f1183 := ti_b x3v
                    refine ok_biv (fun vx1181 e1182 => ?_)
                    first | (have q1184 := te_addc (c := 0) (n := 0) rfl x3v (by omega) (by omega); rw [← e1182] at q1184; obtain ⟨f1185, f1186, f1187⟩ := q1184) | (obtain ⟨q1184, f1185, f1186, f1187⟩ : ∃ q : Int, vx1181.toInt = x3v.toInt + (0 : Int) + 4294967296 * q ∧ -2147483648 ≤ vx1181.toInt ∧ vx1181.toInt ≤ 2147483647 := by rw [e1182]; exact ti_addc (c := 0) (n := 0) rfl x3v)
                    refine ok_mono (ih vx1181 (1 : Int32) vx1056 vx1157 δ I (show 0 ≤ (x1).toInt by first | assumption | omega) (show (x1).toInt ≤ 3 by first | assumption | omega) (show 0 ≤ (x2).toInt by first | assumption | omega) (show (x2).toInt ≤ 3 by first | assumption | omega) (show 0 ≤ (vx1056).toInt by first | assumption | omega) (show (vx1056).toInt ≤ 2000 by first | assumption | omega) (show 0 ≤ (vx1157).toInt by first | assumption | omega) (show (vx1157).toInt ≤ 2000 by first | assumption | omega) (show 4000 - (vx1056).toInt - (vx1157).toInt < _ by omega)) (fun r1188 hr1189 => ?_)
                    obtain ⟨i1190, ⟨u1191, u1192, u1193⟩⟩ := hr1189
                    have u1194 := kp_t kp_r u1191
                    have v1195 : q_V r1188.2 = q_V δ := (u1192).trans rfl
                    have v1196 := kr_t (kr_r (ad := ad)) u1193
                    have f1197 := ti_b r1188.1
                    exact ⟨by assumption, ⟨kp_w (by decide) u1194, v1195, kr_w (by decide) v1196⟩⟩
                  · have c1198 : (1 : Int) ≠ x4v.toInt := o_ne h1179
                    unfold J_X12_runs_169
                    have f1201 := ti_b x3v
                    refine ok_biv (fun vx1199 e1200 => ?_)
                    first | (have q1202 := te_addc (c := 1) (n := 1) rfl x3v (by omega) (by omega); rw [← e1200] at q1202; obtain ⟨f1203, f1204, f1205⟩ := q1202) | (obtain ⟨q1202, f1203, f1204, f1205⟩ : ∃ q : Int, vx1199.toInt = x3v.toInt + (1 : Int) + 4294967296 * q ∧ -2147483648 ≤ vx1199.toInt ∧ vx1199.toInt ≤ 2147483647 := by rw [e1200]; exact ti_addc (c := 1) (n := 1) rfl x3v)
                    refine ok_mono (ih vx1199 (1 : Int32) vx1056 vx1157 δ I (show 0 ≤ (x1).toInt by first | assumption | omega) (show (x1).toInt ≤ 3 by first | assumption | omega) (show 0 ≤ (x2).toInt by first | assumption | omega) (show (x2).toInt ≤ 3 by first | assumption | omega) (show 0 ≤ (vx1056).toInt by first | assumption | omega) (show (vx1056).toInt ≤ 2000 by first | assumption | omega) (show 0 ≤ (vx1157).toInt by first | assumption | omega) (show (vx1157).toInt ≤ 2000 by first | assumption | omega) (show 4000 - (vx1056).toInt - (vx1157).toInt < _ by omega)) (fun r1206 hr1207 => ?_)
                    obtain ⟨i1208, ⟨u1209, u1210, u1211⟩⟩ := hr1207
                    have u1212 := kp_t kp_r u1209
                    have v1213 : q_V r1206.2 = q_V δ := (u1210).trans rfl
                    have v1214 := kr_t (kr_r (ad := ad)) u1211
                    have f1215 := ti_b r1206.1
                    exact ⟨by assumption, ⟨kp_w (by decide) u1212, v1213, kr_w (by decide) v1214⟩⟩
                · have c1216 : r840.1.toInt < r850.1.toInt := o_nle h1176
                  unfold J_X12_runs_154
                  have f1217 := ti_b x4v
                  refine ok_ite (fun h1218 => ?_) (fun h1218 => ?_)
                  · have c1219 : (0 : Int) = x4v.toInt := o_eq h1218
                    unfold J_X12_runs_169
                    have f1222 := ti_b x3v
                    refine ok_biv (fun vx1220 e1221 => ?_)
                    first | (have q1223 := te_addc (c := 0) (n := 0) rfl x3v (by omega) (by omega); rw [← e1221] at q1223; obtain ⟨f1224, f1225, f1226⟩ := q1223) | (obtain ⟨q1223, f1224, f1225, f1226⟩ : ∃ q : Int, vx1220.toInt = x3v.toInt + (0 : Int) + 4294967296 * q ∧ -2147483648 ≤ vx1220.toInt ∧ vx1220.toInt ≤ 2147483647 := by rw [e1221]; exact ti_addc (c := 0) (n := 0) rfl x3v)
                    refine ok_mono (ih vx1220 (0 : Int32) vx1056 vx1157 δ I (show 0 ≤ (x1).toInt by first | assumption | omega) (show (x1).toInt ≤ 3 by first | assumption | omega) (show 0 ≤ (x2).toInt by first | assumption | omega) (show (x2).toInt ≤ 3 by first | assumption | omega) (show 0 ≤ (vx1056).toInt by first | assumption | omega) (show (vx1056).toInt ≤ 2000 by first | assumption | omega) (show 0 ≤ (vx1157).toInt by first | assumption | omega) (show (vx1157).toInt ≤ 2000 by first | assumption | omega) (show 4000 - (vx1056).toInt - (vx1157).toInt < _ by omega)) (fun r1227 hr1228 => ?_)
                    obtain ⟨i1229, ⟨u1230, u1231, u1232⟩⟩ := hr1228
                    have u1233 := kp_t kp_r u1230
                    have v1234 : q_V r1227.2 = q_V δ := (u1231).trans rfl
                    have v1235 := kr_t (kr_r (ad := ad)) u1232
                    have f1236 := ti_b r1227.1
                    exact ⟨by assumption, ⟨kp_w (by decide) u1233, v1234, kr_w (by decide) v1235⟩⟩
                  · have c1237 : (0 : Int) ≠ x4v.toInt := o_ne h1218
                    unfold J_X12_runs_169
                    have f1240 := ti_b x3v
                    refine ok_biv (fun vx1238 e1239 => ?_)
                    first | (have q1241 := te_addc (c := 1) (n := 1) rfl x3v (by omega) (by omega); rw [← e1239] at q1241; obtain ⟨f1242, f1243, f1244⟩ := q1241) | (obtain ⟨q1241, f1242, f1243, f1244⟩ : ∃ q : Int, vx1238.toInt = x3v.toInt + (1 : Int) + 4294967296 * q ∧ -2147483648 ≤ vx1238.toInt ∧ vx1238.toInt ≤ 2147483647 := by rw [e1239]; exact ti_addc (c := 1) (n := 1) rfl x3v)
                    refine ok_mono (ih vx1238 (0 : Int32) vx1056 vx1157 δ I (show 0 ≤ (x1).toInt by first | assumption | omega) (show (x1).toInt ≤ 3 by first | assumption | omega) (show 0 ≤ (x2).toInt by first | assumption | omega) (show (x2).toInt ≤ 3 by first | assumption | omega) (show 0 ≤ (vx1056).toInt by first | assumption | omega) (show (vx1056).toInt ≤ 2000 by first | assumption | omega) (show 0 ≤ (vx1157).toInt by first | assumption | omega) (show (vx1157).toInt ≤ 2000 by first | assumption | omega) (show 4000 - (vx1056).toInt - (vx1157).toInt < _ by omega)) (fun r1245 hr1246 => ?_)
                    obtain ⟨i1247, ⟨u1248, u1249, u1250⟩⟩ := hr1246
                    have u1251 := kp_t kp_r u1248
                    have v1252 : q_V r1245.2 = q_V δ := (u1249).trans rfl
                    have v1253 := kr_t (kr_r (ad := ad)) u1250
                    have f1254 := ti_b r1245.1
                    exact ⟨by assumption, ⟨kp_w (by decide) u1251, v1252, kr_w (by decide) v1253⟩⟩
        · have c1255 : x6v.toInt < (q_R δ (Ad ad 103) x2.toNatClampNeg).toInt := o_nle h848
          refine ok_bind (k_X12_numberAt L hN (a0 := a0) (x1 := x2) (x2 := x6v) k_a0 (show 0 ≤ (x2).toInt by first | assumption | omega) (show (x2).toInt ≤ 3 by first | assumption | omega) I) (fun r1256 hr1257 => ?_)
          have i1258 := hr1257
          try rw [i1258]
          have f1259 := ti_b r1256.1
          unfold J_X12_runs_110
          refine ok_ite (fun h1260 => ?_) (fun h1260 => ?_)
          · have c1261 : r1256.1.toInt < r840.1.toInt := o_lt h1260
            unfold J_X12_runs_122
            refine ok_ite (fun h1262 => ?_) (fun h1262 => ?_)
            · have c1263 : r840.1.toInt < r1256.1.toInt := o_lt h1262
              unfold J_X12_runs_132
              refine ok_ite (fun h1264 => ?_) (fun h1264 => ?_)
              · have c1265 : r840.1.toInt = r1256.1.toInt := o_eq h1264
                refine ok_mono (ih x3v x4v x5v x6v δ I (show 0 ≤ (x1).toInt by first | assumption | omega) (show (x1).toInt ≤ 3 by first | assumption | omega) (show 0 ≤ (x2).toInt by first | assumption | omega) (show (x2).toInt ≤ 3 by first | assumption | omega) (show 0 ≤ (x5v).toInt by first | assumption | omega) (show (x5v).toInt ≤ 2000 by first | assumption | omega) (show 0 ≤ (x6v).toInt by first | assumption | omega) (show (x6v).toInt ≤ 2000 by first | assumption | omega) (show 4000 - (x5v).toInt - (x6v).toInt < _ by omega)) (fun r1266 hr1267 => ?_)
                obtain ⟨i1268, ⟨u1269, u1270, u1271⟩⟩ := hr1267
                have u1272 := kp_t kp_r u1269
                have v1273 : q_V r1266.2 = q_V δ := (u1270).trans rfl
                have v1274 := kr_t (kr_r (ad := ad)) u1271
                have f1275 := ti_b r1266.1
                exact ⟨by assumption, ⟨kp_w (by decide) u1272, v1273, kr_w (by decide) v1274⟩⟩
              · have c1276 : r840.1.toInt ≠ r1256.1.toInt := o_ne h1264
                refine ok_ite (fun h1277 => ?_) (fun h1277 => ?_)
                · have c1278 : r1256.1.toInt ≤ r840.1.toInt := o_le h1277
                  unfold J_X12_runs_154
                  have f1279 := ti_b x4v
                  refine ok_ite (fun h1280 => ?_) (fun h1280 => ?_)
                  · have c1281 : (1 : Int) = x4v.toInt := o_eq h1280
                    unfold J_X12_runs_169
                    have f1284 := ti_b x3v
                    refine ok_biv (fun vx1282 e1283 => ?_)
                    first | (have q1285 := te_addc (c := 0) (n := 0) rfl x3v (by omega) (by omega); rw [← e1283] at q1285; obtain ⟨f1286, f1287, f1288⟩ := q1285) | (obtain ⟨q1285, f1286, f1287, f1288⟩ : ∃ q : Int, vx1282.toInt = x3v.toInt + (0 : Int) + 4294967296 * q ∧ -2147483648 ≤ vx1282.toInt ∧ vx1282.toInt ≤ 2147483647 := by rw [e1283]; exact ti_addc (c := 0) (n := 0) rfl x3v)
                    refine ok_mono (ih vx1282 (1 : Int32) x5v x6v δ I (show 0 ≤ (x1).toInt by first | assumption | omega) (show (x1).toInt ≤ 3 by first | assumption | omega) (show 0 ≤ (x2).toInt by first | assumption | omega) (show (x2).toInt ≤ 3 by first | assumption | omega) (show 0 ≤ (x5v).toInt by first | assumption | omega) (show (x5v).toInt ≤ 2000 by first | assumption | omega) (show 0 ≤ (x6v).toInt by first | assumption | omega) (show (x6v).toInt ≤ 2000 by first | assumption | omega) (show 4000 - (x5v).toInt - (x6v).toInt < _ by omega)) (fun r1289 hr1290 => ?_)
                    obtain ⟨i1291, ⟨u1292, u1293, u1294⟩⟩ := hr1290
                    have u1295 := kp_t kp_r u1292
                    have v1296 : q_V r1289.2 = q_V δ := (u1293).trans rfl
                    have v1297 := kr_t (kr_r (ad := ad)) u1294
                    have f1298 := ti_b r1289.1
                    exact ⟨by assumption, ⟨kp_w (by decide) u1295, v1296, kr_w (by decide) v1297⟩⟩
                  · have c1299 : (1 : Int) ≠ x4v.toInt := o_ne h1280
                    unfold J_X12_runs_169
                    have f1302 := ti_b x3v
                    refine ok_biv (fun vx1300 e1301 => ?_)
                    first | (have q1303 := te_addc (c := 1) (n := 1) rfl x3v (by omega) (by omega); rw [← e1301] at q1303; obtain ⟨f1304, f1305, f1306⟩ := q1303) | (obtain ⟨q1303, f1304, f1305, f1306⟩ : ∃ q : Int, vx1300.toInt = x3v.toInt + (1 : Int) + 4294967296 * q ∧ -2147483648 ≤ vx1300.toInt ∧ vx1300.toInt ≤ 2147483647 := by rw [e1301]; exact ti_addc (c := 1) (n := 1) rfl x3v)
                    refine ok_mono (ih vx1300 (1 : Int32) x5v x6v δ I (show 0 ≤ (x1).toInt by first | assumption | omega) (show (x1).toInt ≤ 3 by first | assumption | omega) (show 0 ≤ (x2).toInt by first | assumption | omega) (show (x2).toInt ≤ 3 by first | assumption | omega) (show 0 ≤ (x5v).toInt by first | assumption | omega) (show (x5v).toInt ≤ 2000 by first | assumption | omega) (show 0 ≤ (x6v).toInt by first | assumption | omega) (show (x6v).toInt ≤ 2000 by first | assumption | omega) (show 4000 - (x5v).toInt - (x6v).toInt < _ by omega)) (fun r1307 hr1308 => ?_)
                    obtain ⟨i1309, ⟨u1310, u1311, u1312⟩⟩ := hr1308
                    have u1313 := kp_t kp_r u1310
                    have v1314 : q_V r1307.2 = q_V δ := (u1311).trans rfl
                    have v1315 := kr_t (kr_r (ad := ad)) u1312
                    have f1316 := ti_b r1307.1
                    exact ⟨by assumption, ⟨kp_w (by decide) u1313, v1314, kr_w (by decide) v1315⟩⟩
                · have c1317 : r840.1.toInt < r1256.1.toInt := o_nle h1277
                  unfold J_X12_runs_154
                  have f1318 := ti_b x4v
                  refine ok_ite (fun h1319 => ?_) (fun h1319 => ?_)
                  · have c1320 : (0 : Int) = x4v.toInt := o_eq h1319
                    unfold J_X12_runs_169
                    have f1323 := ti_b x3v
                    refine ok_biv (fun vx1321 e1322 => ?_)
                    first | (have q1324 := te_addc (c := 0) (n := 0) rfl x3v (by omega) (by omega); rw [← e1322] at q1324; obtain ⟨f1325, f1326, f1327⟩ := q1324) | (obtain ⟨q1324, f1325, f1326, f1327⟩ : ∃ q : Int, vx1321.toInt = x3v.toInt + (0 : Int) + 4294967296 * q ∧ -2147483648 ≤ vx1321.toInt ∧ vx1321.toInt ≤ 2147483647 := by rw [e1322]; exact ti_addc (c := 0) (n := 0) rfl x3v)
                    refine ok_mono (ih vx1321 (0 : Int32) x5v x6v δ I (show 0 ≤ (x1).toInt by first | assumption | omega) (show (x1).toInt ≤ 3 by first | assumption | omega) (show 0 ≤ (x2).toInt by first | assumption | omega) (show (x2).toInt ≤ 3 by first | assumption | omega) (show 0 ≤ (x5v).toInt by first | assumption | omega) (show (x5v).toInt ≤ 2000 by first | assumption | omega) (show 0 ≤ (x6v).toInt by first | assumption | omega) (show (x6v).toInt ≤ 2000 by first | assumption | omega) (show 4000 - (x5v).toInt - (x6v).toInt < _ by omega)) (fun r1328 hr1329 => ?_)
                    obtain ⟨i1330, ⟨u1331, u1332, u1333⟩⟩ := hr1329
                    have u1334 := kp_t kp_r u1331
                    have v1335 : q_V r1328.2 = q_V δ := (u1332).trans rfl
                    have v1336 := kr_t (kr_r (ad := ad)) u1333
                    have f1337 := ti_b r1328.1
                    exact ⟨by assumption, ⟨kp_w (by decide) u1334, v1335, kr_w (by decide) v1336⟩⟩
                  · have c1338 : (0 : Int) ≠ x4v.toInt := o_ne h1319
                    unfold J_X12_runs_169
                    have f1341 := ti_b x3v
                    refine ok_biv (fun vx1339 e1340 => ?_)
                    first | (have q1342 := te_addc (c := 1) (n := 1) rfl x3v (by omega) (by omega); rw [← e1340] at q1342; obtain ⟨f1343, f1344, f1345⟩ := q1342) | (obtain ⟨q1342, f1343, f1344, f1345⟩ : ∃ q : Int, vx1339.toInt = x3v.toInt + (1 : Int) + 4294967296 * q ∧ -2147483648 ≤ vx1339.toInt ∧ vx1339.toInt ≤ 2147483647 := by rw [e1340]; exact ti_addc (c := 1) (n := 1) rfl x3v)
                    refine ok_mono (ih vx1339 (0 : Int32) x5v x6v δ I (show 0 ≤ (x1).toInt by first | assumption | omega) (show (x1).toInt ≤ 3 by first | assumption | omega) (show 0 ≤ (x2).toInt by first | assumption | omega) (show (x2).toInt ≤ 3 by first | assumption | omega) (show 0 ≤ (x5v).toInt by first | assumption | omega) (show (x5v).toInt ≤ 2000 by first | assumption | omega) (show 0 ≤ (x6v).toInt by first | assumption | omega) (show (x6v).toInt ≤ 2000 by first | assumption | omega) (show 4000 - (x5v).toInt - (x6v).toInt < _ by omega)) (fun r1346 hr1347 => ?_)
                    obtain ⟨i1348, ⟨u1349, u1350, u1351⟩⟩ := hr1347
                    have u1352 := kp_t kp_r u1349
                    have v1353 : q_V r1346.2 = q_V δ := (u1350).trans rfl
                    have v1354 := kr_t (kr_r (ad := ad)) u1351
                    have f1355 := ti_b r1346.1
                    exact ⟨by assumption, ⟨kp_w (by decide) u1352, v1353, kr_w (by decide) v1354⟩⟩
            · have c1356 : r1256.1.toInt ≤ r840.1.toInt := o_nlt h1262
              refine ok_biv (fun vx1357 e1358 => ?_)
              first | (have q1359 := te_addc (c := 1) (n := 1) rfl x6v (by omega) (by omega); rw [← e1358] at q1359; obtain ⟨f1360, f1361, f1362⟩ := q1359) | (obtain ⟨q1359, f1360, f1361, f1362⟩ : ∃ q : Int, vx1357.toInt = x6v.toInt + (1 : Int) + 4294967296 * q ∧ -2147483648 ≤ vx1357.toInt ∧ vx1357.toInt ≤ 2147483647 := by rw [e1358]; exact ti_addc (c := 1) (n := 1) rfl x6v)
              unfold J_X12_runs_132
              refine ok_ite (fun h1363 => ?_) (fun h1363 => ?_)
              · have c1364 : r840.1.toInt = r1256.1.toInt := o_eq h1363
                refine ok_mono (ih x3v x4v x5v vx1357 δ I (show 0 ≤ (x1).toInt by first | assumption | omega) (show (x1).toInt ≤ 3 by first | assumption | omega) (show 0 ≤ (x2).toInt by first | assumption | omega) (show (x2).toInt ≤ 3 by first | assumption | omega) (show 0 ≤ (x5v).toInt by first | assumption | omega) (show (x5v).toInt ≤ 2000 by first | assumption | omega) (show 0 ≤ (vx1357).toInt by first | assumption | omega) (show (vx1357).toInt ≤ 2000 by first | assumption | omega) (show 4000 - (x5v).toInt - (vx1357).toInt < _ by omega)) (fun r1365 hr1366 => ?_)
                obtain ⟨i1367, ⟨u1368, u1369, u1370⟩⟩ := hr1366
                have u1371 := kp_t kp_r u1368
                have v1372 : q_V r1365.2 = q_V δ := (u1369).trans rfl
                have v1373 := kr_t (kr_r (ad := ad)) u1370
                have f1374 := ti_b r1365.1
                exact ⟨by assumption, ⟨kp_w (by decide) u1371, v1372, kr_w (by decide) v1373⟩⟩
              · have c1375 : r840.1.toInt ≠ r1256.1.toInt := o_ne h1363
                refine ok_ite (fun h1376 => ?_) (fun h1376 => ?_)
                · have c1377 : r1256.1.toInt ≤ r840.1.toInt := o_le h1376
                  unfold J_X12_runs_154
                  have f1378 := ti_b x4v
                  refine ok_ite (fun h1379 => ?_) (fun h1379 => ?_)
                  · have c1380 : (1 : Int) = x4v.toInt := o_eq h1379
                    unfold J_X12_runs_169
                    have f1383 := ti_b x3v
                    refine ok_biv (fun vx1381 e1382 => ?_)
                    first | (have q1384 := te_addc (c := 0) (n := 0) rfl x3v (by omega) (by omega); rw [← e1382] at q1384; obtain ⟨f1385, f1386, f1387⟩ := q1384) | (obtain ⟨q1384, f1385, f1386, f1387⟩ : ∃ q : Int, vx1381.toInt = x3v.toInt + (0 : Int) + 4294967296 * q ∧ -2147483648 ≤ vx1381.toInt ∧ vx1381.toInt ≤ 2147483647 := by rw [e1382]; exact ti_addc (c := 0) (n := 0) rfl x3v)
                    refine ok_mono (ih vx1381 (1 : Int32) x5v vx1357 δ I (show 0 ≤ (x1).toInt by first | assumption | omega) (show (x1).toInt ≤ 3 by first | assumption | omega) (show 0 ≤ (x2).toInt by first | assumption | omega) (show (x2).toInt ≤ 3 by first | assumption | omega) (show 0 ≤ (x5v).toInt by first | assumption | omega) (show (x5v).toInt ≤ 2000 by first | assumption | omega) (show 0 ≤ (vx1357).toInt by first | assumption | omega) (show (vx1357).toInt ≤ 2000 by first | assumption | omega) (show 4000 - (x5v).toInt - (vx1357).toInt < _ by omega)) (fun r1388 hr1389 => ?_)
                    obtain ⟨i1390, ⟨u1391, u1392, u1393⟩⟩ := hr1389
                    have u1394 := kp_t kp_r u1391
                    have v1395 : q_V r1388.2 = q_V δ := (u1392).trans rfl
                    have v1396 := kr_t (kr_r (ad := ad)) u1393
                    have f1397 := ti_b r1388.1
                    exact ⟨by assumption, ⟨kp_w (by decide) u1394, v1395, kr_w (by decide) v1396⟩⟩
                  · have c1398 : (1 : Int) ≠ x4v.toInt := o_ne h1379
                    unfold J_X12_runs_169
                    have f1401 := ti_b x3v
                    refine ok_biv (fun vx1399 e1400 => ?_)
                    first | (have q1402 := te_addc (c := 1) (n := 1) rfl x3v (by omega) (by omega); rw [← e1400] at q1402; obtain ⟨f1403, f1404, f1405⟩ := q1402) | (obtain ⟨q1402, f1403, f1404, f1405⟩ : ∃ q : Int, vx1399.toInt = x3v.toInt + (1 : Int) + 4294967296 * q ∧ -2147483648 ≤ vx1399.toInt ∧ vx1399.toInt ≤ 2147483647 := by rw [e1400]; exact ti_addc (c := 1) (n := 1) rfl x3v)
                    refine ok_mono (ih vx1399 (1 : Int32) x5v vx1357 δ I (show 0 ≤ (x1).toInt by first | assumption | omega) (show (x1).toInt ≤ 3 by first | assumption | omega) (show 0 ≤ (x2).toInt by first | assumption | omega) (show (x2).toInt ≤ 3 by first | assumption | omega) (show 0 ≤ (x5v).toInt by first | assumption | omega) (show (x5v).toInt ≤ 2000 by first | assumption | omega) (show 0 ≤ (vx1357).toInt by first | assumption | omega) (show (vx1357).toInt ≤ 2000 by first | assumption | omega) (show 4000 - (x5v).toInt - (vx1357).toInt < _ by omega)) (fun r1406 hr1407 => ?_)
                    obtain ⟨i1408, ⟨u1409, u1410, u1411⟩⟩ := hr1407
                    have u1412 := kp_t kp_r u1409
                    have v1413 : q_V r1406.2 = q_V δ := (u1410).trans rfl
                    have v1414 := kr_t (kr_r (ad := ad)) u1411
                    have f1415 := ti_b r1406.1
                    exact ⟨by assumption, ⟨kp_w (by decide) u1412, v1413, kr_w (by decide) v1414⟩⟩
                · have c1416 : r840.1.toInt < r1256.1.toInt := o_nle h1376
                  unfold J_X12_runs_154
                  have f1417 := ti_b x4v
                  refine ok_ite (fun h1418 => ?_) (fun h1418 => ?_)
                  · have c1419 : (0 : Int) = x4v.toInt := o_eq h1418
                    unfold J_X12_runs_169
                    have f1422 := ti_b x3v
                    refine ok_biv (fun vx1420 e1421 => ?_)
                    first | (have q1423 := te_addc (c := 0) (n := 0) rfl x3v (by omega) (by omega); rw [← e1421] at q1423; obtain ⟨f1424, f1425, f1426⟩ := q1423) | (obtain ⟨q1423, f1424, f1425, f1426⟩ : ∃ q : Int, vx1420.toInt = x3v.toInt + (0 : Int) + 4294967296 * q ∧ -2147483648 ≤ vx1420.toInt ∧ vx1420.toInt ≤ 2147483647 := by rw [e1421]; exact ti_addc (c := 0) (n := 0) rfl x3v)
                    refine ok_mono (ih vx1420 (0 : Int32) x5v vx1357 δ I (show 0 ≤ (x1).toInt by first | assumption | omega) (show (x1).toInt ≤ 3 by first | assumption | omega) (show 0 ≤ (x2).toInt by first | assumption | omega) (show (x2).toInt ≤ 3 by first | assumption | omega) (show 0 ≤ (x5v).toInt by first | assumption | omega) (show (x5v).toInt ≤ 2000 by first | assumption | omega) (show 0 ≤ (vx1357).toInt by first | assumption | omega) (show (vx1357).toInt ≤ 2000 by first | assumption | omega) (show 4000 - (x5v).toInt - (vx1357).toInt < _ by omega)) (fun r1427 hr1428 => ?_)
                    obtain ⟨i1429, ⟨u1430, u1431, u1432⟩⟩ := hr1428
                    have u1433 := kp_t kp_r u1430
                    have v1434 : q_V r1427.2 = q_V δ := (u1431).trans rfl
                    have v1435 := kr_t (kr_r (ad := ad)) u1432
                    have f1436 := ti_b r1427.1
                    exact ⟨by assumption, ⟨kp_w (by decide) u1433, v1434, kr_w (by decide) v1435⟩⟩
                  · have c1437 : (0 : Int) ≠ x4v.toInt := o_ne h1418
                    unfold J_X12_runs_169
                    have f1440 := ti_b x3v
                    refine ok_biv (fun vx1438 e1439 => ?_)
                    first | (have q1441 := te_addc (c := 1) (n := 1) rfl x3v (by omega) (by omega); rw [← e1439] at q1441; obtain ⟨f1442, f1443, f1444⟩ := q1441) | (obtain ⟨q1441, f1442, f1443, f1444⟩ : ∃ q : Int, vx1438.toInt = x3v.toInt + (1 : Int) + 4294967296 * q ∧ -2147483648 ≤ vx1438.toInt ∧ vx1438.toInt ≤ 2147483647 := by rw [e1439]; exact ti_addc (c := 1) (n := 1) rfl x3v)
                    refine ok_mono (ih vx1438 (0 : Int32) x5v vx1357 δ I (show 0 ≤ (x1).toInt by first | assumption | omega) (show (x1).toInt ≤ 3 by first | assumption | omega) (show 0 ≤ (x2).toInt by first | assumption | omega) (show (x2).toInt ≤ 3 by first | assumption | omega) (show 0 ≤ (x5v).toInt by first | assumption | omega) (show (x5v).toInt ≤ 2000 by first | assumption | omega) (show 0 ≤ (vx1357).toInt by first | assumption | omega) (show (vx1357).toInt ≤ 2000 by first | assumption | omega) (show 4000 - (x5v).toInt - (vx1357).toInt < _ by omega)) (fun r1445 hr1446 => ?_)
                    obtain ⟨i1447, ⟨u1448, u1449, u1450⟩⟩ := hr1446
                    have u1451 := kp_t kp_r u1448
                    have v1452 : q_V r1445.2 = q_V δ := (u1449).trans rfl
                    have v1453 := kr_t (kr_r (ad := ad)) u1450
                    have f1454 := ti_b r1445.1
                    exact ⟨by assumption, ⟨kp_w (by decide) u1451, v1452, kr_w (by decide) v1453⟩⟩
          · have c1455 : r840.1.toInt ≤ r1256.1.toInt := o_nlt h1260
            refine ok_biv (fun vx1456 e1457 => ?_)
            first | (have q1458 := te_addc (c := 1) (n := 1) rfl x5v (by omega) (by omega); rw [← e1457] at q1458; obtain ⟨f1459, f1460, f1461⟩ := q1458) | (obtain ⟨q1458, f1459, f1460, f1461⟩ : ∃ q : Int, vx1456.toInt = x5v.toInt + (1 : Int) + 4294967296 * q ∧ -2147483648 ≤ vx1456.toInt ∧ vx1456.toInt ≤ 2147483647 := by rw [e1457]; exact ti_addc (c := 1) (n := 1) rfl x5v)
            unfold J_X12_runs_122
            refine ok_ite (fun h1462 => ?_) (fun h1462 => ?_)
            · have c1463 : r840.1.toInt < r1256.1.toInt := o_lt h1462
              unfold J_X12_runs_132
              refine ok_ite (fun h1464 => ?_) (fun h1464 => ?_)
              · have c1465 : r840.1.toInt = r1256.1.toInt := o_eq h1464
                refine ok_mono (ih x3v x4v vx1456 x6v δ I (show 0 ≤ (x1).toInt by first | assumption | omega) (show (x1).toInt ≤ 3 by first | assumption | omega) (show 0 ≤ (x2).toInt by first | assumption | omega) (show (x2).toInt ≤ 3 by first | assumption | omega) (show 0 ≤ (vx1456).toInt by first | assumption | omega) (show (vx1456).toInt ≤ 2000 by first | assumption | omega) (show 0 ≤ (x6v).toInt by first | assumption | omega) (show (x6v).toInt ≤ 2000 by first | assumption | omega) (show 4000 - (vx1456).toInt - (x6v).toInt < _ by omega)) (fun r1466 hr1467 => ?_)
                obtain ⟨i1468, ⟨u1469, u1470, u1471⟩⟩ := hr1467
                have u1472 := kp_t kp_r u1469
                have v1473 : q_V r1466.2 = q_V δ := (u1470).trans rfl
                have v1474 := kr_t (kr_r (ad := ad)) u1471
                have f1475 := ti_b r1466.1
                exact ⟨by assumption, ⟨kp_w (by decide) u1472, v1473, kr_w (by decide) v1474⟩⟩
              · have c1476 : r840.1.toInt ≠ r1256.1.toInt := o_ne h1464
                refine ok_ite (fun h1477 => ?_) (fun h1477 => ?_)
                · have c1478 : r1256.1.toInt ≤ r840.1.toInt := o_le h1477
                  unfold J_X12_runs_154
                  have f1479 := ti_b x4v
                  refine ok_ite (fun h1480 => ?_) (fun h1480 => ?_)
                  · have c1481 : (1 : Int) = x4v.toInt := o_eq h1480
                    unfold J_X12_runs_169
                    have f1484 := ti_b x3v
                    refine ok_biv (fun vx1482 e1483 => ?_)
                    first | (have q1485 := te_addc (c := 0) (n := 0) rfl x3v (by omega) (by omega); rw [← e1483] at q1485; obtain ⟨f1486, f1487, f1488⟩ := q1485) | (obtain ⟨q1485, f1486, f1487, f1488⟩ : ∃ q : Int, vx1482.toInt = x3v.toInt + (0 : Int) + 4294967296 * q ∧ -2147483648 ≤ vx1482.toInt ∧ vx1482.toInt ≤ 2147483647 := by rw [e1483]; exact ti_addc (c := 0) (n := 0) rfl x3v)
                    refine ok_mono (ih vx1482 (1 : Int32) vx1456 x6v δ I (show 0 ≤ (x1).toInt by first | assumption | omega) (show (x1).toInt ≤ 3 by first | assumption | omega) (show 0 ≤ (x2).toInt by first | assumption | omega) (show (x2).toInt ≤ 3 by first | assumption | omega) (show 0 ≤ (vx1456).toInt by first | assumption | omega) (show (vx1456).toInt ≤ 2000 by first | assumption | omega) (show 0 ≤ (x6v).toInt by first | assumption | omega) (show (x6v).toInt ≤ 2000 by first | assumption | omega) (show 4000 - (vx1456).toInt - (x6v).toInt < _ by omega)) (fun r1489 hr1490 => ?_)
                    obtain ⟨i1491, ⟨u1492, u1493, u1494⟩⟩ := hr1490
                    have u1495 := kp_t kp_r u1492
                    have v1496 : q_V r1489.2 = q_V δ := (u1493).trans rfl
                    have v1497 := kr_t (kr_r (ad := ad)) u1494
                    have f1498 := ti_b r1489.1
                    exact ⟨by assumption, ⟨kp_w (by decide) u1495, v1496, kr_w (by decide) v1497⟩⟩
                  · have c1499 : (1 : Int) ≠ x4v.toInt := o_ne h1480
                    unfold J_X12_runs_169
                    have f1502 := ti_b x3v
                    refine ok_biv (fun vx1500 e1501 => ?_)
                    first | (have q1503 := te_addc (c := 1) (n := 1) rfl x3v (by omega) (by omega); rw [← e1501] at q1503; obtain ⟨f1504, f1505, f1506⟩ := q1503) | (obtain ⟨q1503, f1504, f1505, f1506⟩ : ∃ q : Int, vx1500.toInt = x3v.toInt + (1 : Int) + 4294967296 * q ∧ -2147483648 ≤ vx1500.toInt ∧ vx1500.toInt ≤ 2147483647 := by rw [e1501]; exact ti_addc (c := 1) (n := 1) rfl x3v)
                    refine ok_mono (ih vx1500 (1 : Int32) vx1456 x6v δ I (show 0 ≤ (x1).toInt by first | assumption | omega) (show (x1).toInt ≤ 3 by first | assumption | omega) (show 0 ≤ (x2).toInt by first | assumption | omega) (show (x2).toInt ≤ 3 by first | assumption | omega) (show 0 ≤ (vx1456).toInt by first | assumption | omega) (show (vx1456).toInt ≤ 2000 by first | assumption | omega) (show 0 ≤ (x6v).toInt by first | assumption | omega) (show (x6v).toInt ≤ 2000 by first | assumption | omega) (show 4000 - (vx1456).toInt - (x6v).toInt < _ by omega)) (fun r1507 hr1508 => ?_)
                    obtain ⟨i1509, ⟨u1510, u1511, u1512⟩⟩ := hr1508
                    have u1513 := kp_t kp_r u1510
                    have v1514 : q_V r1507.2 = q_V δ := (u1511).trans rfl
                    have v1515 := kr_t (kr_r (ad := ad)) u1512
                    have f1516 := ti_b r1507.1
                    exact ⟨by assumption, ⟨kp_w (by decide) u1513, v1514, kr_w (by decide) v1515⟩⟩
                · have c1517 : r840.1.toInt < r1256.1.toInt := o_nle h1477
                  unfold J_X12_runs_154
                  have f1518 := ti_b x4v
                  refine ok_ite (fun h1519 => ?_) (fun h1519 => ?_)
                  · have c1520 : (0 : Int) = x4v.toInt := o_eq h1519
                    unfold J_X12_runs_169
                    have f1523 := ti_b x3v
                    refine ok_biv (fun vx1521 e1522 => ?_)
                    first | (have q1524 := te_addc (c := 0) (n := 0) rfl x3v (by omega) (by omega); rw [← e1522] at q1524; obtain ⟨f1525, f1526, f1527⟩ := q1524) | (obtain ⟨q1524, f1525, f1526, f1527⟩ : ∃ q : Int, vx1521.toInt = x3v.toInt + (0 : Int) + 4294967296 * q ∧ -2147483648 ≤ vx1521.toInt ∧ vx1521.toInt ≤ 2147483647 := by rw [e1522]; exact ti_addc (c := 0) (n := 0) rfl x3v)
                    refine ok_mono (ih vx1521 (0 : Int32) vx1456 x6v δ I (show 0 ≤ (x1).toInt by first | assumption | omega) (show (x1).toInt ≤ 3 by first | assumption | omega) (show 0 ≤ (x2).toInt by first | assumption | omega) (show (x2).toInt ≤ 3 by first | assumption | omega) (show 0 ≤ (vx1456).toInt by first | assumption | omega) (show (vx1456).toInt ≤ 2000 by first | assumption | omega) (show 0 ≤ (x6v).toInt by first | assumption | omega) (show (x6v).toInt ≤ 2000 by first | assumption | omega) (show 4000 - (vx1456).toInt - (x6v).toInt < _ by omega)) (fun r1528 hr1529 => ?_)
                    obtain ⟨i1530, ⟨u1531, u1532, u1533⟩⟩ := hr1529
                    have u1534 := kp_t kp_r u1531
                    have v1535 : q_V r1528.2 = q_V δ := (u1532).trans rfl
                    have v1536 := kr_t (kr_r (ad := ad)) u1533
                    have f1537 := ti_b r1528.1
                    exact ⟨by assumption, ⟨kp_w (by decide) u1534, v1535, kr_w (by decide) v1536⟩⟩
                  · have c1538 : (0 : Int) ≠ x4v.toInt := o_ne h1519
                    unfold J_X12_runs_169
                    have f1541 := ti_b x3v
                    refine ok_biv (fun vx1539 e1540 => ?_)
                    first | (have q1542 := te_addc (c := 1) (n := 1) rfl x3v (by omega) (by omega); rw [← e1540] at q1542; obtain ⟨f1543, f1544, f1545⟩ := q1542) | (obtain ⟨q1542, f1543, f1544, f1545⟩ : ∃ q : Int, vx1539.toInt = x3v.toInt + (1 : Int) + 4294967296 * q ∧ -2147483648 ≤ vx1539.toInt ∧ vx1539.toInt ≤ 2147483647 := by rw [e1540]; exact ti_addc (c := 1) (n := 1) rfl x3v)
                    refine ok_mono (ih vx1539 (0 : Int32) vx1456 x6v δ I (show 0 ≤ (x1).toInt by first | assumption | omega) (show (x1).toInt ≤ 3 by first | assumption | omega) (show 0 ≤ (x2).toInt by first | assumption | omega) (show (x2).toInt ≤ 3 by first | assumption | omega) (show 0 ≤ (vx1456).toInt by first | assumption | omega) (show (vx1456).toInt ≤ 2000 by first | assumption | omega) (show 0 ≤ (x6v).toInt by first | assumption | omega) (show (x6v).toInt ≤ 2000 by first | assumption | omega) (show 4000 - (vx1456).toInt - (x6v).toInt < _ by omega)) (fun r1546 hr1547 => ?_)
                    obtain ⟨i1548, ⟨u1549, u1550, u1551⟩⟩ := hr1547
                    have u1552 := kp_t kp_r u1549
                    have v1553 : q_V r1546.2 = q_V δ := (u1550).trans rfl
                    have v1554 := kr_t (kr_r (ad := ad)) u1551
                    have f1555 := ti_b r1546.1
                    exact ⟨by assumption, ⟨kp_w (by decide) u1552, v1553, kr_w (by decide) v1554⟩⟩
            · have c1556 : r1256.1.toInt ≤ r840.1.toInt := o_nlt h1462
              refine ok_biv (fun vx1557 e1558 => ?_)
              first | (have q1559 := te_addc (c := 1) (n := 1) rfl x6v (by omega) (by omega); rw [← e1558] at q1559; obtain ⟨f1560, f1561, f1562⟩ := q1559) | (obtain ⟨q1559, f1560, f1561, f1562⟩ : ∃ q : Int, vx1557.toInt = x6v.toInt + (1 : Int) + 4294967296 * q ∧ -2147483648 ≤ vx1557.toInt ∧ vx1557.toInt ≤ 2147483647 := by rw [e1558]; exact ti_addc (c := 1) (n := 1) rfl x6v)
              unfold J_X12_runs_132
              refine ok_ite (fun h1563 => ?_) (fun h1563 => ?_)
              · have c1564 : r840.1.toInt = r1256.1.toInt := o_eq h1563
                refine ok_mono (ih x3v x4v vx1456 vx1557 δ I (show 0 ≤ (x1).toInt by first | assumption | omega) (show (x1).toInt ≤ 3 by first | assumption | omega) (show 0 ≤ (x2).toInt by first | assumption | omega) (show (x2).toInt ≤ 3 by first | assumption | omega) (show 0 ≤ (vx1456).toInt by first | assumption | omega) (show (vx1456).toInt ≤ 2000 by first | assumption | omega) (show 0 ≤ (vx1557).toInt by first | assumption | omega) (show (vx1557).toInt ≤ 2000 by first | assumption | omega) (show 4000 - (vx1456).toInt - (vx1557).toInt < _ by omega)) (fun r1565 hr1566 => ?_)
                obtain ⟨i1567, ⟨u1568, u1569, u1570⟩⟩ := hr1566
                have u1571 := kp_t kp_r u1568
                have v1572 : q_V r1565.2 = q_V δ := (u1569).trans rfl
                have v1573 := kr_t (kr_r (ad := ad)) u1570
                have f1574 := ti_b r1565.1
                exact ⟨by assumption, ⟨kp_w (by decide) u1571, v1572, kr_w (by decide) v1573⟩⟩
              · have c1575 : r840.1.toInt ≠ r1256.1.toInt := o_ne h1563
                refine ok_ite (fun h1576 => ?_) (fun h1576 => ?_)
                · have c1577 : r1256.1.toInt ≤ r840.1.toInt := o_le h1576
                  unfold J_X12_runs_154
                  have f1578 := ti_b x4v
                  refine ok_ite (fun h1579 => ?_) (fun h1579 => ?_)
                  · have c1580 : (1 : Int) = x4v.toInt := o_eq h1579
                    unfold J_X12_runs_169
                    have f1583 := ti_b x3v
                    refine ok_biv (fun vx1581 e1582 => ?_)
                    first | (have q1584 := te_addc (c := 0) (n := 0) rfl x3v (by omega) (by omega); rw [← e1582] at q1584; obtain ⟨f1585, f1586, f1587⟩ := q1584) | (obtain ⟨q1584, f1585, f1586, f1587⟩ : ∃ q : Int, vx1581.toInt = x3v.toInt + (0 : Int) + 4294967296 * q ∧ -2147483648 ≤ vx1581.toInt ∧ vx1581.toInt ≤ 2147483647 := by rw [e1582]; exact ti_addc (c := 0) (n := 0) rfl x3v)
                    refine ok_mono (ih vx1581 (1 : Int32) vx1456 vx1557 δ I (show 0 ≤ (x1).toInt by first | assumption | omega) (show (x1).toInt ≤ 3 by first | assumption | omega) (show 0 ≤ (x2).toInt by first | assumption | omega) (show (x2).toInt ≤ 3 by first | assumption | omega) (show 0 ≤ (vx1456).toInt by first | assumption | omega) (show (vx1456).toInt ≤ 2000 by first | assumption | omega) (show 0 ≤ (vx1557).toInt by first | assumption | omega) (show (vx1557).toInt ≤ 2000 by first | assumption | omega) (show 4000 - (vx1456).toInt - (vx1557).toInt < _ by omega)) (fun r1588 hr1589 => ?_)
                    obtain ⟨i1590, ⟨u1591, u1592, u1593⟩⟩ := hr1589
                    have u1594 := kp_t kp_r u1591
                    have v1595 : q_V r1588.2 = q_V δ := (u1592).trans rfl
                    have v1596 := kr_t (kr_r (ad := ad)) u1593
                    have f1597 := ti_b r1588.1
                    exact ⟨by assumption, ⟨kp_w (by decide) u1594, v1595, kr_w (by decide) v1596⟩⟩
                  · have c1598 : (1 : Int) ≠ x4v.toInt := o_ne h1579
                    unfold J_X12_runs_169
                    have f1601 := ti_b x3v
                    refine ok_biv (fun vx1599 e1600 => ?_)
                    first | (have q1602 := te_addc (c := 1) (n := 1) rfl x3v (by omega) (by omega); rw [← e1600] at q1602; obtain ⟨f1603, f1604, f1605⟩ := q1602) | (obtain ⟨q1602, f1603, f1604, f1605⟩ : ∃ q : Int, vx1599.toInt = x3v.toInt + (1 : Int) + 4294967296 * q ∧ -2147483648 ≤ vx1599.toInt ∧ vx1599.toInt ≤ 2147483647 := by rw [e1600]; exact ti_addc (c := 1) (n := 1) rfl x3v)
                    refine ok_mono (ih vx1599 (1 : Int32) vx1456 vx1557 δ I (show 0 ≤ (x1).toInt by first | assumption | omega) (show (x1).toInt ≤ 3 by first | assumption | omega) (show 0 ≤ (x2).toInt by first | assumption | omega) (show (x2).toInt ≤ 3 by first | assumption | omega) (show 0 ≤ (vx1456).toInt by first | assumption | omega) (show (vx1456).toInt ≤ 2000 by first | assumption | omega) (show 0 ≤ (vx1557).toInt by first | assumption | omega) (show (vx1557).toInt ≤ 2000 by first | assumption | omega) (show 4000 - (vx1456).toInt - (vx1557).toInt < _ by omega)) (fun r1606 hr1607 => ?_)
                    obtain ⟨i1608, ⟨u1609, u1610, u1611⟩⟩ := hr1607
                    have u1612 := kp_t kp_r u1609
                    have v1613 : q_V r1606.2 = q_V δ := (u1610).trans rfl
                    have v1614 := kr_t (kr_r (ad := ad)) u1611
                    have f1615 := ti_b r1606.1
                    exact ⟨by assumption, ⟨kp_w (by decide) u1612, v1613, kr_w (by decide) v1614⟩⟩
                · have c1616 : r840.1.toInt < r1256.1.toInt := o_nle h1576
                  unfold J_X12_runs_154
                  have f1617 := ti_b x4v
                  refine ok_ite (fun h1618 => ?_) (fun h1618 => ?_)
                  · have c1619 : (0 : Int) = x4v.toInt := o_eq h1618
                    unfold J_X12_runs_169
                    have f1622 := ti_b x3v
                    refine ok_biv (fun vx1620 e1621 => ?_)
                    first | (have q1623 := te_addc (c := 0) (n := 0) rfl x3v (by omega) (by omega); rw [← e1621] at q1623; obtain ⟨f1624, f1625, f1626⟩ := q1623) | (obtain ⟨q1623, f1624, f1625, f1626⟩ : ∃ q : Int, vx1620.toInt = x3v.toInt + (0 : Int) + 4294967296 * q ∧ -2147483648 ≤ vx1620.toInt ∧ vx1620.toInt ≤ 2147483647 := by rw [e1621]; exact ti_addc (c := 0) (n := 0) rfl x3v)
                    refine ok_mono (ih vx1620 (0 : Int32) vx1456 vx1557 δ I (show 0 ≤ (x1).toInt by first | assumption | omega) (show (x1).toInt ≤ 3 by first | assumption | omega) (show 0 ≤ (x2).toInt by first | assumption | omega) (show (x2).toInt ≤ 3 by first | assumption | omega) (show 0 ≤ (vx1456).toInt by first | assumption | omega) (show (vx1456).toInt ≤ 2000 by first | assumption | omega) (show 0 ≤ (vx1557).toInt by first | assumption | omega) (show (vx1557).toInt ≤ 2000 by first | assumption | omega) (show 4000 - (vx1456).toInt - (vx1557).toInt < _ by omega)) (fun r1627 hr1628 => ?_)
                    obtain ⟨i1629, ⟨u1630, u1631, u1632⟩⟩ := hr1628
                    have u1633 := kp_t kp_r u1630
                    have v1634 : q_V r1627.2 = q_V δ := (u1631).trans rfl
                    have v1635 := kr_t (kr_r (ad := ad)) u1632
                    have f1636 := ti_b r1627.1
                    exact ⟨by assumption, ⟨kp_w (by decide) u1633, v1634, kr_w (by decide) v1635⟩⟩
                  · have c1637 : (0 : Int) ≠ x4v.toInt := o_ne h1618
                    unfold J_X12_runs_169
                    have f1640 := ti_b x3v
                    refine ok_biv (fun vx1638 e1639 => ?_)
                    first | (have q1641 := te_addc (c := 1) (n := 1) rfl x3v (by omega) (by omega); rw [← e1639] at q1641; obtain ⟨f1642, f1643, f1644⟩ := q1641) | (obtain ⟨q1641, f1642, f1643, f1644⟩ : ∃ q : Int, vx1638.toInt = x3v.toInt + (1 : Int) + 4294967296 * q ∧ -2147483648 ≤ vx1638.toInt ∧ vx1638.toInt ≤ 2147483647 := by rw [e1639]; exact ti_addc (c := 1) (n := 1) rfl x3v)
                    refine ok_mono (ih vx1638 (0 : Int32) vx1456 vx1557 δ I (show 0 ≤ (x1).toInt by first | assumption | omega) (show (x1).toInt ≤ 3 by first | assumption | omega) (show 0 ≤ (x2).toInt by first | assumption | omega) (show (x2).toInt ≤ 3 by first | assumption | omega) (show 0 ≤ (vx1456).toInt by first | assumption | omega) (show (vx1456).toInt ≤ 2000 by first | assumption | omega) (show 0 ≤ (vx1557).toInt by first | assumption | omega) (show (vx1557).toInt ≤ 2000 by first | assumption | omega) (show 4000 - (vx1456).toInt - (vx1557).toInt < _ by omega)) (fun r1645 hr1646 => ?_)
                    obtain ⟨i1647, ⟨u1648, u1649, u1650⟩⟩ := hr1646
                    have u1651 := kp_t kp_r u1648
                    have v1652 : q_V r1645.2 = q_V δ := (u1649).trans rfl
                    have v1653 := kr_t (kr_r (ad := ad)) u1650
                    have f1654 := ti_b r1645.1
                    exact ⟨by assumption, ⟨kp_w (by decide) u1651, v1652, kr_w (by decide) v1653⟩⟩
    · have c1655 : (q_R δ (Ad ad 103) x1.toNatClampNeg).toInt ≤ x5v.toInt := o_nlt h13
      refine ok_at o6 ?_
      have t1656 := ti_tn x2
      refine ok_gd (fun hc1657 => ?_) ?_
      · rcases hc1657 with hc1657 | hc1657
        · have c1658 : x2.toInt < (0 : Int) := o_lt hc1657
          omega
        · omega
      have f1659 := rb_103 L I x2.toNatClampNeg
      refine ok_ite (fun h1660 => ?_) (fun h1660 => ?_)
      · have c1661 : (q_R δ (Ad ad 103) x2.toNatClampNeg).toInt ≤ x6v.toInt := o_le h1660
        exact ok_some (show RI ad h.1 δ0 δ ∧ (kp [(12, 0)] δ δ ∧ q_V δ = q_V δ ∧ kr ad [100] δ δ) from ⟨I, ⟨kp_w (by decide) kp_r, rfl, kr_w (by decide) (kr_r (ad := ad))⟩⟩)
      · have c1662 : x6v.toInt < (q_R δ (Ad ad 103) x2.toNatClampNeg).toInt := o_nle h1660
        unfold J_X12_runs_58
        refine ok_at o6 ?_
        refine ok_gd (fun hc1663 => ?_) ?_
        · rcases hc1663 with hc1663 | hc1663
          · have c1664 : x1.toInt < (0 : Int) := o_lt hc1663
            omega
          · omega
        refine ok_ite (fun h1665 => ?_) (fun h1665 => ?_)
        · have c1666 : (q_R δ (Ad ad 103) x1.toNatClampNeg).toInt ≤ x5v.toInt := o_le h1665
          refine ok_bind (k_X12_all L hN (a0 := a0) k_a0 I) (fun r1667 hr1668 => ?_)
          obtain ⟨i1669, p1670, p1671, p1672, p1673⟩ := hr1668
          try rw [i1669]
          have f1674 := ti_b r1667.1
          have f1675 := cb_12_10 I k_a0
          have f1676 := ti_b r1667.1
          unfold J_X12_runs_83
          refine ok_at o6 ?_
          refine ok_gd (fun hc1677 => ?_) ?_
          · rcases hc1677 with hc1677 | hc1677
            · have c1678 : x2.toInt < (0 : Int) := o_lt hc1677
              omega
            · omega
          refine ok_ite (fun h1679 => ?_) (fun h1679 => ?_)
          · have c1680 : (q_R δ (Ad ad 103) x2.toNatClampNeg).toInt ≤ x6v.toInt := o_le h1679
            refine ok_bind (k_X12_all L hN (a0 := a0) k_a0 I) (fun r1681 hr1682 => ?_)
            obtain ⟨i1683, p1684, p1685, p1686, p1687⟩ := hr1682
            try rw [i1683]
            have f1688 := ti_b r1681.1
            have f1689 := ti_b r1681.1
            unfold J_X12_runs_110
            refine ok_ite (fun h1690 => ?_) (fun h1690 => ?_)
            · have c1691 : r1681.1.toInt < r1667.1.toInt := o_lt h1690
              unfold J_X12_runs_122
              refine ok_ite (fun h1692 => ?_) (fun h1692 => ?_)
              · have c1693 : r1667.1.toInt < r1681.1.toInt := o_lt h1692
                unfold J_X12_runs_132
                refine ok_ite (fun h1694 => ?_) (fun h1694 => ?_)
                · have c1695 : r1667.1.toInt = r1681.1.toInt := o_eq h1694
                  refine ok_mono (ih x3v x4v x5v x6v δ I (show 0 ≤ (x1).toInt by first | assumption | omega) (show (x1).toInt ≤ 3 by first | assumption | omega) (show 0 ≤ (x2).toInt by first | assumption | omega) (show (x2).toInt ≤ 3 by first | assumption | omega) (show 0 ≤ (x5v).toInt by first | assumption | omega) (show (x5v).toInt ≤ 2000 by first | assumption | omega) (show 0 ≤ (x6v).toInt by first | assumption | omega) (show (x6v).toInt ≤ 2000 by first | assumption | omega) (show 4000 - (x5v).toInt - (x6v).toInt < _ by omega)) (fun r1696 hr1697 => ?_)
                  obtain ⟨i1698, ⟨u1699, u1700, u1701⟩⟩ := hr1697
                  have u1702 := kp_t kp_r u1699
                  have v1703 : q_V r1696.2 = q_V δ := (u1700).trans rfl
                  have v1704 := kr_t (kr_r (ad := ad)) u1701
                  have f1705 := ti_b r1696.1
                  exact ⟨by assumption, ⟨kp_w (by decide) u1702, v1703, kr_w (by decide) v1704⟩⟩
                · have c1706 : r1667.1.toInt ≠ r1681.1.toInt := o_ne h1694
                  refine ok_ite (fun h1707 => ?_) (fun h1707 => ?_)
                  · have c1708 : r1681.1.toInt ≤ r1667.1.toInt := o_le h1707
                    unfold J_X12_runs_154
                    have f1709 := ti_b x4v
                    refine ok_ite (fun h1710 => ?_) (fun h1710 => ?_)
                    · have c1711 : (1 : Int) = x4v.toInt := o_eq h1710
                      unfold J_X12_runs_169
                      have f1714 := ti_b x3v
                      refine ok_biv (fun vx1712 e1713 => ?_)
                      first | (have q1715 := te_addc (c := 0) (n := 0) rfl x3v (by omega) (by omega); rw [← e1713] at q1715; obtain ⟨f1716, f1717, f1718⟩ := q1715) | (obtain ⟨q1715, f1716, f1717, f1718⟩ : ∃ q : Int, vx1712.toInt = x3v.toInt + (0 : Int) + 4294967296 * q ∧ -2147483648 ≤ vx1712.toInt ∧ vx1712.toInt ≤ 2147483647 := by rw [e1713]; exact ti_addc (c := 0) (n := 0) rfl x3v)
                      refine ok_mono (ih vx1712 (1 : Int32) x5v x6v δ I (show 0 ≤ (x1).toInt by first | assumption | omega) (show (x1).toInt ≤ 3 by first | assumption | omega) (show 0 ≤ (x2).toInt by first | assumption | omega) (show (x2).toInt ≤ 3 by first | assumption | omega) (show 0 ≤ (x5v).toInt by first | assumption | omega) (show (x5v).toInt ≤ 2000 by first | assumption | omega) (show 0 ≤ (x6v).toInt by first | assumption | omega) (show (x6v).toInt ≤ 2000 by first | assumption | omega) (show 4000 - (x5v).toInt - (x6v).toInt < _ by omega)) (fun r1719 hr1720 => ?_)
                      obtain ⟨i1721, ⟨u1722, u1723, u1724⟩⟩ := hr1720
                      have u1725 := kp_t kp_r u1722
                      have v1726 : q_V r1719.2 = q_V δ := (u1723).trans rfl
                      have v1727 := kr_t (kr_r (ad := ad)) u1724
                      have f1728 := ti_b r1719.1
                      exact ⟨by assumption, ⟨kp_w (by decide) u1725, v1726, kr_w (by decide) v1727⟩⟩
                    · have c1729 : (1 : Int) ≠ x4v.toInt := o_ne h1710
                      unfold J_X12_runs_169
                      have f1732 := ti_b x3v
                      refine ok_biv (fun vx1730 e1731 => ?_)
                      first | (have q1733 := te_addc (c := 1) (n := 1) rfl x3v (by omega) (by omega); rw [← e1731] at q1733; obtain ⟨f1734, f1735, f1736⟩ := q1733) | (obtain ⟨q1733, f1734, f1735, f1736⟩ : ∃ q : Int, vx1730.toInt = x3v.toInt + (1 : Int) + 4294967296 * q ∧ -2147483648 ≤ vx1730.toInt ∧ vx1730.toInt ≤ 2147483647 := by rw [e1731]; exact ti_addc (c := 1) (n := 1) rfl x3v)
                      refine ok_mono (ih vx1730 (1 : Int32) x5v x6v δ I (show 0 ≤ (x1).toInt by first | assumption | omega) (show (x1).toInt ≤ 3 by first | assumption | omega) (show 0 ≤ (x2).toInt by first | assumption | omega) (show (x2).toInt ≤ 3 by first | assumption | omega) (show 0 ≤ (x5v).toInt by first | assumption | omega) (show (x5v).toInt ≤ 2000 by first | assumption | omega) (show 0 ≤ (x6v).toInt by first | assumption | omega) (show (x6v).toInt ≤ 2000 by first | assumption | omega) (show 4000 - (x5v).toInt - (x6v).toInt < _ by omega)) (fun r1737 hr1738 => ?_)
                      obtain ⟨i1739, ⟨u1740, u1741, u1742⟩⟩ := hr1738
                      have u1743 := kp_t kp_r u1740
                      have v1744 : q_V r1737.2 = q_V δ := (u1741).trans rfl
                      have v1745 := kr_t (kr_r (ad := ad)) u1742
                      have f1746 := ti_b r1737.1
                      exact ⟨by assumption, ⟨kp_w (by decide) u1743, v1744, kr_w (by decide) v1745⟩⟩
                  · have c1747 : r1667.1.toInt < r1681.1.toInt := o_nle h1707
                    unfold J_X12_runs_154
                    have f1748 := ti_b x4v
                    refine ok_ite (fun h1749 => ?_) (fun h1749 => ?_)
                    · have c1750 : (0 : Int) = x4v.toInt := o_eq h1749
                      unfold J_X12_runs_169
                      have f1753 := ti_b x3v
                      refine ok_biv (fun vx1751 e1752 => ?_)
                      first | (have q1754 := te_addc (c := 0) (n := 0) rfl x3v (by omega) (by omega); rw [← e1752] at q1754; obtain ⟨f1755, f1756, f1757⟩ := q1754) | (obtain ⟨q1754, f1755, f1756, f1757⟩ : ∃ q : Int, vx1751.toInt = x3v.toInt + (0 : Int) + 4294967296 * q ∧ -2147483648 ≤ vx1751.toInt ∧ vx1751.toInt ≤ 2147483647 := by rw [e1752]; exact ti_addc (c := 0) (n := 0) rfl x3v)
                      refine ok_mono (ih vx1751 (0 : Int32) x5v x6v δ I (show 0 ≤ (x1).toInt by first | assumption | omega) (show (x1).toInt ≤ 3 by first | assumption | omega) (show 0 ≤ (x2).toInt by first | assumption | omega) (show (x2).toInt ≤ 3 by first | assumption | omega) (show 0 ≤ (x5v).toInt by first | assumption | omega) (show (x5v).toInt ≤ 2000 by first | assumption | omega) (show 0 ≤ (x6v).toInt by first | assumption | omega) (show (x6v).toInt ≤ 2000 by first | assumption | omega) (show 4000 - (x5v).toInt - (x6v).toInt < _ by omega)) (fun r1758 hr1759 => ?_)
                      obtain ⟨i1760, ⟨u1761, u1762, u1763⟩⟩ := hr1759
                      have u1764 := kp_t kp_r u1761
                      have v1765 : q_V r1758.2 = q_V δ := (u1762).trans rfl
                      have v1766 := kr_t (kr_r (ad := ad)) u1763
                      have f1767 := ti_b r1758.1
                      exact ⟨by assumption, ⟨kp_w (by decide) u1764, v1765, kr_w (by decide) v1766⟩⟩
                    · have c1768 : (0 : Int) ≠ x4v.toInt := o_ne h1749
                      unfold J_X12_runs_169
                      have f1771 := ti_b x3v
                      refine ok_biv (fun vx1769 e1770 => ?_)
                      first | (have q1772 := te_addc (c := 1) (n := 1) rfl x3v (by omega) (by omega); rw [← e1770] at q1772; obtain ⟨f1773, f1774, f1775⟩ := q1772) | (obtain ⟨q1772, f1773, f1774, f1775⟩ : ∃ q : Int, vx1769.toInt = x3v.toInt + (1 : Int) + 4294967296 * q ∧ -2147483648 ≤ vx1769.toInt ∧ vx1769.toInt ≤ 2147483647 := by rw [e1770]; exact ti_addc (c := 1) (n := 1) rfl x3v)
                      refine ok_mono (ih vx1769 (0 : Int32) x5v x6v δ I (show 0 ≤ (x1).toInt by first | assumption | omega) (show (x1).toInt ≤ 3 by first | assumption | omega) (show 0 ≤ (x2).toInt by first | assumption | omega) (show (x2).toInt ≤ 3 by first | assumption | omega) (show 0 ≤ (x5v).toInt by first | assumption | omega) (show (x5v).toInt ≤ 2000 by first | assumption | omega) (show 0 ≤ (x6v).toInt by first | assumption | omega) (show (x6v).toInt ≤ 2000 by first | assumption | omega) (show 4000 - (x5v).toInt - (x6v).toInt < _ by omega)) (fun r1776 hr1777 => ?_)
                      obtain ⟨i1778, ⟨u1779, u1780, u1781⟩⟩ := hr1777
                      have u1782 := kp_t kp_r u1779
                      have v1783 : q_V r1776.2 = q_V δ := (u1780).trans rfl
                      have v1784 := kr_t (kr_r (ad := ad)) u1781
                      have f1785 := ti_b r1776.1
                      exact ⟨by assumption, ⟨kp_w (by decide) u1782, v1783, kr_w (by decide) v1784⟩⟩
              · have c1786 : r1681.1.toInt ≤ r1667.1.toInt := o_nlt h1692
                refine ok_biv (fun vx1787 e1788 => ?_)
                first | (have q1789 := te_addc (c := 1) (n := 1) rfl x6v (by omega) (by omega); rw [← e1788] at q1789; obtain ⟨f1790, f1791, f1792⟩ := q1789) | (obtain ⟨q1789, f1790, f1791, f1792⟩ : ∃ q : Int, vx1787.toInt = x6v.toInt + (1 : Int) + 4294967296 * q ∧ -2147483648 ≤ vx1787.toInt ∧ vx1787.toInt ≤ 2147483647 := by rw [e1788]; exact ti_addc (c := 1) (n := 1) rfl x6v)
                unfold J_X12_runs_132
                refine ok_ite (fun h1793 => ?_) (fun h1793 => ?_)
                · have c1794 : r1667.1.toInt = r1681.1.toInt := o_eq h1793
                  refine ok_mono (ih x3v x4v x5v vx1787 δ I (show 0 ≤ (x1).toInt by first | assumption | omega) (show (x1).toInt ≤ 3 by first | assumption | omega) (show 0 ≤ (x2).toInt by first | assumption | omega) (show (x2).toInt ≤ 3 by first | assumption | omega) (show 0 ≤ (x5v).toInt by first | assumption | omega) (show (x5v).toInt ≤ 2000 by first | assumption | omega) (show 0 ≤ (vx1787).toInt by first | assumption | omega) (show (vx1787).toInt ≤ 2000 by first | assumption | omega) (show 4000 - (x5v).toInt - (vx1787).toInt < _ by omega)) (fun r1795 hr1796 => ?_)
                  obtain ⟨i1797, ⟨u1798, u1799, u1800⟩⟩ := hr1796
                  have u1801 := kp_t kp_r u1798
                  have v1802 : q_V r1795.2 = q_V δ := (u1799).trans rfl
                  have v1803 := kr_t (kr_r (ad := ad)) u1800
                  have f1804 := ti_b r1795.1
                  exact ⟨by assumption, ⟨kp_w (by decide) u1801, v1802, kr_w (by decide) v1803⟩⟩
                · have c1805 : r1667.1.toInt ≠ r1681.1.toInt := o_ne h1793
                  refine ok_ite (fun h1806 => ?_) (fun h1806 => ?_)
                  · have c1807 : r1681.1.toInt ≤ r1667.1.toInt := o_le h1806
                    unfold J_X12_runs_154
                    have f1808 := ti_b x4v
                    refine ok_ite (fun h1809 => ?_) (fun h1809 => ?_)
                    · have c1810 : (1 : Int) = x4v.toInt := o_eq h1809
                      unfold J_X12_runs_169
                      have f1813 := ti_b x3v
                      refine ok_biv (fun vx1811 e1812 => ?_)
                      first | (have q1814 := te_addc (c := 0) (n := 0) rfl x3v (by omega) (by omega); rw [← e1812] at q1814; obtain ⟨f1815, f1816, f1817⟩ := q1814) | (obtain ⟨q1814, f1815, f1816, f1817⟩ : ∃ q : Int, vx1811.toInt = x3v.toInt + (0 : Int) + 4294967296 * q ∧ -2147483648 ≤ vx1811.toInt ∧ vx1811.toInt ≤ 2147483647 := by rw [e1812]; exact ti_addc (c := 0) (n := 0) rfl x3v)
                      refine ok_mono (ih vx1811 (1 : Int32) x5v vx1787 δ I (show 0 ≤ (x1).toInt by first | assumption | omega) (show (x1).toInt ≤ 3 by first | assumption | omega) (show 0 ≤ (x2).toInt by first | assumption | omega) (show (x2).toInt ≤ 3 by first | assumption | omega) (show 0 ≤ (x5v).toInt by first | assumption | omega) (show (x5v).toInt ≤ 2000 by first | assumption | omega) (show 0 ≤ (vx1787).toInt by first | assumption | omega) (show (vx1787).toInt ≤ 2000 by first | assumption | omega) (show 4000 - (x5v).toInt - (vx1787).toInt < _ by omega)) (fun r1818 hr1819 => ?_)
                      obtain ⟨i1820, ⟨u1821, u1822, u1823⟩⟩ := hr1819
                      have u1824 := kp_t kp_r u1821
                      have v1825 : q_V r1818.2 = q_V δ := (u1822).trans rfl
                      have v1826 := kr_t (kr_r (ad := ad)) u1823
                      have f1827 := ti_b r1818.1
                      exact ⟨by assumption, ⟨kp_w (by decide) u1824, v1825, kr_w (by decide) v1826⟩⟩
                    · have c1828 : (1 : Int) ≠ x4v.toInt := o_ne h1809
                      unfold J_X12_runs_169
                      have f1831 := ti_b x3v
                      refine ok_biv (fun vx1829 e1830 => ?_)
                      first | (have q1832 := te_addc (c := 1) (n := 1) rfl x3v (by omega) (by omega); rw [← e1830] at q1832; obtain ⟨f1833, f1834, f1835⟩ := q1832) | (obtain ⟨q1832, f1833, f1834, f1835⟩ : ∃ q : Int, vx1829.toInt = x3v.toInt + (1 : Int) + 4294967296 * q ∧ -2147483648 ≤ vx1829.toInt ∧ vx1829.toInt ≤ 2147483647 := by rw [e1830]; exact ti_addc (c := 1) (n := 1) rfl x3v)
                      refine ok_mono (ih vx1829 (1 : Int32) x5v vx1787 δ I (show 0 ≤ (x1).toInt by first | assumption | omega) (show (x1).toInt ≤ 3 by first | assumption | omega) (show 0 ≤ (x2).toInt by first | assumption | omega) (show (x2).toInt ≤ 3 by first | assumption | omega) (show 0 ≤ (x5v).toInt by first | assumption | omega) (show (x5v).toInt ≤ 2000 by first | assumption | omega) (show 0 ≤ (vx1787).toInt by first | assumption | omega) (show (vx1787).toInt ≤ 2000 by first | assumption | omega) (show 4000 - (x5v).toInt - (vx1787).toInt < _ by omega)) (fun r1836 hr1837 => ?_)
                      obtain ⟨i1838, ⟨u1839, u1840, u1841⟩⟩ := hr1837
                      have u1842 := kp_t kp_r u1839
                      have v1843 : q_V r1836.2 = q_V δ := (u1840).trans rfl
                      have v1844 := kr_t (kr_r (ad := ad)) u1841
                      have f1845 := ti_b r1836.1
                      exact ⟨by assumption, ⟨kp_w (by decide) u1842, v1843, kr_w (by decide) v1844⟩⟩
                  · have c1846 : r1667.1.toInt < r1681.1.toInt := o_nle h1806
                    unfold J_X12_runs_154
                    have f1847 := ti_b x4v
                    refine ok_ite (fun h1848 => ?_) (fun h1848 => ?_)
                    · have c1849 : (0 : Int) = x4v.toInt := o_eq h1848
                      unfold J_X12_runs_169
                      have f1852 := ti_b x3v
                      refine ok_biv (fun vx1850 e1851 => ?_)
                      first | (have q1853 := te_addc (c := 0) (n := 0) rfl x3v (by omega) (by omega); rw [← e1851] at q1853; obtain ⟨f1854, f1855, f1856⟩ := q1853) | (obtain ⟨q1853, f1854, f1855, f1856⟩ : ∃ q : Int, vx1850.toInt = x3v.toInt + (0 : Int) + 4294967296 * q ∧ -2147483648 ≤ vx1850.toInt ∧ vx1850.toInt ≤ 2147483647 := by rw [e1851]; exact ti_addc (c := 0) (n := 0) rfl x3v)
                      refine ok_mono (ih vx1850 (0 : Int32) x5v vx1787 δ I (show 0 ≤ (x1).toInt by first | assumption | omega) (show (x1).toInt ≤ 3 by first | assumption | omega) (show 0 ≤ (x2).toInt by first | assumption | omega) (show (x2).toInt ≤ 3 by first | assumption | omega) (show 0 ≤ (x5v).toInt by first | assumption | omega) (show (x5v).toInt ≤ 2000 by first | assumption | omega) (show 0 ≤ (vx1787).toInt by first | assumption | omega) (show (vx1787).toInt ≤ 2000 by first | assumption | omega) (show 4000 - (x5v).toInt - (vx1787).toInt < _ by omega)) (fun r1857 hr1858 => ?_)
                      obtain ⟨i1859, ⟨u1860, u1861, u1862⟩⟩ := hr1858
                      have u1863 := kp_t kp_r u1860
                      have v1864 : q_V r1857.2 = q_V δ := (u1861).trans rfl
                      have v1865 := kr_t (kr_r (ad := ad)) u1862
                      have f1866 := ti_b r1857.1
                      exact ⟨by assumption, ⟨kp_w (by decide) u1863, v1864, kr_w (by decide) v1865⟩⟩
                    · have c1867 : (0 : Int) ≠ x4v.toInt := o_ne h1848
                      unfold J_X12_runs_169
                      have f1870 := ti_b x3v
                      refine ok_biv (fun vx1868 e1869 => ?_)
                      first | (have q1871 := te_addc (c := 1) (n := 1) rfl x3v (by omega) (by omega); rw [← e1869] at q1871; obtain ⟨f1872, f1873, f1874⟩ := q1871) | (obtain ⟨q1871, f1872, f1873, f1874⟩ : ∃ q : Int, vx1868.toInt = x3v.toInt + (1 : Int) + 4294967296 * q ∧ -2147483648 ≤ vx1868.toInt ∧ vx1868.toInt ≤ 2147483647 := by rw [e1869]; exact ti_addc (c := 1) (n := 1) rfl x3v)
                      refine ok_mono (ih vx1868 (0 : Int32) x5v vx1787 δ I (show 0 ≤ (x1).toInt by first | assumption | omega) (show (x1).toInt ≤ 3 by first | assumption | omega) (show 0 ≤ (x2).toInt by first | assumption | omega) (show (x2).toInt ≤ 3 by first | assumption | omega) (show 0 ≤ (x5v).toInt by first | assumption | omega) (show (x5v).toInt ≤ 2000 by first | assumption | omega) (show 0 ≤ (vx1787).toInt by first | assumption | omega) (show (vx1787).toInt ≤ 2000 by first | assumption | omega) (show 4000 - (x5v).toInt - (vx1787).toInt < _ by omega)) (fun r1875 hr1876 => ?_)
                      obtain ⟨i1877, ⟨u1878, u1879, u1880⟩⟩ := hr1876
                      have u1881 := kp_t kp_r u1878
                      have v1882 : q_V r1875.2 = q_V δ := (u1879).trans rfl
                      have v1883 := kr_t (kr_r (ad := ad)) u1880
                      have f1884 := ti_b r1875.1
                      exact ⟨by assumption, ⟨kp_w (by decide) u1881, v1882, kr_w (by decide) v1883⟩⟩
            · have c1885 : r1667.1.toInt ≤ r1681.1.toInt := o_nlt h1690
              refine ok_biv (fun vx1886 e1887 => ?_)
              first | (have q1888 := te_addc (c := 1) (n := 1) rfl x5v (by omega) (by omega); rw [← e1887] at q1888; obtain ⟨f1889, f1890, f1891⟩ := q1888) | (obtain ⟨q1888, f1889, f1890, f1891⟩ : ∃ q : Int, vx1886.toInt = x5v.toInt + (1 : Int) + 4294967296 * q ∧ -2147483648 ≤ vx1886.toInt ∧ vx1886.toInt ≤ 2147483647 := by rw [e1887]; exact ti_addc (c := 1) (n := 1) rfl x5v)
              unfold J_X12_runs_122
              refine ok_ite (fun h1892 => ?_) (fun h1892 => ?_)
              · have c1893 : r1667.1.toInt < r1681.1.toInt := o_lt h1892
                unfold J_X12_runs_132
                refine ok_ite (fun h1894 => ?_) (fun h1894 => ?_)
                · have c1895 : r1667.1.toInt = r1681.1.toInt := o_eq h1894
                  refine ok_mono (ih x3v x4v vx1886 x6v δ I (show 0 ≤ (x1).toInt by first | assumption | omega) (show (x1).toInt ≤ 3 by first | assumption | omega) (show 0 ≤ (x2).toInt by first | assumption | omega) (show (x2).toInt ≤ 3 by first | assumption | omega) (show 0 ≤ (vx1886).toInt by first | assumption | omega) (show (vx1886).toInt ≤ 2000 by first | assumption | omega) (show 0 ≤ (x6v).toInt by first | assumption | omega) (show (x6v).toInt ≤ 2000 by first | assumption | omega) (show 4000 - (vx1886).toInt - (x6v).toInt < _ by omega)) (fun r1896 hr1897 => ?_)
                  obtain ⟨i1898, ⟨u1899, u1900, u1901⟩⟩ := hr1897
                  have u1902 := kp_t kp_r u1899
                  have v1903 : q_V r1896.2 = q_V δ := (u1900).trans rfl
                  have v1904 := kr_t (kr_r (ad := ad)) u1901
                  have f1905 := ti_b r1896.1
                  exact ⟨by assumption, ⟨kp_w (by decide) u1902, v1903, kr_w (by decide) v1904⟩⟩
                · have c1906 : r1667.1.toInt ≠ r1681.1.toInt := o_ne h1894
                  refine ok_ite (fun h1907 => ?_) (fun h1907 => ?_)
                  · have c1908 : r1681.1.toInt ≤ r1667.1.toInt := o_le h1907
                    unfold J_X12_runs_154
                    have f1909 := ti_b x4v
                    refine ok_ite (fun h1910 => ?_) (fun h1910 => ?_)
                    · have c1911 : (1 : Int) = x4v.toInt := o_eq h1910
                      unfold J_X12_runs_169
                      have f1914 := ti_b x3v
                      refine ok_biv (fun vx1912 e1913 => ?_)
                      first | (have q1915 := te_addc (c := 0) (n := 0) rfl x3v (by omega) (by omega); rw [← e1913] at q1915; obtain ⟨f1916, f1917, f1918⟩ := q1915) | (obtain ⟨q1915, f1916, f1917, f1918⟩ : ∃ q : Int, vx1912.toInt = x3v.toInt + (0 : Int) + 4294967296 * q ∧ -2147483648 ≤ vx1912.toInt ∧ vx1912.toInt ≤ 2147483647 := by rw [e1913]; exact ti_addc (c := 0) (n := 0) rfl x3v)
                      refine ok_mono (ih vx1912 (1 : Int32) vx1886 x6v δ I (show 0 ≤ (x1).toInt by first | assumption | omega) (show (x1).toInt ≤ 3 by first | assumption | omega) (show 0 ≤ (x2).toInt by first | assumption | omega) (show (x2).toInt ≤ 3 by first | assumption | omega) (show 0 ≤ (vx1886).toInt by first | assumption | omega) (show (vx1886).toInt ≤ 2000 by first | assumption | omega) (show 0 ≤ (x6v).toInt by first | assumption | omega) (show (x6v).toInt ≤ 2000 by first | assumption | omega) (show 4000 - (vx1886).toInt - (x6v).toInt < _ by omega)) (fun r1919 hr1920 => ?_)
                      obtain ⟨i1921, ⟨u1922, u1923, u1924⟩⟩ := hr1920
                      have u1925 := kp_t kp_r u1922
                      have v1926 : q_V r1919.2 = q_V δ := (u1923).trans rfl
                      have v1927 := kr_t (kr_r (ad := ad)) u1924
                      have f1928 := ti_b r1919.1
                      exact ⟨by assumption, ⟨kp_w (by decide) u1925, v1926, kr_w (by decide) v1927⟩⟩
                    · have c1929 : (1 : Int) ≠ x4v.toInt := o_ne h1910
                      unfold J_X12_runs_169
                      have f1932 := ti_b x3v
                      refine ok_biv (fun vx1930 e1931 => ?_)
                      first | (have q1933 := te_addc (c := 1) (n := 1) rfl x3v (by omega) (by omega); rw [← e1931] at q1933; obtain ⟨f1934, f1935, f1936⟩ := q1933) | (obtain ⟨q1933, f1934, f1935, f1936⟩ : ∃ q : Int, vx1930.toInt = x3v.toInt + (1 : Int) + 4294967296 * q ∧ -2147483648 ≤ vx1930.toInt ∧ vx1930.toInt ≤ 2147483647 := by rw [e1931]; exact ti_addc (c := 1) (n := 1) rfl x3v)
                      refine ok_mono (ih vx1930 (1 : Int32) vx1886 x6v δ I (show 0 ≤ (x1).toInt by first | assumption | omega) (show (x1).toInt ≤ 3 by first | assumption | omega) (show 0 ≤ (x2).toInt by first | assumption | omega) (show (x2).toInt ≤ 3 by first | assumption | omega) (show 0 ≤ (vx1886).toInt by first | assumption | omega) (show (vx1886).toInt ≤ 2000 by first | assumption | omega) (show 0 ≤ (x6v).toInt by first | assumption | omega) (show (x6v).toInt ≤ 2000 by first | assumption | omega) (show 4000 - (vx1886).toInt - (x6v).toInt < _ by omega)) (fun r1937 hr1938 => ?_)
                      obtain ⟨i1939, ⟨u1940, u1941, u1942⟩⟩ := hr1938
                      have u1943 := kp_t kp_r u1940
                      have v1944 : q_V r1937.2 = q_V δ := (u1941).trans rfl
                      have v1945 := kr_t (kr_r (ad := ad)) u1942
                      have f1946 := ti_b r1937.1
                      exact ⟨by assumption, ⟨kp_w (by decide) u1943, v1944, kr_w (by decide) v1945⟩⟩
                  · have c1947 : r1667.1.toInt < r1681.1.toInt := o_nle h1907
                    unfold J_X12_runs_154
                    have f1948 := ti_b x4v
                    refine ok_ite (fun h1949 => ?_) (fun h1949 => ?_)
                    · have c1950 : (0 : Int) = x4v.toInt := o_eq h1949
                      unfold J_X12_runs_169
                      have f1953 := ti_b x3v
                      refine ok_biv (fun vx1951 e1952 => ?_)
                      first | (have q1954 := te_addc (c := 0) (n := 0) rfl x3v (by omega) (by omega); rw [← e1952] at q1954; obtain ⟨f1955, f1956, f1957⟩ := q1954) | (obtain ⟨q1954, f1955, f1956, f1957⟩ : ∃ q : Int, vx1951.toInt = x3v.toInt + (0 : Int) + 4294967296 * q ∧ -2147483648 ≤ vx1951.toInt ∧ vx1951.toInt ≤ 2147483647 := by rw [e1952]; exact ti_addc (c := 0) (n := 0) rfl x3v)
                      refine ok_mono (ih vx1951 (0 : Int32) vx1886 x6v δ I (show 0 ≤ (x1).toInt by first | assumption | omega) (show (x1).toInt ≤ 3 by first | assumption | omega) (show 0 ≤ (x2).toInt by first | assumption | omega) (show (x2).toInt ≤ 3 by first | assumption | omega) (show 0 ≤ (vx1886).toInt by first | assumption | omega) (show (vx1886).toInt ≤ 2000 by first | assumption | omega) (show 0 ≤ (x6v).toInt by first | assumption | omega) (show (x6v).toInt ≤ 2000 by first | assumption | omega) (show 4000 - (vx1886).toInt - (x6v).toInt < _ by omega)) (fun r1958 hr1959 => ?_)
                      obtain ⟨i1960, ⟨u1961, u1962, u1963⟩⟩ := hr1959
                      have u1964 := kp_t kp_r u1961
                      have v1965 : q_V r1958.2 = q_V δ := (u1962).trans rfl
                      have v1966 := kr_t (kr_r (ad := ad)) u1963
                      have f1967 := ti_b r1958.1
                      exact ⟨by assumption, ⟨kp_w (by decide) u1964, v1965, kr_w (by decide) v1966⟩⟩
                    · have c1968 : (0 : Int) ≠ x4v.toInt := o_ne h1949
                      unfold J_X12_runs_169
                      have f1971 := ti_b x3v
                      refine ok_biv (fun vx1969 e1970 => ?_)
                      first | (have q1972 := te_addc (c := 1) (n := 1) rfl x3v (by omega) (by omega); rw [← e1970] at q1972; obtain ⟨f1973, f1974, f1975⟩ := q1972) | (obtain ⟨q1972, f1973, f1974, f1975⟩ : ∃ q : Int, vx1969.toInt = x3v.toInt + (1 : Int) + 4294967296 * q ∧ -2147483648 ≤ vx1969.toInt ∧ vx1969.toInt ≤ 2147483647 := by rw [e1970]; exact ti_addc (c := 1) (n := 1) rfl x3v)
                      refine ok_mono (ih vx1969 (0 : Int32) vx1886 x6v δ I (show 0 ≤ (x1).toInt by first | assumption | omega) (show (x1).toInt ≤ 3 by first | assumption | omega) (show 0 ≤ (x2).toInt by first | assumption | omega) (show (x2).toInt ≤ 3 by first | assumption | omega) (show 0 ≤ (vx1886).toInt by first | assumption | omega) (show (vx1886).toInt ≤ 2000 by first | assumption | omega) (show 0 ≤ (x6v).toInt by first | assumption | omega) (show (x6v).toInt ≤ 2000 by first | assumption | omega) (show 4000 - (vx1886).toInt - (x6v).toInt < _ by omega)) (fun r1976 hr1977 => ?_)
                      obtain ⟨i1978, ⟨u1979, u1980, u1981⟩⟩ := hr1977
                      have u1982 := kp_t kp_r u1979
                      have v1983 : q_V r1976.2 = q_V δ := (u1980).trans rfl
                      have v1984 := kr_t (kr_r (ad := ad)) u1981
                      have f1985 := ti_b r1976.1
                      exact ⟨by assumption, ⟨kp_w (by decide) u1982, v1983, kr_w (by decide) v1984⟩⟩
              · have c1986 : r1681.1.toInt ≤ r1667.1.toInt := o_nlt h1892
                refine ok_biv (fun vx1987 e1988 => ?_)
                first | (have q1989 := te_addc (c := 1) (n := 1) rfl x6v (by omega) (by omega); rw [← e1988] at q1989; obtain ⟨f1990, f1991, f1992⟩ := q1989) | (obtain ⟨q1989, f1990, f1991, f1992⟩ : ∃ q : Int, vx1987.toInt = x6v.toInt + (1 : Int) + 4294967296 * q ∧ -2147483648 ≤ vx1987.toInt ∧ vx1987.toInt ≤ 2147483647 := by rw [e1988]; exact ti_addc (c := 1) (n := 1) rfl x6v)
                unfold J_X12_runs_132
                refine ok_ite (fun h1993 => ?_) (fun h1993 => ?_)
                · have c1994 : r1667.1.toInt = r1681.1.toInt := o_eq h1993
                  refine ok_mono (ih x3v x4v vx1886 vx1987 δ I (show 0 ≤ (x1).toInt by first | assumption | omega) (show (x1).toInt ≤ 3 by first | assumption | omega) (show 0 ≤ (x2).toInt by first | assumption | omega) (show (x2).toInt ≤ 3 by first | assumption | omega) (show 0 ≤ (vx1886).toInt by first | assumption | omega) (show (vx1886).toInt ≤ 2000 by first | assumption | omega) (show 0 ≤ (vx1987).toInt by first | assumption | omega) (show (vx1987).toInt ≤ 2000 by first | assumption | omega) (show 4000 - (vx1886).toInt - (vx1987).toInt < _ by omega)) (fun r1995 hr1996 => ?_)
                  obtain ⟨i1997, ⟨u1998, u1999, u2000⟩⟩ := hr1996
                  have u2001 := kp_t kp_r u1998
                  have v2002 : q_V r1995.2 = q_V δ := (u1999).trans rfl
                  have v2003 := kr_t (kr_r (ad := ad)) u2000
                  have f2004 := ti_b r1995.1
                  exact ⟨by assumption, ⟨kp_w (by decide) u2001, v2002, kr_w (by decide) v2003⟩⟩
                · have c2005 : r1667.1.toInt ≠ r1681.1.toInt := o_ne h1993
                  refine ok_ite (fun h2006 => ?_) (fun h2006 => ?_)
                  · have c2007 : r1681.1.toInt ≤ r1667.1.toInt := o_le h2006
                    unfold J_X12_runs_154
                    have f2008 := ti_b x4v
                    refine ok_ite (fun h2009 => ?_) (fun h2009 => ?_)
                    · have c2010 : (1 : Int) = x4v.toInt := o_eq h2009
                      unfold J_X12_runs_169
                      have f2013 := ti_b x3v
                      refine ok_biv (fun vx2011 e2012 => ?_)
                      first | (have q2014 := te_addc (c := 0) (n := 0) rfl x3v (by omega) (by omega); rw [← e2012] at q2014; obtain ⟨f2015, f2016, f2017⟩ := q2014) | (obtain ⟨q2014, f2015, f2016, f2017⟩ : ∃ q : Int, vx2011.toInt = x3v.toInt + (0 : Int) + 4294967296 * q ∧ -2147483648 ≤ vx2011.toInt ∧ vx2011.toInt ≤ 2147483647 := by rw [e2012]; exact ti_addc (c := 0) (n := 0) rfl x3v)
                      refine ok_mono (ih vx2011 (1 : Int32) vx1886 vx1987 δ I (show 0 ≤ (x1).toInt by first | assumption | omega) (show (x1).toInt ≤ 3 by first | assumption | omega) (show 0 ≤ (x2).toInt by first | assumption | omega) (show (x2).toInt ≤ 3 by first | assumption | omega) (show 0 ≤ (vx1886).toInt by first | assumption | omega) (show (vx1886).toInt ≤ 2000 by first | assumption | omega) (show 0 ≤ (vx1987).toInt by first | assumption | omega) (show (vx1987).toInt ≤ 2000 by first | assumption | omega) (show 4000 - (vx1886).toInt - (vx1987).toInt < _ by omega)) (fun r2018 hr2019 => ?_)
                      obtain ⟨i2020, ⟨u2021, u2022, u2023⟩⟩ := hr2019
                      have u2024 := kp_t kp_r u2021
                      have v2025 : q_V r2018.2 = q_V δ := (u2022).trans rfl
                      have v2026 := kr_t (kr_r (ad := ad)) u2023
                      have f2027 := ti_b r2018.1
                      exact ⟨by assumption, ⟨kp_w (by decide) u2024, v2025, kr_w (by decide) v2026⟩⟩
                    · have c2028 : (1 : Int) ≠ x4v.toInt := o_ne h2009
                      unfold J_X12_runs_169
                      have f2031 := ti_b x3v
                      refine ok_biv (fun vx2029 e2030 => ?_)
                      first | (have q2032 := te_addc (c := 1) (n := 1) rfl x3v (by omega) (by omega); rw [← e2030] at q2032; obtain ⟨f2033, f2034, f2035⟩ := q2032) | (obtain ⟨q2032, f2033, f2034, f2035⟩ : ∃ q : Int, vx2029.toInt = x3v.toInt + (1 : Int) + 4294967296 * q ∧ -2147483648 ≤ vx2029.toInt ∧ vx2029.toInt ≤ 2147483647 := by rw [e2030]; exact ti_addc (c := 1) (n := 1) rfl x3v)
                      refine ok_mono (ih vx2029 (1 : Int32) vx1886 vx1987 δ I (show 0 ≤ (x1).toInt by first | assumption | omega) (show (x1).toInt ≤ 3 by first | assumption | omega) (show 0 ≤ (x2).toInt by first | assumption | omega) (show (x2).toInt ≤ 3 by first | assumption | omega) (show 0 ≤ (vx1886).toInt by first | assumption | omega) (show (vx1886).toInt ≤ 2000 by first | assumption | omega) (show 0 ≤ (vx1987).toInt by first | assumption | omega) (show (vx1987).toInt ≤ 2000 by first | assumption | omega) (show 4000 - (vx1886).toInt - (vx1987).toInt < _ by omega)) (fun r2036 hr2037 => ?_)
                      obtain ⟨i2038, ⟨u2039, u2040, u2041⟩⟩ := hr2037
                      have u2042 := kp_t kp_r u2039
                      have v2043 : q_V r2036.2 = q_V δ := (u2040).trans rfl
                      have v2044 := kr_t (kr_r (ad := ad)) u2041
                      have f2045 := ti_b r2036.1
                      exact ⟨by assumption, ⟨kp_w (by decide) u2042, v2043, kr_w (by decide) v2044⟩⟩
                  · have c2046 : r1667.1.toInt < r1681.1.toInt := o_nle h2006
                    unfold J_X12_runs_154
                    have f2047 := ti_b x4v
                    refine ok_ite (fun h2048 => ?_) (fun h2048 => ?_)
                    · have c2049 : (0 : Int) = x4v.toInt := o_eq h2048
                      unfold J_X12_runs_169
                      have f2052 := ti_b x3v
                      refine ok_biv (fun vx2050 e2051 => ?_)
                      first | (have q2053 := te_addc (c := 0) (n := 0) rfl x3v (by omega) (by omega); rw [← e2051] at q2053; obtain ⟨f2054, f2055, f2056⟩ := q2053) | (obtain ⟨q2053, f2054, f2055, f2056⟩ : ∃ q : Int, vx2050.toInt = x3v.toInt + (0 : Int) + 4294967296 * q ∧ -2147483648 ≤ vx2050.toInt ∧ vx2050.toInt ≤ 2147483647 := by rw [e2051]; exact ti_addc (c := 0) (n := 0) rfl x3v)
                      refine ok_mono (ih vx2050 (0 : Int32) vx1886 vx1987 δ I (show 0 ≤ (x1).toInt by first | assumption | omega) (show (x1).toInt ≤ 3 by first | assumption | omega) (show 0 ≤ (x2).toInt by first | assumption | omega) (show (x2).toInt ≤ 3 by first | assumption | omega) (show 0 ≤ (vx1886).toInt by first | assumption | omega) (show (vx1886).toInt ≤ 2000 by first | assumption | omega) (show 0 ≤ (vx1987).toInt by first | assumption | omega) (show (vx1987).toInt ≤ 2000 by first | assumption | omega) (show 4000 - (vx1886).toInt - (vx1987).toInt < _ by omega)) (fun r2057 hr2058 => ?_)
                      obtain ⟨i2059, ⟨u2060, u2061, u2062⟩⟩ := hr2058
                      have u2063 := kp_t kp_r u2060
                      have v2064 : q_V r2057.2 = q_V δ := (u2061).trans rfl
                      have v2065 := kr_t (kr_r (ad := ad)) u2062
                      have f2066 := ti_b r2057.1
                      exact ⟨by assumption, ⟨kp_w (by decide) u2063, v2064, kr_w (by decide) v2065⟩⟩
                    · have c2067 : (0 : Int) ≠ x4v.toInt := o_ne h2048
                      unfold J_X12_runs_169
                      have f2070 := ti_b x3v
                      refine ok_biv (fun vx2068 e2069 => ?_)
                      first | (have q2071 := te_addc (c := 1) (n := 1) rfl x3v (by omega) (by omega); rw [← e2069] at q2071; obtain ⟨f2072, f2073, f2074⟩ := q2071) | (obtain ⟨q2071, f2072, f2073, f2074⟩ : ∃ q : Int, vx2068.toInt = x3v.toInt + (1 : Int) + 4294967296 * q ∧ -2147483648 ≤ vx2068.toInt ∧ vx2068.toInt ≤ 2147483647 := by rw [e2069]; exact ti_addc (c := 1) (n := 1) rfl x3v)
                      refine ok_mono (ih vx2068 (0 : Int32) vx1886 vx1987 δ I (show 0 ≤ (x1).toInt by first | assumption | omega) (show (x1).toInt ≤ 3 by first | assumption | omega) (show 0 ≤ (x2).toInt by first | assumption | omega) (show (x2).toInt ≤ 3 by first | assumption | omega) (show 0 ≤ (vx1886).toInt by first | assumption | omega) (show (vx1886).toInt ≤ 2000 by first | assumption | omega) (show 0 ≤ (vx1987).toInt by first | assumption | omega) (show (vx1987).toInt ≤ 2000 by first | assumption | omega) (show 4000 - (vx1886).toInt - (vx1987).toInt < _ by omega)) (fun r2075 hr2076 => ?_)
                      obtain ⟨i2077, ⟨u2078, u2079, u2080⟩⟩ := hr2076
                      have u2081 := kp_t kp_r u2078
                      have v2082 : q_V r2075.2 = q_V δ := (u2079).trans rfl
                      have v2083 := kr_t (kr_r (ad := ad)) u2080
                      have f2084 := ti_b r2075.1
                      exact ⟨by assumption, ⟨kp_w (by decide) u2081, v2082, kr_w (by decide) v2083⟩⟩
          · have c2085 : x6v.toInt < (q_R δ (Ad ad 103) x2.toNatClampNeg).toInt := o_nle h1679
            refine ok_bind (k_X12_numberAt L hN (a0 := a0) (x1 := x2) (x2 := x6v) k_a0 (show 0 ≤ (x2).toInt by first | assumption | omega) (show (x2).toInt ≤ 3 by first | assumption | omega) I) (fun r2086 hr2087 => ?_)
            have i2088 := hr2087
            try rw [i2088]
            have f2089 := ti_b r2086.1
            unfold J_X12_runs_110
            refine ok_ite (fun h2090 => ?_) (fun h2090 => ?_)
            · have c2091 : r2086.1.toInt < r1667.1.toInt := o_lt h2090
              unfold J_X12_runs_122
              refine ok_ite (fun h2092 => ?_) (fun h2092 => ?_)
              · have c2093 : r1667.1.toInt < r2086.1.toInt := o_lt h2092
                unfold J_X12_runs_132
                refine ok_ite (fun h2094 => ?_) (fun h2094 => ?_)
                · have c2095 : r1667.1.toInt = r2086.1.toInt := o_eq h2094
                  refine ok_mono (ih x3v x4v x5v x6v δ I (show 0 ≤ (x1).toInt by first | assumption | omega) (show (x1).toInt ≤ 3 by first | assumption | omega) (show 0 ≤ (x2).toInt by first | assumption | omega) (show (x2).toInt ≤ 3 by first | assumption | omega) (show 0 ≤ (x5v).toInt by first | assumption | omega) (show (x5v).toInt ≤ 2000 by first | assumption | omega) (show 0 ≤ (x6v).toInt by first | assumption | omega) (show (x6v).toInt ≤ 2000 by first | assumption | omega) (show 4000 - (x5v).toInt - (x6v).toInt < _ by omega)) (fun r2096 hr2097 => ?_)
                  obtain ⟨i2098, ⟨u2099, u2100, u2101⟩⟩ := hr2097
                  have u2102 := kp_t kp_r u2099
                  have v2103 : q_V r2096.2 = q_V δ := (u2100).trans rfl
                  have v2104 := kr_t (kr_r (ad := ad)) u2101
                  have f2105 := ti_b r2096.1
                  exact ⟨by assumption, ⟨kp_w (by decide) u2102, v2103, kr_w (by decide) v2104⟩⟩
                · have c2106 : r1667.1.toInt ≠ r2086.1.toInt := o_ne h2094
                  refine ok_ite (fun h2107 => ?_) (fun h2107 => ?_)
                  · have c2108 : r2086.1.toInt ≤ r1667.1.toInt := o_le h2107
                    unfold J_X12_runs_154
                    have f2109 := ti_b x4v
                    refine ok_ite (fun h2110 => ?_) (fun h2110 => ?_)
                    · have c2111 : (1 : Int) = x4v.toInt := o_eq h2110
                      unfold J_X12_runs_169
                      have f2114 := ti_b x3v
                      refine ok_biv (fun vx2112 e2113 => ?_)
                      first | (have q2115 := te_addc (c := 0) (n := 0) rfl x3v (by omega) (by omega); rw [← e2113] at q2115; obtain ⟨f2116, f2117, f2118⟩ := q2115) | (obtain ⟨q2115, f2116, f2117, f2118⟩ : ∃ q : Int, vx2112.toInt = x3v.toInt + (0 : Int) + 4294967296 * q ∧ -2147483648 ≤ vx2112.toInt ∧ vx2112.toInt ≤ 2147483647 := by rw [e2113]; exact ti_addc (c := 0) (n := 0) rfl x3v)
                      refine ok_mono (ih vx2112 (1 : Int32) x5v x6v δ I (show 0 ≤ (x1).toInt by first | assumption | omega) (show (x1).toInt ≤ 3 by first | assumption | omega) (show 0 ≤ (x2).toInt by first | assumption | omega) (show (x2).toInt ≤ 3 by first | assumption | omega) (show 0 ≤ (x5v).toInt by first | assumption | omega) (show (x5v).toInt ≤ 2000 by first | assumption | omega) (show 0 ≤ (x6v).toInt by first | assumption | omega) (show (x6v).toInt ≤ 2000 by first | assumption | omega) (show 4000 - (x5v).toInt - (x6v).toInt < _ by omega)) (fun r2119 hr2120 => ?_)
                      obtain ⟨i2121, ⟨u2122, u2123, u2124⟩⟩ := hr2120
                      have u2125 := kp_t kp_r u2122
                      have v2126 : q_V r2119.2 = q_V δ := (u2123).trans rfl
                      have v2127 := kr_t (kr_r (ad := ad)) u2124
                      have f2128 := ti_b r2119.1
                      exact ⟨by assumption, ⟨kp_w (by decide) u2125, v2126, kr_w (by decide) v2127⟩⟩
                    · have c2129 : (1 : Int) ≠ x4v.toInt := o_ne h2110
                      unfold J_X12_runs_169
                      have f2132 := ti_b x3v
                      refine ok_biv (fun vx2130 e2131 => ?_)
                      first | (have q2133 := te_addc (c := 1) (n := 1) rfl x3v (by omega) (by omega); rw [← e2131] at q2133; obtain ⟨f2134, f2135, f2136⟩ := q2133) | (obtain ⟨q2133, f2134, f2135, f2136⟩ : ∃ q : Int, vx2130.toInt = x3v.toInt + (1 : Int) + 4294967296 * q ∧ -2147483648 ≤ vx2130.toInt ∧ vx2130.toInt ≤ 2147483647 := by rw [e2131]; exact ti_addc (c := 1) (n := 1) rfl x3v)
                      refine ok_mono (ih vx2130 (1 : Int32) x5v x6v δ I (show 0 ≤ (x1).toInt by first | assumption | omega) (show (x1).toInt ≤ 3 by first | assumption | omega) (show 0 ≤ (x2).toInt by first | assumption | omega) (show (x2).toInt ≤ 3 by first | assumption | omega) (show 0 ≤ (x5v).toInt by first | assumption | omega) (show (x5v).toInt ≤ 2000 by first | assumption | omega) (show 0 ≤ (x6v).toInt by first | assumption | omega) (show (x6v).toInt ≤ 2000 by first | assumption | omega) (show 4000 - (x5v).toInt - (x6v).toInt < _ by omega)) (fun r2137 hr2138 => ?_)
                      obtain ⟨i2139, ⟨u2140, u2141, u2142⟩⟩ := hr2138
                      have u2143 := kp_t kp_r u2140
                      have v2144 : q_V r2137.2 = q_V δ := (u2141).trans rfl
                      have v2145 := kr_t (kr_r (ad := ad)) u2142
                      have f2146 := ti_b r2137.1
                      exact ⟨by assumption, ⟨kp_w (by decide) u2143, v2144, kr_w (by decide) v2145⟩⟩
                  · have c2147 : r1667.1.toInt < r2086.1.toInt := o_nle h2107
                    unfold J_X12_runs_154
                    have f2148 := ti_b x4v
                    refine ok_ite (fun h2149 => ?_) (fun h2149 => ?_)
                    · have c2150 : (0 : Int) = x4v.toInt := o_eq h2149
                      unfold J_X12_runs_169
                      have f2153 := ti_b x3v
                      refine ok_biv (fun vx2151 e2152 => ?_)
                      first | (have q2154 := te_addc (c := 0) (n := 0) rfl x3v (by omega) (by omega); rw [← e2152] at q2154; obtain ⟨f2155, f2156, f2157⟩ := q2154) | (obtain ⟨q2154, f2155, f2156, f2157⟩ : ∃ q : Int, vx2151.toInt = x3v.toInt + (0 : Int) + 4294967296 * q ∧ -2147483648 ≤ vx2151.toInt ∧ vx2151.toInt ≤ 2147483647 := by rw [e2152]; exact ti_addc (c := 0) (n := 0) rfl x3v)
                      refine ok_mono (ih vx2151 (0 : Int32) x5v x6v δ I (show 0 ≤ (x1).toInt by first | assumption | omega) (show (x1).toInt ≤ 3 by first | assumption | omega) (show 0 ≤ (x2).toInt by first | assumption | omega) (show (x2).toInt ≤ 3 by first | assumption | omega) (show 0 ≤ (x5v).toInt by first | assumption | omega) (show (x5v).toInt ≤ 2000 by first | assumption | omega) (show 0 ≤ (x6v).toInt by first | assumption | omega) (show (x6v).toInt ≤ 2000 by first | assumption | omega) (show 4000 - (x5v).toInt - (x6v).toInt < _ by omega)) (fun r2158 hr2159 => ?_)
                      obtain ⟨i2160, ⟨u2161, u2162, u2163⟩⟩ := hr2159
                      have u2164 := kp_t kp_r u2161
                      have v2165 : q_V r2158.2 = q_V δ := (u2162).trans rfl
                      have v2166 := kr_t (kr_r (ad := ad)) u2163
                      have f2167 := ti_b r2158.1
                      exact ⟨by assumption, ⟨kp_w (by decide) u2164, v2165, kr_w (by decide) v2166⟩⟩
                    · have c2168 : (0 : Int) ≠ x4v.toInt := o_ne h2149
                      unfold J_X12_runs_169
                      have f2171 := ti_b x3v
                      refine ok_biv (fun vx2169 e2170 => ?_)
                      first | (have q2172 := te_addc (c := 1) (n := 1) rfl x3v (by omega) (by omega); rw [← e2170] at q2172; obtain ⟨f2173, f2174, f2175⟩ := q2172) | (obtain ⟨q2172, f2173, f2174, f2175⟩ : ∃ q : Int, vx2169.toInt = x3v.toInt + (1 : Int) + 4294967296 * q ∧ -2147483648 ≤ vx2169.toInt ∧ vx2169.toInt ≤ 2147483647 := by rw [e2170]; exact ti_addc (c := 1) (n := 1) rfl x3v)
                      refine ok_mono (ih vx2169 (0 : Int32) x5v x6v δ I (show 0 ≤ (x1).toInt by first | assumption | omega) (show (x1).toInt ≤ 3 by first | assumption | omega) (show 0 ≤ (x2).toInt by first | assumption | omega) (show (x2).toInt ≤ 3 by first | assumption | omega) (show 0 ≤ (x5v).toInt by first | assumption | omega) (show (x5v).toInt ≤ 2000 by first | assumption | omega) (show 0 ≤ (x6v).toInt by first | assumption | omega) (show (x6v).toInt ≤ 2000 by first | assumption | omega) (show 4000 - (x5v).toInt - (x6v).toInt < _ by omega)) (fun r2176 hr2177 => ?_)
                      obtain ⟨i2178, ⟨u2179, u2180, u2181⟩⟩ := hr2177
                      have u2182 := kp_t kp_r u2179
                      have v2183 : q_V r2176.2 = q_V δ := (u2180).trans rfl
                      have v2184 := kr_t (kr_r (ad := ad)) u2181
                      have f2185 := ti_b r2176.1
                      exact ⟨by assumption, ⟨kp_w (by decide) u2182, v2183, kr_w (by decide) v2184⟩⟩
              · have c2186 : r2086.1.toInt ≤ r1667.1.toInt := o_nlt h2092
                refine ok_biv (fun vx2187 e2188 => ?_)
                first | (have q2189 := te_addc (c := 1) (n := 1) rfl x6v (by omega) (by omega); rw [← e2188] at q2189; obtain ⟨f2190, f2191, f2192⟩ := q2189) | (obtain ⟨q2189, f2190, f2191, f2192⟩ : ∃ q : Int, vx2187.toInt = x6v.toInt + (1 : Int) + 4294967296 * q ∧ -2147483648 ≤ vx2187.toInt ∧ vx2187.toInt ≤ 2147483647 := by rw [e2188]; exact ti_addc (c := 1) (n := 1) rfl x6v)
                unfold J_X12_runs_132
                refine ok_ite (fun h2193 => ?_) (fun h2193 => ?_)
                · have c2194 : r1667.1.toInt = r2086.1.toInt := o_eq h2193
                  refine ok_mono (ih x3v x4v x5v vx2187 δ I (show 0 ≤ (x1).toInt by first | assumption | omega) (show (x1).toInt ≤ 3 by first | assumption | omega) (show 0 ≤ (x2).toInt by first | assumption | omega) (show (x2).toInt ≤ 3 by first | assumption | omega) (show 0 ≤ (x5v).toInt by first | assumption | omega) (show (x5v).toInt ≤ 2000 by first | assumption | omega) (show 0 ≤ (vx2187).toInt by first | assumption | omega) (show (vx2187).toInt ≤ 2000 by first | assumption | omega) (show 4000 - (x5v).toInt - (vx2187).toInt < _ by omega)) (fun r2195 hr2196 => ?_)
                  obtain ⟨i2197, ⟨u2198, u2199, u2200⟩⟩ := hr2196
                  have u2201 := kp_t kp_r u2198
                  have v2202 : q_V r2195.2 = q_V δ := (u2199).trans rfl
                  have v2203 := kr_t (kr_r (ad := ad)) u2200
                  have f2204 := ti_b r2195.1
                  exact ⟨by assumption, ⟨kp_w (by decide) u2201, v2202, kr_w (by decide) v2203⟩⟩
                · have c2205 : r1667.1.toInt ≠ r2086.1.toInt := o_ne h2193
                  refine ok_ite (fun h2206 => ?_) (fun h2206 => ?_)
                  · have c2207 : r2086.1.toInt ≤ r1667.1.toInt := o_le h2206
                    unfold J_X12_runs_154
                    have f2208 := ti_b x4v
                    refine ok_ite (fun h2209 => ?_) (fun h2209 => ?_)
                    · have c2210 : (1 : Int) = x4v.toInt := o_eq h2209
                      unfold J_X12_runs_169
                      have f2213 := ti_b x3v
                      refine ok_biv (fun vx2211 e2212 => ?_)
                      first | (have q2214 := te_addc (c := 0) (n := 0) rfl x3v (by omega) (by omega); rw [← e2212] at q2214; obtain ⟨f2215, f2216, f2217⟩ := q2214) | (obtain ⟨q2214, f2215, f2216, f2217⟩ : ∃ q : Int, vx2211.toInt = x3v.toInt + (0 : Int) + 4294967296 * q ∧ -2147483648 ≤ vx2211.toInt ∧ vx2211.toInt ≤ 2147483647 := by rw [e2212]; exact ti_addc (c := 0) (n := 0) rfl x3v)
                      refine ok_mono (ih vx2211 (1 : Int32) x5v vx2187 δ I (show 0 ≤ (x1).toInt by first | assumption | omega) (show (x1).toInt ≤ 3 by first | assumption | omega) (show 0 ≤ (x2).toInt by first | assumption | omega) (show (x2).toInt ≤ 3 by first | assumption | omega) (show 0 ≤ (x5v).toInt by first | assumption | omega) (show (x5v).toInt ≤ 2000 by first | assumption | omega) (show 0 ≤ (vx2187).toInt by first | assumption | omega) (show (vx2187).toInt ≤ 2000 by first | assumption | omega) (show 4000 - (x5v).toInt - (vx2187).toInt < _ by omega)) (fun r2218 hr2219 => ?_)
                      obtain ⟨i2220, ⟨u2221, u2222, u2223⟩⟩ := hr2219
                      have u2224 := kp_t kp_r u2221
                      have v2225 : q_V r2218.2 = q_V δ := (u2222).trans rfl
                      have v2226 := kr_t (kr_r (ad := ad)) u2223
                      have f2227 := ti_b r2218.1
                      exact ⟨by assumption, ⟨kp_w (by decide) u2224, v2225, kr_w (by decide) v2226⟩⟩
                    · have c2228 : (1 : Int) ≠ x4v.toInt := o_ne h2209
                      unfold J_X12_runs_169
                      have f2231 := ti_b x3v
                      refine ok_biv (fun vx2229 e2230 => ?_)
                      first | (have q2232 := te_addc (c := 1) (n := 1) rfl x3v (by omega) (by omega); rw [← e2230] at q2232; obtain ⟨f2233, f2234, f2235⟩ := q2232) | (obtain ⟨q2232, f2233, f2234, f2235⟩ : ∃ q : Int, vx2229.toInt = x3v.toInt + (1 : Int) + 4294967296 * q ∧ -2147483648 ≤ vx2229.toInt ∧ vx2229.toInt ≤ 2147483647 := by rw [e2230]; exact ti_addc (c := 1) (n := 1) rfl x3v)
                      refine ok_mono (ih vx2229 (1 : Int32) x5v vx2187 δ I (show 0 ≤ (x1).toInt by first | assumption | omega) (show (x1).toInt ≤ 3 by first | assumption | omega) (show 0 ≤ (x2).toInt by first | assumption | omega) (show (x2).toInt ≤ 3 by first | assumption | omega) (show 0 ≤ (x5v).toInt by first | assumption | omega) (show (x5v).toInt ≤ 2000 by first | assumption | omega) (show 0 ≤ (vx2187).toInt by first | assumption | omega) (show (vx2187).toInt ≤ 2000 by first | assumption | omega) (show 4000 - (x5v).toInt - (vx2187).toInt < _ by omega)) (fun r2236 hr2237 => ?_)
                      obtain ⟨i2238, ⟨u2239, u2240, u2241⟩⟩ := hr2237
                      have u2242 := kp_t kp_r u2239
                      have v2243 : q_V r2236.2 = q_V δ := (u2240).trans rfl
                      have v2244 := kr_t (kr_r (ad := ad)) u2241
                      have f2245 := ti_b r2236.1
                      exact ⟨by assumption, ⟨kp_w (by decide) u2242, v2243, kr_w (by decide) v2244⟩⟩
                  · have c2246 : r1667.1.toInt < r2086.1.toInt := o_nle h2206
                    unfold J_X12_runs_154
                    have f2247 := ti_b x4v
                    refine ok_ite (fun h2248 => ?_) (fun h2248 => ?_)
                    · have c2249 : (0 : Int) = x4v.toInt := o_eq h2248
                      unfold J_X12_runs_169
                      have f2252 := ti_b x3v
                      refine ok_biv (fun vx2250 e2251 => ?_)
                      first | (have q2253 := te_addc (c := 0) (n := 0) rfl x3v (by omega) (by omega); rw [← e2251] at q2253; obtain ⟨f2254, f2255, f2256⟩ := q2253) | (obtain ⟨q2253, f2254, f2255, f2256⟩ : ∃ q : Int, vx2250.toInt = x3v.toInt + (0 : Int) + 4294967296 * q ∧ -2147483648 ≤ vx2250.toInt ∧ vx2250.toInt ≤ 2147483647 := by rw [e2251]; exact ti_addc (c := 0) (n := 0) rfl x3v)
                      refine ok_mono (ih vx2250 (0 : Int32) x5v vx2187 δ I (show 0 ≤ (x1).toInt by first | assumption | omega) (show (x1).toInt ≤ 3 by first | assumption | omega) (show 0 ≤ (x2).toInt by first | assumption | omega) (show (x2).toInt ≤ 3 by first | assumption | omega) (show 0 ≤ (x5v).toInt by first | assumption | omega) (show (x5v).toInt ≤ 2000 by first | assumption | omega) (show 0 ≤ (vx2187).toInt by first | assumption | omega) (show (vx2187).toInt ≤ 2000 by first | assumption | omega) (show 4000 - (x5v).toInt - (vx2187).toInt < _ by omega)) (fun r2257 hr2258 => ?_)
                      obtain ⟨i2259, ⟨u2260, u2261, u2262⟩⟩ := hr2258
                      have u2263 := kp_t kp_r u2260
                      have v2264 : q_V r2257.2 = q_V δ := (u2261).trans rfl
                      have v2265 := kr_t (kr_r (ad := ad)) u2262
                      have f2266 := ti_b r2257.1
                      exact ⟨by assumption, ⟨kp_w (by decide) u2263, v2264, kr_w (by decide) v2265⟩⟩
                    · have c2267 : (0 : Int) ≠ x4v.toInt := o_ne h2248
                      unfold J_X12_runs_169
                      have f2270 := ti_b x3v
                      refine ok_biv (fun vx2268 e2269 => ?_)
                      first | (have q2271 := te_addc (c := 1) (n := 1) rfl x3v (by omega) (by omega); rw [← e2269] at q2271; obtain ⟨f2272, f2273, f2274⟩ := q2271) | (obtain ⟨q2271, f2272, f2273, f2274⟩ : ∃ q : Int, vx2268.toInt = x3v.toInt + (1 : Int) + 4294967296 * q ∧ -2147483648 ≤ vx2268.toInt ∧ vx2268.toInt ≤ 2147483647 := by rw [e2269]; exact ti_addc (c := 1) (n := 1) rfl x3v)
                      refine ok_mono (ih vx2268 (0 : Int32) x5v vx2187 δ I (show 0 ≤ (x1).toInt by first | assumption | omega) (show (x1).toInt ≤ 3 by first | assumption | omega) (show 0 ≤ (x2).toInt by first | assumption | omega) (show (x2).toInt ≤ 3 by first | assumption | omega) (show 0 ≤ (x5v).toInt by first | assumption | omega) (show (x5v).toInt ≤ 2000 by first | assumption | omega) (show 0 ≤ (vx2187).toInt by first | assumption | omega) (show (vx2187).toInt ≤ 2000 by first | assumption | omega) (show 4000 - (x5v).toInt - (vx2187).toInt < _ by omega)) (fun r2275 hr2276 => ?_)
                      obtain ⟨i2277, ⟨u2278, u2279, u2280⟩⟩ := hr2276
                      have u2281 := kp_t kp_r u2278
                      have v2282 : q_V r2275.2 = q_V δ := (u2279).trans rfl
                      have v2283 := kr_t (kr_r (ad := ad)) u2280
                      have f2284 := ti_b r2275.1
                      exact ⟨by assumption, ⟨kp_w (by decide) u2281, v2282, kr_w (by decide) v2283⟩⟩
            · have c2285 : r1667.1.toInt ≤ r2086.1.toInt := o_nlt h2090
              refine ok_biv (fun vx2286 e2287 => ?_)
              first | (have q2288 := te_addc (c := 1) (n := 1) rfl x5v (by omega) (by omega); rw [← e2287] at q2288; obtain ⟨f2289, f2290, f2291⟩ := q2288) | (obtain ⟨q2288, f2289, f2290, f2291⟩ : ∃ q : Int, vx2286.toInt = x5v.toInt + (1 : Int) + 4294967296 * q ∧ -2147483648 ≤ vx2286.toInt ∧ vx2286.toInt ≤ 2147483647 := by rw [e2287]; exact ti_addc (c := 1) (n := 1) rfl x5v)
              unfold J_X12_runs_122
              refine ok_ite (fun h2292 => ?_) (fun h2292 => ?_)
              · have c2293 : r1667.1.toInt < r2086.1.toInt := o_lt h2292
                unfold J_X12_runs_132
                refine ok_ite (fun h2294 => ?_) (fun h2294 => ?_)
                · have c2295 : r1667.1.toInt = r2086.1.toInt := o_eq h2294
                  refine ok_mono (ih x3v x4v vx2286 x6v δ I (show 0 ≤ (x1).toInt by first | assumption | omega) (show (x1).toInt ≤ 3 by first | assumption | omega) (show 0 ≤ (x2).toInt by first | assumption | omega) (show (x2).toInt ≤ 3 by first | assumption | omega) (show 0 ≤ (vx2286).toInt by first | assumption | omega) (show (vx2286).toInt ≤ 2000 by first | assumption | omega) (show 0 ≤ (x6v).toInt by first | assumption | omega) (show (x6v).toInt ≤ 2000 by first | assumption | omega) (show 4000 - (vx2286).toInt - (x6v).toInt < _ by omega)) (fun r2296 hr2297 => ?_)
                  obtain ⟨i2298, ⟨u2299, u2300, u2301⟩⟩ := hr2297
                  have u2302 := kp_t kp_r u2299
                  have v2303 : q_V r2296.2 = q_V δ := (u2300).trans rfl
                  have v2304 := kr_t (kr_r (ad := ad)) u2301
                  have f2305 := ti_b r2296.1
                  exact ⟨by assumption, ⟨kp_w (by decide) u2302, v2303, kr_w (by decide) v2304⟩⟩
                · have c2306 : r1667.1.toInt ≠ r2086.1.toInt := o_ne h2294
                  refine ok_ite (fun h2307 => ?_) (fun h2307 => ?_)
                  · have c2308 : r2086.1.toInt ≤ r1667.1.toInt := o_le h2307
                    unfold J_X12_runs_154
                    have f2309 := ti_b x4v
                    refine ok_ite (fun h2310 => ?_) (fun h2310 => ?_)
                    · have c2311 : (1 : Int) = x4v.toInt := o_eq h2310
                      unfold J_X12_runs_169
                      have f2314 := ti_b x3v
                      refine ok_biv (fun vx2312 e2313 => ?_)
                      first | (have q2315 := te_addc (c := 0) (n := 0) rfl x3v (by omega) (by omega); rw [← e2313] at q2315; obtain ⟨f2316, f2317, f2318⟩ := q2315) | (obtain ⟨q2315, f2316, f2317, f2318⟩ : ∃ q : Int, vx2312.toInt = x3v.toInt + (0 : Int) + 4294967296 * q ∧ -2147483648 ≤ vx2312.toInt ∧ vx2312.toInt ≤ 2147483647 := by rw [e2313]; exact ti_addc (c := 0) (n := 0) rfl x3v)
                      refine ok_mono (ih vx2312 (1 : Int32) vx2286 x6v δ I (show 0 ≤ (x1).toInt by first | assumption | omega) (show (x1).toInt ≤ 3 by first | assumption | omega) (show 0 ≤ (x2).toInt by first | assumption | omega) (show (x2).toInt ≤ 3 by first | assumption | omega) (show 0 ≤ (vx2286).toInt by first | assumption | omega) (show (vx2286).toInt ≤ 2000 by first | assumption | omega) (show 0 ≤ (x6v).toInt by first | assumption | omega) (show (x6v).toInt ≤ 2000 by first | assumption | omega) (show 4000 - (vx2286).toInt - (x6v).toInt < _ by omega)) (fun r2319 hr2320 => ?_)
                      obtain ⟨i2321, ⟨u2322, u2323, u2324⟩⟩ := hr2320
                      have u2325 := kp_t kp_r u2322
                      have v2326 : q_V r2319.2 = q_V δ := (u2323).trans rfl
                      have v2327 := kr_t (kr_r (ad := ad)) u2324
                      have f2328 := ti_b r2319.1
                      exact ⟨by assumption, ⟨kp_w (by decide) u2325, v2326, kr_w (by decide) v2327⟩⟩
                    · have c2329 : (1 : Int) ≠ x4v.toInt := o_ne h2310
                      unfold J_X12_runs_169
                      have f2332 := ti_b x3v
                      refine ok_biv (fun vx2330 e2331 => ?_)
                      first | (have q2333 := te_addc (c := 1) (n := 1) rfl x3v (by omega) (by omega); rw [← e2331] at q2333; obtain ⟨f2334, f2335, f2336⟩ := q2333) | (obtain ⟨q2333, f2334, f2335, f2336⟩ : ∃ q : Int, vx2330.toInt = x3v.toInt + (1 : Int) + 4294967296 * q ∧ -2147483648 ≤ vx2330.toInt ∧ vx2330.toInt ≤ 2147483647 := by rw [e2331]; exact ti_addc (c := 1) (n := 1) rfl x3v)
                      refine ok_mono (ih vx2330 (1 : Int32) vx2286 x6v δ I (show 0 ≤ (x1).toInt by first | assumption | omega) (show (x1).toInt ≤ 3 by first | assumption | omega) (show 0 ≤ (x2).toInt by first | assumption | omega) (show (x2).toInt ≤ 3 by first | assumption | omega) (show 0 ≤ (vx2286).toInt by first | assumption | omega) (show (vx2286).toInt ≤ 2000 by first | assumption | omega) (show 0 ≤ (x6v).toInt by first | assumption | omega) (show (x6v).toInt ≤ 2000 by first | assumption | omega) (show 4000 - (vx2286).toInt - (x6v).toInt < _ by omega)) (fun r2337 hr2338 => ?_)
                      obtain ⟨i2339, ⟨u2340, u2341, u2342⟩⟩ := hr2338
                      have u2343 := kp_t kp_r u2340
                      have v2344 : q_V r2337.2 = q_V δ := (u2341).trans rfl
                      have v2345 := kr_t (kr_r (ad := ad)) u2342
                      have f2346 := ti_b r2337.1
                      exact ⟨by assumption, ⟨kp_w (by decide) u2343, v2344, kr_w (by decide) v2345⟩⟩
                  · have c2347 : r1667.1.toInt < r2086.1.toInt := o_nle h2307
                    unfold J_X12_runs_154
                    have f2348 := ti_b x4v
                    refine ok_ite (fun h2349 => ?_) (fun h2349 => ?_)
                    · have c2350 : (0 : Int) = x4v.toInt := o_eq h2349
                      unfold J_X12_runs_169
                      have f2353 := ti_b x3v
                      refine ok_biv (fun vx2351 e2352 => ?_)
                      first | (have q2354 := te_addc (c := 0) (n := 0) rfl x3v (by omega) (by omega); rw [← e2352] at q2354; obtain ⟨f2355, f2356, f2357⟩ := q2354) | (obtain ⟨q2354, f2355, f2356, f2357⟩ : ∃ q : Int, vx2351.toInt = x3v.toInt + (0 : Int) + 4294967296 * q ∧ -2147483648 ≤ vx2351.toInt ∧ vx2351.toInt ≤ 2147483647 := by rw [e2352]; exact ti_addc (c := 0) (n := 0) rfl x3v)
                      refine ok_mono (ih vx2351 (0 : Int32) vx2286 x6v δ I (show 0 ≤ (x1).toInt by first | assumption | omega) (show (x1).toInt ≤ 3 by first | assumption | omega) (show 0 ≤ (x2).toInt by first | assumption | omega) (show (x2).toInt ≤ 3 by first | assumption | omega) (show 0 ≤ (vx2286).toInt by first | assumption | omega) (show (vx2286).toInt ≤ 2000 by first | assumption | omega) (show 0 ≤ (x6v).toInt by first | assumption | omega) (show (x6v).toInt ≤ 2000 by first | assumption | omega) (show 4000 - (vx2286).toInt - (x6v).toInt < _ by omega)) (fun r2358 hr2359 => ?_)
                      obtain ⟨i2360, ⟨u2361, u2362, u2363⟩⟩ := hr2359
                      have u2364 := kp_t kp_r u2361
                      have v2365 : q_V r2358.2 = q_V δ := (u2362).trans rfl
                      have v2366 := kr_t (kr_r (ad := ad)) u2363
                      have f2367 := ti_b r2358.1
                      exact ⟨by assumption, ⟨kp_w (by decide) u2364, v2365, kr_w (by decide) v2366⟩⟩
                    · have c2368 : (0 : Int) ≠ x4v.toInt := o_ne h2349
                      unfold J_X12_runs_169
                      have f2371 := ti_b x3v
                      refine ok_biv (fun vx2369 e2370 => ?_)
                      first | (have q2372 := te_addc (c := 1) (n := 1) rfl x3v (by omega) (by omega); rw [← e2370] at q2372; obtain ⟨f2373, f2374, f2375⟩ := q2372) | (obtain ⟨q2372, f2373, f2374, f2375⟩ : ∃ q : Int, vx2369.toInt = x3v.toInt + (1 : Int) + 4294967296 * q ∧ -2147483648 ≤ vx2369.toInt ∧ vx2369.toInt ≤ 2147483647 := by rw [e2370]; exact ti_addc (c := 1) (n := 1) rfl x3v)
                      refine ok_mono (ih vx2369 (0 : Int32) vx2286 x6v δ I (show 0 ≤ (x1).toInt by first | assumption | omega) (show (x1).toInt ≤ 3 by first | assumption | omega) (show 0 ≤ (x2).toInt by first | assumption | omega) (show (x2).toInt ≤ 3 by first | assumption | omega) (show 0 ≤ (vx2286).toInt by first | assumption | omega) (show (vx2286).toInt ≤ 2000 by first | assumption | omega) (show 0 ≤ (x6v).toInt by first | assumption | omega) (show (x6v).toInt ≤ 2000 by first | assumption | omega) (show 4000 - (vx2286).toInt - (x6v).toInt < _ by omega)) (fun r2376 hr2377 => ?_)
                      obtain ⟨i2378, ⟨u2379, u2380, u2381⟩⟩ := hr2377
                      have u2382 := kp_t kp_r u2379
                      have v2383 : q_V r2376.2 = q_V δ := (u2380).trans rfl
                      have v2384 := kr_t (kr_r (ad := ad)) u2381
                      have f2385 := ti_b r2376.1
                      exact ⟨by assumption, ⟨kp_w (by decide) u2382, v2383, kr_w (by decide) v2384⟩⟩
              · have c2386 : r2086.1.toInt ≤ r1667.1.toInt := o_nlt h2292
                refine ok_biv (fun vx2387 e2388 => ?_)
                first | (have q2389 := te_addc (c := 1) (n := 1) rfl x6v (by omega) (by omega); rw [← e2388] at q2389; obtain ⟨f2390, f2391, f2392⟩ := q2389) | (obtain ⟨q2389, f2390, f2391, f2392⟩ : ∃ q : Int, vx2387.toInt = x6v.toInt + (1 : Int) + 4294967296 * q ∧ -2147483648 ≤ vx2387.toInt ∧ vx2387.toInt ≤ 2147483647 := by rw [e2388]; exact ti_addc (c := 1) (n := 1) rfl x6v)
                unfold J_X12_runs_132
                refine ok_ite (fun h2393 => ?_) (fun h2393 => ?_)
                · have c2394 : r1667.1.toInt = r2086.1.toInt := o_eq h2393
                  refine ok_mono (ih x3v x4v vx2286 vx2387 δ I (show 0 ≤ (x1).toInt by first | assumption | omega) (show (x1).toInt ≤ 3 by first | assumption | omega) (show 0 ≤ (x2).toInt by first | assumption | omega) (show (x2).toInt ≤ 3 by first | assumption | omega) (show 0 ≤ (vx2286).toInt by first | assumption | omega) (show (vx2286).toInt ≤ 2000 by first | assumption | omega) (show 0 ≤ (vx2387).toInt by first | assumption | omega) (show (vx2387).toInt ≤ 2000 by first | assumption | omega) (show 4000 - (vx2286).toInt - (vx2387).toInt < _ by omega)) (fun r2395 hr2396 => ?_)
                  obtain ⟨i2397, ⟨u2398, u2399, u2400⟩⟩ := hr2396
                  have u2401 := kp_t kp_r u2398
                  have v2402 : q_V r2395.2 = q_V δ := (u2399).trans rfl
                  have v2403 := kr_t (kr_r (ad := ad)) u2400
                  have f2404 := ti_b r2395.1
                  exact ⟨by assumption, ⟨kp_w (by decide) u2401, v2402, kr_w (by decide) v2403⟩⟩
                · have c2405 : r1667.1.toInt ≠ r2086.1.toInt := o_ne h2393
                  refine ok_ite (fun h2406 => ?_) (fun h2406 => ?_)
                  · have c2407 : r2086.1.toInt ≤ r1667.1.toInt := o_le h2406
                    unfold J_X12_runs_154
                    have f2408 := ti_b x4v
                    refine ok_ite (fun h2409 => ?_) (fun h2409 => ?_)
                    · have c2410 : (1 : Int) = x4v.toInt := o_eq h2409
                      unfold J_X12_runs_169
                      have f2413 := ti_b x3v
                      refine ok_biv (fun vx2411 e2412 => ?_)
                      first | (have q2414 := te_addc (c := 0) (n := 0) rfl x3v (by omega) (by omega); rw [← e2412] at q2414; obtain ⟨f2415, f2416, f2417⟩ := q2414) | (obtain ⟨q2414, f2415, f2416, f2417⟩ : ∃ q : Int, vx2411.toInt = x3v.toInt + (0 : Int) + 4294967296 * q ∧ -2147483648 ≤ vx2411.toInt ∧ vx2411.toInt ≤ 2147483647 := by rw [e2412]; exact ti_addc (c := 0) (n := 0) rfl x3v)
                      refine ok_mono (ih vx2411 (1 : Int32) vx2286 vx2387 δ I (show 0 ≤ (x1).toInt by first | assumption | omega) (show (x1).toInt ≤ 3 by first | assumption | omega) (show 0 ≤ (x2).toInt by first | assumption | omega) (show (x2).toInt ≤ 3 by first | assumption | omega) (show 0 ≤ (vx2286).toInt by first | assumption | omega) (show (vx2286).toInt ≤ 2000 by first | assumption | omega) (show 0 ≤ (vx2387).toInt by first | assumption | omega) (show (vx2387).toInt ≤ 2000 by first | assumption | omega) (show 4000 - (vx2286).toInt - (vx2387).toInt < _ by omega)) (fun r2418 hr2419 => ?_)
                      obtain ⟨i2420, ⟨u2421, u2422, u2423⟩⟩ := hr2419
                      have u2424 := kp_t kp_r u2421
                      have v2425 : q_V r2418.2 = q_V δ := (u2422).trans rfl
                      have v2426 := kr_t (kr_r (ad := ad)) u2423
                      have f2427 := ti_b r2418.1
                      exact ⟨by assumption, ⟨kp_w (by decide) u2424, v2425, kr_w (by decide) v2426⟩⟩
                    · have c2428 : (1 : Int) ≠ x4v.toInt := o_ne h2409
                      unfold J_X12_runs_169
                      have f2431 := ti_b x3v
                      refine ok_biv (fun vx2429 e2430 => ?_)
                      first | (have q2432 := te_addc (c := 1) (n := 1) rfl x3v (by omega) (by omega); rw [← e2430] at q2432; obtain ⟨f2433, f2434, f2435⟩ := q2432) | (obtain ⟨q2432, f2433, f2434, f2435⟩ : ∃ q : Int, vx2429.toInt = x3v.toInt + (1 : Int) + 4294967296 * q ∧ -2147483648 ≤ vx2429.toInt ∧ vx2429.toInt ≤ 2147483647 := by rw [e2430]; exact ti_addc (c := 1) (n := 1) rfl x3v)
                      refine ok_mono (ih vx2429 (1 : Int32) vx2286 vx2387 δ I (show 0 ≤ (x1).toInt by first | assumption | omega) (show (x1).toInt ≤ 3 by first | assumption | omega) (show 0 ≤ (x2).toInt by first | assumption | omega) (show (x2).toInt ≤ 3 by first | assumption | omega) (show 0 ≤ (vx2286).toInt by first | assumption | omega) (show (vx2286).toInt ≤ 2000 by first | assumption | omega) (show 0 ≤ (vx2387).toInt by first | assumption | omega) (show (vx2387).toInt ≤ 2000 by first | assumption | omega) (show 4000 - (vx2286).toInt - (vx2387).toInt < _ by omega)) (fun r2436 hr2437 => ?_)
                      obtain ⟨i2438, ⟨u2439, u2440, u2441⟩⟩ := hr2437
                      have u2442 := kp_t kp_r u2439
                      have v2443 : q_V r2436.2 = q_V δ := (u2440).trans rfl
                      have v2444 := kr_t (kr_r (ad := ad)) u2441
                      have f2445 := ti_b r2436.1
                      exact ⟨by assumption, ⟨kp_w (by decide) u2442, v2443, kr_w (by decide) v2444⟩⟩
                  · have c2446 : r1667.1.toInt < r2086.1.toInt := o_nle h2406
                    unfold J_X12_runs_154
                    have f2447 := ti_b x4v
                    refine ok_ite (fun h2448 => ?_) (fun h2448 => ?_)
                    · have c2449 : (0 : Int) = x4v.toInt := o_eq h2448
                      unfold J_X12_runs_169
                      have f2452 := ti_b x3v
                      refine ok_biv (fun vx2450 e2451 => ?_)
                      first | (have q2453 := te_addc (c := 0) (n := 0) rfl x3v (by omega) (by omega); rw [← e2451] at q2453; obtain ⟨f2454, f2455, f2456⟩ := q2453) | (obtain ⟨q2453, f2454, f2455, f2456⟩ : ∃ q : Int, vx2450.toInt = x3v.toInt + (0 : Int) + 4294967296 * q ∧ -2147483648 ≤ vx2450.toInt ∧ vx2450.toInt ≤ 2147483647 := by rw [e2451]; exact ti_addc (c := 0) (n := 0) rfl x3v)
                      refine ok_mono (ih vx2450 (0 : Int32) vx2286 vx2387 δ I (show 0 ≤ (x1).toInt by first | assumption | omega) (show (x1).toInt ≤ 3 by first | assumption | omega) (show 0 ≤ (x2).toInt by first | assumption | omega) (show (x2).toInt ≤ 3 by first | assumption | omega) (show 0 ≤ (vx2286).toInt by first | assumption | omega) (show (vx2286).toInt ≤ 2000 by first | assumption | omega) (show 0 ≤ (vx2387).toInt by first | assumption | omega) (show (vx2387).toInt ≤ 2000 by first | assumption | omega) (show 4000 - (vx2286).toInt - (vx2387).toInt < _ by omega)) (fun r2457 hr2458 => ?_)
                      obtain ⟨i2459, ⟨u2460, u2461, u2462⟩⟩ := hr2458
                      have u2463 := kp_t kp_r u2460
                      have v2464 : q_V r2457.2 = q_V δ := (u2461).trans rfl
                      have v2465 := kr_t (kr_r (ad := ad)) u2462
                      have f2466 := ti_b r2457.1
                      exact ⟨by assumption, ⟨kp_w (by decide) u2463, v2464, kr_w (by decide) v2465⟩⟩
                    · have c2467 : (0 : Int) ≠ x4v.toInt := o_ne h2448
                      unfold J_X12_runs_169
                      have f2470 := ti_b x3v
                      refine ok_biv (fun vx2468 e2469 => ?_)
                      first | (have q2471 := te_addc (c := 1) (n := 1) rfl x3v (by omega) (by omega); rw [← e2469] at q2471; obtain ⟨f2472, f2473, f2474⟩ := q2471) | (obtain ⟨q2471, f2472, f2473, f2474⟩ : ∃ q : Int, vx2468.toInt = x3v.toInt + (1 : Int) + 4294967296 * q ∧ -2147483648 ≤ vx2468.toInt ∧ vx2468.toInt ≤ 2147483647 := by rw [e2469]; exact ti_addc (c := 1) (n := 1) rfl x3v)
                      refine ok_mono (ih vx2468 (0 : Int32) vx2286 vx2387 δ I (show 0 ≤ (x1).toInt by first | assumption | omega) (show (x1).toInt ≤ 3 by first | assumption | omega) (show 0 ≤ (x2).toInt by first | assumption | omega) (show (x2).toInt ≤ 3 by first | assumption | omega) (show 0 ≤ (vx2286).toInt by first | assumption | omega) (show (vx2286).toInt ≤ 2000 by first | assumption | omega) (show 0 ≤ (vx2387).toInt by first | assumption | omega) (show (vx2387).toInt ≤ 2000 by first | assumption | omega) (show 4000 - (vx2286).toInt - (vx2387).toInt < _ by omega)) (fun r2475 hr2476 => ?_)
                      obtain ⟨i2477, ⟨u2478, u2479, u2480⟩⟩ := hr2476
                      have u2481 := kp_t kp_r u2478
                      have v2482 : q_V r2475.2 = q_V δ := (u2479).trans rfl
                      have v2483 := kr_t (kr_r (ad := ad)) u2480
                      have f2484 := ti_b r2475.1
                      exact ⟨by assumption, ⟨kp_w (by decide) u2481, v2482, kr_w (by decide) v2483⟩⟩
        · have c2485 : x5v.toInt < (q_R δ (Ad ad 103) x1.toNatClampNeg).toInt := o_nle h1665
          refine ok_bind (k_X12_numberAt L hN (a0 := a0) (x1 := x1) (x2 := x5v) k_a0 (show 0 ≤ (x1).toInt by first | assumption | omega) (show (x1).toInt ≤ 3 by first | assumption | omega) I) (fun r2486 hr2487 => ?_)
          have i2488 := hr2487
          try rw [i2488]
          have f2489 := ti_b r2486.1
          unfold J_X12_runs_83
          refine ok_at o6 ?_
          refine ok_gd (fun hc2490 => ?_) ?_
          · rcases hc2490 with hc2490 | hc2490
            · have c2491 : x2.toInt < (0 : Int) := o_lt hc2490
              omega
            · omega
          refine ok_ite (fun h2492 => ?_) (fun h2492 => ?_)
          · have c2493 : (q_R δ (Ad ad 103) x2.toNatClampNeg).toInt ≤ x6v.toInt := o_le h2492
            refine ok_bind (k_X12_all L hN (a0 := a0) k_a0 I) (fun r2494 hr2495 => ?_)
            obtain ⟨i2496, p2497, p2498, p2499, p2500⟩ := hr2495
            try rw [i2496]
            have f2501 := ti_b r2494.1
            have f2502 := cb_12_10 I k_a0
            have f2503 := ti_b r2494.1
            unfold J_X12_runs_110
            refine ok_ite (fun h2504 => ?_) (fun h2504 => ?_)
            · have c2505 : r2494.1.toInt < r2486.1.toInt := o_lt h2504
              unfold J_X12_runs_122
              refine ok_ite (fun h2506 => ?_) (fun h2506 => ?_)
              · have c2507 : r2486.1.toInt < r2494.1.toInt := o_lt h2506
                unfold J_X12_runs_132
                refine ok_ite (fun h2508 => ?_) (fun h2508 => ?_)
                · have c2509 : r2486.1.toInt = r2494.1.toInt := o_eq h2508
                  refine ok_mono (ih x3v x4v x5v x6v δ I (show 0 ≤ (x1).toInt by first | assumption | omega) (show (x1).toInt ≤ 3 by first | assumption | omega) (show 0 ≤ (x2).toInt by first | assumption | omega) (show (x2).toInt ≤ 3 by first | assumption | omega) (show 0 ≤ (x5v).toInt by first | assumption | omega) (show (x5v).toInt ≤ 2000 by first | assumption | omega) (show 0 ≤ (x6v).toInt by first | assumption | omega) (show (x6v).toInt ≤ 2000 by first | assumption | omega) (show 4000 - (x5v).toInt - (x6v).toInt < _ by omega)) (fun r2510 hr2511 => ?_)
                  obtain ⟨i2512, ⟨u2513, u2514, u2515⟩⟩ := hr2511
                  have u2516 := kp_t kp_r u2513
                  have v2517 : q_V r2510.2 = q_V δ := (u2514).trans rfl
                  have v2518 := kr_t (kr_r (ad := ad)) u2515
                  have f2519 := ti_b r2510.1
                  exact ⟨by assumption, ⟨kp_w (by decide) u2516, v2517, kr_w (by decide) v2518⟩⟩
                · have c2520 : r2486.1.toInt ≠ r2494.1.toInt := o_ne h2508
                  refine ok_ite (fun h2521 => ?_) (fun h2521 => ?_)
                  · have c2522 : r2494.1.toInt ≤ r2486.1.toInt := o_le h2521
                    unfold J_X12_runs_154
                    have f2523 := ti_b x4v
                    refine ok_ite (fun h2524 => ?_) (fun h2524 => ?_)
                    · have c2525 : (1 : Int) = x4v.toInt := o_eq h2524
                      unfold J_X12_runs_169
                      have f2528 := ti_b x3v
                      refine ok_biv (fun vx2526 e2527 => ?_)
                      first | (have q2529 := te_addc (c := 0) (n := 0) rfl x3v (by omega) (by omega); rw [← e2527] at q2529; obtain ⟨f2530, f2531, f2532⟩ := q2529) | (obtain ⟨q2529, f2530, f2531, f2532⟩ : ∃ q : Int, vx2526.toInt = x3v.toInt + (0 : Int) + 4294967296 * q ∧ -2147483648 ≤ vx2526.toInt ∧ vx2526.toInt ≤ 2147483647 := by rw [e2527]; exact ti_addc (c := 0) (n := 0) rfl x3v)
                      refine ok_mono (ih vx2526 (1 : Int32) x5v x6v δ I (show 0 ≤ (x1).toInt by first | assumption | omega) (show (x1).toInt ≤ 3 by first | assumption | omega) (show 0 ≤ (x2).toInt by first | assumption | omega) (show (x2).toInt ≤ 3 by first | assumption | omega) (show 0 ≤ (x5v).toInt by first | assumption | omega) (show (x5v).toInt ≤ 2000 by first | assumption | omega) (show 0 ≤ (x6v).toInt by first | assumption | omega) (show (x6v).toInt ≤ 2000 by first | assumption | omega) (show 4000 - (x5v).toInt - (x6v).toInt < _ by omega)) (fun r2533 hr2534 => ?_)
                      obtain ⟨i2535, ⟨u2536, u2537, u2538⟩⟩ := hr2534
                      have u2539 := kp_t kp_r u2536
                      have v2540 : q_V r2533.2 = q_V δ := (u2537).trans rfl
                      have v2541 := kr_t (kr_r (ad := ad)) u2538
                      have f2542 := ti_b r2533.1
                      exact ⟨by assumption, ⟨kp_w (by decide) u2539, v2540, kr_w (by decide) v2541⟩⟩
                    · have c2543 : (1 : Int) ≠ x4v.toInt := o_ne h2524
                      unfold J_X12_runs_169
                      have f2546 := ti_b x3v
                      refine ok_biv (fun vx2544 e2545 => ?_)
                      first | (have q2547 := te_addc (c := 1) (n := 1) rfl x3v (by omega) (by omega); rw [← e2545] at q2547; obtain ⟨f2548, f2549, f2550⟩ := q2547) | (obtain ⟨q2547, f2548, f2549, f2550⟩ : ∃ q : Int, vx2544.toInt = x3v.toInt + (1 : Int) + 4294967296 * q ∧ -2147483648 ≤ vx2544.toInt ∧ vx2544.toInt ≤ 2147483647 := by rw [e2545]; exact ti_addc (c := 1) (n := 1) rfl x3v)
                      refine ok_mono (ih vx2544 (1 : Int32) x5v x6v δ I (show 0 ≤ (x1).toInt by first | assumption | omega) (show (x1).toInt ≤ 3 by first | assumption | omega) (show 0 ≤ (x2).toInt by first | assumption | omega) (show (x2).toInt ≤ 3 by first | assumption | omega) (show 0 ≤ (x5v).toInt by first | assumption | omega) (show (x5v).toInt ≤ 2000 by first | assumption | omega) (show 0 ≤ (x6v).toInt by first | assumption | omega) (show (x6v).toInt ≤ 2000 by first | assumption | omega) (show 4000 - (x5v).toInt - (x6v).toInt < _ by omega)) (fun r2551 hr2552 => ?_)
                      obtain ⟨i2553, ⟨u2554, u2555, u2556⟩⟩ := hr2552
                      have u2557 := kp_t kp_r u2554
                      have v2558 : q_V r2551.2 = q_V δ := (u2555).trans rfl
                      have v2559 := kr_t (kr_r (ad := ad)) u2556
                      have f2560 := ti_b r2551.1
                      exact ⟨by assumption, ⟨kp_w (by decide) u2557, v2558, kr_w (by decide) v2559⟩⟩
                  · have c2561 : r2486.1.toInt < r2494.1.toInt := o_nle h2521
                    unfold J_X12_runs_154
                    have f2562 := ti_b x4v
                    refine ok_ite (fun h2563 => ?_) (fun h2563 => ?_)
                    · have c2564 : (0 : Int) = x4v.toInt := o_eq h2563
                      unfold J_X12_runs_169
                      have f2567 := ti_b x3v
                      refine ok_biv (fun vx2565 e2566 => ?_)
                      first | (have q2568 := te_addc (c := 0) (n := 0) rfl x3v (by omega) (by omega); rw [← e2566] at q2568; obtain ⟨f2569, f2570, f2571⟩ := q2568) | (obtain ⟨q2568, f2569, f2570, f2571⟩ : ∃ q : Int, vx2565.toInt = x3v.toInt + (0 : Int) + 4294967296 * q ∧ -2147483648 ≤ vx2565.toInt ∧ vx2565.toInt ≤ 2147483647 := by rw [e2566]; exact ti_addc (c := 0) (n := 0) rfl x3v)
                      refine ok_mono (ih vx2565 (0 : Int32) x5v x6v δ I (show 0 ≤ (x1).toInt by first | assumption | omega) (show (x1).toInt ≤ 3 by first | assumption | omega) (show 0 ≤ (x2).toInt by first | assumption | omega) (show (x2).toInt ≤ 3 by first | assumption | omega) (show 0 ≤ (x5v).toInt by first | assumption | omega) (show (x5v).toInt ≤ 2000 by first | assumption | omega) (show 0 ≤ (x6v).toInt by first | assumption | omega) (show (x6v).toInt ≤ 2000 by first | assumption | omega) (show 4000 - (x5v).toInt - (x6v).toInt < _ by omega)) (fun r2572 hr2573 => ?_)
                      obtain ⟨i2574, ⟨u2575, u2576, u2577⟩⟩ := hr2573
                      have u2578 := kp_t kp_r u2575
                      have v2579 : q_V r2572.2 = q_V δ := (u2576).trans rfl
                      have v2580 := kr_t (kr_r (ad := ad)) u2577
                      have f2581 := ti_b r2572.1
                      exact ⟨by assumption, ⟨kp_w (by decide) u2578, v2579, kr_w (by decide) v2580⟩⟩
                    · have c2582 : (0 : Int) ≠ x4v.toInt := o_ne h2563
                      unfold J_X12_runs_169
                      have f2585 := ti_b x3v
                      refine ok_biv (fun vx2583 e2584 => ?_)
                      first | (have q2586 := te_addc (c := 1) (n := 1) rfl x3v (by omega) (by omega); rw [← e2584] at q2586; obtain ⟨f2587, f2588, f2589⟩ := q2586) | (obtain ⟨q2586, f2587, f2588, f2589⟩ : ∃ q : Int, vx2583.toInt = x3v.toInt + (1 : Int) + 4294967296 * q ∧ -2147483648 ≤ vx2583.toInt ∧ vx2583.toInt ≤ 2147483647 := by rw [e2584]; exact ti_addc (c := 1) (n := 1) rfl x3v)
                      refine ok_mono (ih vx2583 (0 : Int32) x5v x6v δ I (show 0 ≤ (x1).toInt by first | assumption | omega) (show (x1).toInt ≤ 3 by first | assumption | omega) (show 0 ≤ (x2).toInt by first | assumption | omega) (show (x2).toInt ≤ 3 by first | assumption | omega) (show 0 ≤ (x5v).toInt by first | assumption | omega) (show (x5v).toInt ≤ 2000 by first | assumption | omega) (show 0 ≤ (x6v).toInt by first | assumption | omega) (show (x6v).toInt ≤ 2000 by first | assumption | omega) (show 4000 - (x5v).toInt - (x6v).toInt < _ by omega)) (fun r2590 hr2591 => ?_)
                      obtain ⟨i2592, ⟨u2593, u2594, u2595⟩⟩ := hr2591
                      have u2596 := kp_t kp_r u2593
                      have v2597 : q_V r2590.2 = q_V δ := (u2594).trans rfl
                      have v2598 := kr_t (kr_r (ad := ad)) u2595
                      have f2599 := ti_b r2590.1
                      exact ⟨by assumption, ⟨kp_w (by decide) u2596, v2597, kr_w (by decide) v2598⟩⟩
              · have c2600 : r2494.1.toInt ≤ r2486.1.toInt := o_nlt h2506
                refine ok_biv (fun vx2601 e2602 => ?_)
                first | (have q2603 := te_addc (c := 1) (n := 1) rfl x6v (by omega) (by omega); rw [← e2602] at q2603; obtain ⟨f2604, f2605, f2606⟩ := q2603) | (obtain ⟨q2603, f2604, f2605, f2606⟩ : ∃ q : Int, vx2601.toInt = x6v.toInt + (1 : Int) + 4294967296 * q ∧ -2147483648 ≤ vx2601.toInt ∧ vx2601.toInt ≤ 2147483647 := by rw [e2602]; exact ti_addc (c := 1) (n := 1) rfl x6v)
                unfold J_X12_runs_132
                refine ok_ite (fun h2607 => ?_) (fun h2607 => ?_)
                · have c2608 : r2486.1.toInt = r2494.1.toInt := o_eq h2607
                  refine ok_mono (ih x3v x4v x5v vx2601 δ I (show 0 ≤ (x1).toInt by first | assumption | omega) (show (x1).toInt ≤ 3 by first | assumption | omega) (show 0 ≤ (x2).toInt by first | assumption | omega) (show (x2).toInt ≤ 3 by first | assumption | omega) (show 0 ≤ (x5v).toInt by first | assumption | omega) (show (x5v).toInt ≤ 2000 by first | assumption | omega) (show 0 ≤ (vx2601).toInt by first | assumption | omega) (show (vx2601).toInt ≤ 2000 by first | assumption | omega) (show 4000 - (x5v).toInt - (vx2601).toInt < _ by omega)) (fun r2609 hr2610 => ?_)
                  obtain ⟨i2611, ⟨u2612, u2613, u2614⟩⟩ := hr2610
                  have u2615 := kp_t kp_r u2612
                  have v2616 : q_V r2609.2 = q_V δ := (u2613).trans rfl
                  have v2617 := kr_t (kr_r (ad := ad)) u2614
                  have f2618 := ti_b r2609.1
                  exact ⟨by assumption, ⟨kp_w (by decide) u2615, v2616, kr_w (by decide) v2617⟩⟩
                · have c2619 : r2486.1.toInt ≠ r2494.1.toInt := o_ne h2607
                  refine ok_ite (fun h2620 => ?_) (fun h2620 => ?_)
                  · have c2621 : r2494.1.toInt ≤ r2486.1.toInt := o_le h2620
                    unfold J_X12_runs_154
                    have f2622 := ti_b x4v
                    refine ok_ite (fun h2623 => ?_) (fun h2623 => ?_)
                    · have c2624 : (1 : Int) = x4v.toInt := o_eq h2623
                      unfold J_X12_runs_169
                      have f2627 := ti_b x3v
                      refine ok_biv (fun vx2625 e2626 => ?_)
                      first | (have q2628 := te_addc (c := 0) (n := 0) rfl x3v (by omega) (by omega); rw [← e2626] at q2628; obtain ⟨f2629, f2630, f2631⟩ := q2628) | (obtain ⟨q2628, f2629, f2630, f2631⟩ : ∃ q : Int, vx2625.toInt = x3v.toInt + (0 : Int) + 4294967296 * q ∧ -2147483648 ≤ vx2625.toInt ∧ vx2625.toInt ≤ 2147483647 := by rw [e2626]; exact ti_addc (c := 0) (n := 0) rfl x3v)
                      refine ok_mono (ih vx2625 (1 : Int32) x5v vx2601 δ I (show 0 ≤ (x1).toInt by first | assumption | omega) (show (x1).toInt ≤ 3 by first | assumption | omega) (show 0 ≤ (x2).toInt by first | assumption | omega) (show (x2).toInt ≤ 3 by first | assumption | omega) (show 0 ≤ (x5v).toInt by first | assumption | omega) (show (x5v).toInt ≤ 2000 by first | assumption | omega) (show 0 ≤ (vx2601).toInt by first | assumption | omega) (show (vx2601).toInt ≤ 2000 by first | assumption | omega) (show 4000 - (x5v).toInt - (vx2601).toInt < _ by omega)) (fun r2632 hr2633 => ?_)
                      obtain ⟨i2634, ⟨u2635, u2636, u2637⟩⟩ := hr2633
                      have u2638 := kp_t kp_r u2635
                      have v2639 : q_V r2632.2 = q_V δ := (u2636).trans rfl
                      have v2640 := kr_t (kr_r (ad := ad)) u2637
                      have f2641 := ti_b r2632.1
                      exact ⟨by assumption, ⟨kp_w (by decide) u2638, v2639, kr_w (by decide) v2640⟩⟩
                    · have c2642 : (1 : Int) ≠ x4v.toInt := o_ne h2623
                      unfold J_X12_runs_169
                      have f2645 := ti_b x3v
                      refine ok_biv (fun vx2643 e2644 => ?_)
                      first | (have q2646 := te_addc (c := 1) (n := 1) rfl x3v (by omega) (by omega); rw [← e2644] at q2646; obtain ⟨f2647, f2648, f2649⟩ := q2646) | (obtain ⟨q2646, f2647, f2648, f2649⟩ : ∃ q : Int, vx2643.toInt = x3v.toInt + (1 : Int) + 4294967296 * q ∧ -2147483648 ≤ vx2643.toInt ∧ vx2643.toInt ≤ 2147483647 := by rw [e2644]; exact ti_addc (c := 1) (n := 1) rfl x3v)
                      refine ok_mono (ih vx2643 (1 : Int32) x5v vx2601 δ I (show 0 ≤ (x1).toInt by first | assumption | omega) (show (x1).toInt ≤ 3 by first | assumption | omega) (show 0 ≤ (x2).toInt by first | assumption | omega) (show (x2).toInt ≤ 3 by first | assumption | omega) (show 0 ≤ (x5v).toInt by first | assumption | omega) (show (x5v).toInt ≤ 2000 by first | assumption | omega) (show 0 ≤ (vx2601).toInt by first | assumption | omega) (show (vx2601).toInt ≤ 2000 by first | assumption | omega) (show 4000 - (x5v).toInt - (vx2601).toInt < _ by omega)) (fun r2650 hr2651 => ?_)
                      obtain ⟨i2652, ⟨u2653, u2654, u2655⟩⟩ := hr2651
                      have u2656 := kp_t kp_r u2653
                      have v2657 : q_V r2650.2 = q_V δ := (u2654).trans rfl
                      have v2658 := kr_t (kr_r (ad := ad)) u2655
                      have f2659 := ti_b r2650.1
                      exact ⟨by assumption, ⟨kp_w (by decide) u2656, v2657, kr_w (by decide) v2658⟩⟩
                  · have c2660 : r2486.1.toInt < r2494.1.toInt := o_nle h2620
                    unfold J_X12_runs_154
                    have f2661 := ti_b x4v
                    refine ok_ite (fun h2662 => ?_) (fun h2662 => ?_)
                    · have c2663 : (0 : Int) = x4v.toInt := o_eq h2662
                      unfold J_X12_runs_169
                      have f2666 := ti_b x3v
                      refine ok_biv (fun vx2664 e2665 => ?_)
                      first | (have q2667 := te_addc (c := 0) (n := 0) rfl x3v (by omega) (by omega); rw [← e2665] at q2667; obtain ⟨f2668, f2669, f2670⟩ := q2667) | (obtain ⟨q2667, f2668, f2669, f2670⟩ : ∃ q : Int, vx2664.toInt = x3v.toInt + (0 : Int) + 4294967296 * q ∧ -2147483648 ≤ vx2664.toInt ∧ vx2664.toInt ≤ 2147483647 := by rw [e2665]; exact ti_addc (c := 0) (n := 0) rfl x3v)
                      refine ok_mono (ih vx2664 (0 : Int32) x5v vx2601 δ I (show 0 ≤ (x1).toInt by first | assumption | omega) (show (x1).toInt ≤ 3 by first | assumption | omega) (show 0 ≤ (x2).toInt by first | assumption | omega) (show (x2).toInt ≤ 3 by first | assumption | omega) (show 0 ≤ (x5v).toInt by first | assumption | omega) (show (x5v).toInt ≤ 2000 by first | assumption | omega) (show 0 ≤ (vx2601).toInt by first | assumption | omega) (show (vx2601).toInt ≤ 2000 by first | assumption | omega) (show 4000 - (x5v).toInt - (vx2601).toInt < _ by omega)) (fun r2671 hr2672 => ?_)
                      obtain ⟨i2673, ⟨u2674, u2675, u2676⟩⟩ := hr2672
                      have u2677 := kp_t kp_r u2674
                      have v2678 : q_V r2671.2 = q_V δ := (u2675).trans rfl
                      have v2679 := kr_t (kr_r (ad := ad)) u2676
                      have f2680 := ti_b r2671.1
                      exact ⟨by assumption, ⟨kp_w (by decide) u2677, v2678, kr_w (by decide) v2679⟩⟩
                    · have c2681 : (0 : Int) ≠ x4v.toInt := o_ne h2662
                      unfold J_X12_runs_169
                      have f2684 := ti_b x3v
                      refine ok_biv (fun vx2682 e2683 => ?_)
                      first | (have q2685 := te_addc (c := 1) (n := 1) rfl x3v (by omega) (by omega); rw [← e2683] at q2685; obtain ⟨f2686, f2687, f2688⟩ := q2685) | (obtain ⟨q2685, f2686, f2687, f2688⟩ : ∃ q : Int, vx2682.toInt = x3v.toInt + (1 : Int) + 4294967296 * q ∧ -2147483648 ≤ vx2682.toInt ∧ vx2682.toInt ≤ 2147483647 := by rw [e2683]; exact ti_addc (c := 1) (n := 1) rfl x3v)
                      refine ok_mono (ih vx2682 (0 : Int32) x5v vx2601 δ I (show 0 ≤ (x1).toInt by first | assumption | omega) (show (x1).toInt ≤ 3 by first | assumption | omega) (show 0 ≤ (x2).toInt by first | assumption | omega) (show (x2).toInt ≤ 3 by first | assumption | omega) (show 0 ≤ (x5v).toInt by first | assumption | omega) (show (x5v).toInt ≤ 2000 by first | assumption | omega) (show 0 ≤ (vx2601).toInt by first | assumption | omega) (show (vx2601).toInt ≤ 2000 by first | assumption | omega) (show 4000 - (x5v).toInt - (vx2601).toInt < _ by omega)) (fun r2689 hr2690 => ?_)
                      obtain ⟨i2691, ⟨u2692, u2693, u2694⟩⟩ := hr2690
                      have u2695 := kp_t kp_r u2692
                      have v2696 : q_V r2689.2 = q_V δ := (u2693).trans rfl
                      have v2697 := kr_t (kr_r (ad := ad)) u2694
                      have f2698 := ti_b r2689.1
                      exact ⟨by assumption, ⟨kp_w (by decide) u2695, v2696, kr_w (by decide) v2697⟩⟩
            · have c2699 : r2486.1.toInt ≤ r2494.1.toInt := o_nlt h2504
              refine ok_biv (fun vx2700 e2701 => ?_)
              first | (have q2702 := te_addc (c := 1) (n := 1) rfl x5v (by omega) (by omega); rw [← e2701] at q2702; obtain ⟨f2703, f2704, f2705⟩ := q2702) | (obtain ⟨q2702, f2703, f2704, f2705⟩ : ∃ q : Int, vx2700.toInt = x5v.toInt + (1 : Int) + 4294967296 * q ∧ -2147483648 ≤ vx2700.toInt ∧ vx2700.toInt ≤ 2147483647 := by rw [e2701]; exact ti_addc (c := 1) (n := 1) rfl x5v)
              unfold J_X12_runs_122
              refine ok_ite (fun h2706 => ?_) (fun h2706 => ?_)
              · have c2707 : r2486.1.toInt < r2494.1.toInt := o_lt h2706
                unfold J_X12_runs_132
                refine ok_ite (fun h2708 => ?_) (fun h2708 => ?_)
                · have c2709 : r2486.1.toInt = r2494.1.toInt := o_eq h2708
                  refine ok_mono (ih x3v x4v vx2700 x6v δ I (show 0 ≤ (x1).toInt by first | assumption | omega) (show (x1).toInt ≤ 3 by first | assumption | omega) (show 0 ≤ (x2).toInt by first | assumption | omega) (show (x2).toInt ≤ 3 by first | assumption | omega) (show 0 ≤ (vx2700).toInt by first | assumption | omega) (show (vx2700).toInt ≤ 2000 by first | assumption | omega) (show 0 ≤ (x6v).toInt by first | assumption | omega) (show (x6v).toInt ≤ 2000 by first | assumption | omega) (show 4000 - (vx2700).toInt - (x6v).toInt < _ by omega)) (fun r2710 hr2711 => ?_)
                  obtain ⟨i2712, ⟨u2713, u2714, u2715⟩⟩ := hr2711
                  have u2716 := kp_t kp_r u2713
                  have v2717 : q_V r2710.2 = q_V δ := (u2714).trans rfl
                  have v2718 := kr_t (kr_r (ad := ad)) u2715
                  have f2719 := ti_b r2710.1
                  exact ⟨by assumption, ⟨kp_w (by decide) u2716, v2717, kr_w (by decide) v2718⟩⟩
                · have c2720 : r2486.1.toInt ≠ r2494.1.toInt := o_ne h2708
                  refine ok_ite (fun h2721 => ?_) (fun h2721 => ?_)
                  · have c2722 : r2494.1.toInt ≤ r2486.1.toInt := o_le h2721
                    unfold J_X12_runs_154
                    have f2723 := ti_b x4v
                    refine ok_ite (fun h2724 => ?_) (fun h2724 => ?_)
                    · have c2725 : (1 : Int) = x4v.toInt := o_eq h2724
                      unfold J_X12_runs_169
                      have f2728 := ti_b x3v
                      refine ok_biv (fun vx2726 e2727 => ?_)
                      first | (have q2729 := te_addc (c := 0) (n := 0) rfl x3v (by omega) (by omega); rw [← e2727] at q2729; obtain ⟨f2730, f2731, f2732⟩ := q2729) | (obtain ⟨q2729, f2730, f2731, f2732⟩ : ∃ q : Int, vx2726.toInt = x3v.toInt + (0 : Int) + 4294967296 * q ∧ -2147483648 ≤ vx2726.toInt ∧ vx2726.toInt ≤ 2147483647 := by rw [e2727]; exact ti_addc (c := 0) (n := 0) rfl x3v)
                      refine ok_mono (ih vx2726 (1 : Int32) vx2700 x6v δ I (show 0 ≤ (x1).toInt by first | assumption | omega) (show (x1).toInt ≤ 3 by first | assumption | omega) (show 0 ≤ (x2).toInt by first | assumption | omega) (show (x2).toInt ≤ 3 by first | assumption | omega) (show 0 ≤ (vx2700).toInt by first | assumption | omega) (show (vx2700).toInt ≤ 2000 by first | assumption | omega) (show 0 ≤ (x6v).toInt by first | assumption | omega) (show (x6v).toInt ≤ 2000 by first | assumption | omega) (show 4000 - (vx2700).toInt - (x6v).toInt < _ by omega)) (fun r2733 hr2734 => ?_)
                      obtain ⟨i2735, ⟨u2736, u2737, u2738⟩⟩ := hr2734
                      have u2739 := kp_t kp_r u2736
                      have v2740 : q_V r2733.2 = q_V δ := (u2737).trans rfl
                      have v2741 := kr_t (kr_r (ad := ad)) u2738
                      have f2742 := ti_b r2733.1
                      exact ⟨by assumption, ⟨kp_w (by decide) u2739, v2740, kr_w (by decide) v2741⟩⟩
                    · have c2743 : (1 : Int) ≠ x4v.toInt := o_ne h2724
                      unfold J_X12_runs_169
                      have f2746 := ti_b x3v
                      refine ok_biv (fun vx2744 e2745 => ?_)
                      first | (have q2747 := te_addc (c := 1) (n := 1) rfl x3v (by omega) (by omega); rw [← e2745] at q2747; obtain ⟨f2748, f2749, f2750⟩ := q2747) | (obtain ⟨q2747, f2748, f2749, f2750⟩ : ∃ q : Int, vx2744.toInt = x3v.toInt + (1 : Int) + 4294967296 * q ∧ -2147483648 ≤ vx2744.toInt ∧ vx2744.toInt ≤ 2147483647 := by rw [e2745]; exact ti_addc (c := 1) (n := 1) rfl x3v)
                      refine ok_mono (ih vx2744 (1 : Int32) vx2700 x6v δ I (show 0 ≤ (x1).toInt by first | assumption | omega) (show (x1).toInt ≤ 3 by first | assumption | omega) (show 0 ≤ (x2).toInt by first | assumption | omega) (show (x2).toInt ≤ 3 by first | assumption | omega) (show 0 ≤ (vx2700).toInt by first | assumption | omega) (show (vx2700).toInt ≤ 2000 by first | assumption | omega) (show 0 ≤ (x6v).toInt by first | assumption | omega) (show (x6v).toInt ≤ 2000 by first | assumption | omega) (show 4000 - (vx2700).toInt - (x6v).toInt < _ by omega)) (fun r2751 hr2752 => ?_)
                      obtain ⟨i2753, ⟨u2754, u2755, u2756⟩⟩ := hr2752
                      have u2757 := kp_t kp_r u2754
                      have v2758 : q_V r2751.2 = q_V δ := (u2755).trans rfl
                      have v2759 := kr_t (kr_r (ad := ad)) u2756
                      have f2760 := ti_b r2751.1
                      exact ⟨by assumption, ⟨kp_w (by decide) u2757, v2758, kr_w (by decide) v2759⟩⟩
                  · have c2761 : r2486.1.toInt < r2494.1.toInt := o_nle h2721
                    unfold J_X12_runs_154
                    have f2762 := ti_b x4v
                    refine ok_ite (fun h2763 => ?_) (fun h2763 => ?_)
                    · have c2764 : (0 : Int) = x4v.toInt := o_eq h2763
                      unfold J_X12_runs_169
                      have f2767 := ti_b x3v
                      refine ok_biv (fun vx2765 e2766 => ?_)
                      first | (have q2768 := te_addc (c := 0) (n := 0) rfl x3v (by omega) (by omega); rw [← e2766] at q2768; obtain ⟨f2769, f2770, f2771⟩ := q2768) | (obtain ⟨q2768, f2769, f2770, f2771⟩ : ∃ q : Int, vx2765.toInt = x3v.toInt + (0 : Int) + 4294967296 * q ∧ -2147483648 ≤ vx2765.toInt ∧ vx2765.toInt ≤ 2147483647 := by rw [e2766]; exact ti_addc (c := 0) (n := 0) rfl x3v)
                      refine ok_mono (ih vx2765 (0 : Int32) vx2700 x6v δ I (show 0 ≤ (x1).toInt by first | assumption | omega) (show (x1).toInt ≤ 3 by first | assumption | omega) (show 0 ≤ (x2).toInt by first | assumption | omega) (show (x2).toInt ≤ 3 by first | assumption | omega) (show 0 ≤ (vx2700).toInt by first | assumption | omega) (show (vx2700).toInt ≤ 2000 by first | assumption | omega) (show 0 ≤ (x6v).toInt by first | assumption | omega) (show (x6v).toInt ≤ 2000 by first | assumption | omega) (show 4000 - (vx2700).toInt - (x6v).toInt < _ by omega)) (fun r2772 hr2773 => ?_)
                      obtain ⟨i2774, ⟨u2775, u2776, u2777⟩⟩ := hr2773
                      have u2778 := kp_t kp_r u2775
                      have v2779 : q_V r2772.2 = q_V δ := (u2776).trans rfl
                      have v2780 := kr_t (kr_r (ad := ad)) u2777
                      have f2781 := ti_b r2772.1
                      exact ⟨by assumption, ⟨kp_w (by decide) u2778, v2779, kr_w (by decide) v2780⟩⟩
                    · have c2782 : (0 : Int) ≠ x4v.toInt := o_ne h2763
                      unfold J_X12_runs_169
                      have f2785 := ti_b x3v
                      refine ok_biv (fun vx2783 e2784 => ?_)
                      first | (have q2786 := te_addc (c := 1) (n := 1) rfl x3v (by omega) (by omega); rw [← e2784] at q2786; obtain ⟨f2787, f2788, f2789⟩ := q2786) | (obtain ⟨q2786, f2787, f2788, f2789⟩ : ∃ q : Int, vx2783.toInt = x3v.toInt + (1 : Int) + 4294967296 * q ∧ -2147483648 ≤ vx2783.toInt ∧ vx2783.toInt ≤ 2147483647 := by rw [e2784]; exact ti_addc (c := 1) (n := 1) rfl x3v)
                      refine ok_mono (ih vx2783 (0 : Int32) vx2700 x6v δ I (show 0 ≤ (x1).toInt by first | assumption | omega) (show (x1).toInt ≤ 3 by first | assumption | omega) (show 0 ≤ (x2).toInt by first | assumption | omega) (show (x2).toInt ≤ 3 by first | assumption | omega) (show 0 ≤ (vx2700).toInt by first | assumption | omega) (show (vx2700).toInt ≤ 2000 by first | assumption | omega) (show 0 ≤ (x6v).toInt by first | assumption | omega) (show (x6v).toInt ≤ 2000 by first | assumption | omega) (show 4000 - (vx2700).toInt - (x6v).toInt < _ by omega)) (fun r2790 hr2791 => ?_)
                      obtain ⟨i2792, ⟨u2793, u2794, u2795⟩⟩ := hr2791
                      have u2796 := kp_t kp_r u2793
                      have v2797 : q_V r2790.2 = q_V δ := (u2794).trans rfl
                      have v2798 := kr_t (kr_r (ad := ad)) u2795
                      have f2799 := ti_b r2790.1
                      exact ⟨by assumption, ⟨kp_w (by decide) u2796, v2797, kr_w (by decide) v2798⟩⟩
              · have c2800 : r2494.1.toInt ≤ r2486.1.toInt := o_nlt h2706
                refine ok_biv (fun vx2801 e2802 => ?_)
                first | (have q2803 := te_addc (c := 1) (n := 1) rfl x6v (by omega) (by omega); rw [← e2802] at q2803; obtain ⟨f2804, f2805, f2806⟩ := q2803) | (obtain ⟨q2803, f2804, f2805, f2806⟩ : ∃ q : Int, vx2801.toInt = x6v.toInt + (1 : Int) + 4294967296 * q ∧ -2147483648 ≤ vx2801.toInt ∧ vx2801.toInt ≤ 2147483647 := by rw [e2802]; exact ti_addc (c := 1) (n := 1) rfl x6v)
                unfold J_X12_runs_132
                refine ok_ite (fun h2807 => ?_) (fun h2807 => ?_)
                · have c2808 : r2486.1.toInt = r2494.1.toInt := o_eq h2807
                  refine ok_mono (ih x3v x4v vx2700 vx2801 δ I (show 0 ≤ (x1).toInt by first | assumption | omega) (show (x1).toInt ≤ 3 by first | assumption | omega) (show 0 ≤ (x2).toInt by first | assumption | omega) (show (x2).toInt ≤ 3 by first | assumption | omega) (show 0 ≤ (vx2700).toInt by first | assumption | omega) (show (vx2700).toInt ≤ 2000 by first | assumption | omega) (show 0 ≤ (vx2801).toInt by first | assumption | omega) (show (vx2801).toInt ≤ 2000 by first | assumption | omega) (show 4000 - (vx2700).toInt - (vx2801).toInt < _ by omega)) (fun r2809 hr2810 => ?_)
                  obtain ⟨i2811, ⟨u2812, u2813, u2814⟩⟩ := hr2810
                  have u2815 := kp_t kp_r u2812
                  have v2816 : q_V r2809.2 = q_V δ := (u2813).trans rfl
                  have v2817 := kr_t (kr_r (ad := ad)) u2814
                  have f2818 := ti_b r2809.1
                  exact ⟨by assumption, ⟨kp_w (by decide) u2815, v2816, kr_w (by decide) v2817⟩⟩
                · have c2819 : r2486.1.toInt ≠ r2494.1.toInt := o_ne h2807
                  refine ok_ite (fun h2820 => ?_) (fun h2820 => ?_)
                  · have c2821 : r2494.1.toInt ≤ r2486.1.toInt := o_le h2820
                    unfold J_X12_runs_154
                    have f2822 := ti_b x4v
                    refine ok_ite (fun h2823 => ?_) (fun h2823 => ?_)
                    · have c2824 : (1 : Int) = x4v.toInt := o_eq h2823
                      unfold J_X12_runs_169
                      have f2827 := ti_b x3v
                      refine ok_biv (fun vx2825 e2826 => ?_)
                      first | (have q2828 := te_addc (c := 0) (n := 0) rfl x3v (by omega) (by omega); rw [← e2826] at q2828; obtain ⟨f2829, f2830, f2831⟩ := q2828) | (obtain ⟨q2828, f2829, f2830, f2831⟩ : ∃ q : Int, vx2825.toInt = x3v.toInt + (0 : Int) + 4294967296 * q ∧ -2147483648 ≤ vx2825.toInt ∧ vx2825.toInt ≤ 2147483647 := by rw [e2826]; exact ti_addc (c := 0) (n := 0) rfl x3v)
                      refine ok_mono (ih vx2825 (1 : Int32) vx2700 vx2801 δ I (show 0 ≤ (x1).toInt by first | assumption | omega) (show (x1).toInt ≤ 3 by first | assumption | omega) (show 0 ≤ (x2).toInt by first | assumption | omega) (show (x2).toInt ≤ 3 by first | assumption | omega) (show 0 ≤ (vx2700).toInt by first | assumption | omega) (show (vx2700).toInt ≤ 2000 by first | assumption | omega) (show 0 ≤ (vx2801).toInt by first | assumption | omega) (show (vx2801).toInt ≤ 2000 by first | assumption | omega) (show 4000 - (vx2700).toInt - (vx2801).toInt < _ by omega)) (fun r2832 hr2833 => ?_)
                      obtain ⟨i2834, ⟨u2835, u2836, u2837⟩⟩ := hr2833
                      have u2838 := kp_t kp_r u2835
                      have v2839 : q_V r2832.2 = q_V δ := (u2836).trans rfl
                      have v2840 := kr_t (kr_r (ad := ad)) u2837
                      have f2841 := ti_b r2832.1
                      exact ⟨by assumption, ⟨kp_w (by decide) u2838, v2839, kr_w (by decide) v2840⟩⟩
                    · have c2842 : (1 : Int) ≠ x4v.toInt := o_ne h2823
                      unfold J_X12_runs_169
                      have f2845 := ti_b x3v
                      refine ok_biv (fun vx2843 e2844 => ?_)
                      first | (have q2846 := te_addc (c := 1) (n := 1) rfl x3v (by omega) (by omega); rw [← e2844] at q2846; obtain ⟨f2847, f2848, f2849⟩ := q2846) | (obtain ⟨q2846, f2847, f2848, f2849⟩ : ∃ q : Int, vx2843.toInt = x3v.toInt + (1 : Int) + 4294967296 * q ∧ -2147483648 ≤ vx2843.toInt ∧ vx2843.toInt ≤ 2147483647 := by rw [e2844]; exact ti_addc (c := 1) (n := 1) rfl x3v)
                      refine ok_mono (ih vx2843 (1 : Int32) vx2700 vx2801 δ I (show 0 ≤ (x1).toInt by first | assumption | omega) (show (x1).toInt ≤ 3 by first | assumption | omega) (show 0 ≤ (x2).toInt by first | assumption | omega) (show (x2).toInt ≤ 3 by first | assumption | omega) (show 0 ≤ (vx2700).toInt by first | assumption | omega) (show (vx2700).toInt ≤ 2000 by first | assumption | omega) (show 0 ≤ (vx2801).toInt by first | assumption | omega) (show (vx2801).toInt ≤ 2000 by first | assumption | omega) (show 4000 - (vx2700).toInt - (vx2801).toInt < _ by omega)) (fun r2850 hr2851 => ?_)
                      obtain ⟨i2852, ⟨u2853, u2854, u2855⟩⟩ := hr2851
                      have u2856 := kp_t kp_r u2853
                      have v2857 : q_V r2850.2 = q_V δ := (u2854).trans rfl
                      have v2858 := kr_t (kr_r (ad := ad)) u2855
                      have f2859 := ti_b r2850.1
                      exact ⟨by assumption, ⟨kp_w (by decide) u2856, v2857, kr_w (by decide) v2858⟩⟩
                  · have c2860 : r2486.1.toInt < r2494.1.toInt := o_nle h2820
                    unfold J_X12_runs_154
                    have f2861 := ti_b x4v
                    refine ok_ite (fun h2862 => ?_) (fun h2862 => ?_)
                    · have c2863 : (0 : Int) = x4v.toInt := o_eq h2862
                      unfold J_X12_runs_169
                      have f2866 := ti_b x3v
                      refine ok_biv (fun vx2864 e2865 => ?_)
                      first | (have q2867 := te_addc (c := 0) (n := 0) rfl x3v (by omega) (by omega); rw [← e2865] at q2867; obtain ⟨f2868, f2869, f2870⟩ := q2867) | (obtain ⟨q2867, f2868, f2869, f2870⟩ : ∃ q : Int, vx2864.toInt = x3v.toInt + (0 : Int) + 4294967296 * q ∧ -2147483648 ≤ vx2864.toInt ∧ vx2864.toInt ≤ 2147483647 := by rw [e2865]; exact ti_addc (c := 0) (n := 0) rfl x3v)
                      refine ok_mono (ih vx2864 (0 : Int32) vx2700 vx2801 δ I (show 0 ≤ (x1).toInt by first | assumption | omega) (show (x1).toInt ≤ 3 by first | assumption | omega) (show 0 ≤ (x2).toInt by first | assumption | omega) (show (x2).toInt ≤ 3 by first | assumption | omega) (show 0 ≤ (vx2700).toInt by first | assumption | omega) (show (vx2700).toInt ≤ 2000 by first | assumption | omega) (show 0 ≤ (vx2801).toInt by first | assumption | omega) (show (vx2801).toInt ≤ 2000 by first | assumption | omega) (show 4000 - (vx2700).toInt - (vx2801).toInt < _ by omega)) (fun r2871 hr2872 => ?_)
                      obtain ⟨i2873, ⟨u2874, u2875, u2876⟩⟩ := hr2872
                      have u2877 := kp_t kp_r u2874
                      have v2878 : q_V r2871.2 = q_V δ := (u2875).trans rfl
                      have v2879 := kr_t (kr_r (ad := ad)) u2876
                      have f2880 := ti_b r2871.1
                      exact ⟨by assumption, ⟨kp_w (by decide) u2877, v2878, kr_w (by decide) v2879⟩⟩
                    · have c2881 : (0 : Int) ≠ x4v.toInt := o_ne h2862
                      unfold J_X12_runs_169
                      have f2884 := ti_b x3v
                      refine ok_biv (fun vx2882 e2883 => ?_)
                      first | (have q2885 := te_addc (c := 1) (n := 1) rfl x3v (by omega) (by omega); rw [← e2883] at q2885; obtain ⟨f2886, f2887, f2888⟩ := q2885) | (obtain ⟨q2885, f2886, f2887, f2888⟩ : ∃ q : Int, vx2882.toInt = x3v.toInt + (1 : Int) + 4294967296 * q ∧ -2147483648 ≤ vx2882.toInt ∧ vx2882.toInt ≤ 2147483647 := by rw [e2883]; exact ti_addc (c := 1) (n := 1) rfl x3v)
                      refine ok_mono (ih vx2882 (0 : Int32) vx2700 vx2801 δ I (show 0 ≤ (x1).toInt by first | assumption | omega) (show (x1).toInt ≤ 3 by first | assumption | omega) (show 0 ≤ (x2).toInt by first | assumption | omega) (show (x2).toInt ≤ 3 by first | assumption | omega) (show 0 ≤ (vx2700).toInt by first | assumption | omega) (show (vx2700).toInt ≤ 2000 by first | assumption | omega) (show 0 ≤ (vx2801).toInt by first | assumption | omega) (show (vx2801).toInt ≤ 2000 by first | assumption | omega) (show 4000 - (vx2700).toInt - (vx2801).toInt < _ by omega)) (fun r2889 hr2890 => ?_)
                      obtain ⟨i2891, ⟨u2892, u2893, u2894⟩⟩ := hr2890
                      have u2895 := kp_t kp_r u2892
                      have v2896 : q_V r2889.2 = q_V δ := (u2893).trans rfl
                      have v2897 := kr_t (kr_r (ad := ad)) u2894
                      have f2898 := ti_b r2889.1
                      exact ⟨by assumption, ⟨kp_w (by decide) u2895, v2896, kr_w (by decide) v2897⟩⟩
          · have c2899 : x6v.toInt < (q_R δ (Ad ad 103) x2.toNatClampNeg).toInt := o_nle h2492
            refine ok_bind (k_X12_numberAt L hN (a0 := a0) (x1 := x2) (x2 := x6v) k_a0 (show 0 ≤ (x2).toInt by first | assumption | omega) (show (x2).toInt ≤ 3 by first | assumption | omega) I) (fun r2900 hr2901 => ?_)
            have i2902 := hr2901
            try rw [i2902]
            have f2903 := ti_b r2900.1
            unfold J_X12_runs_110
            refine ok_ite (fun h2904 => ?_) (fun h2904 => ?_)
            · have c2905 : r2900.1.toInt < r2486.1.toInt := o_lt h2904
              unfold J_X12_runs_122
              refine ok_ite (fun h2906 => ?_) (fun h2906 => ?_)
              · have c2907 : r2486.1.toInt < r2900.1.toInt := o_lt h2906
                unfold J_X12_runs_132
                refine ok_ite (fun h2908 => ?_) (fun h2908 => ?_)
                · have c2909 : r2486.1.toInt = r2900.1.toInt := o_eq h2908
                  refine ok_mono (ih x3v x4v x5v x6v δ I (show 0 ≤ (x1).toInt by first | assumption | omega) (show (x1).toInt ≤ 3 by first | assumption | omega) (show 0 ≤ (x2).toInt by first | assumption | omega) (show (x2).toInt ≤ 3 by first | assumption | omega) (show 0 ≤ (x5v).toInt by first | assumption | omega) (show (x5v).toInt ≤ 2000 by first | assumption | omega) (show 0 ≤ (x6v).toInt by first | assumption | omega) (show (x6v).toInt ≤ 2000 by first | assumption | omega) (show 4000 - (x5v).toInt - (x6v).toInt < _ by omega)) (fun r2910 hr2911 => ?_)
                  obtain ⟨i2912, ⟨u2913, u2914, u2915⟩⟩ := hr2911
                  have u2916 := kp_t kp_r u2913
                  have v2917 : q_V r2910.2 = q_V δ := (u2914).trans rfl
                  have v2918 := kr_t (kr_r (ad := ad)) u2915
                  have f2919 := ti_b r2910.1
                  exact ⟨by assumption, ⟨kp_w (by decide) u2916, v2917, kr_w (by decide) v2918⟩⟩
                · have c2920 : r2486.1.toInt ≠ r2900.1.toInt := o_ne h2908
                  refine ok_ite (fun h2921 => ?_) (fun h2921 => ?_)
                  · have c2922 : r2900.1.toInt ≤ r2486.1.toInt := o_le h2921
                    unfold J_X12_runs_154
                    have f2923 := ti_b x4v
                    refine ok_ite (fun h2924 => ?_) (fun h2924 => ?_)
                    · have c2925 : (1 : Int) = x4v.toInt := o_eq h2924
                      unfold J_X12_runs_169
                      have f2928 := ti_b x3v
                      refine ok_biv (fun vx2926 e2927 => ?_)
                      first | (have q2929 := te_addc (c := 0) (n := 0) rfl x3v (by omega) (by omega); rw [← e2927] at q2929; obtain ⟨f2930, f2931, f2932⟩ := q2929) | (obtain ⟨q2929, f2930, f2931, f2932⟩ : ∃ q : Int, vx2926.toInt = x3v.toInt + (0 : Int) + 4294967296 * q ∧ -2147483648 ≤ vx2926.toInt ∧ vx2926.toInt ≤ 2147483647 := by rw [e2927]; exact ti_addc (c := 0) (n := 0) rfl x3v)
                      refine ok_mono (ih vx2926 (1 : Int32) x5v x6v δ I (show 0 ≤ (x1).toInt by first | assumption | omega) (show (x1).toInt ≤ 3 by first | assumption | omega) (show 0 ≤ (x2).toInt by first | assumption | omega) (show (x2).toInt ≤ 3 by first | assumption | omega) (show 0 ≤ (x5v).toInt by first | assumption | omega) (show (x5v).toInt ≤ 2000 by first | assumption | omega) (show 0 ≤ (x6v).toInt by first | assumption | omega) (show (x6v).toInt ≤ 2000 by first | assumption | omega) (show 4000 - (x5v).toInt - (x6v).toInt < _ by omega)) (fun r2933 hr2934 => ?_)
                      obtain ⟨i2935, ⟨u2936, u2937, u2938⟩⟩ := hr2934
                      have u2939 := kp_t kp_r u2936
                      have v2940 : q_V r2933.2 = q_V δ := (u2937).trans rfl
                      have v2941 := kr_t (kr_r (ad := ad)) u2938
                      have f2942 := ti_b r2933.1
                      exact ⟨by assumption, ⟨kp_w (by decide) u2939, v2940, kr_w (by decide) v2941⟩⟩
                    · have c2943 : (1 : Int) ≠ x4v.toInt := o_ne h2924
                      unfold J_X12_runs_169
                      have f2946 := ti_b x3v
                      refine ok_biv (fun vx2944 e2945 => ?_)
                      first | (have q2947 := te_addc (c := 1) (n := 1) rfl x3v (by omega) (by omega); rw [← e2945] at q2947; obtain ⟨f2948, f2949, f2950⟩ := q2947) | (obtain ⟨q2947, f2948, f2949, f2950⟩ : ∃ q : Int, vx2944.toInt = x3v.toInt + (1 : Int) + 4294967296 * q ∧ -2147483648 ≤ vx2944.toInt ∧ vx2944.toInt ≤ 2147483647 := by rw [e2945]; exact ti_addc (c := 1) (n := 1) rfl x3v)
                      refine ok_mono (ih vx2944 (1 : Int32) x5v x6v δ I (show 0 ≤ (x1).toInt by first | assumption | omega) (show (x1).toInt ≤ 3 by first | assumption | omega) (show 0 ≤ (x2).toInt by first | assumption | omega) (show (x2).toInt ≤ 3 by first | assumption | omega) (show 0 ≤ (x5v).toInt by first | assumption | omega) (show (x5v).toInt ≤ 2000 by first | assumption | omega) (show 0 ≤ (x6v).toInt by first | assumption | omega) (show (x6v).toInt ≤ 2000 by first | assumption | omega) (show 4000 - (x5v).toInt - (x6v).toInt < _ by omega)) (fun r2951 hr2952 => ?_)
                      obtain ⟨i2953, ⟨u2954, u2955, u2956⟩⟩ := hr2952
                      have u2957 := kp_t kp_r u2954
                      have v2958 : q_V r2951.2 = q_V δ := (u2955).trans rfl
                      have v2959 := kr_t (kr_r (ad := ad)) u2956
                      have f2960 := ti_b r2951.1
                      exact ⟨by assumption, ⟨kp_w (by decide) u2957, v2958, kr_w (by decide) v2959⟩⟩
                  · have c2961 : r2486.1.toInt < r2900.1.toInt := o_nle h2921
                    unfold J_X12_runs_154
                    have f2962 := ti_b x4v
                    refine ok_ite (fun h2963 => ?_) (fun h2963 => ?_)
                    · have c2964 : (0 : Int) = x4v.toInt := o_eq h2963
                      unfold J_X12_runs_169
                      have f2967 := ti_b x3v
                      refine ok_biv (fun vx2965 e2966 => ?_)
                      first | (have q2968 := te_addc (c := 0) (n := 0) rfl x3v (by omega) (by omega); rw [← e2966] at q2968; obtain ⟨f2969, f2970, f2971⟩ := q2968) | (obtain ⟨q2968, f2969, f2970, f2971⟩ : ∃ q : Int, vx2965.toInt = x3v.toInt + (0 : Int) + 4294967296 * q ∧ -2147483648 ≤ vx2965.toInt ∧ vx2965.toInt ≤ 2147483647 := by rw [e2966]; exact ti_addc (c := 0) (n := 0) rfl x3v)
                      refine ok_mono (ih vx2965 (0 : Int32) x5v x6v δ I (show 0 ≤ (x1).toInt by first | assumption | omega) (show (x1).toInt ≤ 3 by first | assumption | omega) (show 0 ≤ (x2).toInt by first | assumption | omega) (show (x2).toInt ≤ 3 by first | assumption | omega) (show 0 ≤ (x5v).toInt by first | assumption | omega) (show (x5v).toInt ≤ 2000 by first | assumption | omega) (show 0 ≤ (x6v).toInt by first | assumption | omega) (show (x6v).toInt ≤ 2000 by first | assumption | omega) (show 4000 - (x5v).toInt - (x6v).toInt < _ by omega)) (fun r2972 hr2973 => ?_)
                      obtain ⟨i2974, ⟨u2975, u2976, u2977⟩⟩ := hr2973
                      have u2978 := kp_t kp_r u2975
                      have v2979 : q_V r2972.2 = q_V δ := (u2976).trans rfl
                      have v2980 := kr_t (kr_r (ad := ad)) u2977
                      have f2981 := ti_b r2972.1
                      exact ⟨by assumption, ⟨kp_w (by decide) u2978, v2979, kr_w (by decide) v2980⟩⟩
                    · have c2982 : (0 : Int) ≠ x4v.toInt := o_ne h2963
                      unfold J_X12_runs_169
                      have f2985 := ti_b x3v
                      refine ok_biv (fun vx2983 e2984 => ?_)
                      first | (have q2986 := te_addc (c := 1) (n := 1) rfl x3v (by omega) (by omega); rw [← e2984] at q2986; obtain ⟨f2987, f2988, f2989⟩ := q2986) | (obtain ⟨q2986, f2987, f2988, f2989⟩ : ∃ q : Int, vx2983.toInt = x3v.toInt + (1 : Int) + 4294967296 * q ∧ -2147483648 ≤ vx2983.toInt ∧ vx2983.toInt ≤ 2147483647 := by rw [e2984]; exact ti_addc (c := 1) (n := 1) rfl x3v)
                      refine ok_mono (ih vx2983 (0 : Int32) x5v x6v δ I (show 0 ≤ (x1).toInt by first | assumption | omega) (show (x1).toInt ≤ 3 by first | assumption | omega) (show 0 ≤ (x2).toInt by first | assumption | omega) (show (x2).toInt ≤ 3 by first | assumption | omega) (show 0 ≤ (x5v).toInt by first | assumption | omega) (show (x5v).toInt ≤ 2000 by first | assumption | omega) (show 0 ≤ (x6v).toInt by first | assumption | omega) (show (x6v).toInt ≤ 2000 by first | assumption | omega) (show 4000 - (x5v).toInt - (x6v).toInt < _ by omega)) (fun r2990 hr2991 => ?_)
                      obtain ⟨i2992, ⟨u2993, u2994, u2995⟩⟩ := hr2991
                      have u2996 := kp_t kp_r u2993
                      have v2997 : q_V r2990.2 = q_V δ := (u2994).trans rfl
                      have v2998 := kr_t (kr_r (ad := ad)) u2995
                      have f2999 := ti_b r2990.1
                      exact ⟨by assumption, ⟨kp_w (by decide) u2996, v2997, kr_w (by decide) v2998⟩⟩
              · have c3000 : r2900.1.toInt ≤ r2486.1.toInt := o_nlt h2906
                refine ok_biv (fun vx3001 e3002 => ?_)
                first | (have q3003 := te_addc (c := 1) (n := 1) rfl x6v (by omega) (by omega); rw [← e3002] at q3003; obtain ⟨f3004, f3005, f3006⟩ := q3003) | (obtain ⟨q3003, f3004, f3005, f3006⟩ : ∃ q : Int, vx3001.toInt = x6v.toInt + (1 : Int) + 4294967296 * q ∧ -2147483648 ≤ vx3001.toInt ∧ vx3001.toInt ≤ 2147483647 := by rw [e3002]; exact ti_addc (c := 1) (n := 1) rfl x6v)
                unfold J_X12_runs_132
                refine ok_ite (fun h3007 => ?_) (fun h3007 => ?_)
                · have c3008 : r2486.1.toInt = r2900.1.toInt := o_eq h3007
                  refine ok_mono (ih x3v x4v x5v vx3001 δ I (show 0 ≤ (x1).toInt by first | assumption | omega) (show (x1).toInt ≤ 3 by first | assumption | omega) (show 0 ≤ (x2).toInt by first | assumption | omega) (show (x2).toInt ≤ 3 by first | assumption | omega) (show 0 ≤ (x5v).toInt by first | assumption | omega) (show (x5v).toInt ≤ 2000 by first | assumption | omega) (show 0 ≤ (vx3001).toInt by first | assumption | omega) (show (vx3001).toInt ≤ 2000 by first | assumption | omega) (show 4000 - (x5v).toInt - (vx3001).toInt < _ by omega)) (fun r3009 hr3010 => ?_)
                  obtain ⟨i3011, ⟨u3012, u3013, u3014⟩⟩ := hr3010
                  have u3015 := kp_t kp_r u3012
                  have v3016 : q_V r3009.2 = q_V δ := (u3013).trans rfl
                  have v3017 := kr_t (kr_r (ad := ad)) u3014
                  have f3018 := ti_b r3009.1
                  exact ⟨by assumption, ⟨kp_w (by decide) u3015, v3016, kr_w (by decide) v3017⟩⟩
                · have c3019 : r2486.1.toInt ≠ r2900.1.toInt := o_ne h3007
                  refine ok_ite (fun h3020 => ?_) (fun h3020 => ?_)
                  · have c3021 : r2900.1.toInt ≤ r2486.1.toInt := o_le h3020
                    unfold J_X12_runs_154
                    have f3022 := ti_b x4v
                    refine ok_ite (fun h3023 => ?_) (fun h3023 => ?_)
                    · have c3024 : (1 : Int) = x4v.toInt := o_eq h3023
                      unfold J_X12_runs_169
                      have f3027 := ti_b x3v
                      refine ok_biv (fun vx3025 e3026 => ?_)
                      first | (have q3028 := te_addc (c := 0) (n := 0) rfl x3v (by omega) (by omega); rw [← e3026] at q3028; obtain ⟨f3029, f3030, f3031⟩ := q3028) | (obtain ⟨q3028, f3029, f3030, f3031⟩ : ∃ q : Int, vx3025.toInt = x3v.toInt + (0 : Int) + 4294967296 * q ∧ -2147483648 ≤ vx3025.toInt ∧ vx3025.toInt ≤ 2147483647 := by rw [e3026]; exact ti_addc (c := 0) (n := 0) rfl x3v)
                      refine ok_mono (ih vx3025 (1 : Int32) x5v vx3001 δ I (show 0 ≤ (x1).toInt by first | assumption | omega) (show (x1).toInt ≤ 3 by first | assumption | omega) (show 0 ≤ (x2).toInt by first | assumption | omega) (show (x2).toInt ≤ 3 by first | assumption | omega) (show 0 ≤ (x5v).toInt by first | assumption | omega) (show (x5v).toInt ≤ 2000 by first | assumption | omega) (show 0 ≤ (vx3001).toInt by first | assumption | omega) (show (vx3001).toInt ≤ 2000 by first | assumption | omega) (show 4000 - (x5v).toInt - (vx3001).toInt < _ by omega)) (fun r3032 hr3033 => ?_)
                      obtain ⟨i3034, ⟨u3035, u3036, u3037⟩⟩ := hr3033
                      have u3038 := kp_t kp_r u3035
                      have v3039 : q_V r3032.2 = q_V δ := (u3036).trans rfl
                      have v3040 := kr_t (kr_r (ad := ad)) u3037
                      have f3041 := ti_b r3032.1
                      exact ⟨by assumption, ⟨kp_w (by decide) u3038, v3039, kr_w (by decide) v3040⟩⟩
                    · have c3042 : (1 : Int) ≠ x4v.toInt := o_ne h3023
                      unfold J_X12_runs_169
                      have f3045 := ti_b x3v
                      refine ok_biv (fun vx3043 e3044 => ?_)
                      first | (have q3046 := te_addc (c := 1) (n := 1) rfl x3v (by omega) (by omega); rw [← e3044] at q3046; obtain ⟨f3047, f3048, f3049⟩ := q3046) | (obtain ⟨q3046, f3047, f3048, f3049⟩ : ∃ q : Int, vx3043.toInt = x3v.toInt + (1 : Int) + 4294967296 * q ∧ -2147483648 ≤ vx3043.toInt ∧ vx3043.toInt ≤ 2147483647 := by rw [e3044]; exact ti_addc (c := 1) (n := 1) rfl x3v)
                      refine ok_mono (ih vx3043 (1 : Int32) x5v vx3001 δ I (show 0 ≤ (x1).toInt by first | assumption | omega) (show (x1).toInt ≤ 3 by first | assumption | omega) (show 0 ≤ (x2).toInt by first | assumption | omega) (show (x2).toInt ≤ 3 by first | assumption | omega) (show 0 ≤ (x5v).toInt by first | assumption | omega) (show (x5v).toInt ≤ 2000 by first | assumption | omega) (show 0 ≤ (vx3001).toInt by first | assumption | omega) (show (vx3001).toInt ≤ 2000 by first | assumption | omega) (show 4000 - (x5v).toInt - (vx3001).toInt < _ by omega)) (fun r3050 hr3051 => ?_)
                      obtain ⟨i3052, ⟨u3053, u3054, u3055⟩⟩ := hr3051
                      have u3056 := kp_t kp_r u3053
                      have v3057 : q_V r3050.2 = q_V δ := (u3054).trans rfl
                      have v3058 := kr_t (kr_r (ad := ad)) u3055
                      have f3059 := ti_b r3050.1
                      exact ⟨by assumption, ⟨kp_w (by decide) u3056, v3057, kr_w (by decide) v3058⟩⟩
                  · have c3060 : r2486.1.toInt < r2900.1.toInt := o_nle h3020
                    unfold J_X12_runs_154
                    have f3061 := ti_b x4v
                    refine ok_ite (fun h3062 => ?_) (fun h3062 => ?_)
                    · have c3063 : (0 : Int) = x4v.toInt := o_eq h3062
                      unfold J_X12_runs_169
                      have f3066 := ti_b x3v
                      refine ok_biv (fun vx3064 e3065 => ?_)
                      first | (have q3067 := te_addc (c := 0) (n := 0) rfl x3v (by omega) (by omega); rw [← e3065] at q3067; obtain ⟨f3068, f3069, f3070⟩ := q3067) | (obtain ⟨q3067, f3068, f3069, f3070⟩ : ∃ q : Int, vx3064.toInt = x3v.toInt + (0 : Int) + 4294967296 * q ∧ -2147483648 ≤ vx3064.toInt ∧ vx3064.toInt ≤ 2147483647 := by rw [e3065]; exact ti_addc (c := 0) (n := 0) rfl x3v)
                      refine ok_mono (ih vx3064 (0 : Int32) x5v vx3001 δ I (show 0 ≤ (x1).toInt by first | assumption | omega) (show (x1).toInt ≤ 3 by first | assumption | omega) (show 0 ≤ (x2).toInt by first | assumption | omega) (show (x2).toInt ≤ 3 by first | assumption | omega) (show 0 ≤ (x5v).toInt by first | assumption | omega) (show (x5v).toInt ≤ 2000 by first | assumption | omega) (show 0 ≤ (vx3001).toInt by first | assumption | omega) (show (vx3001).toInt ≤ 2000 by first | assumption | omega) (show 4000 - (x5v).toInt - (vx3001).toInt < _ by omega)) (fun r3071 hr3072 => ?_)
                      obtain ⟨i3073, ⟨u3074, u3075, u3076⟩⟩ := hr3072
                      have u3077 := kp_t kp_r u3074
                      have v3078 : q_V r3071.2 = q_V δ := (u3075).trans rfl
                      have v3079 := kr_t (kr_r (ad := ad)) u3076
                      have f3080 := ti_b r3071.1
                      exact ⟨by assumption, ⟨kp_w (by decide) u3077, v3078, kr_w (by decide) v3079⟩⟩
                    · have c3081 : (0 : Int) ≠ x4v.toInt := o_ne h3062
                      unfold J_X12_runs_169
                      have f3084 := ti_b x3v
                      refine ok_biv (fun vx3082 e3083 => ?_)
                      first | (have q3085 := te_addc (c := 1) (n := 1) rfl x3v (by omega) (by omega); rw [← e3083] at q3085; obtain ⟨f3086, f3087, f3088⟩ := q3085) | (obtain ⟨q3085, f3086, f3087, f3088⟩ : ∃ q : Int, vx3082.toInt = x3v.toInt + (1 : Int) + 4294967296 * q ∧ -2147483648 ≤ vx3082.toInt ∧ vx3082.toInt ≤ 2147483647 := by rw [e3083]; exact ti_addc (c := 1) (n := 1) rfl x3v)
                      refine ok_mono (ih vx3082 (0 : Int32) x5v vx3001 δ I (show 0 ≤ (x1).toInt by first | assumption | omega) (show (x1).toInt ≤ 3 by first | assumption | omega) (show 0 ≤ (x2).toInt by first | assumption | omega) (show (x2).toInt ≤ 3 by first | assumption | omega) (show 0 ≤ (x5v).toInt by first | assumption | omega) (show (x5v).toInt ≤ 2000 by first | assumption | omega) (show 0 ≤ (vx3001).toInt by first | assumption | omega) (show (vx3001).toInt ≤ 2000 by first | assumption | omega) (show 4000 - (x5v).toInt - (vx3001).toInt < _ by omega)) (fun r3089 hr3090 => ?_)
                      obtain ⟨i3091, ⟨u3092, u3093, u3094⟩⟩ := hr3090
                      have u3095 := kp_t kp_r u3092
                      have v3096 : q_V r3089.2 = q_V δ := (u3093).trans rfl
                      have v3097 := kr_t (kr_r (ad := ad)) u3094
                      have f3098 := ti_b r3089.1
                      exact ⟨by assumption, ⟨kp_w (by decide) u3095, v3096, kr_w (by decide) v3097⟩⟩
            · have c3099 : r2486.1.toInt ≤ r2900.1.toInt := o_nlt h2904
              refine ok_biv (fun vx3100 e3101 => ?_)
              first | (have q3102 := te_addc (c := 1) (n := 1) rfl x5v (by omega) (by omega); rw [← e3101] at q3102; obtain ⟨f3103, f3104, f3105⟩ := q3102) | (obtain ⟨q3102, f3103, f3104, f3105⟩ : ∃ q : Int, vx3100.toInt = x5v.toInt + (1 : Int) + 4294967296 * q ∧ -2147483648 ≤ vx3100.toInt ∧ vx3100.toInt ≤ 2147483647 := by rw [e3101]; exact ti_addc (c := 1) (n := 1) rfl x5v)
              unfold J_X12_runs_122
              refine ok_ite (fun h3106 => ?_) (fun h3106 => ?_)
              · have c3107 : r2486.1.toInt < r2900.1.toInt := o_lt h3106
                unfold J_X12_runs_132
                refine ok_ite (fun h3108 => ?_) (fun h3108 => ?_)
                · have c3109 : r2486.1.toInt = r2900.1.toInt := o_eq h3108
                  refine ok_mono (ih x3v x4v vx3100 x6v δ I (show 0 ≤ (x1).toInt by first | assumption | omega) (show (x1).toInt ≤ 3 by first | assumption | omega) (show 0 ≤ (x2).toInt by first | assumption | omega) (show (x2).toInt ≤ 3 by first | assumption | omega) (show 0 ≤ (vx3100).toInt by first | assumption | omega) (show (vx3100).toInt ≤ 2000 by first | assumption | omega) (show 0 ≤ (x6v).toInt by first | assumption | omega) (show (x6v).toInt ≤ 2000 by first | assumption | omega) (show 4000 - (vx3100).toInt - (x6v).toInt < _ by omega)) (fun r3110 hr3111 => ?_)
                  obtain ⟨i3112, ⟨u3113, u3114, u3115⟩⟩ := hr3111
                  have u3116 := kp_t kp_r u3113
                  have v3117 : q_V r3110.2 = q_V δ := (u3114).trans rfl
                  have v3118 := kr_t (kr_r (ad := ad)) u3115
                  have f3119 := ti_b r3110.1
                  exact ⟨by assumption, ⟨kp_w (by decide) u3116, v3117, kr_w (by decide) v3118⟩⟩
                · have c3120 : r2486.1.toInt ≠ r2900.1.toInt := o_ne h3108
                  refine ok_ite (fun h3121 => ?_) (fun h3121 => ?_)
                  · have c3122 : r2900.1.toInt ≤ r2486.1.toInt := o_le h3121
                    unfold J_X12_runs_154
                    have f3123 := ti_b x4v
                    refine ok_ite (fun h3124 => ?_) (fun h3124 => ?_)
                    · have c3125 : (1 : Int) = x4v.toInt := o_eq h3124
                      unfold J_X12_runs_169
                      have f3128 := ti_b x3v
                      refine ok_biv (fun vx3126 e3127 => ?_)
                      first | (have q3129 := te_addc (c := 0) (n := 0) rfl x3v (by omega) (by omega); rw [← e3127] at q3129; obtain ⟨f3130, f3131, f3132⟩ := q3129) | (obtain ⟨q3129, f3130, f3131, f3132⟩ : ∃ q : Int, vx3126.toInt = x3v.toInt + (0 : Int) + 4294967296 * q ∧ -2147483648 ≤ vx3126.toInt ∧ vx3126.toInt ≤ 2147483647 := by rw [e3127]; exact ti_addc (c := 0) (n := 0) rfl x3v)
                      refine ok_mono (ih vx3126 (1 : Int32) vx3100 x6v δ I (show 0 ≤ (x1).toInt by first | assumption | omega) (show (x1).toInt ≤ 3 by first | assumption | omega) (show 0 ≤ (x2).toInt by first | assumption | omega) (show (x2).toInt ≤ 3 by first | assumption | omega) (show 0 ≤ (vx3100).toInt by first | assumption | omega) (show (vx3100).toInt ≤ 2000 by first | assumption | omega) (show 0 ≤ (x6v).toInt by first | assumption | omega) (show (x6v).toInt ≤ 2000 by first | assumption | omega) (show 4000 - (vx3100).toInt - (x6v).toInt < _ by omega)) (fun r3133 hr3134 => ?_)
                      obtain ⟨i3135, ⟨u3136, u3137, u3138⟩⟩ := hr3134
                      have u3139 := kp_t kp_r u3136
                      have v3140 : q_V r3133.2 = q_V δ := (u3137).trans rfl
                      have v3141 := kr_t (kr_r (ad := ad)) u3138
                      have f3142 := ti_b r3133.1
                      exact ⟨by assumption, ⟨kp_w (by decide) u3139, v3140, kr_w (by decide) v3141⟩⟩
                    · have c3143 : (1 : Int) ≠ x4v.toInt := o_ne h3124
                      unfold J_X12_runs_169
                      have f3146 := ti_b x3v
                      refine ok_biv (fun vx3144 e3145 => ?_)
                      first | (have q3147 := te_addc (c := 1) (n := 1) rfl x3v (by omega) (by omega); rw [← e3145] at q3147; obtain ⟨f3148, f3149, f3150⟩ := q3147) | (obtain ⟨q3147, f3148, f3149, f3150⟩ : ∃ q : Int, vx3144.toInt = x3v.toInt + (1 : Int) + 4294967296 * q ∧ -2147483648 ≤ vx3144.toInt ∧ vx3144.toInt ≤ 2147483647 := by rw [e3145]; exact ti_addc (c := 1) (n := 1) rfl x3v)
                      refine ok_mono (ih vx3144 (1 : Int32) vx3100 x6v δ I (show 0 ≤ (x1).toInt by first | assumption | omega) (show (x1).toInt ≤ 3 by first | assumption | omega) (show 0 ≤ (x2).toInt by first | assumption | omega) (show (x2).toInt ≤ 3 by first | assumption | omega) (show 0 ≤ (vx3100).toInt by first | assumption | omega) (show (vx3100).toInt ≤ 2000 by first | assumption | omega) (show 0 ≤ (x6v).toInt by first | assumption | omega) (show (x6v).toInt ≤ 2000 by first | assumption | omega) (show 4000 - (vx3100).toInt - (x6v).toInt < _ by omega)) (fun r3151 hr3152 => ?_)
                      obtain ⟨i3153, ⟨u3154, u3155, u3156⟩⟩ := hr3152
                      have u3157 := kp_t kp_r u3154
                      have v3158 : q_V r3151.2 = q_V δ := (u3155).trans rfl
                      have v3159 := kr_t (kr_r (ad := ad)) u3156
                      have f3160 := ti_b r3151.1
                      exact ⟨by assumption, ⟨kp_w (by decide) u3157, v3158, kr_w (by decide) v3159⟩⟩
                  · have c3161 : r2486.1.toInt < r2900.1.toInt := o_nle h3121
                    unfold J_X12_runs_154
                    have f3162 := ti_b x4v
                    refine ok_ite (fun h3163 => ?_) (fun h3163 => ?_)
                    · have c3164 : (0 : Int) = x4v.toInt := o_eq h3163
                      unfold J_X12_runs_169
                      have f3167 := ti_b x3v
                      refine ok_biv (fun vx3165 e3166 => ?_)
                      first | (have q3168 := te_addc (c := 0) (n := 0) rfl x3v (by omega) (by omega); rw [← e3166] at q3168; obtain ⟨f3169, f3170, f3171⟩ := q3168) | (obtain ⟨q3168, f3169, f3170, f3171⟩ : ∃ q : Int, vx3165.toInt = x3v.toInt + (0 : Int) + 4294967296 * q ∧ -2147483648 ≤ vx3165.toInt ∧ vx3165.toInt ≤ 2147483647 := by rw [e3166]; exact ti_addc (c := 0) (n := 0) rfl x3v)
                      refine ok_mono (ih vx3165 (0 : Int32) vx3100 x6v δ I (show 0 ≤ (x1).toInt by first | assumption | omega) (show (x1).toInt ≤ 3 by first | assumption | omega) (show 0 ≤ (x2).toInt by first | assumption | omega) (show (x2).toInt ≤ 3 by first | assumption | omega) (show 0 ≤ (vx3100).toInt by first | assumption | omega) (show (vx3100).toInt ≤ 2000 by first | assumption | omega) (show 0 ≤ (x6v).toInt by first | assumption | omega) (show (x6v).toInt ≤ 2000 by first | assumption | omega) (show 4000 - (vx3100).toInt - (x6v).toInt < _ by omega)) (fun r3172 hr3173 => ?_)
                      obtain ⟨i3174, ⟨u3175, u3176, u3177⟩⟩ := hr3173
                      have u3178 := kp_t kp_r u3175
                      have v3179 : q_V r3172.2 = q_V δ := (u3176).trans rfl
                      have v3180 := kr_t (kr_r (ad := ad)) u3177
                      have f3181 := ti_b r3172.1
                      exact ⟨by assumption, ⟨kp_w (by decide) u3178, v3179, kr_w (by decide) v3180⟩⟩
                    · have c3182 : (0 : Int) ≠ x4v.toInt := o_ne h3163
                      unfold J_X12_runs_169
                      have f3185 := ti_b x3v
                      refine ok_biv (fun vx3183 e3184 => ?_)
                      first | (have q3186 := te_addc (c := 1) (n := 1) rfl x3v (by omega) (by omega); rw [← e3184] at q3186; obtain ⟨f3187, f3188, f3189⟩ := q3186) | (obtain ⟨q3186, f3187, f3188, f3189⟩ : ∃ q : Int, vx3183.toInt = x3v.toInt + (1 : Int) + 4294967296 * q ∧ -2147483648 ≤ vx3183.toInt ∧ vx3183.toInt ≤ 2147483647 := by rw [e3184]; exact ti_addc (c := 1) (n := 1) rfl x3v)
                      refine ok_mono (ih vx3183 (0 : Int32) vx3100 x6v δ I (show 0 ≤ (x1).toInt by first | assumption | omega) (show (x1).toInt ≤ 3 by first | assumption | omega) (show 0 ≤ (x2).toInt by first | assumption | omega) (show (x2).toInt ≤ 3 by first | assumption | omega) (show 0 ≤ (vx3100).toInt by first | assumption | omega) (show (vx3100).toInt ≤ 2000 by first | assumption | omega) (show 0 ≤ (x6v).toInt by first | assumption | omega) (show (x6v).toInt ≤ 2000 by first | assumption | omega) (show 4000 - (vx3100).toInt - (x6v).toInt < _ by omega)) (fun r3190 hr3191 => ?_)
                      obtain ⟨i3192, ⟨u3193, u3194, u3195⟩⟩ := hr3191
                      have u3196 := kp_t kp_r u3193
                      have v3197 : q_V r3190.2 = q_V δ := (u3194).trans rfl
                      have v3198 := kr_t (kr_r (ad := ad)) u3195
                      have f3199 := ti_b r3190.1
                      exact ⟨by assumption, ⟨kp_w (by decide) u3196, v3197, kr_w (by decide) v3198⟩⟩
              · have c3200 : r2900.1.toInt ≤ r2486.1.toInt := o_nlt h3106
                refine ok_biv (fun vx3201 e3202 => ?_)
                first | (have q3203 := te_addc (c := 1) (n := 1) rfl x6v (by omega) (by omega); rw [← e3202] at q3203; obtain ⟨f3204, f3205, f3206⟩ := q3203) | (obtain ⟨q3203, f3204, f3205, f3206⟩ : ∃ q : Int, vx3201.toInt = x6v.toInt + (1 : Int) + 4294967296 * q ∧ -2147483648 ≤ vx3201.toInt ∧ vx3201.toInt ≤ 2147483647 := by rw [e3202]; exact ti_addc (c := 1) (n := 1) rfl x6v)
                unfold J_X12_runs_132
                refine ok_ite (fun h3207 => ?_) (fun h3207 => ?_)
                · have c3208 : r2486.1.toInt = r2900.1.toInt := o_eq h3207
                  refine ok_mono (ih x3v x4v vx3100 vx3201 δ I (show 0 ≤ (x1).toInt by first | assumption | omega) (show (x1).toInt ≤ 3 by first | assumption | omega) (show 0 ≤ (x2).toInt by first | assumption | omega) (show (x2).toInt ≤ 3 by first | assumption | omega) (show 0 ≤ (vx3100).toInt by first | assumption | omega) (show (vx3100).toInt ≤ 2000 by first | assumption | omega) (show 0 ≤ (vx3201).toInt by first | assumption | omega) (show (vx3201).toInt ≤ 2000 by first | assumption | omega) (show 4000 - (vx3100).toInt - (vx3201).toInt < _ by omega)) (fun r3209 hr3210 => ?_)
                  obtain ⟨i3211, ⟨u3212, u3213, u3214⟩⟩ := hr3210
                  have u3215 := kp_t kp_r u3212
                  have v3216 : q_V r3209.2 = q_V δ := (u3213).trans rfl
                  have v3217 := kr_t (kr_r (ad := ad)) u3214
                  have f3218 := ti_b r3209.1
                  exact ⟨by assumption, ⟨kp_w (by decide) u3215, v3216, kr_w (by decide) v3217⟩⟩
                · have c3219 : r2486.1.toInt ≠ r2900.1.toInt := o_ne h3207
                  refine ok_ite (fun h3220 => ?_) (fun h3220 => ?_)
                  · have c3221 : r2900.1.toInt ≤ r2486.1.toInt := o_le h3220
                    unfold J_X12_runs_154
                    have f3222 := ti_b x4v
                    refine ok_ite (fun h3223 => ?_) (fun h3223 => ?_)
                    · have c3224 : (1 : Int) = x4v.toInt := o_eq h3223
                      unfold J_X12_runs_169
                      have f3227 := ti_b x3v
                      refine ok_biv (fun vx3225 e3226 => ?_)
                      first | (have q3228 := te_addc (c := 0) (n := 0) rfl x3v (by omega) (by omega); rw [← e3226] at q3228; obtain ⟨f3229, f3230, f3231⟩ := q3228) | (obtain ⟨q3228, f3229, f3230, f3231⟩ : ∃ q : Int, vx3225.toInt = x3v.toInt + (0 : Int) + 4294967296 * q ∧ -2147483648 ≤ vx3225.toInt ∧ vx3225.toInt ≤ 2147483647 := by rw [e3226]; exact ti_addc (c := 0) (n := 0) rfl x3v)
                      refine ok_mono (ih vx3225 (1 : Int32) vx3100 vx3201 δ I (show 0 ≤ (x1).toInt by first | assumption | omega) (show (x1).toInt ≤ 3 by first | assumption | omega) (show 0 ≤ (x2).toInt by first | assumption | omega) (show (x2).toInt ≤ 3 by first | assumption | omega) (show 0 ≤ (vx3100).toInt by first | assumption | omega) (show (vx3100).toInt ≤ 2000 by first | assumption | omega) (show 0 ≤ (vx3201).toInt by first | assumption | omega) (show (vx3201).toInt ≤ 2000 by first | assumption | omega) (show 4000 - (vx3100).toInt - (vx3201).toInt < _ by omega)) (fun r3232 hr3233 => ?_)
                      obtain ⟨i3234, ⟨u3235, u3236, u3237⟩⟩ := hr3233
                      have u3238 := kp_t kp_r u3235
                      have v3239 : q_V r3232.2 = q_V δ := (u3236).trans rfl
                      have v3240 := kr_t (kr_r (ad := ad)) u3237
                      have f3241 := ti_b r3232.1
                      exact ⟨by assumption, ⟨kp_w (by decide) u3238, v3239, kr_w (by decide) v3240⟩⟩
                    · have c3242 : (1 : Int) ≠ x4v.toInt := o_ne h3223
                      unfold J_X12_runs_169
                      have f3245 := ti_b x3v
                      refine ok_biv (fun vx3243 e3244 => ?_)
                      first | (have q3246 := te_addc (c := 1) (n := 1) rfl x3v (by omega) (by omega); rw [← e3244] at q3246; obtain ⟨f3247, f3248, f3249⟩ := q3246) | (obtain ⟨q3246, f3247, f3248, f3249⟩ : ∃ q : Int, vx3243.toInt = x3v.toInt + (1 : Int) + 4294967296 * q ∧ -2147483648 ≤ vx3243.toInt ∧ vx3243.toInt ≤ 2147483647 := by rw [e3244]; exact ti_addc (c := 1) (n := 1) rfl x3v)
                      refine ok_mono (ih vx3243 (1 : Int32) vx3100 vx3201 δ I (show 0 ≤ (x1).toInt by first | assumption | omega) (show (x1).toInt ≤ 3 by first | assumption | omega) (show 0 ≤ (x2).toInt by first | assumption | omega) (show (x2).toInt ≤ 3 by first | assumption | omega) (show 0 ≤ (vx3100).toInt by first | assumption | omega) (show (vx3100).toInt ≤ 2000 by first | assumption | omega) (show 0 ≤ (vx3201).toInt by first | assumption | omega) (show (vx3201).toInt ≤ 2000 by first | assumption | omega) (show 4000 - (vx3100).toInt - (vx3201).toInt < _ by omega)) (fun r3250 hr3251 => ?_)
                      obtain ⟨i3252, ⟨u3253, u3254, u3255⟩⟩ := hr3251
                      have u3256 := kp_t kp_r u3253
                      have v3257 : q_V r3250.2 = q_V δ := (u3254).trans rfl
                      have v3258 := kr_t (kr_r (ad := ad)) u3255
                      have f3259 := ti_b r3250.1
                      exact ⟨by assumption, ⟨kp_w (by decide) u3256, v3257, kr_w (by decide) v3258⟩⟩
                  · have c3260 : r2486.1.toInt < r2900.1.toInt := o_nle h3220
                    unfold J_X12_runs_154
                    have f3261 := ti_b x4v
                    refine ok_ite (fun h3262 => ?_) (fun h3262 => ?_)
                    · have c3263 : (0 : Int) = x4v.toInt := o_eq h3262
                      unfold J_X12_runs_169
                      have f3266 := ti_b x3v
                      refine ok_biv (fun vx3264 e3265 => ?_)
                      first | (have q3267 := te_addc (c := 0) (n := 0) rfl x3v (by omega) (by omega); rw [← e3265] at q3267; obtain ⟨f3268, f3269, f3270⟩ := q3267) | (obtain ⟨q3267, f3268, f3269, f3270⟩ : ∃ q : Int, vx3264.toInt = x3v.toInt + (0 : Int) + 4294967296 * q ∧ -2147483648 ≤ vx3264.toInt ∧ vx3264.toInt ≤ 2147483647 := by rw [e3265]; exact ti_addc (c := 0) (n := 0) rfl x3v)
                      refine ok_mono (ih vx3264 (0 : Int32) vx3100 vx3201 δ I (show 0 ≤ (x1).toInt by first | assumption | omega) (show (x1).toInt ≤ 3 by first | assumption | omega) (show 0 ≤ (x2).toInt by first | assumption | omega) (show (x2).toInt ≤ 3 by first | assumption | omega) (show 0 ≤ (vx3100).toInt by first | assumption | omega) (show (vx3100).toInt ≤ 2000 by first | assumption | omega) (show 0 ≤ (vx3201).toInt by first | assumption | omega) (show (vx3201).toInt ≤ 2000 by first | assumption | omega) (show 4000 - (vx3100).toInt - (vx3201).toInt < _ by omega)) (fun r3271 hr3272 => ?_)
                      obtain ⟨i3273, ⟨u3274, u3275, u3276⟩⟩ := hr3272
                      have u3277 := kp_t kp_r u3274
                      have v3278 : q_V r3271.2 = q_V δ := (u3275).trans rfl
                      have v3279 := kr_t (kr_r (ad := ad)) u3276
                      have f3280 := ti_b r3271.1
                      exact ⟨by assumption, ⟨kp_w (by decide) u3277, v3278, kr_w (by decide) v3279⟩⟩
                    · have c3281 : (0 : Int) ≠ x4v.toInt := o_ne h3262
                      unfold J_X12_runs_169
                      have f3284 := ti_b x3v
                      refine ok_biv (fun vx3282 e3283 => ?_)
                      first | (have q3285 := te_addc (c := 1) (n := 1) rfl x3v (by omega) (by omega); rw [← e3283] at q3285; obtain ⟨f3286, f3287, f3288⟩ := q3285) | (obtain ⟨q3285, f3286, f3287, f3288⟩ : ∃ q : Int, vx3282.toInt = x3v.toInt + (1 : Int) + 4294967296 * q ∧ -2147483648 ≤ vx3282.toInt ∧ vx3282.toInt ≤ 2147483647 := by rw [e3283]; exact ti_addc (c := 1) (n := 1) rfl x3v)
                      refine ok_mono (ih vx3282 (0 : Int32) vx3100 vx3201 δ I (show 0 ≤ (x1).toInt by first | assumption | omega) (show (x1).toInt ≤ 3 by first | assumption | omega) (show 0 ≤ (x2).toInt by first | assumption | omega) (show (x2).toInt ≤ 3 by first | assumption | omega) (show 0 ≤ (vx3100).toInt by first | assumption | omega) (show (vx3100).toInt ≤ 2000 by first | assumption | omega) (show 0 ≤ (vx3201).toInt by first | assumption | omega) (show (vx3201).toInt ≤ 2000 by first | assumption | omega) (show 4000 - (vx3100).toInt - (vx3201).toInt < _ by omega)) (fun r3289 hr3290 => ?_)
                      obtain ⟨i3291, ⟨u3292, u3293, u3294⟩⟩ := hr3290
                      have u3295 := kp_t kp_r u3292
                      have v3296 : q_V r3289.2 = q_V δ := (u3293).trans rfl
                      have v3297 := kr_t (kr_r (ad := ad)) u3294
                      have f3298 := ti_b r3289.1
                      exact ⟨by assumption, ⟨kp_w (by decide) u3295, v3296, kr_w (by decide) v3297⟩⟩
set_option maxHeartbeats 4000000 in
theorem k_X12_runs {ad : List Nat} {h : hp} (L : Lay TLx ad h) {δ0 : dp} {N : Nat} (hN : 10000000 ≤ N) {a0 : Nat} {x1 : Int32} {x2 : Int32} (k_a0 : q_K h.1 a0 = 12) {δ : dp} (I : RI ad h.1 δ0 δ) : ok (D_X12_runs N h.1 a0 x1 x2 δ) (fun r => RI ad h.1 δ0 r.2 ∧ (kp [(12, 0)] δ r.2 ∧ q_V r.2 = q_V δ ∧ kr ad [100] δ r.2)) := by
  unfold D_X12_runs
  refine ok_bdv (fun d1 e2 => ?_)
  have i3 : RI ad h.1 δ0 d1 := by rw [e2]; exact cs_12_0 L I
  have u4 := kp_I kp_r e2
  have v5 : q_V d1 = q_V δ := ((show q_V d1 = q_V δ by rw [e2]; rfl)).trans rfl
  have v6 := kr_N (kr_r (ad := ad)) (show q_R d1 = q_R δ by rw [e2]; rfl)
  refine ok_bind (k_X12_isHouse L hN (a0 := a0) (x1 := x1) (x2 := (1 : Int32)) k_a0 (show (1 : Int) ≠ 0 by first | assumption | omega) i3) (fun r7 hr8 => ?_)
  obtain ⟨i9, ⟨u12, u13, u14⟩, p10, p11⟩ := hr8
  have u15 := kp_t u4 u12
  have v16 : q_V r7.2 = q_V δ := (u13).trans v5
  have v17 := kr_t v6 u14
  have f18 := bo_l p10
  have f19 := ti_b r7.1
  have f20 := ti_b x1
  have f21 := ti_b r7.1
  refine ok_ite (fun h22 => ?_) (fun h22 => ?_)
  · have c23 : r7.1.toInt = (0 : Int) := o_eq h22
    unfold J_X12_runs_23
    exact ok_some (show RI ad h.1 δ0 r7.2 ∧ (kp [(12, 0)] δ r7.2 ∧ q_V r7.2 = q_V δ ∧ kr ad [100] δ r7.2) from ⟨i9, ⟨kp_w (by decide) u15, v16, kr_w (by decide) v17⟩⟩)
  · have c24 : r7.1.toInt ≠ (0 : Int) := o_ne h22
    refine ok_bind (k_X12_isHouse L hN (a0 := a0) (x1 := x2) (x2 := (1 : Int32)) k_a0 (show (1 : Int) ≠ 0 by first | assumption | omega) i9) (fun r25 hr26 => ?_)
    obtain ⟨i27, ⟨u30, u31, u32⟩, p28, p29⟩ := hr26
    have u33 := kp_t u15 u30
    have v34 : q_V r25.2 = q_V δ := (u31).trans v16
    have v35 := kr_t v17 u32
    have f36 := bo_l p28
    have f37 := ti_b r25.1
    have f38 := ti_b x2
    have f39 := ti_b r25.1
    refine ok_ite (fun h40 => ?_) (fun h40 => ?_)
    · have c41 : r25.1.toInt = (0 : Int) := o_eq h40
      unfold J_X12_runs_23
      exact ok_some (show RI ad h.1 δ0 r25.2 ∧ (kp [(12, 0)] δ r25.2 ∧ q_V r25.2 = q_V δ ∧ kr ad [100] δ r25.2) from ⟨i27, ⟨kp_w (by decide) u33, v34, kr_w (by decide) v35⟩⟩)
    · have c42 : r25.1.toInt ≠ (0 : Int) := o_ne h40
      refine ok_mono (kl_X12_runs_36 L hN   k_a0 _ (0 : Int32) (-1 : Int32) (0 : Int32) (0 : Int32) r25.2 i27 (show 0 ≤ (x1).toInt by first | assumption | omega) (show (x1).toInt ≤ 3 by first | assumption | omega) (show 0 ≤ (x2).toInt by first | assumption | omega) (show (x2).toInt ≤ 3 by first | assumption | omega) (show 0 ≤ (0 : Int) by first | assumption | omega) (show (0 : Int) ≤ 2000 by first | assumption | omega) (show 0 ≤ (0 : Int) by first | assumption | omega) (show (0 : Int) ≤ 2000 by first | assumption | omega) (show 4000 - (0 : Int) - (0 : Int) < _ by omega)) (fun r43 hr44 => ?_)
      obtain ⟨i45, ⟨u46, u47, u48⟩⟩ := hr44
      have u49 := kp_t u33 u46
      have v50 : q_V r43.2 = q_V δ := (u47).trans v34
      have v51 := kr_t v35 u48
      have f52 := ti_b r43.1
      exact ⟨by assumption, ⟨kp_w (by decide) u49, v50, kr_w (by decide) v51⟩⟩
set_option maxHeartbeats 4000000 in
theorem kl_X12_gap_39 {ad : List Nat} {h : hp} (L : Lay TLx ad h) {δ0 : dp} {N : Nat} (hN : 10000000 ≤ N) {a0 : Nat} {x1 : Int32} {x2 : Int32} (k_a0 : q_K h.1 a0 = 12) : ∀ (n : Nat) (x3v : Int32) (x4v : Int32) (x5v : Int32) (δ : dp), RI ad h.1 δ0 δ → 0 ≤ (x1).toInt → (x1).toInt ≤ 3 → 1 ≤ (x5v).toInt → (x5v).toInt ≤ 2001 → 2001 - (x5v).toInt < (n : Int) → ok (L_X12_gap_39 N h.1 a0 x1 x2 n x3v x4v x5v δ) (fun r => RI ad h.1 δ0 r.2 ∧ (kp [(12, 0)] δ r.2 ∧ q_V r.2 = q_V δ ∧ kr ad [100] δ r.2)) := by
  intro n
  induction n with
  | zero =>
    intro x3v x4v x5v δ I j0 j1 j2 j3 hm
    have f1 := ti_b x1
    have f2 := ti_b x5v
    exfalso; omega
  | succ n ih =>
    intro x3v x4v x5v δ I j0 j1 j2 j3 hm
    unfold L_X12_gap_39
    have f1 := ti_b x1
    have f2 := ti_b x5v
    obtain ⟨b3, o4, k5, n6⟩ := gO_12_14 L k_a0
    obtain rfl := gS_12_14 L k_a0 o4
    refine ok_at o4 ?_
    have t7 := ti_tn x1
    refine ok_gd (fun hc8 => ?_) ?_
    · rcases hc8 with hc8 | hc8
      · have c9 : x1.toInt < (0 : Int) := o_lt hc8
        omega
      · omega
    have f10 := rb_103 L I x1.toNatClampNeg
    refine ok_ite (fun h11 => ?_) (fun h11 => ?_)
    · have c12 : (q_R δ (Ad ad 103) x1.toNatClampNeg).toInt ≤ x5v.toInt := o_le h11
      have f13 := ti_b x2
      refine ok_ite (fun h14 => ?_) (fun h14 => ?_)
      · have c15 : x2.toInt = (0 : Int) := o_eq h14
        unfold J_X12_gap_108
        exact ok_some (show RI ad h.1 δ0 δ ∧ (kp [(12, 0)] δ δ ∧ q_V δ = q_V δ ∧ kr ad [100] δ δ) from ⟨I, ⟨kp_w (by decide) kp_r, rfl, kr_w (by decide) (kr_r (ad := ad))⟩⟩)
      · have c16 : x2.toInt ≠ (0 : Int) := o_ne h14
        unfold J_X12_gap_108
        exact ok_some (show RI ad h.1 δ0 δ ∧ (kp [(12, 0)] δ δ ∧ q_V δ = q_V δ ∧ kr ad [100] δ δ) from ⟨I, ⟨kp_w (by decide) kp_r, rfl, kr_w (by decide) (kr_r (ad := ad))⟩⟩)
    · have c17 : x5v.toInt < (q_R δ (Ad ad 103) x1.toNatClampNeg).toInt := o_nle h11
      refine ok_bind (k_X12_numberAt L hN (a0 := a0) (x1 := x1) (x2 := x5v) k_a0 (show 0 ≤ (x1).toInt by first | assumption | omega) (show (x1).toInt ≤ 3 by first | assumption | omega) I) (fun r18 hr19 => ?_)
      have i20 := hr19
      try rw [i20]
      have f21 := ti_b r18.1
      refine ok_bind (k_X12_numberAt L hN (a0 := a0) (x1 := x1) (x2 := (x5v - (1 : Int32))) k_a0 (show 0 ≤ (x1).toInt by first | assumption | omega) (show (x1).toInt ≤ 3 by first | assumption | omega) I) (fun r22 hr23 => ?_)
      have i24 := hr23
      try rw [i24]
      have f25 := ti_b r22.1
      refine ok_biv (fun vx26 e27 => ?_)
      first | (have q28 := te_sub r18.1 r22.1 (by omega) (by omega); rw [← e27] at q28; obtain ⟨f29, f30, f31⟩ := q28) | (obtain ⟨q28, f29, f30, f31⟩ : ∃ q : Int, vx26.toInt = r18.1.toInt - r22.1.toInt + 4294967296 * q ∧ -2147483648 ≤ vx26.toInt ∧ vx26.toInt ≤ 2147483647 := by rw [e27]; exact ti_sub r18.1 r22.1)
      have f32 := ti_b x3v
      refine ok_ite (fun h33 => ?_) (fun h33 => ?_)
      · have c34 : x3v.toInt < vx26.toInt := o_lt h33
        refine ok_bind (k_X12_numberAt L hN (a0 := a0) (x1 := x1) (x2 := (x5v - (1 : Int32))) k_a0 (show 0 ≤ (x1).toInt by first | assumption | omega) (show (x1).toInt ≤ 3 by first | assumption | omega) I) (fun r35 hr36 => ?_)
        have i37 := hr36
        try rw [i37]
        have f38 := ti_b r35.1
        unfold J_X12_gap_92
        refine ok_biv (fun vx39 e40 => ?_)
        first | (have q41 := te_addc (c := 1) (n := 1) rfl x5v (by omega) (by omega); rw [← e40] at q41; obtain ⟨f42, f43, f44⟩ := q41) | (obtain ⟨q41, f42, f43, f44⟩ : ∃ q : Int, vx39.toInt = x5v.toInt + (1 : Int) + 4294967296 * q ∧ -2147483648 ≤ vx39.toInt ∧ vx39.toInt ≤ 2147483647 := by rw [e40]; exact ti_addc (c := 1) (n := 1) rfl x5v)
        refine ok_mono (ih vx26 r35.1 vx39 δ I (show 0 ≤ (x1).toInt by first | assumption | omega) (show (x1).toInt ≤ 3 by first | assumption | omega) (show 1 ≤ (vx39).toInt by first | assumption | omega) (show (vx39).toInt ≤ 2001 by first | assumption | omega) (show 2001 - (vx39).toInt < _ by omega)) (fun r45 hr46 => ?_)
        obtain ⟨i47, ⟨u48, u49, u50⟩⟩ := hr46
        have u51 := kp_t kp_r u48
        have v52 : q_V r45.2 = q_V δ := (u49).trans rfl
        have v53 := kr_t (kr_r (ad := ad)) u50
        have f54 := ti_b r45.1
        exact ⟨by assumption, ⟨kp_w (by decide) u51, v52, kr_w (by decide) v53⟩⟩
      · have c55 : vx26.toInt ≤ x3v.toInt := o_nlt h33
        unfold J_X12_gap_92
        refine ok_biv (fun vx56 e57 => ?_)
        first | (have q58 := te_addc (c := 1) (n := 1) rfl x5v (by omega) (by omega); rw [← e57] at q58; obtain ⟨f59, f60, f61⟩ := q58) | (obtain ⟨q58, f59, f60, f61⟩ : ∃ q : Int, vx56.toInt = x5v.toInt + (1 : Int) + 4294967296 * q ∧ -2147483648 ≤ vx56.toInt ∧ vx56.toInt ≤ 2147483647 := by rw [e57]; exact ti_addc (c := 1) (n := 1) rfl x5v)
        refine ok_mono (ih x3v x4v vx56 δ I (show 0 ≤ (x1).toInt by first | assumption | omega) (show (x1).toInt ≤ 3 by first | assumption | omega) (show 1 ≤ (vx56).toInt by first | assumption | omega) (show (vx56).toInt ≤ 2001 by first | assumption | omega) (show 2001 - (vx56).toInt < _ by omega)) (fun r62 hr63 => ?_)
        obtain ⟨i64, ⟨u65, u66, u67⟩⟩ := hr63
        have u68 := kp_t kp_r u65
        have v69 : q_V r62.2 = q_V δ := (u66).trans rfl
        have v70 := kr_t (kr_r (ad := ad)) u67
        have f71 := ti_b r62.1
        exact ⟨by assumption, ⟨kp_w (by decide) u68, v69, kr_w (by decide) v70⟩⟩
set_option maxHeartbeats 4000000 in
theorem k_X12_gap {ad : List Nat} {h : hp} (L : Lay TLx ad h) {δ0 : dp} {N : Nat} (hN : 10000000 ≤ N) {a0 : Nat} {x1 : Int32} {x2 : Int32} (k_a0 : q_K h.1 a0 = 12) {δ : dp} (I : RI ad h.1 δ0 δ) : ok (D_X12_gap N h.1 a0 x1 x2 δ) (fun r => RI ad h.1 δ0 r.2 ∧ (kp [(12, 0)] δ r.2 ∧ q_V r.2 = q_V δ ∧ kr ad [100] δ r.2)) := by
  unfold D_X12_gap
  refine ok_bdv (fun d1 e2 => ?_)
  have i3 : RI ad h.1 δ0 d1 := by rw [e2]; exact cs_12_0 L I
  have u4 := kp_I kp_r e2
  have v5 : q_V d1 = q_V δ := ((show q_V d1 = q_V δ by rw [e2]; rfl)).trans rfl
  have v6 := kr_N (kr_r (ad := ad)) (show q_R d1 = q_R δ by rw [e2]; rfl)
  refine ok_bind (k_X12_isHouse L hN (a0 := a0) (x1 := x1) (x2 := (1 : Int32)) k_a0 (show (1 : Int) ≠ 0 by first | assumption | omega) i3) (fun r7 hr8 => ?_)
  obtain ⟨i9, ⟨u12, u13, u14⟩, p10, p11⟩ := hr8
  have u15 := kp_t u4 u12
  have v16 : q_V r7.2 = q_V δ := (u13).trans v5
  have v17 := kr_t v6 u14
  have f18 := bo_l p10
  have f19 := ti_b r7.1
  have f20 := ti_b x1
  have f21 := ti_b r7.1
  refine ok_ite (fun h22 => ?_) (fun h22 => ?_)
  · have c23 : r7.1.toInt = (0 : Int) := o_eq h22
    unfold J_X12_gap_29
    exact ok_some (show RI ad h.1 δ0 r7.2 ∧ (kp [(12, 0)] δ r7.2 ∧ q_V r7.2 = q_V δ ∧ kr ad [100] δ r7.2) from ⟨i9, ⟨kp_w (by decide) u15, v16, kr_w (by decide) v17⟩⟩)
  · have c24 : r7.1.toInt ≠ (0 : Int) := o_ne h22
    refine ok_bind (k_X12_within L hN (x0 := x2) (x1 := (0 : Int32)) (x2 := (1 : Int32))  i9) (fun r25 hr26 => ?_)
    obtain ⟨i27, p28, p29, p30⟩ := hr26
    try rw [i27]
    have f31 := bo_l p28
    have f32 := ti_b r25.1
    have f33 := ti_b x2
    replace p29 : ((r25.1).toInt = 1 → (0 : Int) ≤ (x2).toInt ∧ (x2).toInt ≤ (1 : Int)) := p29
    replace p30 : ((r25.1).toInt = 0 → (x2).toInt < (0 : Int) ∨ (1 : Int) < (x2).toInt) := p30
    have f34 := ti_b r25.1
    refine ok_bind (k_X12_may L hN (a0 := a0) (x1 := r25.1) (x2 := (2 : Int32)) (x3 := (2 : Int32)) k_a0 (show (2 : Int) ≠ 0 by first | assumption | omega) (show 0 ≤ (2 : Int) by first | assumption | omega) (show (2 : Int) ≤ 2 by first | assumption | omega) i9) (fun r35 hr36 => ?_)
    obtain ⟨i37, ⟨u41, u42, u43⟩, p38, p39, p40⟩ := hr36
    have u44 := kp_t u15 u41
    have v45 : q_V r35.2 = q_V δ := (u42).trans v16
    have v46 := kr_t v17 u43
    have f47 := bo_l p38
    have f48 := ti_b r35.1
    have f49 := ti_b (q_I r7.2 12 0 a0)
    have f50 := ti_b r35.1
    refine ok_ite (fun h51 => ?_) (fun h51 => ?_)
    · have c52 : r35.1.toInt = (0 : Int) := o_eq h51
      unfold J_X12_gap_29
      exact ok_some (show RI ad h.1 δ0 r35.2 ∧ (kp [(12, 0)] δ r35.2 ∧ q_V r35.2 = q_V δ ∧ kr ad [100] δ r35.2) from ⟨i37, ⟨kp_w (by decide) u44, v45, kr_w (by decide) v46⟩⟩)
    · have c53 : r35.1.toInt ≠ (0 : Int) := o_ne h51
      refine ok_mono (kl_X12_gap_39 L hN   k_a0 _ (-1 : Int32) (-1 : Int32) (1 : Int32) r35.2 i37 (show 0 ≤ (x1).toInt by first | assumption | omega) (show (x1).toInt ≤ 3 by first | assumption | omega) (show 1 ≤ (1 : Int) by first | assumption | omega) (show (1 : Int) ≤ 2001 by first | assumption | omega) (show 2001 - (1 : Int) < _ by omega)) (fun r54 hr55 => ?_)
      obtain ⟨i56, ⟨u57, u58, u59⟩⟩ := hr55
      have u60 := kp_t u44 u57
      have v61 : q_V r54.2 = q_V δ := (u58).trans v45
      have v62 := kr_t v46 u59
      have f63 := ti_b r54.1
      exact ⟨by assumption, ⟨kp_w (by decide) u60, v61, kr_w (by decide) v62⟩⟩
set_option maxHeartbeats 4000000 in
theorem kl_X12_keeps_2 {ad : List Nat} {h : hp} (L : Lay TLx ad h) {δ0 : dp} {N : Nat} (hN : 10000000 ≤ N) {a0 : Nat} {x1 : Int32} (k_a0 : q_K h.1 a0 = 12) : ∀ (n : Nat) (x2v : Int32) (δ : dp), RI ad h.1 δ0 δ → 0 ≤ (x1).toInt → (x1).toInt ≤ 3 → 0 ≤ (x2v).toInt → (x2v).toInt ≤ 2000 → 2000 - (x2v).toInt < (n : Int) → ok (L_X12_keeps_2 N h.1 a0 x1 n x2v δ) (fun r => RI ad h.1 δ0 r ∧ (kp [(12, 47)] δ r ∧ q_V r = q_V δ ∧ kr ad [124] δ r) ∧ (q_I r 12 47 a0).toInt = (q_R δ (Ad ad 103) (x1).toNatClampNeg).toInt) := by
  intro n
  induction n with
  | zero =>
    intro x2v δ I j0 j1 j2 j3 hm
    have f1 := ti_b x1
    have f2 := ti_b x2v
    exfalso; omega
  | succ n ih =>
    intro x2v δ I j0 j1 j2 j3 hm
    unfold L_X12_keeps_2
    have f1 := ti_b x1
    have f2 := ti_b x2v
    obtain ⟨b3, o4, k5, n6⟩ := gO_12_14 L k_a0
    obtain rfl := gS_12_14 L k_a0 o4
    refine ok_at o4 ?_
    have t7 := ti_tn x1
    refine ok_gd (fun hc8 => ?_) ?_
    · rcases hc8 with hc8 | hc8
      · have c9 : x1.toInt < (0 : Int) := o_lt hc8
        omega
      · omega
    have f10 := rb_103 L I x1.toNatClampNeg
    refine ok_ite (fun h11 => ?_) (fun h11 => ?_)
    · have c12 : (q_R δ (Ad ad 103) x1.toNatClampNeg).toInt ≤ x2v.toInt := o_le h11
      refine ok_at o4 ?_
      refine ok_gd (fun hc13 => ?_) ?_
      · rcases hc13 with hc13 | hc13
        · have c14 : x1.toInt < (0 : Int) := o_lt hc13
          omega
        · omega
      refine ok_bdv (fun d15 e16 => ?_)
      have i17 : RI ad h.1 δ0 d15 := by rw [e16]; exact cs_12_47 L I k_a0 (show -1000 ≤ (q_R δ (Ad ad 103) x1.toNatClampNeg).toInt by omega) (show (q_R δ (Ad ad 103) x1.toNatClampNeg).toInt ≤ 2000 by omega)
      have u18 := kp_I kp_r e16
      have v19 : q_V d15 = q_V δ := ((show q_V d15 = q_V δ by rw [e16]; rfl)).trans rfl
      have v20 := kr_N (kr_r (ad := ad)) (show q_R d15 = q_R δ by rw [e16]; rfl)
      have f21 := cb_12_47 i17 k_a0
      have f22 : (q_I d15 12 47 a0).toInt = (q_R δ (Ad ad 103) x1.toNatClampNeg).toInt := congrArg Int32.toInt (show q_I d15 12 47 a0 = (q_R δ (Ad ad 103) x1.toNatClampNeg) by rw [e16]; exact rI_s)
      have t23 := ti_tn x1
      have f24 := rb_103 L I (x1).toNatClampNeg
      exact ok_some (show RI ad h.1 δ0 d15 ∧ (kp [(12, 47)] δ d15 ∧ q_V d15 = q_V δ ∧ kr ad [124] δ d15) ∧ (q_I d15 12 47 a0).toInt = (q_R δ (Ad ad 103) (x1).toNatClampNeg).toInt from ⟨i17, ⟨kp_w (by decide) u18, v19, kr_w (by decide) v20⟩, by first | assumption | omega⟩)
    · have c25 : x2v.toInt < (q_R δ (Ad ad 103) x1.toNatClampNeg).toInt := o_nle h11
      obtain ⟨b26, o27, k28, n29, w30⟩ := gO_12_46 L k_a0
      obtain rfl := gS_12_46 L k_a0 o27
      refine ok_at o27 ?_
      obtain ⟨b31, o32, k33, n34, w35⟩ := gO_12_13 L k_a0
      obtain rfl := gS_12_13 L k_a0 o32
      refine ok_at o32 ?_
      first | (have q37 := te_mulc (c := 2000) (n := 2000) rfl x1 (by omega) (by omega); obtain ⟨f38, f39, f40⟩ := q37) | (obtain ⟨q37, f38, f39, f40⟩ := ti_mulc (c := 2000) (n := 2000) rfl x1)
      first | (have q42 := te_add ((2000 : Int32) * x1) x2v (by omega) (by omega); obtain ⟨f43, f44, f45⟩ := q42) | (obtain ⟨q42, f43, f44, f45⟩ := ti_add ((2000 : Int32) * x1) x2v)
      have t46 := ti_tn (((2000 : Int32) * x1) + x2v)
      refine ok_gd (fun hc47 => ?_) ?_
      · rcases hc47 with hc47 | hc47
        · have c48 : (((2000 : Int32) * x1) + x2v).toInt < (0 : Int) := o_lt hc47
          omega
        · omega
      have t49 := ti_tn x2v
      refine ok_gd (fun hc50 => ?_) ?_
      · rcases hc50 with hc50 | hc50
        · have c51 : x2v.toInt < (0 : Int) := o_lt hc50
          omega
        · omega
      refine ok_bdv (fun d52 e53 => ?_)
      have i54 : RI ad h.1 δ0 d52 := by rw [e53]; exact RI.sR L I w30
      have u55 := kp_N kp_r (show q_I d52 = q_I δ by rw [e53]; rfl)
      have v56 : q_V d52 = q_V δ := ((show q_V d52 = q_V δ by rw [e53]; rfl)).trans rfl
      have v57 := kr_s L (by decide) (kr_r (ad := ad)) e53
      refine ok_biv (fun vx58 e59 => ?_)
      first | (have q60 := te_addc (c := 1) (n := 1) rfl x2v (by omega) (by omega); rw [← e59] at q60; obtain ⟨f61, f62, f63⟩ := q60) | (obtain ⟨q60, f61, f62, f63⟩ : ∃ q : Int, vx58.toInt = x2v.toInt + (1 : Int) + 4294967296 * q ∧ -2147483648 ≤ vx58.toInt ∧ vx58.toInt ≤ 2147483647 := by rw [e59]; exact ti_addc (c := 1) (n := 1) rfl x2v)
      refine ok_mono (ih vx58 d52 i54 (show 0 ≤ (x1).toInt by first | assumption | omega) (show (x1).toInt ≤ 3 by first | assumption | omega) (show 0 ≤ (vx58).toInt by first | assumption | omega) (show (vx58).toInt ≤ 2000 by first | assumption | omega) (show 2000 - (vx58).toInt < _ by omega)) (fun r64 hr65 => ?_)
      obtain ⟨i66, ⟨u68, u69, u70⟩, p67⟩ := hr65
      have u71 := kp_t u55 u68
      have v72 : q_V r64 = q_V δ := (u69).trans v56
      have v73 := kr_t v57 u70
      have f74 := cb_12_47 i66 k_a0
      have t75 := ti_tn x1
      have f76 : (q_R d52 (Ad ad 103) (x1).toNatClampNeg).toInt = (q_R δ (Ad ad 103) (x1).toNatClampNeg).toInt := congrArg Int32.toInt (show q_R d52 (Ad ad 103) (x1).toNatClampNeg = _ by rw [e53, rR_o (ad_ne L (by decide) (by decide) (by decide))])
      have f77 := rb_103 L I (x1).toNatClampNeg
      have f78 := rb_103 L i54 (x1).toNatClampNeg
      exact ⟨by assumption, ⟨kp_w (by decide) u71, v72, kr_w (by decide) v73⟩, by first | assumption | omega⟩
set_option maxHeartbeats 4000000 in
theorem k_X12_keeps {ad : List Nat} {h : hp} (L : Lay TLx ad h) {δ0 : dp} {N : Nat} (hN : 10000000 ≤ N) {a0 : Nat} {x1 : Int32} (k_a0 : q_K h.1 a0 = 12) {δ : dp} (z0 : 0 ≤ (x1).toInt) (z1 : (x1).toInt ≤ 3) (I : RI ad h.1 δ0 δ) : ok (D_X12_keeps N h.1 a0 x1 δ) (fun r => RI ad h.1 δ0 r ∧ (kp [(12, 47)] δ r ∧ q_V r = q_V δ ∧ kr ad [124] δ r) ∧ (q_I r 12 47 a0).toInt = (q_R δ (Ad ad 103) (x1).toNatClampNeg).toInt) := by
  unfold D_X12_keeps
  have f1 := ti_b x1
  refine ok_mono (kl_X12_keeps_2 L hN   k_a0 _ (0 : Int32) δ I (show 0 ≤ (x1).toInt by first | assumption | omega) (show (x1).toInt ≤ 3 by first | assumption | omega) (show 0 ≤ (0 : Int) by first | assumption | omega) (show (0 : Int) ≤ 2000 by first | assumption | omega) (show 2000 - (0 : Int) < _ by omega)) (fun r2 hr3 => ?_)
  obtain ⟨i4, ⟨u6, u7, u8⟩, p5⟩ := hr3
  have u9 := kp_t kp_r u6
  have v10 : q_V r2 = q_V δ := (u7).trans rfl
  have v11 := kr_t (kr_r (ad := ad)) u8
  have f12 := cb_12_47 i4 k_a0
  have t13 := ti_tn x1
  have f14 := rb_103 L I (x1).toNatClampNeg
  exact ⟨by assumption, ⟨kp_w (by decide) u9, v10, kr_w (by decide) v11⟩, by first | assumption | omega⟩
set_option maxHeartbeats 4000000 in
theorem kl_X12_comesBack_2 {ad : List Nat} {h : hp} (L : Lay TLx ad h) {δ0 : dp} {N : Nat} (hN : 10000000 ≤ N) {a0 : Nat} {x1 : Int32} (k_a0 : q_K h.1 a0 = 12) : ∀ (n : Nat) (x2v : Int32) (δ : dp), RI ad h.1 δ0 δ → 0 ≤ (x1).toInt → (x1).toInt ≤ 3 → 0 ≤ (x2v).toInt → (x2v).toInt ≤ 2000 → 2000 - (x2v).toInt < (n : Int) → ok (L_X12_comesBack_2 N h.1 a0 x1 n x2v δ) (fun r => RI ad h.1 δ0 r ∧ (kp [] δ r ∧ q_V r = q_V δ ∧ kr ad [102, 103] δ r)) := by
  intro n
  induction n with
  | zero =>
    intro x2v δ I j0 j1 j2 j3 hm
    have f1 := ti_b x1
    have f2 := ti_b x2v
    exfalso; omega
  | succ n ih =>
    intro x2v δ I j0 j1 j2 j3 hm
    unfold L_X12_comesBack_2
    have f1 := ti_b x1
    have f2 := ti_b x2v
    have f3 := cb_12_47 I k_a0
    refine ok_ite (fun h4 => ?_) (fun h4 => ?_)
    · have c5 : (q_I δ 12 47 a0).toInt ≤ x2v.toInt := o_le h4
      obtain ⟨b6, o7, k8, n9⟩ := gO_12_14 L k_a0
      obtain rfl := gS_12_14 L k_a0 o7
      refine ok_at o7 ?_
      have t10 := ti_tn x1
      refine ok_gd (fun hc11 => ?_) ?_
      · rcases hc11 with hc11 | hc11
        · have c12 : x1.toInt < (0 : Int) := o_lt hc11
          omega
        · omega
      refine ok_bdv (fun d13 e14 => ?_)
      have i15 : RI ad h.1 δ0 d13 := by rw [e14]; exact cr_103 L I (show -1000 ≤ (q_I δ 12 47 a0).toInt by omega) (show (q_I δ 12 47 a0).toInt ≤ 2000 by omega)
      have u16 := kp_N kp_r (show q_I d13 = q_I δ by rw [e14]; rfl)
      have v17 : q_V d13 = q_V δ := ((show q_V d13 = q_V δ by rw [e14]; rfl)).trans rfl
      have v18 := kr_s L (by decide) (kr_r (ad := ad)) e14
      exact ok_some (show RI ad h.1 δ0 d13 ∧ (kp [] δ d13 ∧ q_V d13 = q_V δ ∧ kr ad [102, 103] δ d13) from ⟨i15, ⟨kp_w (by decide) u16, v17, kr_w (by decide) v18⟩⟩)
    · have c19 : x2v.toInt < (q_I δ 12 47 a0).toInt := o_nle h4
      obtain ⟨b20, o21, k22, n23, w24⟩ := gO_12_13 L k_a0
      obtain rfl := gS_12_13 L k_a0 o21
      refine ok_at o21 ?_
      obtain ⟨b25, o26, k27, n28, w29⟩ := gO_12_46 L k_a0
      obtain rfl := gS_12_46 L k_a0 o26
      refine ok_at o26 ?_
      have t30 := ti_tn x2v
      refine ok_gd (fun hc31 => ?_) ?_
      · rcases hc31 with hc31 | hc31
        · have c32 : x2v.toInt < (0 : Int) := o_lt hc31
          omega
        · omega
      first | (have q34 := te_mulc (c := 2000) (n := 2000) rfl x1 (by omega) (by omega); obtain ⟨f35, f36, f37⟩ := q34) | (obtain ⟨q34, f35, f36, f37⟩ := ti_mulc (c := 2000) (n := 2000) rfl x1)
      first | (have q39 := te_add ((2000 : Int32) * x1) x2v (by omega) (by omega); obtain ⟨f40, f41, f42⟩ := q39) | (obtain ⟨q39, f40, f41, f42⟩ := ti_add ((2000 : Int32) * x1) x2v)
      have t43 := ti_tn (((2000 : Int32) * x1) + x2v)
      refine ok_gd (fun hc44 => ?_) ?_
      · rcases hc44 with hc44 | hc44
        · have c45 : (((2000 : Int32) * x1) + x2v).toInt < (0 : Int) := o_lt hc44
          omega
        · omega
      refine ok_bdv (fun d46 e47 => ?_)
      have i48 : RI ad h.1 δ0 d46 := by rw [e47]; exact RI.sR L I w24
      have u49 := kp_N kp_r (show q_I d46 = q_I δ by rw [e47]; rfl)
      have v50 : q_V d46 = q_V δ := ((show q_V d46 = q_V δ by rw [e47]; rfl)).trans rfl
      have v51 := kr_s L (by decide) (kr_r (ad := ad)) e47
      refine ok_biv (fun vx52 e53 => ?_)
      first | (have q54 := te_addc (c := 1) (n := 1) rfl x2v (by omega) (by omega); rw [← e53] at q54; obtain ⟨f55, f56, f57⟩ := q54) | (obtain ⟨q54, f55, f56, f57⟩ : ∃ q : Int, vx52.toInt = x2v.toInt + (1 : Int) + 4294967296 * q ∧ -2147483648 ≤ vx52.toInt ∧ vx52.toInt ≤ 2147483647 := by rw [e53]; exact ti_addc (c := 1) (n := 1) rfl x2v)
      refine ok_mono (ih vx52 d46 i48 (show 0 ≤ (x1).toInt by first | assumption | omega) (show (x1).toInt ≤ 3 by first | assumption | omega) (show 0 ≤ (vx52).toInt by first | assumption | omega) (show (vx52).toInt ≤ 2000 by first | assumption | omega) (show 2000 - (vx52).toInt < _ by omega)) (fun r58 hr59 => ?_)
      obtain ⟨i60, ⟨u61, u62, u63⟩⟩ := hr59
      have u64 := kp_t u49 u61
      have v65 : q_V r58 = q_V δ := (u62).trans v50
      have v66 := kr_t v51 u63
      exact ⟨by assumption, ⟨kp_w (by decide) u64, v65, kr_w (by decide) v66⟩⟩
set_option maxHeartbeats 4000000 in
theorem k_X12_comesBack {ad : List Nat} {h : hp} (L : Lay TLx ad h) {δ0 : dp} {N : Nat} (hN : 10000000 ≤ N) {a0 : Nat} {x1 : Int32} (k_a0 : q_K h.1 a0 = 12) {δ : dp} (z0 : 0 ≤ (x1).toInt) (z1 : (x1).toInt ≤ 3) (I : RI ad h.1 δ0 δ) : ok (D_X12_comesBack N h.1 a0 x1 δ) (fun r => RI ad h.1 δ0 r ∧ (kp [] δ r ∧ q_V r = q_V δ ∧ kr ad [102, 103] δ r)) := by
  unfold D_X12_comesBack
  have f1 := ti_b x1
  refine ok_mono (kl_X12_comesBack_2 L hN   k_a0 _ (0 : Int32) δ I (show 0 ≤ (x1).toInt by first | assumption | omega) (show (x1).toInt ≤ 3 by first | assumption | omega) (show 0 ≤ (0 : Int) by first | assumption | omega) (show (0 : Int) ≤ 2000 by first | assumption | omega) (show 2000 - (0 : Int) < _ by omega)) (fun r2 hr3 => ?_)
  obtain ⟨i4, ⟨u5, u6, u7⟩⟩ := hr3
  have u8 := kp_t kp_r u5
  have v9 : q_V r2 = q_V δ := (u6).trans rfl
  have v10 := kr_t (kr_r (ad := ad)) u7
  exact ⟨by assumption, ⟨kp_w (by decide) u8, v9, kr_w (by decide) v10⟩⟩
set_option maxHeartbeats 4000000 in
theorem k_X12_changes {ad : List Nat} {h : hp} (L : Lay TLx ad h) {δ0 : dp} {N : Nat} (hN : 10000000 ≤ N) {a0 : Nat} {x1 : Int32} {x2 : Int32} (k_a0 : q_K h.1 a0 = 12) {δ : dp} (z0 : 0 ≤ (x1).toInt) (z1 : (x1).toInt ≤ 3) (z2 : 0 ≤ (x2).toInt) (z3 : (x2).toInt < 1000) (z4 : -999 ≤ (q_R δ (Ad ad 103) (x1).toNatClampNeg).toInt) (z5 : (q_R δ (Ad ad 103) (x1).toNatClampNeg).toInt < 2000) (I : RI ad h.1 δ0 δ) : ok (D_X12_changes N h.1 a0 x1 x2 δ) (fun r => RI ad h.1 δ0 r ∧ (kp [] δ r ∧ q_V r = q_V δ ∧ kr ad [102, 103] δ r) ∧ (q_R δ (Ad ad 103) (x1).toNatClampNeg).toInt - 1 ≤ (q_R r (Ad ad 103) (x1).toNatClampNeg).toInt ∧ (q_R r (Ad ad 103) (x1).toNatClampNeg).toInt ≤ (q_R δ (Ad ad 103) (x1).toNatClampNeg).toInt + 1) := by
  unfold D_X12_changes
  have f1 := ti_b x1
  have f2 := ti_b x2
  have t3 := ti_tn x1
  have f4 := rb_103 L I (x1).toNatClampNeg
  obtain ⟨b5, o6, k7, n8, w9⟩ := gO_12_15 L k_a0
  obtain rfl := gS_12_15 L k_a0 o6
  refine ok_at o6 ?_
  first | (have q11 := te_mulc (c := 1000) (n := 1000) rfl x1 (by omega) (by omega); obtain ⟨f12, f13, f14⟩ := q11) | (obtain ⟨q11, f12, f13, f14⟩ := ti_mulc (c := 1000) (n := 1000) rfl x1)
  first | (have q16 := te_add ((1000 : Int32) * x1) x2 (by omega) (by omega); obtain ⟨f17, f18, f19⟩ := q16) | (obtain ⟨q16, f17, f18, f19⟩ := ti_add ((1000 : Int32) * x1) x2)
  have t20 := ti_tn (((1000 : Int32) * x1) + x2)
  refine ok_gd (fun hc21 => ?_) ?_
  · rcases hc21 with hc21 | hc21
    · have c22 : (((1000 : Int32) * x1) + x2).toInt < (0 : Int) := o_lt hc21
      omega
    · omega
  have f25 := ti_b (q_R δ (Ad ad 104) (((1000 : Int32) * x1) + x2).toNatClampNeg)
  refine ok_biv (fun vx23 e24 => ?_)
  have f26 : vx23.toInt = (q_R δ (Ad ad 104) (((1000 : Int32) * x1) + x2).toNatClampNeg).toInt := congrArg Int32.toInt e24
  obtain ⟨b27, o28, k29, n30, w31⟩ := gO_12_16 L k_a0
  obtain rfl := gS_12_16 L k_a0 o28
  refine ok_at o28 ?_
  refine ok_gd (fun hc32 => ?_) ?_
  · rcases hc32 with hc32 | hc32
    · have c33 : (((1000 : Int32) * x1) + x2).toInt < (0 : Int) := o_lt hc32
      omega
    · omega
  have f34 := ti_b (q_R δ (Ad ad 105) (((1000 : Int32) * x1) + x2).toNatClampNeg)
  refine ok_ite (fun h35 => ?_) (fun h35 => ?_)
  · have c36 : (q_R δ (Ad ad 105) (((1000 : Int32) * x1) + x2).toNatClampNeg).toInt = (1 : Int) := o_eq h35
    refine ok_bind (k_X12_comes L hN (a0 := a0) (x1 := x1) (x2 := vx23) k_a0 (show 0 ≤ (x1).toInt by first | assumption | omega) (show (x1).toInt ≤ 3 by first | assumption | omega) (show (q_R δ (Ad ad 103) (x1).toNatClampNeg).toInt < 2000 by first | assumption | omega) I) (fun r37 hr38 => ?_)
    obtain ⟨i39, ⟨u41, u42, u43⟩, p40⟩ := hr38
    have u44 := kp_t kp_r u41
    have v45 : q_V r37 = q_V δ := (u42).trans rfl
    have v46 := kr_t (kr_r (ad := ad)) u43
    have f47 := rb_103 L i39 (x1).toNatClampNeg
    unfold J_X12_changes_44
    exact ok_some (show RI ad h.1 δ0 r37 ∧ (kp [] δ r37 ∧ q_V r37 = q_V δ ∧ kr ad [102, 103] δ r37) ∧ (q_R δ (Ad ad 103) (x1).toNatClampNeg).toInt - 1 ≤ (q_R r37 (Ad ad 103) (x1).toNatClampNeg).toInt ∧ (q_R r37 (Ad ad 103) (x1).toNatClampNeg).toInt ≤ (q_R δ (Ad ad 103) (x1).toNatClampNeg).toInt + 1 from ⟨i39, ⟨kp_w (by decide) u44, v45, kr_w (by decide) v46⟩, by first | assumption | omega, by first | assumption | omega⟩)
  · have c48 : (q_R δ (Ad ad 105) (((1000 : Int32) * x1) + x2).toNatClampNeg).toInt ≠ (1 : Int) := o_ne h35
    refine ok_bind (k_X12_leaves L hN (a0 := a0) (x1 := x1) (x2 := vx23) k_a0 (show 0 ≤ (x1).toInt by first | assumption | omega) (show (x1).toInt ≤ 3 by first | assumption | omega) (show -999 ≤ (q_R δ (Ad ad 103) (x1).toNatClampNeg).toInt by first | assumption | omega) I) (fun r49 hr50 => ?_)
    obtain ⟨i51, ⟨u53, u54, u55⟩, p52⟩ := hr50
    have u56 := kp_t kp_r u53
    have v57 : q_V r49 = q_V δ := (u54).trans rfl
    have v58 := kr_t (kr_r (ad := ad)) u55
    have f59 := rb_103 L i51 (x1).toNatClampNeg
    unfold J_X12_changes_44
    exact ok_some (show RI ad h.1 δ0 r49 ∧ (kp [] δ r49 ∧ q_V r49 = q_V δ ∧ kr ad [102, 103] δ r49) ∧ (q_R δ (Ad ad 103) (x1).toNatClampNeg).toInt - 1 ≤ (q_R r49 (Ad ad 103) (x1).toNatClampNeg).toInt ∧ (q_R r49 (Ad ad 103) (x1).toNatClampNeg).toInt ≤ (q_R δ (Ad ad 103) (x1).toNatClampNeg).toInt + 1 from ⟨i51, ⟨kp_w (by decide) u56, v57, kr_w (by decide) v58⟩, by first | assumption | omega, by first | assumption | omega⟩)
set_option maxHeartbeats 4000000 in
theorem kl_X12_goesTo_14 {ad : List Nat} {h : hp} (L : Lay TLx ad h) {δ0 : dp} {N : Nat} (hN : 10000000 ≤ N) {a0 : Nat} {x1 : Int32} {x2 : Int32} (k_a0 : q_K h.1 a0 = 12) : ∀ (n : Nat) (x3v : Int32) (δ : dp), RI ad h.1 δ0 δ → 0 ≤ (x1).toInt → (x1).toInt ≤ 3 → 0 ≤ (x3v).toInt → (x3v).toInt ≤ (x2).toInt → (x2).toInt ≤ 1000 → -(x3v).toInt ≤ (q_R δ (Ad ad 103) (x1).toNatClampNeg).toInt → (q_R δ (Ad ad 103) (x1).toNatClampNeg).toInt ≤ (x3v).toInt → (x2).toInt - (x3v).toInt < (n : Int) → ok (L_X12_goesTo_14 N h.1 a0 x1 x2 n x3v δ) (fun r => RI ad h.1 δ0 r ∧ (kp [(12, 47)] δ r ∧ q_V r = q_V δ ∧ kr ad [102, 103, 124] δ r)) := by
  intro n
  induction n with
  | zero =>
    intro x3v δ I j0 j1 j2 j3 j4 j5 j6 hm
    have f1 := ti_b x1
    have f2 := ti_b x3v
    have f3 := ti_b x2
    have t4 := ti_tn x1
    have f5 := rb_103 L I (x1).toNatClampNeg
    exfalso; omega
  | succ n ih =>
    intro x3v δ I j0 j1 j2 j3 j4 j5 j6 hm
    unfold L_X12_goesTo_14
    have f1 := ti_b x1
    have f2 := ti_b x3v
    have f3 := ti_b x2
    have t4 := ti_tn x1
    have f5 := rb_103 L I (x1).toNatClampNeg
    refine ok_ite (fun h6 => ?_) (fun h6 => ?_)
    · have c7 : x2.toInt ≤ x3v.toInt := o_le h6
      exact ok_some (show RI ad h.1 δ0 δ ∧ (kp [(12, 47)] δ δ ∧ q_V δ = q_V δ ∧ kr ad [102, 103, 124] δ δ) from ⟨I, ⟨kp_w (by decide) kp_r, rfl, kr_w (by decide) (kr_r (ad := ad))⟩⟩)
    · have c8 : x3v.toInt < x2.toInt := o_nle h6
      refine ok_bind (k_X12_changes L hN (a0 := a0) (x1 := x1) (x2 := x3v) k_a0 (show 0 ≤ (x1).toInt by first | assumption | omega) (show (x1).toInt ≤ 3 by first | assumption | omega) (show 0 ≤ (x3v).toInt by first | assumption | omega) (show (x3v).toInt < 1000 by first | assumption | omega) (show -999 ≤ (q_R δ (Ad ad 103) (x1).toNatClampNeg).toInt by first | assumption | omega) (show (q_R δ (Ad ad 103) (x1).toNatClampNeg).toInt < 2000 by first | assumption | omega) I) (fun r9 hr10 => ?_)
      obtain ⟨i11, ⟨u14, u15, u16⟩, p12, p13⟩ := hr10
      have u17 := kp_t kp_r u14
      have v18 : q_V r9 = q_V δ := (u15).trans rfl
      have v19 := kr_t (kr_r (ad := ad)) u16
      have f20 := rb_103 L i11 (x1).toNatClampNeg
      refine ok_biv (fun vx21 e22 => ?_)
      first | (have q23 := te_addc (c := 1) (n := 1) rfl x3v (by omega) (by omega); rw [← e22] at q23; obtain ⟨f24, f25, f26⟩ := q23) | (obtain ⟨q23, f24, f25, f26⟩ : ∃ q : Int, vx21.toInt = x3v.toInt + (1 : Int) + 4294967296 * q ∧ -2147483648 ≤ vx21.toInt ∧ vx21.toInt ≤ 2147483647 := by rw [e22]; exact ti_addc (c := 1) (n := 1) rfl x3v)
      refine ok_mono (ih vx21 r9 i11 (show 0 ≤ (x1).toInt by first | assumption | omega) (show (x1).toInt ≤ 3 by first | assumption | omega) (show 0 ≤ (vx21).toInt by first | assumption | omega) (show (vx21).toInt ≤ (x2).toInt by first | assumption | omega) (show (x2).toInt ≤ 1000 by first | assumption | omega) (show -(vx21).toInt ≤ (q_R r9 (Ad ad 103) (x1).toNatClampNeg).toInt by first | assumption | omega) (show (q_R r9 (Ad ad 103) (x1).toNatClampNeg).toInt ≤ (vx21).toInt by first | assumption | omega) (show (x2).toInt - (vx21).toInt < _ by omega)) (fun r27 hr28 => ?_)
      obtain ⟨i29, ⟨u30, u31, u32⟩⟩ := hr28
      have u33 := kp_t u17 u30
      have v34 : q_V r27 = q_V δ := (u31).trans v18
      have v35 := kr_t v19 u32
      exact ⟨by assumption, ⟨kp_w (by decide) u33, v34, kr_w (by decide) v35⟩⟩
set_option maxHeartbeats 4000000 in
theorem k_X12_goesTo {ad : List Nat} {h : hp} (L : Lay TLx ad h) {δ0 : dp} {N : Nat} (hN : 10000000 ≤ N) {a0 : Nat} {x1 : Int32} {x2 : Int32} (k_a0 : q_K h.1 a0 = 12) {δ : dp} (z0 : 0 ≤ (x1).toInt) (z1 : (x1).toInt ≤ 3) (z2 : 0 ≤ (x2).toInt) (z3 : (x2).toInt ≤ 1000) (I : RI ad h.1 δ0 δ) : ok (D_X12_goesTo N h.1 a0 x1 x2 δ) (fun r => RI ad h.1 δ0 r ∧ (kp [(12, 47)] δ r ∧ q_V r = q_V δ ∧ kr ad [102, 103, 124] δ r)) := by
  unfold D_X12_goesTo
  have f1 := ti_b x1
  have f2 := ti_b x2
  refine ok_bind (k_X12_keeps L hN (a0 := a0) (x1 := x1) k_a0 (show 0 ≤ (x1).toInt by first | assumption | omega) (show (x1).toInt ≤ 3 by first | assumption | omega) I) (fun r3 hr4 => ?_)
  obtain ⟨i5, ⟨u7, u8, u9⟩, p6⟩ := hr4
  have u10 := kp_t kp_r u7
  have v11 : q_V r3 = q_V δ := (u8).trans rfl
  have v12 := kr_t (kr_r (ad := ad)) u9
  have f13 := cb_12_47 i5 k_a0
  have t14 := ti_tn x1
  have f15 := rb_103 L I (x1).toNatClampNeg
  obtain ⟨b16, o17, k18, n19⟩ := gO_12_14 L k_a0
  obtain rfl := gS_12_14 L k_a0 o17
  refine ok_at o17 ?_
  have t20 := ti_tn x1
  refine ok_gd (fun hc21 => ?_) ?_
  · rcases hc21 with hc21 | hc21
    · have c22 : x1.toInt < (0 : Int) := o_lt hc21
      omega
    · omega
  refine ok_bdv (fun d23 e24 => ?_)
  have i25 : RI ad h.1 δ0 d23 := by rw [e24]; exact cr_103 L i5 (show -1000 ≤ (0 : Int) by omega) (show (0 : Int) ≤ 2000 by omega)
  have u26 := kp_N u10 (show q_I d23 = q_I r3 by rw [e24]; rfl)
  have v27 : q_V d23 = q_V δ := ((show q_V d23 = q_V r3 by rw [e24]; rfl)).trans v11
  have v28 := kr_s L (by decide) v12 e24
  have f29 := rb_103 L i25 (x1).toNatClampNeg
  refine ok_mono (kl_X12_goesTo_14 L hN   k_a0 _ (0 : Int32) d23 i25 (show 0 ≤ (x1).toInt by first | assumption | omega) (show (x1).toInt ≤ 3 by first | assumption | omega) (show 0 ≤ (0 : Int) by first | assumption | omega) (show (0 : Int) ≤ (x2).toInt by first | assumption | omega) (show (x2).toInt ≤ 1000 by first | assumption | omega) (show -(0 : Int) ≤ (q_R d23 (Ad ad 103) (x1).toNatClampNeg).toInt by first | assumption | omega) (show (q_R d23 (Ad ad 103) (x1).toNatClampNeg).toInt ≤ (0 : Int) by first | assumption | omega) (show (x2).toInt - (0 : Int) < _ by omega)) (fun r30 hr31 => ?_)
  obtain ⟨i32, ⟨u33, u34, u35⟩⟩ := hr31
  have u36 := kp_t u26 u33
  have v37 : q_V r30 = q_V δ := (u34).trans v27
  have v38 := kr_t v28 u35
  exact ⟨by assumption, ⟨kp_w (by decide) u36, v37, kr_w (by decide) v38⟩⟩
set_option maxHeartbeats 4000000 in
theorem k_X12_was {ad : List Nat} {h : hp} (L : Lay TLx ad h) {δ0 : dp} {N : Nat} (hN : 10000000 ≤ N) {a0 : Nat} {x1 : Int32} {x2 : Int32} {x3 : Int32} (k_a0 : q_K h.1 a0 = 12) {δ : dp} (I : RI ad h.1 δ0 δ) : ok (D_X12_was N h.1 a0 x1 x2 x3 δ) (fun r => RI ad h.1 δ0 r.2 ∧ (kp [(12, 0), (12, 47)] δ r.2 ∧ q_V r.2 = q_V δ ∧ kr ad [100, 102, 103, 124] δ r.2)) := by
  unfold D_X12_was
  refine ok_bdv (fun d1 e2 => ?_)
  have i3 : RI ad h.1 δ0 d1 := by rw [e2]; exact cs_12_0 L I
  have u4 := kp_I kp_r e2
  have v5 : q_V d1 = q_V δ := ((show q_V d1 = q_V δ by rw [e2]; rfl)).trans rfl
  have v6 := kr_N (kr_r (ad := ad)) (show q_R d1 = q_R δ by rw [e2]; rfl)
  refine ok_bind (k_X12_isHouse L hN (a0 := a0) (x1 := x1) (x2 := (1 : Int32)) k_a0 (show (1 : Int) ≠ 0 by first | assumption | omega) i3) (fun r7 hr8 => ?_)
  obtain ⟨i9, ⟨u12, u13, u14⟩, p10, p11⟩ := hr8
  have u15 := kp_t u4 u12
  have v16 : q_V r7.2 = q_V δ := (u13).trans v5
  have v17 := kr_t v6 u14
  have f18 := bo_l p10
  have f19 := ti_b r7.1
  have f20 := ti_b x1
  have f21 := ti_b r7.1
  refine ok_ite (fun h22 => ?_) (fun h22 => ?_)
  · have c23 : r7.1.toInt = (0 : Int) := o_eq h22
    unfold J_X12_was_46
    exact ok_some (show RI ad h.1 δ0 r7.2 ∧ (kp [(12, 0), (12, 47)] δ r7.2 ∧ q_V r7.2 = q_V δ ∧ kr ad [100, 102, 103, 124] δ r7.2) from ⟨i9, ⟨kp_w (by decide) u15, v16, kr_w (by decide) v17⟩⟩)
  · have c24 : r7.1.toInt ≠ (0 : Int) := o_ne h22
    refine ok_bind (k_X12_isTime L hN (a0 := a0) (x1 := x1) (x2 := x2) k_a0 (show 0 ≤ (x1).toInt by first | assumption | omega) (show (x1).toInt ≤ 3 by first | assumption | omega) i9) (fun r25 hr26 => ?_)
    obtain ⟨i27, p28, p29⟩ := hr26
    try rw [i27]
    have f30 := bo_l p28
    have f31 := ti_b r25.1
    have f32 := ti_b x2
    have t33 := ti_tn x1
    have f34 : (q_R r7.2 (Ad ad 106) (x1).toNatClampNeg).toInt = (q_R d1 (Ad ad 106) (x1).toNatClampNeg).toInt := congrArg Int32.toInt (congrFun (u14 106 (by decide) (by decide) (by decide)) _)
    have f35 : (q_R d1 (Ad ad 106) (x1).toNatClampNeg).toInt = (q_R δ (Ad ad 106) (x1).toNatClampNeg).toInt := congrArg Int32.toInt (show q_R d1 (Ad ad 106) (x1).toNatClampNeg = _ by rw [e2]; rfl)
    have f36 := rb_106 L I (x1).toNatClampNeg
    have f37 := rb_106 L i3 (x1).toNatClampNeg
    have f38 := rb_106 L i9 (x1).toNatClampNeg
    have f39 := ti_b r25.1
    refine ok_ite (fun h40 => ?_) (fun h40 => ?_)
    · have c41 : r25.1.toInt = (0 : Int) := o_eq h40
      unfold J_X12_was_37
      unfold J_X12_was_38
      refine ok_bind (k_X12_may L hN (a0 := a0) (x1 := (0 : Int32)) (x2 := (2 : Int32)) (x3 := (2 : Int32)) k_a0 (show (2 : Int) ≠ 0 by first | assumption | omega) (show 0 ≤ (2 : Int) by first | assumption | omega) (show (2 : Int) ≤ 2 by first | assumption | omega) i9) (fun r42 hr43 => ?_)
      obtain ⟨i44, ⟨u48, u49, u50⟩, p45, p46, p47⟩ := hr43
      have u51 := kp_t u15 u48
      have v52 : q_V r42.2 = q_V δ := (u49).trans v16
      have v53 := kr_t v17 u50
      have f54 := bo_l p45
      have f55 := ti_b r42.1
      replace p46 : ((r42.1).toInt = 1 → (0 : Int) ≠ 0) := p46
      have f56 := ti_b (q_I r7.2 12 0 a0)
      replace p47 : ((q_I r7.2 12 0 a0).toInt = 0 → (r42.1).toInt = 0 → (0 : Int) = 0) := p47
      have f57 := ti_b r42.1
      refine ok_ite (fun h58 => ?_) (fun h58 => ?_)
      · have c59 : r42.1.toInt = (0 : Int) := o_eq h58
        unfold J_X12_was_46
        exact ok_some (show RI ad h.1 δ0 r42.2 ∧ (kp [(12, 0), (12, 47)] δ r42.2 ∧ q_V r42.2 = q_V δ ∧ kr ad [100, 102, 103, 124] δ r42.2) from ⟨i44, ⟨kp_w (by decide) u51, v52, kr_w (by decide) v53⟩⟩)
      · have c60 : r42.1.toInt ≠ (0 : Int) := o_ne h58
        refine ok_bind (k_X12_goesTo L hN (a0 := a0) (x1 := x1) (x2 := x2) k_a0 (show 0 ≤ (x1).toInt by first | assumption | omega) (show (x1).toInt ≤ 3 by first | assumption | omega) (show 0 ≤ (x2).toInt by first | assumption | omega) (show (x2).toInt ≤ 1000 by first | assumption | omega) i44) (fun r61 hr62 => ?_)
        obtain ⟨i63, ⟨u64, u65, u66⟩⟩ := hr62
        have u67 := kp_t u51 u64
        have v68 : q_V r61 = q_V δ := (u65).trans v52
        have v69 := kr_t v53 u66
        have f70 := ti_b x3
        refine ok_ite (fun h71 => ?_) (fun h71 => ?_)
        · have c72 : x3.toInt = (0 : Int) := o_eq h71
          obtain ⟨b73, o74, k75, n76⟩ := gO_12_14 L k_a0
          obtain rfl := gS_12_14 L k_a0 o74
          refine ok_at o74 ?_
          have t77 := ti_tn x1
          refine ok_gd (fun hc78 => ?_) ?_
          · rcases hc78 with hc78 | hc78
            · have c79 : x1.toInt < (0 : Int) := o_lt hc78
              omega
            · omega
          unfold J_X12_was_94
          refine ok_bind (k_X12_comesBack L hN (a0 := a0) (x1 := x1) k_a0 (show 0 ≤ (x1).toInt by first | assumption | omega) (show (x1).toInt ≤ 3 by first | assumption | omega) i63) (fun r80 hr81 => ?_)
          obtain ⟨i82, ⟨u83, u84, u85⟩⟩ := hr81
          have u86 := kp_t u67 u83
          have v87 : q_V r80 = q_V δ := (u84).trans v68
          have v88 := kr_t v69 u85
          exact ok_some (show RI ad h.1 δ0 r80 ∧ (kp [(12, 0), (12, 47)] δ r80 ∧ q_V r80 = q_V δ ∧ kr ad [100, 102, 103, 124] δ r80) from ⟨i82, ⟨kp_w (by decide) u86, v87, kr_w (by decide) v88⟩⟩)
        · have c89 : x3.toInt ≠ (0 : Int) := o_ne h71
          refine ok_ite (fun h90 => ?_) (fun h90 => ?_)
          · have c91 : x3.toInt = (1 : Int) := o_eq h90
            refine ok_bind (k_X12_numberAt L hN (a0 := a0) (x1 := x1) (x2 := (0 : Int32)) k_a0 (show 0 ≤ (x1).toInt by first | assumption | omega) (show (x1).toInt ≤ 3 by first | assumption | omega) i63) (fun r92 hr93 => ?_)
            have i94 := hr93
            try rw [i94]
            have f95 := ti_b r92.1
            unfold J_X12_was_94
            refine ok_bind (k_X12_comesBack L hN (a0 := a0) (x1 := x1) k_a0 (show 0 ≤ (x1).toInt by first | assumption | omega) (show (x1).toInt ≤ 3 by first | assumption | omega) i63) (fun r96 hr97 => ?_)
            obtain ⟨i98, ⟨u99, u100, u101⟩⟩ := hr97
            have u102 := kp_t u67 u99
            have v103 : q_V r96 = q_V δ := (u100).trans v68
            have v104 := kr_t v69 u101
            exact ok_some (show RI ad h.1 δ0 r96 ∧ (kp [(12, 0), (12, 47)] δ r96 ∧ q_V r96 = q_V δ ∧ kr ad [100, 102, 103, 124] δ r96) from ⟨i98, ⟨kp_w (by decide) u102, v103, kr_w (by decide) v104⟩⟩)
          · have c105 : x3.toInt ≠ (1 : Int) := o_ne h90
            obtain ⟨b106, o107, k108, n109⟩ := gO_12_14 L k_a0
            obtain rfl := gS_12_14 L k_a0 o107
            refine ok_at o107 ?_
            have t110 := ti_tn x1
            refine ok_gd (fun hc111 => ?_) ?_
            · rcases hc111 with hc111 | hc111
              · have c112 : x1.toInt < (0 : Int) := o_lt hc111
                omega
              · omega
            refine ok_bind (k_X12_numberAt L hN (a0 := a0) (x1 := x1) (x2 := ((q_R r61 (Ad ad 103) x1.toNatClampNeg) - (1 : Int32))) k_a0 (show 0 ≤ (x1).toInt by first | assumption | omega) (show (x1).toInt ≤ 3 by first | assumption | omega) i63) (fun r113 hr114 => ?_)
            have i115 := hr114
            try rw [i115]
            have f116 := ti_b r113.1
            unfold J_X12_was_94
            refine ok_bind (k_X12_comesBack L hN (a0 := a0) (x1 := x1) k_a0 (show 0 ≤ (x1).toInt by first | assumption | omega) (show (x1).toInt ≤ 3 by first | assumption | omega) i63) (fun r117 hr118 => ?_)
            obtain ⟨i119, ⟨u120, u121, u122⟩⟩ := hr118
            have u123 := kp_t u67 u120
            have v124 : q_V r117 = q_V δ := (u121).trans v68
            have v125 := kr_t v69 u122
            exact ok_some (show RI ad h.1 δ0 r117 ∧ (kp [(12, 0), (12, 47)] δ r117 ∧ q_V r117 = q_V δ ∧ kr ad [100, 102, 103, 124] δ r117) from ⟨i119, ⟨kp_w (by decide) u123, v124, kr_w (by decide) v125⟩⟩)
    · have c126 : r25.1.toInt ≠ (0 : Int) := o_ne h40
      refine ok_bind (k_X12_within L hN (x0 := x3) (x1 := (0 : Int32)) (x2 := (2 : Int32))  i9) (fun r127 hr128 => ?_)
      obtain ⟨i129, p130, p131, p132⟩ := hr128
      try rw [i129]
      have f133 := bo_l p130
      have f134 := ti_b r127.1
      have f135 := ti_b x3
      replace p131 : ((r127.1).toInt = 1 → (0 : Int) ≤ (x3).toInt ∧ (x3).toInt ≤ (2 : Int)) := p131
      replace p132 : ((r127.1).toInt = 0 → (x3).toInt < (0 : Int) ∨ (2 : Int) < (x3).toInt) := p132
      have f136 := ti_b r127.1
      refine ok_ite (fun h137 => ?_) (fun h137 => ?_)
      · have c138 : r127.1.toInt = (0 : Int) := o_eq h137
        unfold J_X12_was_37
        unfold J_X12_was_38
        refine ok_bind (k_X12_may L hN (a0 := a0) (x1 := (0 : Int32)) (x2 := (2 : Int32)) (x3 := (2 : Int32)) k_a0 (show (2 : Int) ≠ 0 by first | assumption | omega) (show 0 ≤ (2 : Int) by first | assumption | omega) (show (2 : Int) ≤ 2 by first | assumption | omega) i9) (fun r139 hr140 => ?_)
        obtain ⟨i141, ⟨u145, u146, u147⟩, p142, p143, p144⟩ := hr140
        have u148 := kp_t u15 u145
        have v149 : q_V r139.2 = q_V δ := (u146).trans v16
        have v150 := kr_t v17 u147
        have f151 := bo_l p142
        have f152 := ti_b r139.1
        replace p143 : ((r139.1).toInt = 1 → (0 : Int) ≠ 0) := p143
        have f153 := ti_b (q_I r7.2 12 0 a0)
        replace p144 : ((q_I r7.2 12 0 a0).toInt = 0 → (r139.1).toInt = 0 → (0 : Int) = 0) := p144
        have f154 := ti_b r139.1
        refine ok_ite (fun h155 => ?_) (fun h155 => ?_)
        · have c156 : r139.1.toInt = (0 : Int) := o_eq h155
          unfold J_X12_was_46
          exact ok_some (show RI ad h.1 δ0 r139.2 ∧ (kp [(12, 0), (12, 47)] δ r139.2 ∧ q_V r139.2 = q_V δ ∧ kr ad [100, 102, 103, 124] δ r139.2) from ⟨i141, ⟨kp_w (by decide) u148, v149, kr_w (by decide) v150⟩⟩)
        · have c157 : r139.1.toInt ≠ (0 : Int) := o_ne h155
          refine ok_bind (k_X12_goesTo L hN (a0 := a0) (x1 := x1) (x2 := x2) k_a0 (show 0 ≤ (x1).toInt by first | assumption | omega) (show (x1).toInt ≤ 3 by first | assumption | omega) (show 0 ≤ (x2).toInt by first | assumption | omega) (show (x2).toInt ≤ 1000 by first | assumption | omega) i141) (fun r158 hr159 => ?_)
          obtain ⟨i160, ⟨u161, u162, u163⟩⟩ := hr159
          have u164 := kp_t u148 u161
          have v165 : q_V r158 = q_V δ := (u162).trans v149
          have v166 := kr_t v150 u163
          refine ok_ite (fun h167 => ?_) (fun h167 => ?_)
          · have c168 : x3.toInt = (0 : Int) := o_eq h167
            obtain ⟨b169, o170, k171, n172⟩ := gO_12_14 L k_a0
            obtain rfl := gS_12_14 L k_a0 o170
            refine ok_at o170 ?_
            have t173 := ti_tn x1
            refine ok_gd (fun hc174 => ?_) ?_
            · rcases hc174 with hc174 | hc174
              · have c175 : x1.toInt < (0 : Int) := o_lt hc174
                omega
              · omega
            unfold J_X12_was_94
            refine ok_bind (k_X12_comesBack L hN (a0 := a0) (x1 := x1) k_a0 (show 0 ≤ (x1).toInt by first | assumption | omega) (show (x1).toInt ≤ 3 by first | assumption | omega) i160) (fun r176 hr177 => ?_)
            obtain ⟨i178, ⟨u179, u180, u181⟩⟩ := hr177
            have u182 := kp_t u164 u179
            have v183 : q_V r176 = q_V δ := (u180).trans v165
            have v184 := kr_t v166 u181
            exact ok_some (show RI ad h.1 δ0 r176 ∧ (kp [(12, 0), (12, 47)] δ r176 ∧ q_V r176 = q_V δ ∧ kr ad [100, 102, 103, 124] δ r176) from ⟨i178, ⟨kp_w (by decide) u182, v183, kr_w (by decide) v184⟩⟩)
          · have c185 : x3.toInt ≠ (0 : Int) := o_ne h167
            refine ok_ite (fun h186 => ?_) (fun h186 => ?_)
            · have c187 : x3.toInt = (1 : Int) := o_eq h186
              refine ok_bind (k_X12_numberAt L hN (a0 := a0) (x1 := x1) (x2 := (0 : Int32)) k_a0 (show 0 ≤ (x1).toInt by first | assumption | omega) (show (x1).toInt ≤ 3 by first | assumption | omega) i160) (fun r188 hr189 => ?_)
              have i190 := hr189
              try rw [i190]
              have f191 := ti_b r188.1
              unfold J_X12_was_94
              refine ok_bind (k_X12_comesBack L hN (a0 := a0) (x1 := x1) k_a0 (show 0 ≤ (x1).toInt by first | assumption | omega) (show (x1).toInt ≤ 3 by first | assumption | omega) i160) (fun r192 hr193 => ?_)
              obtain ⟨i194, ⟨u195, u196, u197⟩⟩ := hr193
              have u198 := kp_t u164 u195
              have v199 : q_V r192 = q_V δ := (u196).trans v165
              have v200 := kr_t v166 u197
              exact ok_some (show RI ad h.1 δ0 r192 ∧ (kp [(12, 0), (12, 47)] δ r192 ∧ q_V r192 = q_V δ ∧ kr ad [100, 102, 103, 124] δ r192) from ⟨i194, ⟨kp_w (by decide) u198, v199, kr_w (by decide) v200⟩⟩)
            · have c201 : x3.toInt ≠ (1 : Int) := o_ne h186
              obtain ⟨b202, o203, k204, n205⟩ := gO_12_14 L k_a0
              obtain rfl := gS_12_14 L k_a0 o203
              refine ok_at o203 ?_
              have t206 := ti_tn x1
              refine ok_gd (fun hc207 => ?_) ?_
              · rcases hc207 with hc207 | hc207
                · have c208 : x1.toInt < (0 : Int) := o_lt hc207
                  omega
                · omega
              refine ok_bind (k_X12_numberAt L hN (a0 := a0) (x1 := x1) (x2 := ((q_R r158 (Ad ad 103) x1.toNatClampNeg) - (1 : Int32))) k_a0 (show 0 ≤ (x1).toInt by first | assumption | omega) (show (x1).toInt ≤ 3 by first | assumption | omega) i160) (fun r209 hr210 => ?_)
              have i211 := hr210
              try rw [i211]
              have f212 := ti_b r209.1
              unfold J_X12_was_94
              refine ok_bind (k_X12_comesBack L hN (a0 := a0) (x1 := x1) k_a0 (show 0 ≤ (x1).toInt by first | assumption | omega) (show (x1).toInt ≤ 3 by first | assumption | omega) i160) (fun r213 hr214 => ?_)
              obtain ⟨i215, ⟨u216, u217, u218⟩⟩ := hr214
              have u219 := kp_t u164 u216
              have v220 : q_V r213 = q_V δ := (u217).trans v165
              have v221 := kr_t v166 u218
              exact ok_some (show RI ad h.1 δ0 r213 ∧ (kp [(12, 0), (12, 47)] δ r213 ∧ q_V r213 = q_V δ ∧ kr ad [100, 102, 103, 124] δ r213) from ⟨i215, ⟨kp_w (by decide) u219, v220, kr_w (by decide) v221⟩⟩)
      · have c222 : r127.1.toInt ≠ (0 : Int) := o_ne h137
        unfold J_X12_was_38
        refine ok_bind (k_X12_may L hN (a0 := a0) (x1 := (1 : Int32)) (x2 := (2 : Int32)) (x3 := (2 : Int32)) k_a0 (show (2 : Int) ≠ 0 by first | assumption | omega) (show 0 ≤ (2 : Int) by first | assumption | omega) (show (2 : Int) ≤ 2 by first | assumption | omega) i9) (fun r223 hr224 => ?_)
        obtain ⟨i225, ⟨u229, u230, u231⟩, p226, p227, p228⟩ := hr224
        have u232 := kp_t u15 u229
        have v233 : q_V r223.2 = q_V δ := (u230).trans v16
        have v234 := kr_t v17 u231
        have f235 := bo_l p226
        have f236 := ti_b r223.1
        replace p227 : ((r223.1).toInt = 1 → (1 : Int) ≠ 0) := p227
        have f237 := ti_b (q_I r7.2 12 0 a0)
        replace p228 : ((q_I r7.2 12 0 a0).toInt = 0 → (r223.1).toInt = 0 → (1 : Int) = 0) := p228
        have f238 := ti_b r223.1
        refine ok_ite (fun h239 => ?_) (fun h239 => ?_)
        · have c240 : r223.1.toInt = (0 : Int) := o_eq h239
          unfold J_X12_was_46
          exact ok_some (show RI ad h.1 δ0 r223.2 ∧ (kp [(12, 0), (12, 47)] δ r223.2 ∧ q_V r223.2 = q_V δ ∧ kr ad [100, 102, 103, 124] δ r223.2) from ⟨i225, ⟨kp_w (by decide) u232, v233, kr_w (by decide) v234⟩⟩)
        · have c241 : r223.1.toInt ≠ (0 : Int) := o_ne h239
          refine ok_bind (k_X12_goesTo L hN (a0 := a0) (x1 := x1) (x2 := x2) k_a0 (show 0 ≤ (x1).toInt by first | assumption | omega) (show (x1).toInt ≤ 3 by first | assumption | omega) (show 0 ≤ (x2).toInt by first | assumption | omega) (show (x2).toInt ≤ 1000 by first | assumption | omega) i225) (fun r242 hr243 => ?_)
          obtain ⟨i244, ⟨u245, u246, u247⟩⟩ := hr243
          have u248 := kp_t u232 u245
          have v249 : q_V r242 = q_V δ := (u246).trans v233
          have v250 := kr_t v234 u247
          refine ok_ite (fun h251 => ?_) (fun h251 => ?_)
          · have c252 : x3.toInt = (0 : Int) := o_eq h251
            obtain ⟨b253, o254, k255, n256⟩ := gO_12_14 L k_a0
            obtain rfl := gS_12_14 L k_a0 o254
            refine ok_at o254 ?_
            have t257 := ti_tn x1
            refine ok_gd (fun hc258 => ?_) ?_
            · rcases hc258 with hc258 | hc258
              · have c259 : x1.toInt < (0 : Int) := o_lt hc258
                omega
              · omega
            unfold J_X12_was_94
            refine ok_bind (k_X12_comesBack L hN (a0 := a0) (x1 := x1) k_a0 (show 0 ≤ (x1).toInt by first | assumption | omega) (show (x1).toInt ≤ 3 by first | assumption | omega) i244) (fun r260 hr261 => ?_)
            obtain ⟨i262, ⟨u263, u264, u265⟩⟩ := hr261
            have u266 := kp_t u248 u263
            have v267 : q_V r260 = q_V δ := (u264).trans v249
            have v268 := kr_t v250 u265
            exact ok_some (show RI ad h.1 δ0 r260 ∧ (kp [(12, 0), (12, 47)] δ r260 ∧ q_V r260 = q_V δ ∧ kr ad [100, 102, 103, 124] δ r260) from ⟨i262, ⟨kp_w (by decide) u266, v267, kr_w (by decide) v268⟩⟩)
          · have c269 : x3.toInt ≠ (0 : Int) := o_ne h251
            refine ok_ite (fun h270 => ?_) (fun h270 => ?_)
            · have c271 : x3.toInt = (1 : Int) := o_eq h270
              refine ok_bind (k_X12_numberAt L hN (a0 := a0) (x1 := x1) (x2 := (0 : Int32)) k_a0 (show 0 ≤ (x1).toInt by first | assumption | omega) (show (x1).toInt ≤ 3 by first | assumption | omega) i244) (fun r272 hr273 => ?_)
              have i274 := hr273
              try rw [i274]
              have f275 := ti_b r272.1
              unfold J_X12_was_94
              refine ok_bind (k_X12_comesBack L hN (a0 := a0) (x1 := x1) k_a0 (show 0 ≤ (x1).toInt by first | assumption | omega) (show (x1).toInt ≤ 3 by first | assumption | omega) i244) (fun r276 hr277 => ?_)
              obtain ⟨i278, ⟨u279, u280, u281⟩⟩ := hr277
              have u282 := kp_t u248 u279
              have v283 : q_V r276 = q_V δ := (u280).trans v249
              have v284 := kr_t v250 u281
              exact ok_some (show RI ad h.1 δ0 r276 ∧ (kp [(12, 0), (12, 47)] δ r276 ∧ q_V r276 = q_V δ ∧ kr ad [100, 102, 103, 124] δ r276) from ⟨i278, ⟨kp_w (by decide) u282, v283, kr_w (by decide) v284⟩⟩)
            · have c285 : x3.toInt ≠ (1 : Int) := o_ne h270
              obtain ⟨b286, o287, k288, n289⟩ := gO_12_14 L k_a0
              obtain rfl := gS_12_14 L k_a0 o287
              refine ok_at o287 ?_
              have t290 := ti_tn x1
              refine ok_gd (fun hc291 => ?_) ?_
              · rcases hc291 with hc291 | hc291
                · have c292 : x1.toInt < (0 : Int) := o_lt hc291
                  omega
                · omega
              refine ok_bind (k_X12_numberAt L hN (a0 := a0) (x1 := x1) (x2 := ((q_R r242 (Ad ad 103) x1.toNatClampNeg) - (1 : Int32))) k_a0 (show 0 ≤ (x1).toInt by first | assumption | omega) (show (x1).toInt ≤ 3 by first | assumption | omega) i244) (fun r293 hr294 => ?_)
              have i295 := hr294
              try rw [i295]
              have f296 := ti_b r293.1
              unfold J_X12_was_94
              refine ok_bind (k_X12_comesBack L hN (a0 := a0) (x1 := x1) k_a0 (show 0 ≤ (x1).toInt by first | assumption | omega) (show (x1).toInt ≤ 3 by first | assumption | omega) i244) (fun r297 hr298 => ?_)
              obtain ⟨i299, ⟨u300, u301, u302⟩⟩ := hr298
              have u303 := kp_t u248 u300
              have v304 : q_V r297 = q_V δ := (u301).trans v249
              have v305 := kr_t v250 u302
              exact ok_some (show RI ad h.1 δ0 r297 ∧ (kp [(12, 0), (12, 47)] δ r297 ∧ q_V r297 = q_V δ ∧ kr ad [100, 102, 103, 124] δ r297) from ⟨i299, ⟨kp_w (by decide) u303, v304, kr_w (by decide) v305⟩⟩)
set_option maxHeartbeats 4000000 in
theorem k_X12_asked {ad : List Nat} {h : hp} (L : Lay TLx ad h) {δ0 : dp} {N : Nat} (hN : 10000000 ≤ N) {a0 : Nat} {x1 : Int32} {x2 : Int32} {x3 : Int32} {x4 : Int32} (k_a0 : q_K h.1 a0 = 12) {δ : dp} (I : RI ad h.1 δ0 δ) : ok (D_X12_asked N h.1 a0 x1 x2 x3 x4 δ) (fun r => RI ad h.1 δ0 r.2 ∧ (kp [(12, 0), (12, 47)] δ r.2 ∧ q_V r.2 = q_V δ ∧ kr ad [100, 102, 103, 124] δ r.2)) := by
  unfold D_X12_asked
  refine ok_bdv (fun d1 e2 => ?_)
  have i3 : RI ad h.1 δ0 d1 := by rw [e2]; exact cs_12_0 L I
  have u4 := kp_I kp_r e2
  have v5 : q_V d1 = q_V δ := ((show q_V d1 = q_V δ by rw [e2]; rfl)).trans rfl
  have v6 := kr_N (kr_r (ad := ad)) (show q_R d1 = q_R δ by rw [e2]; rfl)
  refine ok_bind (k_X12_isHouse L hN (a0 := a0) (x1 := x1) (x2 := (1 : Int32)) k_a0 (show (1 : Int) ≠ 0 by first | assumption | omega) i3) (fun r7 hr8 => ?_)
  obtain ⟨i9, ⟨u12, u13, u14⟩, p10, p11⟩ := hr8
  have u15 := kp_t u4 u12
  have v16 : q_V r7.2 = q_V δ := (u13).trans v5
  have v17 := kr_t v6 u14
  have f18 := bo_l p10
  have f19 := ti_b r7.1
  have f20 := ti_b x1
  have f21 := ti_b r7.1
  refine ok_ite (fun h22 => ?_) (fun h22 => ?_)
  · have c23 : r7.1.toInt = (0 : Int) := o_eq h22
    unfold J_X12_asked_56
    exact ok_some (show RI ad h.1 δ0 r7.2 ∧ (kp [(12, 0), (12, 47)] δ r7.2 ∧ q_V r7.2 = q_V δ ∧ kr ad [100, 102, 103, 124] δ r7.2) from ⟨i9, ⟨kp_w (by decide) u15, v16, kr_w (by decide) v17⟩⟩)
  · have c24 : r7.1.toInt ≠ (0 : Int) := o_ne h22
    refine ok_bind (k_X12_isTime L hN (a0 := a0) (x1 := x1) (x2 := x2) k_a0 (show 0 ≤ (x1).toInt by first | assumption | omega) (show (x1).toInt ≤ 3 by first | assumption | omega) i9) (fun r25 hr26 => ?_)
    obtain ⟨i27, p28, p29⟩ := hr26
    try rw [i27]
    have f30 := bo_l p28
    have f31 := ti_b r25.1
    have f32 := ti_b x2
    have t33 := ti_tn x1
    have f34 : (q_R r7.2 (Ad ad 106) (x1).toNatClampNeg).toInt = (q_R d1 (Ad ad 106) (x1).toNatClampNeg).toInt := congrArg Int32.toInt (congrFun (u14 106 (by decide) (by decide) (by decide)) _)
    have f35 : (q_R d1 (Ad ad 106) (x1).toNatClampNeg).toInt = (q_R δ (Ad ad 106) (x1).toNatClampNeg).toInt := congrArg Int32.toInt (show q_R d1 (Ad ad 106) (x1).toNatClampNeg = _ by rw [e2]; rfl)
    have f36 := rb_106 L I (x1).toNatClampNeg
    have f37 := rb_106 L i3 (x1).toNatClampNeg
    have f38 := rb_106 L i9 (x1).toNatClampNeg
    have f39 := ti_b r25.1
    refine ok_ite (fun h40 => ?_) (fun h40 => ?_)
    · have c41 : r25.1.toInt = (0 : Int) := o_eq h40
      unfold J_X12_asked_47
      unfold J_X12_asked_48
      refine ok_bind (k_X12_may L hN (a0 := a0) (x1 := (0 : Int32)) (x2 := (2 : Int32)) (x3 := (2 : Int32)) k_a0 (show (2 : Int) ≠ 0 by first | assumption | omega) (show 0 ≤ (2 : Int) by first | assumption | omega) (show (2 : Int) ≤ 2 by first | assumption | omega) i9) (fun r42 hr43 => ?_)
      obtain ⟨i44, ⟨u48, u49, u50⟩, p45, p46, p47⟩ := hr43
      have u51 := kp_t u15 u48
      have v52 : q_V r42.2 = q_V δ := (u49).trans v16
      have v53 := kr_t v17 u50
      have f54 := bo_l p45
      have f55 := ti_b r42.1
      replace p46 : ((r42.1).toInt = 1 → (0 : Int) ≠ 0) := p46
      have f56 := ti_b (q_I r7.2 12 0 a0)
      replace p47 : ((q_I r7.2 12 0 a0).toInt = 0 → (r42.1).toInt = 0 → (0 : Int) = 0) := p47
      have f57 := ti_b r42.1
      refine ok_ite (fun h58 => ?_) (fun h58 => ?_)
      · have c59 : r42.1.toInt = (0 : Int) := o_eq h58
        unfold J_X12_asked_56
        exact ok_some (show RI ad h.1 δ0 r42.2 ∧ (kp [(12, 0), (12, 47)] δ r42.2 ∧ q_V r42.2 = q_V δ ∧ kr ad [100, 102, 103, 124] δ r42.2) from ⟨i44, ⟨kp_w (by decide) u51, v52, kr_w (by decide) v53⟩⟩)
      · have c60 : r42.1.toInt ≠ (0 : Int) := o_ne h58
        refine ok_bind (k_X12_goesTo L hN (a0 := a0) (x1 := x1) (x2 := x2) k_a0 (show 0 ≤ (x1).toInt by first | assumption | omega) (show (x1).toInt ≤ 3 by first | assumption | omega) (show 0 ≤ (x2).toInt by first | assumption | omega) (show (x2).toInt ≤ 1000 by first | assumption | omega) i44) (fun r61 hr62 => ?_)
        obtain ⟨i63, ⟨u64, u65, u66⟩⟩ := hr62
        have u67 := kp_t u51 u64
        have v68 : q_V r61 = q_V δ := (u65).trans v52
        have v69 := kr_t v53 u66
        refine ok_bind (k_X12_answer L hN (a0 := a0) (x1 := x1) (x2 := x3) (x3 := x4) k_a0 (show 0 ≤ (x1).toInt by first | assumption | omega) (show (x1).toInt ≤ 3 by first | assumption | omega) i63) (fun r70 hr71 => ?_)
        have i72 := hr71
        try rw [i72]
        have f73 := ti_b r70.1
        refine ok_bind (k_X12_comesBack L hN (a0 := a0) (x1 := x1) k_a0 (show 0 ≤ (x1).toInt by first | assumption | omega) (show (x1).toInt ≤ 3 by first | assumption | omega) i63) (fun r74 hr75 => ?_)
        obtain ⟨i76, ⟨u77, u78, u79⟩⟩ := hr75
        have u80 := kp_t u67 u77
        have v81 : q_V r74 = q_V δ := (u78).trans v68
        have v82 := kr_t v69 u79
        exact ok_some (show RI ad h.1 δ0 r74 ∧ (kp [(12, 0), (12, 47)] δ r74 ∧ q_V r74 = q_V δ ∧ kr ad [100, 102, 103, 124] δ r74) from ⟨i76, ⟨kp_w (by decide) u80, v81, kr_w (by decide) v82⟩⟩)
    · have c83 : r25.1.toInt ≠ (0 : Int) := o_ne h40
      refine ok_bind (k_X12_within L hN (x0 := x3) (x1 := (2 : Int32)) (x2 := (4 : Int32))  i9) (fun r84 hr85 => ?_)
      obtain ⟨i86, p87, p88, p89⟩ := hr85
      try rw [i86]
      have f90 := bo_l p87
      have f91 := ti_b r84.1
      have f92 := ti_b x3
      replace p88 : ((r84.1).toInt = 1 → (2 : Int) ≤ (x3).toInt ∧ (x3).toInt ≤ (4 : Int)) := p88
      replace p89 : ((r84.1).toInt = 0 → (x3).toInt < (2 : Int) ∨ (4 : Int) < (x3).toInt) := p89
      have f93 := ti_b r84.1
      refine ok_ite (fun h94 => ?_) (fun h94 => ?_)
      · have c95 : r84.1.toInt = (0 : Int) := o_eq h94
        unfold J_X12_asked_47
        unfold J_X12_asked_48
        refine ok_bind (k_X12_may L hN (a0 := a0) (x1 := (0 : Int32)) (x2 := (2 : Int32)) (x3 := (2 : Int32)) k_a0 (show (2 : Int) ≠ 0 by first | assumption | omega) (show 0 ≤ (2 : Int) by first | assumption | omega) (show (2 : Int) ≤ 2 by first | assumption | omega) i9) (fun r96 hr97 => ?_)
        obtain ⟨i98, ⟨u102, u103, u104⟩, p99, p100, p101⟩ := hr97
        have u105 := kp_t u15 u102
        have v106 : q_V r96.2 = q_V δ := (u103).trans v16
        have v107 := kr_t v17 u104
        have f108 := bo_l p99
        have f109 := ti_b r96.1
        replace p100 : ((r96.1).toInt = 1 → (0 : Int) ≠ 0) := p100
        have f110 := ti_b (q_I r7.2 12 0 a0)
        replace p101 : ((q_I r7.2 12 0 a0).toInt = 0 → (r96.1).toInt = 0 → (0 : Int) = 0) := p101
        have f111 := ti_b r96.1
        refine ok_ite (fun h112 => ?_) (fun h112 => ?_)
        · have c113 : r96.1.toInt = (0 : Int) := o_eq h112
          unfold J_X12_asked_56
          exact ok_some (show RI ad h.1 δ0 r96.2 ∧ (kp [(12, 0), (12, 47)] δ r96.2 ∧ q_V r96.2 = q_V δ ∧ kr ad [100, 102, 103, 124] δ r96.2) from ⟨i98, ⟨kp_w (by decide) u105, v106, kr_w (by decide) v107⟩⟩)
        · have c114 : r96.1.toInt ≠ (0 : Int) := o_ne h112
          refine ok_bind (k_X12_goesTo L hN (a0 := a0) (x1 := x1) (x2 := x2) k_a0 (show 0 ≤ (x1).toInt by first | assumption | omega) (show (x1).toInt ≤ 3 by first | assumption | omega) (show 0 ≤ (x2).toInt by first | assumption | omega) (show (x2).toInt ≤ 1000 by first | assumption | omega) i98) (fun r115 hr116 => ?_)
          obtain ⟨i117, ⟨u118, u119, u120⟩⟩ := hr116
          have u121 := kp_t u105 u118
          have v122 : q_V r115 = q_V δ := (u119).trans v106
          have v123 := kr_t v107 u120
          refine ok_bind (k_X12_answer L hN (a0 := a0) (x1 := x1) (x2 := x3) (x3 := x4) k_a0 (show 0 ≤ (x1).toInt by first | assumption | omega) (show (x1).toInt ≤ 3 by first | assumption | omega) i117) (fun r124 hr125 => ?_)
          have i126 := hr125
          try rw [i126]
          have f127 := ti_b r124.1
          refine ok_bind (k_X12_comesBack L hN (a0 := a0) (x1 := x1) k_a0 (show 0 ≤ (x1).toInt by first | assumption | omega) (show (x1).toInt ≤ 3 by first | assumption | omega) i117) (fun r128 hr129 => ?_)
          obtain ⟨i130, ⟨u131, u132, u133⟩⟩ := hr129
          have u134 := kp_t u121 u131
          have v135 : q_V r128 = q_V δ := (u132).trans v122
          have v136 := kr_t v123 u133
          exact ok_some (show RI ad h.1 δ0 r128 ∧ (kp [(12, 0), (12, 47)] δ r128 ∧ q_V r128 = q_V δ ∧ kr ad [100, 102, 103, 124] δ r128) from ⟨i130, ⟨kp_w (by decide) u134, v135, kr_w (by decide) v136⟩⟩)
      · have c137 : r84.1.toInt ≠ (0 : Int) := o_ne h94
        refine ok_bind (k_X12_mayAsk L hN (a0 := a0) (x1 := x3) (x2 := x4) k_a0 i9) (fun r138 hr139 => ?_)
        obtain ⟨i140, p141, p142⟩ := hr139
        try rw [i140]
        have f143 := bo_l p141
        have f144 := ti_b r138.1
        have f145 := ti_b x4
        have f146 := ti_b r138.1
        refine ok_ite (fun h147 => ?_) (fun h147 => ?_)
        · have c148 : r138.1.toInt = (0 : Int) := o_eq h147
          unfold J_X12_asked_47
          unfold J_X12_asked_48
          refine ok_bind (k_X12_may L hN (a0 := a0) (x1 := (0 : Int32)) (x2 := (2 : Int32)) (x3 := (2 : Int32)) k_a0 (show (2 : Int) ≠ 0 by first | assumption | omega) (show 0 ≤ (2 : Int) by first | assumption | omega) (show (2 : Int) ≤ 2 by first | assumption | omega) i9) (fun r149 hr150 => ?_)
          obtain ⟨i151, ⟨u155, u156, u157⟩, p152, p153, p154⟩ := hr150
          have u158 := kp_t u15 u155
          have v159 : q_V r149.2 = q_V δ := (u156).trans v16
          have v160 := kr_t v17 u157
          have f161 := bo_l p152
          have f162 := ti_b r149.1
          replace p153 : ((r149.1).toInt = 1 → (0 : Int) ≠ 0) := p153
          have f163 := ti_b (q_I r7.2 12 0 a0)
          replace p154 : ((q_I r7.2 12 0 a0).toInt = 0 → (r149.1).toInt = 0 → (0 : Int) = 0) := p154
          have f164 := ti_b r149.1
          refine ok_ite (fun h165 => ?_) (fun h165 => ?_)
          · have c166 : r149.1.toInt = (0 : Int) := o_eq h165
            unfold J_X12_asked_56
            exact ok_some (show RI ad h.1 δ0 r149.2 ∧ (kp [(12, 0), (12, 47)] δ r149.2 ∧ q_V r149.2 = q_V δ ∧ kr ad [100, 102, 103, 124] δ r149.2) from ⟨i151, ⟨kp_w (by decide) u158, v159, kr_w (by decide) v160⟩⟩)
          · have c167 : r149.1.toInt ≠ (0 : Int) := o_ne h165
            refine ok_bind (k_X12_goesTo L hN (a0 := a0) (x1 := x1) (x2 := x2) k_a0 (show 0 ≤ (x1).toInt by first | assumption | omega) (show (x1).toInt ≤ 3 by first | assumption | omega) (show 0 ≤ (x2).toInt by first | assumption | omega) (show (x2).toInt ≤ 1000 by first | assumption | omega) i151) (fun r168 hr169 => ?_)
            obtain ⟨i170, ⟨u171, u172, u173⟩⟩ := hr169
            have u174 := kp_t u158 u171
            have v175 : q_V r168 = q_V δ := (u172).trans v159
            have v176 := kr_t v160 u173
            refine ok_bind (k_X12_answer L hN (a0 := a0) (x1 := x1) (x2 := x3) (x3 := x4) k_a0 (show 0 ≤ (x1).toInt by first | assumption | omega) (show (x1).toInt ≤ 3 by first | assumption | omega) i170) (fun r177 hr178 => ?_)
            have i179 := hr178
            try rw [i179]
            have f180 := ti_b r177.1
            refine ok_bind (k_X12_comesBack L hN (a0 := a0) (x1 := x1) k_a0 (show 0 ≤ (x1).toInt by first | assumption | omega) (show (x1).toInt ≤ 3 by first | assumption | omega) i170) (fun r181 hr182 => ?_)
            obtain ⟨i183, ⟨u184, u185, u186⟩⟩ := hr182
            have u187 := kp_t u174 u184
            have v188 : q_V r181 = q_V δ := (u185).trans v175
            have v189 := kr_t v176 u186
            exact ok_some (show RI ad h.1 δ0 r181 ∧ (kp [(12, 0), (12, 47)] δ r181 ∧ q_V r181 = q_V δ ∧ kr ad [100, 102, 103, 124] δ r181) from ⟨i183, ⟨kp_w (by decide) u187, v188, kr_w (by decide) v189⟩⟩)
        · have c190 : r138.1.toInt ≠ (0 : Int) := o_ne h147
          unfold J_X12_asked_48
          refine ok_bind (k_X12_may L hN (a0 := a0) (x1 := (1 : Int32)) (x2 := (2 : Int32)) (x3 := (2 : Int32)) k_a0 (show (2 : Int) ≠ 0 by first | assumption | omega) (show 0 ≤ (2 : Int) by first | assumption | omega) (show (2 : Int) ≤ 2 by first | assumption | omega) i9) (fun r191 hr192 => ?_)
          obtain ⟨i193, ⟨u197, u198, u199⟩, p194, p195, p196⟩ := hr192
          have u200 := kp_t u15 u197
          have v201 : q_V r191.2 = q_V δ := (u198).trans v16
          have v202 := kr_t v17 u199
          have f203 := bo_l p194
          have f204 := ti_b r191.1
          replace p195 : ((r191.1).toInt = 1 → (1 : Int) ≠ 0) := p195
          have f205 := ti_b (q_I r7.2 12 0 a0)
          replace p196 : ((q_I r7.2 12 0 a0).toInt = 0 → (r191.1).toInt = 0 → (1 : Int) = 0) := p196
          have f206 := ti_b r191.1
          refine ok_ite (fun h207 => ?_) (fun h207 => ?_)
          · have c208 : r191.1.toInt = (0 : Int) := o_eq h207
            unfold J_X12_asked_56
            exact ok_some (show RI ad h.1 δ0 r191.2 ∧ (kp [(12, 0), (12, 47)] δ r191.2 ∧ q_V r191.2 = q_V δ ∧ kr ad [100, 102, 103, 124] δ r191.2) from ⟨i193, ⟨kp_w (by decide) u200, v201, kr_w (by decide) v202⟩⟩)
          · have c209 : r191.1.toInt ≠ (0 : Int) := o_ne h207
            refine ok_bind (k_X12_goesTo L hN (a0 := a0) (x1 := x1) (x2 := x2) k_a0 (show 0 ≤ (x1).toInt by first | assumption | omega) (show (x1).toInt ≤ 3 by first | assumption | omega) (show 0 ≤ (x2).toInt by first | assumption | omega) (show (x2).toInt ≤ 1000 by first | assumption | omega) i193) (fun r210 hr211 => ?_)
            obtain ⟨i212, ⟨u213, u214, u215⟩⟩ := hr211
            have u216 := kp_t u200 u213
            have v217 : q_V r210 = q_V δ := (u214).trans v201
            have v218 := kr_t v202 u215
            refine ok_bind (k_X12_answer L hN (a0 := a0) (x1 := x1) (x2 := x3) (x3 := x4) k_a0 (show 0 ≤ (x1).toInt by first | assumption | omega) (show (x1).toInt ≤ 3 by first | assumption | omega) i212) (fun r219 hr220 => ?_)
            have i221 := hr220
            try rw [i221]
            have f222 := ti_b r219.1
            refine ok_bind (k_X12_comesBack L hN (a0 := a0) (x1 := x1) k_a0 (show 0 ≤ (x1).toInt by first | assumption | omega) (show (x1).toInt ≤ 3 by first | assumption | omega) i212) (fun r223 hr224 => ?_)
            obtain ⟨i225, ⟨u226, u227, u228⟩⟩ := hr224
            have u229 := kp_t u216 u226
            have v230 : q_V r223 = q_V δ := (u227).trans v217
            have v231 := kr_t v218 u228
            exact ok_some (show RI ad h.1 δ0 r223 ∧ (kp [(12, 0), (12, 47)] δ r223 ∧ q_V r223 = q_V δ ∧ kr ad [100, 102, 103, 124] δ r223) from ⟨i225, ⟨kp_w (by decide) u229, v230, kr_w (by decide) v231⟩⟩)
set_option maxHeartbeats 4000000 in
theorem k_X12_isThief {ad : List Nat} {h : hp} (L : Lay TLx ad h) {δ0 : dp} {N : Nat} (hN : 10000000 ≤ N) {a0 : Nat} {x1 : Int32} (k_a0 : q_K h.1 a0 = 12) {δ : dp} (I : RI ad h.1 δ0 δ) : ok (D_X12_isThief N h.1 a0 x1 δ) (fun r => RI ad h.1 δ0 r.2 ∧ (kp [(12, 0)] δ r.2 ∧ q_V r.2 = q_V δ ∧ kr ad [100] δ r.2) ∧ bo (r.1) ∧ ((r.1).toInt = 1 → 0 ≤ (x1).toInt ∧ (x1).toInt < (q_I δ 12 24 a0).toInt)) := by
  unfold D_X12_isThief
  refine ok_bind (k_X12_within L hN (x0 := x1) (x1 := (0 : Int32)) (x2 := ((q_I δ 12 24 a0) - (1 : Int32)))  I) (fun r1 hr2 => ?_)
  obtain ⟨i3, p4, p5, p6⟩ := hr2
  try rw [i3]
  have f7 := bo_l p4
  have f8 := ti_b r1.1
  have f9 := ti_b x1
  have f10 := cb_12_24 I k_a0
  first | (have q12 := te_subc (c := 1) (n := 1) rfl (q_I δ 12 24 a0) (by omega) (by omega); obtain ⟨f13, f14, f15⟩ := q12) | (obtain ⟨q12, f13, f14, f15⟩ := ti_subc (c := 1) (n := 1) rfl (q_I δ 12 24 a0))
  replace p5 : ((r1.1).toInt = 1 → (0 : Int) ≤ (x1).toInt ∧ (x1).toInt ≤ (((q_I δ 12 24 a0) - (1 : Int32))).toInt) := p5
  replace p6 : ((r1.1).toInt = 0 → (x1).toInt < (0 : Int) ∨ (((q_I δ 12 24 a0) - (1 : Int32))).toInt < (x1).toInt) := p6
  have f16 := ti_b r1.1
  refine ok_bind (k_X12_may L hN (a0 := a0) (x1 := r1.1) (x2 := (2 : Int32)) (x3 := (1 : Int32)) k_a0 (show (2 : Int) ≠ 0 by first | assumption | omega) (show 0 ≤ (1 : Int) by first | assumption | omega) (show (1 : Int) ≤ 2 by first | assumption | omega) I) (fun r17 hr18 => ?_)
  obtain ⟨i19, ⟨u23, u24, u25⟩, p20, p21, p22⟩ := hr18
  have u26 := kp_t kp_r u23
  have v27 : q_V r17.2 = q_V δ := (u24).trans rfl
  have v28 := kr_t (kr_r (ad := ad)) u25
  have f29 := bo_l p20
  have f30 := ti_b r17.1
  have f31 := ti_b (q_I δ 12 0 a0)
  have f32 := ti_b r17.1
  refine ok_gp (show bo r17.1 by first | assumption | exact bo_0 | exact bo_1 | exact bo_i (by omega) (by omega)) ?_
  exact ok_some (show RI ad h.1 δ0 r17.2 ∧ (kp [(12, 0)] δ r17.2 ∧ q_V r17.2 = q_V δ ∧ kr ad [100] δ r17.2) ∧ bo (r17.1) ∧ ((r17.1).toInt = 1 → 0 ≤ (x1).toInt ∧ (x1).toInt < (q_I δ 12 24 a0).toInt) from ⟨i19, ⟨kp_w (by decide) u26, v27, kr_w (by decide) v28⟩, by first | assumption | exact bo_0 | exact bo_1 | exact bo_i (by omega) (by omega), by first | assumption | omega⟩)
set_option maxHeartbeats 4000000 in
theorem kl_X12_image_110 {ad : List Nat} {h : hp} (L : Lay TLx ad h) {δ0 : dp} {N : Nat} (hN : 10000000 ≤ N) {a0 : Nat} (k_a0 : q_K h.1 a0 = 12) : ∀ (n : Nat) (x1v : Int32) (δ : dp), RI ad h.1 δ0 δ → 0 ≤ (x1v).toInt → (x1v).toInt ≤ 4 → (q_I δ 12 18 a0).toInt < 3 → 4 - (x1v).toInt < (n : Int) → ok (L_X12_image_110 N h.1 a0 n x1v δ) (fun r => RI ad h.1 δ0 r.2 ∧ (kp [(12, 0), (12, 18)] δ r.2 ∧ q_V r.2 = q_V δ ∧ kr ad [107, 108, 109, 110, 111] δ r.2)) := by
  intro n
  induction n with
  | zero =>
    intro x1v δ I j0 j1 j2 hm
    have f1 := ti_b x1v
    have f2 := cb_12_18 I k_a0
    exfalso; omega
  | succ n ih =>
    intro x1v δ I j0 j1 j2 hm
    unfold L_X12_image_110
    have f1 := ti_b x1v
    have f2 := cb_12_18 I k_a0
    refine ok_ite (fun h3 => ?_) (fun h3 => ?_)
    · have c4 : (4 : Int) ≤ x1v.toInt := o_le h3
      first | (have q9 := te_addc (c := 1) (n := 1) rfl (q_I δ 12 18 a0) (by omega) (by omega); obtain ⟨f10, f11, f12⟩ := q9) | (obtain ⟨q9, f10, f11, f12⟩ := ti_addc (c := 1) (n := 1) rfl (q_I δ 12 18 a0))
      refine ok_bdv (fun d5 e6 => ?_)
      have i7 : RI ad h.1 δ0 d5 := by rw [e6]; exact cs_12_18 L I k_a0 (show 0 ≤ ((q_I δ 12 18 a0) + (1 : Int32)).toInt by omega) (show ((q_I δ 12 18 a0) + (1 : Int32)).toInt ≤ 3 by omega)
      have u13 := kp_I kp_r e6
      have v14 : q_V d5 = q_V δ := ((show q_V d5 = q_V δ by rw [e6]; rfl)).trans rfl
      have v15 := kr_N (kr_r (ad := ad)) (show q_R d5 = q_R δ by rw [e6]; rfl)
      exact ok_some (show RI ad h.1 δ0 d5 ∧ (kp [(12, 0), (12, 18)] δ d5 ∧ q_V d5 = q_V δ ∧ kr ad [107, 108, 109, 110, 111] δ d5) from ⟨i7, ⟨kp_w (by decide) u13, v14, kr_w (by decide) v15⟩⟩)
    · have c16 : x1v.toInt < (4 : Int) := o_nle h3
      obtain ⟨b17, o18, k19, n20⟩ := gO_12_20 L k_a0
      obtain rfl := gS_12_20 L k_a0 o18
      refine ok_at o18 ?_
      obtain ⟨b21, o22, k23, n24⟩ := gO_12_14 L k_a0
      obtain rfl := gS_12_14 L k_a0 o22
      refine ok_at o22 ?_
      have t25 := ti_tn x1v
      refine ok_gd (fun hc26 => ?_) ?_
      · rcases hc26 with hc26 | hc26
        · have c27 : x1v.toInt < (0 : Int) := o_lt hc26
          omega
        · omega
      first | (have q29 := te_mulc (c := 4) (n := 4) rfl (q_I δ 12 18 a0) (by omega) (by omega); obtain ⟨f30, f31, f32⟩ := q29) | (obtain ⟨q29, f30, f31, f32⟩ := ti_mulc (c := 4) (n := 4) rfl (q_I δ 12 18 a0))
      first | (have q34 := te_add ((4 : Int32) * (q_I δ 12 18 a0)) x1v (by omega) (by omega); obtain ⟨f35, f36, f37⟩ := q34) | (obtain ⟨q34, f35, f36, f37⟩ := ti_add ((4 : Int32) * (q_I δ 12 18 a0)) x1v)
      have t38 := ti_tn (((4 : Int32) * (q_I δ 12 18 a0)) + x1v)
      refine ok_gd (fun hc39 => ?_) ?_
      · rcases hc39 with hc39 | hc39
        · have c40 : (((4 : Int32) * (q_I δ 12 18 a0)) + x1v).toInt < (0 : Int) := o_lt hc39
          omega
        · omega
      have f44 := rb_103 L I x1v.toNatClampNeg
      refine ok_bdv (fun d41 e42 => ?_)
      have i43 : RI ad h.1 δ0 d41 := by rw [e42]; exact cr_108 L I (show -1000 ≤ (q_R δ (Ad ad 103) x1v.toNatClampNeg).toInt by omega) (show (q_R δ (Ad ad 103) x1v.toNatClampNeg).toInt ≤ 2000 by omega)
      have u45 := kp_N kp_r (show q_I d41 = q_I δ by rw [e42]; rfl)
      have v46 : q_V d41 = q_V δ := ((show q_V d41 = q_V δ by rw [e42]; rfl)).trans rfl
      have v47 := kr_s L (by decide) (kr_r (ad := ad)) e42
      obtain ⟨b48, o49, k50, n51⟩ := gO_12_23 L k_a0
      obtain rfl := gS_12_23 L k_a0 o49
      refine ok_at o49 ?_
      obtain ⟨b52, o53, k54, n55⟩ := gO_12_17 L k_a0
      obtain rfl := gS_12_17 L k_a0 o53
      refine ok_at o53 ?_
      refine ok_gd (fun hc56 => ?_) ?_
      · rcases hc56 with hc56 | hc56
        · have c57 : x1v.toInt < (0 : Int) := o_lt hc56
          omega
        · omega
      have f59 := cb_12_18 i43 k_a0
      have f60 : (q_I d41 12 18 a0).toInt = (q_I δ 12 18 a0).toInt := congrArg Int32.toInt (by rw [e42]; rfl)
      first | (have q61 := te_mulc (c := 4) (n := 4) rfl (q_I d41 12 18 a0) (by omega) (by omega); obtain ⟨f62, f63, f64⟩ := q61) | (obtain ⟨q61, f62, f63, f64⟩ := ti_mulc (c := 4) (n := 4) rfl (q_I d41 12 18 a0))
      first | (have q66 := te_add ((4 : Int32) * (q_I d41 12 18 a0)) x1v (by omega) (by omega); obtain ⟨f67, f68, f69⟩ := q66) | (obtain ⟨q66, f67, f68, f69⟩ := ti_add ((4 : Int32) * (q_I d41 12 18 a0)) x1v)
      have t70 := ti_tn (((4 : Int32) * (q_I d41 12 18 a0)) + x1v)
      refine ok_gd (fun hc71 => ?_) ?_
      · rcases hc71 with hc71 | hc71
        · have c72 : (((4 : Int32) * (q_I d41 12 18 a0)) + x1v).toInt < (0 : Int) := o_lt hc71
          omega
        · omega
      have f76 : (q_R d41 (Ad ad 106) x1v.toNatClampNeg).toInt = (q_R δ (Ad ad 106) x1v.toNatClampNeg).toInt := congrArg Int32.toInt (show q_R d41 (Ad ad 106) x1v.toNatClampNeg = _ by rw [e42, rR_o (ad_ne L (by decide) (by decide) (by decide))])
      have f77 := rb_106 L I x1v.toNatClampNeg
      have f78 := rb_106 L i43 x1v.toNatClampNeg
      refine ok_bdv (fun d73 e74 => ?_)
      have i75 : RI ad h.1 δ0 d73 := by rw [e74]; exact cr_111 L i43 (show 0 ≤ (q_R d41 (Ad ad 106) x1v.toNatClampNeg).toInt by omega) (show (q_R d41 (Ad ad 106) x1v.toNatClampNeg).toInt ≤ 1000 by omega)
      have u79 := kp_N u45 (show q_I d73 = q_I d41 by rw [e74]; rfl)
      have v80 : q_V d73 = q_V δ := ((show q_V d73 = q_V d41 by rw [e74]; rfl)).trans v46
      have v81 := kr_s L (by decide) v47 e74
      refine ok_biv (fun vx82 e83 => ?_)
      first | (have q84 := te_addc (c := 1) (n := 1) rfl x1v (by omega) (by omega); rw [← e83] at q84; obtain ⟨f85, f86, f87⟩ := q84) | (obtain ⟨q84, f85, f86, f87⟩ : ∃ q : Int, vx82.toInt = x1v.toInt + (1 : Int) + 4294967296 * q ∧ -2147483648 ≤ vx82.toInt ∧ vx82.toInt ≤ 2147483647 := by rw [e83]; exact ti_addc (c := 1) (n := 1) rfl x1v)
      have f88 := cb_12_18 i75 k_a0
      have f89 : (q_I d73 12 18 a0).toInt = (q_I d41 12 18 a0).toInt := congrArg Int32.toInt (by rw [e74]; rfl)
      refine ok_mono (ih vx82 d73 i75 (show 0 ≤ (vx82).toInt by first | assumption | omega) (show (vx82).toInt ≤ 4 by first | assumption | omega) (show (q_I d73 12 18 a0).toInt < 3 by first | assumption | omega) (show 4 - (vx82).toInt < _ by omega)) (fun r90 hr91 => ?_)
      obtain ⟨i92, ⟨u93, u94, u95⟩⟩ := hr91
      have u96 := kp_t u79 u93
      have v97 : q_V r90.2 = q_V δ := (u94).trans v80
      have v98 := kr_t v81 u95
      have f99 := ti_b r90.1
      exact ⟨by assumption, ⟨kp_w (by decide) u96, v97, kr_w (by decide) v98⟩⟩
set_option maxHeartbeats 4000000 in
theorem kl_X12_image_53 {ad : List Nat} {h : hp} (L : Lay TLx ad h) {δ0 : dp} {N : Nat} (hN : 10000000 ≤ N) {a0 : Nat} (k_a0 : q_K h.1 a0 = 12) : ∀ (n : Nat) (x1v : Int32) (δ : dp), RI ad h.1 δ0 δ → 0 ≤ (x1v).toInt → (x1v).toInt ≤ 4000 → (q_I δ 12 18 a0).toInt < 3 → 4000 - (x1v).toInt < (n : Int) → ok (L_X12_image_53 N h.1 a0 n x1v δ) (fun r => RI ad h.1 δ0 r.2 ∧ (kp [(12, 0), (12, 18)] δ r.2 ∧ q_V r.2 = q_V δ ∧ kr ad [107, 108, 109, 110, 111] δ r.2)) := by
  intro n
  induction n with
  | zero =>
    intro x1v δ I j0 j1 j2 hm
    have f1 := ti_b x1v
    have f2 := cb_12_18 I k_a0
    exfalso; omega
  | succ n ih =>
    intro x1v δ I j0 j1 j2 hm
    unfold L_X12_image_53
    have f1 := ti_b x1v
    have f2 := cb_12_18 I k_a0
    refine ok_ite (fun h3 => ?_) (fun h3 => ?_)
    · have c4 : (4000 : Int) ≤ x1v.toInt := o_le h3
      refine ok_mono (kl_X12_image_110 L hN   k_a0 _ (0 : Int32) δ I (show 0 ≤ (0 : Int) by first | assumption | omega) (show (0 : Int) ≤ 4 by first | assumption | omega) (show (q_I δ 12 18 a0).toInt < 3 by first | assumption | omega) (show 4 - (0 : Int) < _ by omega)) (fun r5 hr6 => ?_)
      obtain ⟨i7, ⟨u8, u9, u10⟩⟩ := hr6
      have u11 := kp_t kp_r u8
      have v12 : q_V r5.2 = q_V δ := (u9).trans rfl
      have v13 := kr_t (kr_r (ad := ad)) u10
      have f14 := ti_b r5.1
      exact ⟨by assumption, ⟨kp_w (by decide) u11, v12, kr_w (by decide) v13⟩⟩
    · have c15 : x1v.toInt < (4000 : Int) := o_nle h3
      obtain ⟨b16, o17, k18, n19, w20⟩ := gO_12_21 L k_a0
      obtain rfl := gS_12_21 L k_a0 o17
      refine ok_at o17 ?_
      obtain ⟨b21, o22, k23, n24, w25⟩ := gO_12_15 L k_a0
      obtain rfl := gS_12_15 L k_a0 o22
      refine ok_at o22 ?_
      have t26 := ti_tn x1v
      refine ok_gd (fun hc27 => ?_) ?_
      · rcases hc27 with hc27 | hc27
        · have c28 : x1v.toInt < (0 : Int) := o_lt hc27
          omega
        · omega
      first | (have q30 := te_mulc (c := 4000) (n := 4000) rfl (q_I δ 12 18 a0) (by omega) (by omega); obtain ⟨f31, f32, f33⟩ := q30) | (obtain ⟨q30, f31, f32, f33⟩ := ti_mulc (c := 4000) (n := 4000) rfl (q_I δ 12 18 a0))
      first | (have q35 := te_add ((4000 : Int32) * (q_I δ 12 18 a0)) x1v (by omega) (by omega); obtain ⟨f36, f37, f38⟩ := q35) | (obtain ⟨q35, f36, f37, f38⟩ := ti_add ((4000 : Int32) * (q_I δ 12 18 a0)) x1v)
      have t39 := ti_tn (((4000 : Int32) * (q_I δ 12 18 a0)) + x1v)
      refine ok_gd (fun hc40 => ?_) ?_
      · rcases hc40 with hc40 | hc40
        · have c41 : (((4000 : Int32) * (q_I δ 12 18 a0)) + x1v).toInt < (0 : Int) := o_lt hc40
          omega
        · omega
      refine ok_bdv (fun d42 e43 => ?_)
      have i44 : RI ad h.1 δ0 d42 := by rw [e43]; exact RI.sR L I w20
      have u45 := kp_N kp_r (show q_I d42 = q_I δ by rw [e43]; rfl)
      have v46 : q_V d42 = q_V δ := ((show q_V d42 = q_V δ by rw [e43]; rfl)).trans rfl
      have v47 := kr_s L (by decide) (kr_r (ad := ad)) e43
      obtain ⟨b48, o49, k50, n51, w52⟩ := gO_12_22 L k_a0
      obtain rfl := gS_12_22 L k_a0 o49
      refine ok_at o49 ?_
      obtain ⟨b53, o54, k55, n56, w57⟩ := gO_12_16 L k_a0
      obtain rfl := gS_12_16 L k_a0 o54
      refine ok_at o54 ?_
      refine ok_gd (fun hc58 => ?_) ?_
      · rcases hc58 with hc58 | hc58
        · have c59 : x1v.toInt < (0 : Int) := o_lt hc58
          omega
        · omega
      have f61 := cb_12_18 i44 k_a0
      have f62 : (q_I d42 12 18 a0).toInt = (q_I δ 12 18 a0).toInt := congrArg Int32.toInt (by rw [e43]; rfl)
      first | (have q63 := te_mulc (c := 4000) (n := 4000) rfl (q_I d42 12 18 a0) (by omega) (by omega); obtain ⟨f64, f65, f66⟩ := q63) | (obtain ⟨q63, f64, f65, f66⟩ := ti_mulc (c := 4000) (n := 4000) rfl (q_I d42 12 18 a0))
      first | (have q68 := te_add ((4000 : Int32) * (q_I d42 12 18 a0)) x1v (by omega) (by omega); obtain ⟨f69, f70, f71⟩ := q68) | (obtain ⟨q68, f69, f70, f71⟩ := ti_add ((4000 : Int32) * (q_I d42 12 18 a0)) x1v)
      have t72 := ti_tn (((4000 : Int32) * (q_I d42 12 18 a0)) + x1v)
      refine ok_gd (fun hc73 => ?_) ?_
      · rcases hc73 with hc73 | hc73
        · have c74 : (((4000 : Int32) * (q_I d42 12 18 a0)) + x1v).toInt < (0 : Int) := o_lt hc73
          omega
        · omega
      refine ok_bdv (fun d75 e76 => ?_)
      have i77 : RI ad h.1 δ0 d75 := by rw [e76]; exact RI.sR L i44 w52
      have u78 := kp_N u45 (show q_I d75 = q_I d42 by rw [e76]; rfl)
      have v79 : q_V d75 = q_V δ := ((show q_V d75 = q_V d42 by rw [e76]; rfl)).trans v46
      have v80 := kr_s L (by decide) v47 e76
      refine ok_biv (fun vx81 e82 => ?_)
      first | (have q83 := te_addc (c := 1) (n := 1) rfl x1v (by omega) (by omega); rw [← e82] at q83; obtain ⟨f84, f85, f86⟩ := q83) | (obtain ⟨q83, f84, f85, f86⟩ : ∃ q : Int, vx81.toInt = x1v.toInt + (1 : Int) + 4294967296 * q ∧ -2147483648 ≤ vx81.toInt ∧ vx81.toInt ≤ 2147483647 := by rw [e82]; exact ti_addc (c := 1) (n := 1) rfl x1v)
      have f87 := cb_12_18 i77 k_a0
      have f88 : (q_I d75 12 18 a0).toInt = (q_I d42 12 18 a0).toInt := congrArg Int32.toInt (by rw [e76]; rfl)
      refine ok_mono (ih vx81 d75 i77 (show 0 ≤ (vx81).toInt by first | assumption | omega) (show (vx81).toInt ≤ 4000 by first | assumption | omega) (show (q_I d75 12 18 a0).toInt < 3 by first | assumption | omega) (show 4000 - (vx81).toInt < _ by omega)) (fun r89 hr90 => ?_)
      obtain ⟨i91, ⟨u92, u93, u94⟩⟩ := hr90
      have u95 := kp_t u78 u92
      have v96 : q_V r89.2 = q_V δ := (u93).trans v79
      have v97 := kr_t v80 u94
      have f98 := ti_b r89.1
      exact ⟨by assumption, ⟨kp_w (by decide) u95, v96, kr_w (by decide) v97⟩⟩
set_option maxHeartbeats 4000000 in
theorem kl_X12_image_17 {ad : List Nat} {h : hp} (L : Lay TLx ad h) {δ0 : dp} {N : Nat} (hN : 10000000 ≤ N) {a0 : Nat} (k_a0 : q_K h.1 a0 = 12) : ∀ (n : Nat) (x1v : Int32) (δ : dp), RI ad h.1 δ0 δ → 0 ≤ (x1v).toInt → (x1v).toInt ≤ 8000 → (q_I δ 12 18 a0).toInt < 3 → 8000 - (x1v).toInt < (n : Int) → ok (L_X12_image_17 N h.1 a0 n x1v δ) (fun r => RI ad h.1 δ0 r.2 ∧ (kp [(12, 0), (12, 18)] δ r.2 ∧ q_V r.2 = q_V δ ∧ kr ad [107, 108, 109, 110, 111] δ r.2)) := by
  intro n
  induction n with
  | zero =>
    intro x1v δ I j0 j1 j2 hm
    have f1 := ti_b x1v
    have f2 := cb_12_18 I k_a0
    exfalso; omega
  | succ n ih =>
    intro x1v δ I j0 j1 j2 hm
    unfold L_X12_image_17
    have f1 := ti_b x1v
    have f2 := cb_12_18 I k_a0
    refine ok_ite (fun h3 => ?_) (fun h3 => ?_)
    · have c4 : (8000 : Int) ≤ x1v.toInt := o_le h3
      refine ok_mono (kl_X12_image_53 L hN   k_a0 _ (0 : Int32) δ I (show 0 ≤ (0 : Int) by first | assumption | omega) (show (0 : Int) ≤ 4000 by first | assumption | omega) (show (q_I δ 12 18 a0).toInt < 3 by first | assumption | omega) (show 4000 - (0 : Int) < _ by omega)) (fun r5 hr6 => ?_)
      obtain ⟨i7, ⟨u8, u9, u10⟩⟩ := hr6
      have u11 := kp_t kp_r u8
      have v12 : q_V r5.2 = q_V δ := (u9).trans rfl
      have v13 := kr_t (kr_r (ad := ad)) u10
      have f14 := ti_b r5.1
      exact ⟨by assumption, ⟨kp_w (by decide) u11, v12, kr_w (by decide) v13⟩⟩
    · have c15 : x1v.toInt < (8000 : Int) := o_nle h3
      obtain ⟨b16, o17, k18, n19, w20⟩ := gO_12_19 L k_a0
      obtain rfl := gS_12_19 L k_a0 o17
      refine ok_at o17 ?_
      obtain ⟨b21, o22, k23, n24, w25⟩ := gO_12_13 L k_a0
      obtain rfl := gS_12_13 L k_a0 o22
      refine ok_at o22 ?_
      have t26 := ti_tn x1v
      refine ok_gd (fun hc27 => ?_) ?_
      · rcases hc27 with hc27 | hc27
        · have c28 : x1v.toInt < (0 : Int) := o_lt hc27
          omega
        · omega
      first | (have q30 := te_mulc (c := 8000) (n := 8000) rfl (q_I δ 12 18 a0) (by omega) (by omega); obtain ⟨f31, f32, f33⟩ := q30) | (obtain ⟨q30, f31, f32, f33⟩ := ti_mulc (c := 8000) (n := 8000) rfl (q_I δ 12 18 a0))
      first | (have q35 := te_add ((8000 : Int32) * (q_I δ 12 18 a0)) x1v (by omega) (by omega); obtain ⟨f36, f37, f38⟩ := q35) | (obtain ⟨q35, f36, f37, f38⟩ := ti_add ((8000 : Int32) * (q_I δ 12 18 a0)) x1v)
      have t39 := ti_tn (((8000 : Int32) * (q_I δ 12 18 a0)) + x1v)
      refine ok_gd (fun hc40 => ?_) ?_
      · rcases hc40 with hc40 | hc40
        · have c41 : (((8000 : Int32) * (q_I δ 12 18 a0)) + x1v).toInt < (0 : Int) := o_lt hc40
          omega
        · omega
      refine ok_bdv (fun d42 e43 => ?_)
      have i44 : RI ad h.1 δ0 d42 := by rw [e43]; exact RI.sR L I w20
      have u45 := kp_N kp_r (show q_I d42 = q_I δ by rw [e43]; rfl)
      have v46 : q_V d42 = q_V δ := ((show q_V d42 = q_V δ by rw [e43]; rfl)).trans rfl
      have v47 := kr_s L (by decide) (kr_r (ad := ad)) e43
      refine ok_biv (fun vx48 e49 => ?_)
      first | (have q50 := te_addc (c := 1) (n := 1) rfl x1v (by omega) (by omega); rw [← e49] at q50; obtain ⟨f51, f52, f53⟩ := q50) | (obtain ⟨q50, f51, f52, f53⟩ : ∃ q : Int, vx48.toInt = x1v.toInt + (1 : Int) + 4294967296 * q ∧ -2147483648 ≤ vx48.toInt ∧ vx48.toInt ≤ 2147483647 := by rw [e49]; exact ti_addc (c := 1) (n := 1) rfl x1v)
      have f54 := cb_12_18 i44 k_a0
      have f55 : (q_I d42 12 18 a0).toInt = (q_I δ 12 18 a0).toInt := congrArg Int32.toInt (by rw [e43]; rfl)
      refine ok_mono (ih vx48 d42 i44 (show 0 ≤ (vx48).toInt by first | assumption | omega) (show (vx48).toInt ≤ 8000 by first | assumption | omega) (show (q_I d42 12 18 a0).toInt < 3 by first | assumption | omega) (show 8000 - (vx48).toInt < _ by omega)) (fun r56 hr57 => ?_)
      obtain ⟨i58, ⟨u59, u60, u61⟩⟩ := hr57
      have u62 := kp_t u45 u59
      have v63 : q_V r56.2 = q_V δ := (u60).trans v46
      have v64 := kr_t v47 u61
      have f65 := ti_b r56.1
      exact ⟨by assumption, ⟨kp_w (by decide) u62, v63, kr_w (by decide) v64⟩⟩
set_option maxHeartbeats 4000000 in
theorem k_X12_image {ad : List Nat} {h : hp} (L : Lay TLx ad h) {δ0 : dp} {N : Nat} (hN : 10000000 ≤ N) {a0 : Nat} (k_a0 : q_K h.1 a0 = 12) {δ : dp} (I : RI ad h.1 δ0 δ) : ok (D_X12_image N h.1 a0 δ) (fun r => RI ad h.1 δ0 r.2 ∧ (kp [(12, 0), (12, 18)] δ r.2 ∧ q_V r.2 = q_V δ ∧ kr ad [107, 108, 109, 110, 111] δ r.2)) := by
  unfold D_X12_image
  refine ok_bdv (fun d1 e2 => ?_)
  have i3 : RI ad h.1 δ0 d1 := by rw [e2]; exact cs_12_0 L I
  have u4 := kp_I kp_r e2
  have v5 : q_V d1 = q_V δ := ((show q_V d1 = q_V δ by rw [e2]; rfl)).trans rfl
  have v6 := kr_N (kr_r (ad := ad)) (show q_R d1 = q_R δ by rw [e2]; rfl)
  have f7 := cb_12_18 i3 k_a0
  have f8 : (q_I d1 12 18 a0).toInt = (q_I δ 12 18 a0).toInt := congrArg Int32.toInt (by rw [e2]; exact rI_o (by decide))
  have f9 := cb_12_18 I k_a0
  refine ok_ite (fun h10 => ?_) (fun h10 => ?_)
  · have c11 : (q_I d1 12 18 a0).toInt = (3 : Int) := o_eq h10
    exact ok_some (show RI ad h.1 δ0 d1 ∧ (kp [(12, 0), (12, 18)] δ d1 ∧ q_V d1 = q_V δ ∧ kr ad [107, 108, 109, 110, 111] δ d1) from ⟨i3, ⟨kp_w (by decide) u4, v5, kr_w (by decide) v6⟩⟩)
  · have c12 : (q_I d1 12 18 a0).toInt ≠ (3 : Int) := o_ne h10
    refine ok_mono (kl_X12_image_17 L hN   k_a0 _ (0 : Int32) d1 i3 (show 0 ≤ (0 : Int) by first | assumption | omega) (show (0 : Int) ≤ 8000 by first | assumption | omega) (show (q_I d1 12 18 a0).toInt < 3 by first | assumption | omega) (show 8000 - (0 : Int) < _ by omega)) (fun r13 hr14 => ?_)
    obtain ⟨i15, ⟨u16, u17, u18⟩⟩ := hr14
    have u19 := kp_t u4 u16
    have v20 : q_V r13.2 = q_V δ := (u17).trans v5
    have v21 := kr_t v6 u18
    have f22 := ti_b r13.1
    exact ⟨by assumption, ⟨kp_w (by decide) u19, v20, kr_w (by decide) v21⟩⟩
set_option maxHeartbeats 4000000 in
theorem kl_X12_restore_119 {ad : List Nat} {h : hp} (L : Lay TLx ad h) {δ0 : dp} {N : Nat} (hN : 10000000 ≤ N) {a0 : Nat} (k_a0 : q_K h.1 a0 = 12) : ∀ (n : Nat) (x1v : Int32) (δ : dp), RI ad h.1 δ0 δ → 0 ≤ (x1v).toInt → (x1v).toInt ≤ 4 → (q_I δ 12 18 a0).toInt < 3 → 4 - (x1v).toInt < (n : Int) → ok (L_X12_restore_119 N h.1 a0 n x1v δ) (fun r => RI ad h.1 δ0 r.2 ∧ (kp [(12, 0), (12, 18)] δ r.2 ∧ q_V r.2 = q_V δ ∧ kr ad [102, 103, 104, 105, 106] δ r.2)) := by
  intro n
  induction n with
  | zero =>
    intro x1v δ I j0 j1 j2 hm
    have f1 := ti_b x1v
    have f2 := cb_12_18 I k_a0
    exfalso; omega
  | succ n ih =>
    intro x1v δ I j0 j1 j2 hm
    unfold L_X12_restore_119
    have f1 := ti_b x1v
    have f2 := cb_12_18 I k_a0
    refine ok_ite (fun h3 => ?_) (fun h3 => ?_)
    · have c4 : (4 : Int) ≤ x1v.toInt := o_le h3
      exact ok_some (show RI ad h.1 δ0 δ ∧ (kp [(12, 0), (12, 18)] δ δ ∧ q_V δ = q_V δ ∧ kr ad [102, 103, 104, 105, 106] δ δ) from ⟨I, ⟨kp_w (by decide) kp_r, rfl, kr_w (by decide) (kr_r (ad := ad))⟩⟩)
    · have c5 : x1v.toInt < (4 : Int) := o_nle h3
      obtain ⟨b6, o7, k8, n9⟩ := gO_12_14 L k_a0
      obtain rfl := gS_12_14 L k_a0 o7
      refine ok_at o7 ?_
      obtain ⟨b10, o11, k12, n13⟩ := gO_12_20 L k_a0
      obtain rfl := gS_12_20 L k_a0 o11
      refine ok_at o11 ?_
      first | (have q15 := te_mulc (c := 4) (n := 4) rfl (q_I δ 12 18 a0) (by omega) (by omega); obtain ⟨f16, f17, f18⟩ := q15) | (obtain ⟨q15, f16, f17, f18⟩ := ti_mulc (c := 4) (n := 4) rfl (q_I δ 12 18 a0))
      first | (have q20 := te_add ((4 : Int32) * (q_I δ 12 18 a0)) x1v (by omega) (by omega); obtain ⟨f21, f22, f23⟩ := q20) | (obtain ⟨q20, f21, f22, f23⟩ := ti_add ((4 : Int32) * (q_I δ 12 18 a0)) x1v)
      have t24 := ti_tn (((4 : Int32) * (q_I δ 12 18 a0)) + x1v)
      refine ok_gd (fun hc25 => ?_) ?_
      · rcases hc25 with hc25 | hc25
        · have c26 : (((4 : Int32) * (q_I δ 12 18 a0)) + x1v).toInt < (0 : Int) := o_lt hc25
          omega
        · omega
      have t27 := ti_tn x1v
      refine ok_gd (fun hc28 => ?_) ?_
      · rcases hc28 with hc28 | hc28
        · have c29 : x1v.toInt < (0 : Int) := o_lt hc28
          omega
        · omega
      have f33 := rb_108 L I (((4 : Int32) * (q_I δ 12 18 a0)) + x1v).toNatClampNeg
      refine ok_bdv (fun d30 e31 => ?_)
      have i32 : RI ad h.1 δ0 d30 := by rw [e31]; exact cr_103 L I (show -1000 ≤ (q_R δ (Ad ad 108) (((4 : Int32) * (q_I δ 12 18 a0)) + x1v).toNatClampNeg).toInt by omega) (show (q_R δ (Ad ad 108) (((4 : Int32) * (q_I δ 12 18 a0)) + x1v).toNatClampNeg).toInt ≤ 2000 by omega)
      have u34 := kp_N kp_r (show q_I d30 = q_I δ by rw [e31]; rfl)
      have v35 : q_V d30 = q_V δ := ((show q_V d30 = q_V δ by rw [e31]; rfl)).trans rfl
      have v36 := kr_s L (by decide) (kr_r (ad := ad)) e31
      obtain ⟨b37, o38, k39, n40⟩ := gO_12_17 L k_a0
      obtain rfl := gS_12_17 L k_a0 o38
      refine ok_at o38 ?_
      obtain ⟨b41, o42, k43, n44⟩ := gO_12_23 L k_a0
      obtain rfl := gS_12_23 L k_a0 o42
      refine ok_at o42 ?_
      have f46 := cb_12_18 i32 k_a0
      have f47 : (q_I d30 12 18 a0).toInt = (q_I δ 12 18 a0).toInt := congrArg Int32.toInt (by rw [e31]; rfl)
      first | (have q48 := te_mulc (c := 4) (n := 4) rfl (q_I d30 12 18 a0) (by omega) (by omega); obtain ⟨f49, f50, f51⟩ := q48) | (obtain ⟨q48, f49, f50, f51⟩ := ti_mulc (c := 4) (n := 4) rfl (q_I d30 12 18 a0))
      first | (have q53 := te_add ((4 : Int32) * (q_I d30 12 18 a0)) x1v (by omega) (by omega); obtain ⟨f54, f55, f56⟩ := q53) | (obtain ⟨q53, f54, f55, f56⟩ := ti_add ((4 : Int32) * (q_I d30 12 18 a0)) x1v)
      have t57 := ti_tn (((4 : Int32) * (q_I d30 12 18 a0)) + x1v)
      refine ok_gd (fun hc58 => ?_) ?_
      · rcases hc58 with hc58 | hc58
        · have c59 : (((4 : Int32) * (q_I d30 12 18 a0)) + x1v).toInt < (0 : Int) := o_lt hc58
          omega
        · omega
      refine ok_gd (fun hc60 => ?_) ?_
      · rcases hc60 with hc60 | hc60
        · have c61 : x1v.toInt < (0 : Int) := o_lt hc60
          omega
        · omega
      have f65 : (q_R d30 (Ad ad 111) (((4 : Int32) * (q_I d30 12 18 a0)) + x1v).toNatClampNeg).toInt = (q_R δ (Ad ad 111) (((4 : Int32) * (q_I d30 12 18 a0)) + x1v).toNatClampNeg).toInt := congrArg Int32.toInt (show q_R d30 (Ad ad 111) (((4 : Int32) * (q_I d30 12 18 a0)) + x1v).toNatClampNeg = _ by rw [e31, rR_o (ad_ne L (by decide) (by decide) (by decide))])
      have f66 := rb_111 L I (((4 : Int32) * (q_I d30 12 18 a0)) + x1v).toNatClampNeg
      have f67 := rb_111 L i32 (((4 : Int32) * (q_I d30 12 18 a0)) + x1v).toNatClampNeg
      refine ok_bdv (fun d62 e63 => ?_)
      have i64 : RI ad h.1 δ0 d62 := by rw [e63]; exact cr_106 L i32 (show 0 ≤ (q_R d30 (Ad ad 111) (((4 : Int32) * (q_I d30 12 18 a0)) + x1v).toNatClampNeg).toInt by omega) (show (q_R d30 (Ad ad 111) (((4 : Int32) * (q_I d30 12 18 a0)) + x1v).toNatClampNeg).toInt ≤ 1000 by omega)
      have u68 := kp_N u34 (show q_I d62 = q_I d30 by rw [e63]; rfl)
      have v69 : q_V d62 = q_V δ := ((show q_V d62 = q_V d30 by rw [e63]; rfl)).trans v35
      have v70 := kr_s L (by decide) v36 e63
      refine ok_biv (fun vx71 e72 => ?_)
      first | (have q73 := te_addc (c := 1) (n := 1) rfl x1v (by omega) (by omega); rw [← e72] at q73; obtain ⟨f74, f75, f76⟩ := q73) | (obtain ⟨q73, f74, f75, f76⟩ : ∃ q : Int, vx71.toInt = x1v.toInt + (1 : Int) + 4294967296 * q ∧ -2147483648 ≤ vx71.toInt ∧ vx71.toInt ≤ 2147483647 := by rw [e72]; exact ti_addc (c := 1) (n := 1) rfl x1v)
      have f77 := cb_12_18 i64 k_a0
      have f78 : (q_I d62 12 18 a0).toInt = (q_I d30 12 18 a0).toInt := congrArg Int32.toInt (by rw [e63]; rfl)
      refine ok_mono (ih vx71 d62 i64 (show 0 ≤ (vx71).toInt by first | assumption | omega) (show (vx71).toInt ≤ 4 by first | assumption | omega) (show (q_I d62 12 18 a0).toInt < 3 by first | assumption | omega) (show 4 - (vx71).toInt < _ by omega)) (fun r79 hr80 => ?_)
      obtain ⟨i81, ⟨u82, u83, u84⟩⟩ := hr80
      have u85 := kp_t u68 u82
      have v86 : q_V r79.2 = q_V δ := (u83).trans v69
      have v87 := kr_t v70 u84
      have f88 := ti_b r79.1
      exact ⟨by assumption, ⟨kp_w (by decide) u85, v86, kr_w (by decide) v87⟩⟩
set_option maxHeartbeats 4000000 in
theorem kl_X12_restore_62 {ad : List Nat} {h : hp} (L : Lay TLx ad h) {δ0 : dp} {N : Nat} (hN : 10000000 ≤ N) {a0 : Nat} (k_a0 : q_K h.1 a0 = 12) : ∀ (n : Nat) (x1v : Int32) (δ : dp), RI ad h.1 δ0 δ → 0 ≤ (x1v).toInt → (x1v).toInt ≤ 4000 → (q_I δ 12 18 a0).toInt < 3 → 4000 - (x1v).toInt < (n : Int) → ok (L_X12_restore_62 N h.1 a0 n x1v δ) (fun r => RI ad h.1 δ0 r.2 ∧ (kp [(12, 0), (12, 18)] δ r.2 ∧ q_V r.2 = q_V δ ∧ kr ad [102, 103, 104, 105, 106] δ r.2)) := by
  intro n
  induction n with
  | zero =>
    intro x1v δ I j0 j1 j2 hm
    have f1 := ti_b x1v
    have f2 := cb_12_18 I k_a0
    exfalso; omega
  | succ n ih =>
    intro x1v δ I j0 j1 j2 hm
    unfold L_X12_restore_62
    have f1 := ti_b x1v
    have f2 := cb_12_18 I k_a0
    refine ok_ite (fun h3 => ?_) (fun h3 => ?_)
    · have c4 : (4000 : Int) ≤ x1v.toInt := o_le h3
      refine ok_mono (kl_X12_restore_119 L hN   k_a0 _ (0 : Int32) δ I (show 0 ≤ (0 : Int) by first | assumption | omega) (show (0 : Int) ≤ 4 by first | assumption | omega) (show (q_I δ 12 18 a0).toInt < 3 by first | assumption | omega) (show 4 - (0 : Int) < _ by omega)) (fun r5 hr6 => ?_)
      obtain ⟨i7, ⟨u8, u9, u10⟩⟩ := hr6
      have u11 := kp_t kp_r u8
      have v12 : q_V r5.2 = q_V δ := (u9).trans rfl
      have v13 := kr_t (kr_r (ad := ad)) u10
      have f14 := ti_b r5.1
      exact ⟨by assumption, ⟨kp_w (by decide) u11, v12, kr_w (by decide) v13⟩⟩
    · have c15 : x1v.toInt < (4000 : Int) := o_nle h3
      obtain ⟨b16, o17, k18, n19, w20⟩ := gO_12_15 L k_a0
      obtain rfl := gS_12_15 L k_a0 o17
      refine ok_at o17 ?_
      obtain ⟨b21, o22, k23, n24, w25⟩ := gO_12_21 L k_a0
      obtain rfl := gS_12_21 L k_a0 o22
      refine ok_at o22 ?_
      first | (have q27 := te_mulc (c := 4000) (n := 4000) rfl (q_I δ 12 18 a0) (by omega) (by omega); obtain ⟨f28, f29, f30⟩ := q27) | (obtain ⟨q27, f28, f29, f30⟩ := ti_mulc (c := 4000) (n := 4000) rfl (q_I δ 12 18 a0))
      first | (have q32 := te_add ((4000 : Int32) * (q_I δ 12 18 a0)) x1v (by omega) (by omega); obtain ⟨f33, f34, f35⟩ := q32) | (obtain ⟨q32, f33, f34, f35⟩ := ti_add ((4000 : Int32) * (q_I δ 12 18 a0)) x1v)
      have t36 := ti_tn (((4000 : Int32) * (q_I δ 12 18 a0)) + x1v)
      refine ok_gd (fun hc37 => ?_) ?_
      · rcases hc37 with hc37 | hc37
        · have c38 : (((4000 : Int32) * (q_I δ 12 18 a0)) + x1v).toInt < (0 : Int) := o_lt hc37
          omega
        · omega
      have t39 := ti_tn x1v
      refine ok_gd (fun hc40 => ?_) ?_
      · rcases hc40 with hc40 | hc40
        · have c41 : x1v.toInt < (0 : Int) := o_lt hc40
          omega
        · omega
      refine ok_bdv (fun d42 e43 => ?_)
      have i44 : RI ad h.1 δ0 d42 := by rw [e43]; exact RI.sR L I w20
      have u45 := kp_N kp_r (show q_I d42 = q_I δ by rw [e43]; rfl)
      have v46 : q_V d42 = q_V δ := ((show q_V d42 = q_V δ by rw [e43]; rfl)).trans rfl
      have v47 := kr_s L (by decide) (kr_r (ad := ad)) e43
      obtain ⟨b48, o49, k50, n51, w52⟩ := gO_12_16 L k_a0
      obtain rfl := gS_12_16 L k_a0 o49
      refine ok_at o49 ?_
      obtain ⟨b53, o54, k55, n56, w57⟩ := gO_12_22 L k_a0
      obtain rfl := gS_12_22 L k_a0 o54
      refine ok_at o54 ?_
      have f59 := cb_12_18 i44 k_a0
      have f60 : (q_I d42 12 18 a0).toInt = (q_I δ 12 18 a0).toInt := congrArg Int32.toInt (by rw [e43]; rfl)
      first | (have q61 := te_mulc (c := 4000) (n := 4000) rfl (q_I d42 12 18 a0) (by omega) (by omega); obtain ⟨f62, f63, f64⟩ := q61) | (obtain ⟨q61, f62, f63, f64⟩ := ti_mulc (c := 4000) (n := 4000) rfl (q_I d42 12 18 a0))
      first | (have q66 := te_add ((4000 : Int32) * (q_I d42 12 18 a0)) x1v (by omega) (by omega); obtain ⟨f67, f68, f69⟩ := q66) | (obtain ⟨q66, f67, f68, f69⟩ := ti_add ((4000 : Int32) * (q_I d42 12 18 a0)) x1v)
      have t70 := ti_tn (((4000 : Int32) * (q_I d42 12 18 a0)) + x1v)
      refine ok_gd (fun hc71 => ?_) ?_
      · rcases hc71 with hc71 | hc71
        · have c72 : (((4000 : Int32) * (q_I d42 12 18 a0)) + x1v).toInt < (0 : Int) := o_lt hc71
          omega
        · omega
      refine ok_gd (fun hc73 => ?_) ?_
      · rcases hc73 with hc73 | hc73
        · have c74 : x1v.toInt < (0 : Int) := o_lt hc73
          omega
        · omega
      refine ok_bdv (fun d75 e76 => ?_)
      have i77 : RI ad h.1 δ0 d75 := by rw [e76]; exact RI.sR L i44 w52
      have u78 := kp_N u45 (show q_I d75 = q_I d42 by rw [e76]; rfl)
      have v79 : q_V d75 = q_V δ := ((show q_V d75 = q_V d42 by rw [e76]; rfl)).trans v46
      have v80 := kr_s L (by decide) v47 e76
      refine ok_biv (fun vx81 e82 => ?_)
      first | (have q83 := te_addc (c := 1) (n := 1) rfl x1v (by omega) (by omega); rw [← e82] at q83; obtain ⟨f84, f85, f86⟩ := q83) | (obtain ⟨q83, f84, f85, f86⟩ : ∃ q : Int, vx81.toInt = x1v.toInt + (1 : Int) + 4294967296 * q ∧ -2147483648 ≤ vx81.toInt ∧ vx81.toInt ≤ 2147483647 := by rw [e82]; exact ti_addc (c := 1) (n := 1) rfl x1v)
      have f87 := cb_12_18 i77 k_a0
      have f88 : (q_I d75 12 18 a0).toInt = (q_I d42 12 18 a0).toInt := congrArg Int32.toInt (by rw [e76]; rfl)
      refine ok_mono (ih vx81 d75 i77 (show 0 ≤ (vx81).toInt by first | assumption | omega) (show (vx81).toInt ≤ 4000 by first | assumption | omega) (show (q_I d75 12 18 a0).toInt < 3 by first | assumption | omega) (show 4000 - (vx81).toInt < _ by omega)) (fun r89 hr90 => ?_)
      obtain ⟨i91, ⟨u92, u93, u94⟩⟩ := hr90
      have u95 := kp_t u78 u92
      have v96 : q_V r89.2 = q_V δ := (u93).trans v79
      have v97 := kr_t v80 u94
      have f98 := ti_b r89.1
      exact ⟨by assumption, ⟨kp_w (by decide) u95, v96, kr_w (by decide) v97⟩⟩
set_option maxHeartbeats 4000000 in
theorem kl_X12_restore_26 {ad : List Nat} {h : hp} (L : Lay TLx ad h) {δ0 : dp} {N : Nat} (hN : 10000000 ≤ N) {a0 : Nat} (k_a0 : q_K h.1 a0 = 12) : ∀ (n : Nat) (x1v : Int32) (δ : dp), RI ad h.1 δ0 δ → 0 ≤ (x1v).toInt → (x1v).toInt ≤ 8000 → (q_I δ 12 18 a0).toInt < 3 → 8000 - (x1v).toInt < (n : Int) → ok (L_X12_restore_26 N h.1 a0 n x1v δ) (fun r => RI ad h.1 δ0 r.2 ∧ (kp [(12, 0), (12, 18)] δ r.2 ∧ q_V r.2 = q_V δ ∧ kr ad [102, 103, 104, 105, 106] δ r.2)) := by
  intro n
  induction n with
  | zero =>
    intro x1v δ I j0 j1 j2 hm
    have f1 := ti_b x1v
    have f2 := cb_12_18 I k_a0
    exfalso; omega
  | succ n ih =>
    intro x1v δ I j0 j1 j2 hm
    unfold L_X12_restore_26
    have f1 := ti_b x1v
    have f2 := cb_12_18 I k_a0
    refine ok_ite (fun h3 => ?_) (fun h3 => ?_)
    · have c4 : (8000 : Int) ≤ x1v.toInt := o_le h3
      refine ok_mono (kl_X12_restore_62 L hN   k_a0 _ (0 : Int32) δ I (show 0 ≤ (0 : Int) by first | assumption | omega) (show (0 : Int) ≤ 4000 by first | assumption | omega) (show (q_I δ 12 18 a0).toInt < 3 by first | assumption | omega) (show 4000 - (0 : Int) < _ by omega)) (fun r5 hr6 => ?_)
      obtain ⟨i7, ⟨u8, u9, u10⟩⟩ := hr6
      have u11 := kp_t kp_r u8
      have v12 : q_V r5.2 = q_V δ := (u9).trans rfl
      have v13 := kr_t (kr_r (ad := ad)) u10
      have f14 := ti_b r5.1
      exact ⟨by assumption, ⟨kp_w (by decide) u11, v12, kr_w (by decide) v13⟩⟩
    · have c15 : x1v.toInt < (8000 : Int) := o_nle h3
      obtain ⟨b16, o17, k18, n19, w20⟩ := gO_12_13 L k_a0
      obtain rfl := gS_12_13 L k_a0 o17
      refine ok_at o17 ?_
      obtain ⟨b21, o22, k23, n24, w25⟩ := gO_12_19 L k_a0
      obtain rfl := gS_12_19 L k_a0 o22
      refine ok_at o22 ?_
      first | (have q27 := te_mulc (c := 8000) (n := 8000) rfl (q_I δ 12 18 a0) (by omega) (by omega); obtain ⟨f28, f29, f30⟩ := q27) | (obtain ⟨q27, f28, f29, f30⟩ := ti_mulc (c := 8000) (n := 8000) rfl (q_I δ 12 18 a0))
      first | (have q32 := te_add ((8000 : Int32) * (q_I δ 12 18 a0)) x1v (by omega) (by omega); obtain ⟨f33, f34, f35⟩ := q32) | (obtain ⟨q32, f33, f34, f35⟩ := ti_add ((8000 : Int32) * (q_I δ 12 18 a0)) x1v)
      have t36 := ti_tn (((8000 : Int32) * (q_I δ 12 18 a0)) + x1v)
      refine ok_gd (fun hc37 => ?_) ?_
      · rcases hc37 with hc37 | hc37
        · have c38 : (((8000 : Int32) * (q_I δ 12 18 a0)) + x1v).toInt < (0 : Int) := o_lt hc37
          omega
        · omega
      have t39 := ti_tn x1v
      refine ok_gd (fun hc40 => ?_) ?_
      · rcases hc40 with hc40 | hc40
        · have c41 : x1v.toInt < (0 : Int) := o_lt hc40
          omega
        · omega
      refine ok_bdv (fun d42 e43 => ?_)
      have i44 : RI ad h.1 δ0 d42 := by rw [e43]; exact RI.sR L I w20
      have u45 := kp_N kp_r (show q_I d42 = q_I δ by rw [e43]; rfl)
      have v46 : q_V d42 = q_V δ := ((show q_V d42 = q_V δ by rw [e43]; rfl)).trans rfl
      have v47 := kr_s L (by decide) (kr_r (ad := ad)) e43
      refine ok_biv (fun vx48 e49 => ?_)
      first | (have q50 := te_addc (c := 1) (n := 1) rfl x1v (by omega) (by omega); rw [← e49] at q50; obtain ⟨f51, f52, f53⟩ := q50) | (obtain ⟨q50, f51, f52, f53⟩ : ∃ q : Int, vx48.toInt = x1v.toInt + (1 : Int) + 4294967296 * q ∧ -2147483648 ≤ vx48.toInt ∧ vx48.toInt ≤ 2147483647 := by rw [e49]; exact ti_addc (c := 1) (n := 1) rfl x1v)
      have f54 := cb_12_18 i44 k_a0
      have f55 : (q_I d42 12 18 a0).toInt = (q_I δ 12 18 a0).toInt := congrArg Int32.toInt (by rw [e43]; rfl)
      refine ok_mono (ih vx48 d42 i44 (show 0 ≤ (vx48).toInt by first | assumption | omega) (show (vx48).toInt ≤ 8000 by first | assumption | omega) (show (q_I d42 12 18 a0).toInt < 3 by first | assumption | omega) (show 8000 - (vx48).toInt < _ by omega)) (fun r56 hr57 => ?_)
      obtain ⟨i58, ⟨u59, u60, u61⟩⟩ := hr57
      have u62 := kp_t u45 u59
      have v63 : q_V r56.2 = q_V δ := (u60).trans v46
      have v64 := kr_t v47 u61
      have f65 := ti_b r56.1
      exact ⟨by assumption, ⟨kp_w (by decide) u62, v63, kr_w (by decide) v64⟩⟩
set_option maxHeartbeats 4000000 in
theorem k_X12_restore {ad : List Nat} {h : hp} (L : Lay TLx ad h) {δ0 : dp} {N : Nat} (hN : 10000000 ≤ N) {a0 : Nat} (k_a0 : q_K h.1 a0 = 12) {δ : dp} (I : RI ad h.1 δ0 δ) : ok (D_X12_restore N h.1 a0 δ) (fun r => RI ad h.1 δ0 r.2 ∧ (kp [(12, 0), (12, 18)] δ r.2 ∧ q_V r.2 = q_V δ ∧ kr ad [102, 103, 104, 105, 106] δ r.2)) := by
  unfold D_X12_restore
  refine ok_bdv (fun d1 e2 => ?_)
  have i3 : RI ad h.1 δ0 d1 := by rw [e2]; exact cs_12_0 L I
  have u4 := kp_I kp_r e2
  have v5 : q_V d1 = q_V δ := ((show q_V d1 = q_V δ by rw [e2]; rfl)).trans rfl
  have v6 := kr_N (kr_r (ad := ad)) (show q_R d1 = q_R δ by rw [e2]; rfl)
  have f7 := cb_12_18 i3 k_a0
  have f8 : (q_I d1 12 18 a0).toInt = (q_I δ 12 18 a0).toInt := congrArg Int32.toInt (by rw [e2]; exact rI_o (by decide))
  have f9 := cb_12_18 I k_a0
  refine ok_ite (fun h10 => ?_) (fun h10 => ?_)
  · have c11 : (q_I d1 12 18 a0).toInt = (0 : Int) := o_eq h10
    exact ok_some (show RI ad h.1 δ0 d1 ∧ (kp [(12, 0), (12, 18)] δ d1 ∧ q_V d1 = q_V δ ∧ kr ad [102, 103, 104, 105, 106] δ d1) from ⟨i3, ⟨kp_w (by decide) u4, v5, kr_w (by decide) v6⟩⟩)
  · have c12 : (q_I d1 12 18 a0).toInt ≠ (0 : Int) := o_ne h10
    first | (have q17 := te_subc (c := 1) (n := 1) rfl (q_I d1 12 18 a0) (by omega) (by omega); obtain ⟨f18, f19, f20⟩ := q17) | (obtain ⟨q17, f18, f19, f20⟩ := ti_subc (c := 1) (n := 1) rfl (q_I d1 12 18 a0))
    refine ok_bdv (fun d13 e14 => ?_)
    have i15 : RI ad h.1 δ0 d13 := by rw [e14]; exact cs_12_18 L i3 k_a0 (show 0 ≤ ((q_I d1 12 18 a0) - (1 : Int32)).toInt by omega) (show ((q_I d1 12 18 a0) - (1 : Int32)).toInt ≤ 3 by omega)
    have u21 := kp_I u4 e14
    have v22 : q_V d13 = q_V δ := ((show q_V d13 = q_V d1 by rw [e14]; rfl)).trans v5
    have v23 := kr_N v6 (show q_R d13 = q_R d1 by rw [e14]; rfl)
    have f24 := cb_12_18 i15 k_a0
    have f25 : (q_I d13 12 18 a0).toInt = ((q_I d1 12 18 a0) - (1 : Int32)).toInt := congrArg Int32.toInt (show q_I d13 12 18 a0 = ((q_I d1 12 18 a0) - (1 : Int32)) by rw [e14]; exact rI_s)
    refine ok_mono (kl_X12_restore_26 L hN   k_a0 _ (0 : Int32) d13 i15 (show 0 ≤ (0 : Int) by first | assumption | omega) (show (0 : Int) ≤ 8000 by first | assumption | omega) (show (q_I d13 12 18 a0).toInt < 3 by first | assumption | omega) (show 8000 - (0 : Int) < _ by omega)) (fun r26 hr27 => ?_)
    obtain ⟨i28, ⟨u29, u30, u31⟩⟩ := hr27
    have u32 := kp_t u21 u29
    have v33 : q_V r26.2 = q_V δ := (u30).trans v22
    have v34 := kr_t v23 u31
    have f35 := ti_b r26.1
    exact ⟨by assumption, ⟨kp_w (by decide) u32, v33, kr_w (by decide) v34⟩⟩
set_option maxHeartbeats 4000000 in
theorem k_X12_status {ad : List Nat} {h : hp} (L : Lay TLx ad h) {δ0 : dp} {N : Nat} (hN : 10000000 ≤ N) {a0 : Nat} {x1 : Int32} (k_a0 : q_K h.1 a0 = 12) {δ : dp} (I : RI ad h.1 δ0 δ) : ok (D_X12_status N h.1 a0 x1 δ) (fun r => RI ad h.1 δ0 r.2 ∧ (kp [(12, 0)] δ r.2 ∧ q_V r.2 = q_V δ ∧ q_R r.2 = q_R δ ∧ kr ad [] δ r.2)) := by
  unfold D_X12_status
  refine ok_bdv (fun d1 e2 => ?_)
  have i3 : RI ad h.1 δ0 d1 := by rw [e2]; exact cs_12_0 L I
  have u4 := kp_I kp_r e2
  have v5 : q_V d1 = q_V δ := ((show q_V d1 = q_V δ by rw [e2]; rfl)).trans rfl
  have v6 : q_R d1 = q_R δ := ((show q_R d1 = q_R δ by rw [e2]; rfl)).trans rfl
  have v7 := kr_N (kr_r (ad := ad)) (show q_R d1 = q_R δ by rw [e2]; rfl)
  refine ok_bind (k_X12_within L hN (x0 := x1) (x1 := (0 : Int32)) (x2 := (2 : Int32))  i3) (fun r8 hr9 => ?_)
  obtain ⟨i10, p11, p12, p13⟩ := hr9
  try rw [i10]
  have f14 := bo_l p11
  have f15 := ti_b r8.1
  have f16 := ti_b x1
  replace p12 : ((r8.1).toInt = 1 → (0 : Int) ≤ (x1).toInt ∧ (x1).toInt ≤ (2 : Int)) := p12
  replace p13 : ((r8.1).toInt = 0 → (x1).toInt < (0 : Int) ∨ (2 : Int) < (x1).toInt) := p13
  have f17 := ti_b r8.1
  refine ok_ite (fun h18 => ?_) (fun h18 => ?_)
  · have c19 : r8.1.toInt = (0 : Int) := o_eq h18
    unfold J_X12_status_24
    exact ok_some (show RI ad h.1 δ0 d1 ∧ (kp [(12, 0)] δ d1 ∧ q_V d1 = q_V δ ∧ q_R d1 = q_R δ ∧ kr ad [] δ d1) from ⟨i3, ⟨kp_w (by decide) u4, v5, v6, kr_w (by decide) v7⟩⟩)
  · have c20 : r8.1.toInt ≠ (0 : Int) := o_ne h18
    obtain ⟨b21, o22, k23, n24, w25⟩ := gO_12_1 L k_a0
    obtain rfl := gS_12_1 L k_a0 o22
    refine ok_at o22 ?_
    have t26 := ti_tn x1
    refine ok_gd (fun hc27 => ?_) ?_
    · rcases hc27 with hc27 | hc27
      · have c28 : x1.toInt < (0 : Int) := o_lt hc27
        omega
      · omega
    unfold J_X12_status_24
    exact ok_some (show RI ad h.1 δ0 d1 ∧ (kp [(12, 0)] δ d1 ∧ q_V d1 = q_V δ ∧ q_R d1 = q_R δ ∧ kr ad [] δ d1) from ⟨i3, ⟨kp_w (by decide) u4, v5, v6, kr_w (by decide) v7⟩⟩)
set_option maxHeartbeats 4000000 in
theorem k_X12_count {ad : List Nat} {h : hp} (L : Lay TLx ad h) {δ0 : dp} {N : Nat} (hN : 10000000 ≤ N) {a0 : Nat} {x1 : Int32} (k_a0 : q_K h.1 a0 = 12) {δ : dp} (I : RI ad h.1 δ0 δ) : ok (D_X12_count N h.1 a0 x1 δ) (fun r => RI ad h.1 δ0 r.2 ∧ (kp [(12, 0)] δ r.2 ∧ q_V r.2 = q_V δ ∧ q_R r.2 = q_R δ ∧ kr ad [] δ r.2)) := by
  unfold D_X12_count
  refine ok_bdv (fun d1 e2 => ?_)
  have i3 : RI ad h.1 δ0 d1 := by rw [e2]; exact cs_12_0 L I
  have u4 := kp_I kp_r e2
  have v5 : q_V d1 = q_V δ := ((show q_V d1 = q_V δ by rw [e2]; rfl)).trans rfl
  have v6 : q_R d1 = q_R δ := ((show q_R d1 = q_R δ by rw [e2]; rfl)).trans rfl
  have v7 := kr_N (kr_r (ad := ad)) (show q_R d1 = q_R δ by rw [e2]; rfl)
  have f8 := ti_b x1
  refine ok_ite (fun h9 => ?_) (fun h9 => ?_)
  · have c10 : x1.toInt = (0 : Int) := o_eq h9
    unfold J_X12_count_64
    exact ok_some (show RI ad h.1 δ0 d1 ∧ (kp [(12, 0)] δ d1 ∧ q_V d1 = q_V δ ∧ q_R d1 = q_R δ ∧ kr ad [] δ d1) from ⟨i3, ⟨kp_w (by decide) u4, v5, v6, kr_w (by decide) v7⟩⟩)
  · have c11 : x1.toInt ≠ (0 : Int) := o_ne h9
    refine ok_ite (fun h12 => ?_) (fun h12 => ?_)
    · have c13 : x1.toInt = (1 : Int) := o_eq h12
      unfold J_X12_count_64
      exact ok_some (show RI ad h.1 δ0 d1 ∧ (kp [(12, 0)] δ d1 ∧ q_V d1 = q_V δ ∧ q_R d1 = q_R δ ∧ kr ad [] δ d1) from ⟨i3, ⟨kp_w (by decide) u4, v5, v6, kr_w (by decide) v7⟩⟩)
    · have c14 : x1.toInt ≠ (1 : Int) := o_ne h12
      refine ok_ite (fun h15 => ?_) (fun h15 => ?_)
      · have c16 : x1.toInt = (2 : Int) := o_eq h15
        obtain ⟨b17, o18, k19, n20⟩ := gO_12_14 L k_a0
        obtain rfl := gS_12_14 L k_a0 o18
        refine ok_at o18 ?_
        have t21 : (0 : Int32).toNatClampNeg = 0 := rfl
        refine ok_gd (fun hc22 => ?_) ?_
        · rcases hc22 with hc22 | hc22
          · have c23 : (0 : Int) < (0 : Int) := o_lt hc22
            omega
          · omega
        refine ok_at o18 ?_
        have t24 : (1 : Int32).toNatClampNeg = 1 := rfl
        refine ok_gd (fun hc25 => ?_) ?_
        · rcases hc25 with hc25 | hc25
          · have c26 : (1 : Int) < (0 : Int) := o_lt hc25
            omega
          · omega
        refine ok_at o18 ?_
        have t27 : (2 : Int32).toNatClampNeg = 2 := rfl
        refine ok_gd (fun hc28 => ?_) ?_
        · rcases hc28 with hc28 | hc28
          · have c29 : (2 : Int) < (0 : Int) := o_lt hc28
            omega
          · omega
        refine ok_at o18 ?_
        have t30 : (3 : Int32).toNatClampNeg = 3 := rfl
        refine ok_gd (fun hc31 => ?_) ?_
        · rcases hc31 with hc31 | hc31
          · have c32 : (3 : Int) < (0 : Int) := o_lt hc31
            omega
          · omega
        unfold J_X12_count_64
        exact ok_some (show RI ad h.1 δ0 d1 ∧ (kp [(12, 0)] δ d1 ∧ q_V d1 = q_V δ ∧ q_R d1 = q_R δ ∧ kr ad [] δ d1) from ⟨i3, ⟨kp_w (by decide) u4, v5, v6, kr_w (by decide) v7⟩⟩)
      · have c33 : x1.toInt ≠ (2 : Int) := o_ne h15
        unfold J_X12_count_64
        exact ok_some (show RI ad h.1 δ0 d1 ∧ (kp [(12, 0)] δ d1 ∧ q_V d1 = q_V δ ∧ q_R d1 = q_R δ ∧ kr ad [] δ d1) from ⟨i3, ⟨kp_w (by decide) u4, v5, v6, kr_w (by decide) v7⟩⟩)
