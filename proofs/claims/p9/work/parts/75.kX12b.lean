/-! 75.kX12b (by gen_safe.py) -/
set_option maxHeartbeats 4000000 in
theorem k_X12_told {ad : List Nat} {h : hp} (L : Lay TLx ad h) {δ0 : dp} {N : Nat} (hN : 10000000 ≤ N) {a0 : Nat} {x1 : Int32} (k_a0 : q_K h.1 a0 = 12) {δ : dp} (I : RI ad h.1 δ0 δ) : ok (D_X12_told N h.1 a0 x1 δ) (fun r => RI ad h.1 δ0 r.2 ∧ (kp [(12, 0)] δ r.2 ∧ q_V r.2 = q_V δ ∧ kr ad [100] δ r.2)) := by
  unfold D_X12_told
  refine ok_bdv (fun d1 e2 => ?_)
  have i3 : RI ad h.1 δ0 d1 := by rw [e2]; exact cs_12_0 L I
  have u4 := kp_I kp_r e2
  have v5 : q_V d1 = q_V δ := ((show q_V d1 = q_V δ by rw [e2]; rfl)).trans rfl
  have v6 := kr_N (kr_r (ad := ad)) (show q_R d1 = q_R δ by rw [e2]; rfl)
  refine ok_bind (k_X12_within L hN (x0 := x1) (x1 := (0 : Int32)) (x2 := (3 : Int32))  i3) (fun r7 hr8 => ?_)
  obtain ⟨i9, p10, p11, p12⟩ := hr8
  try rw [i9]
  have f13 := bo_l p10
  have f14 := ti_b r7.1
  have f15 := ti_b x1
  replace p11 : ((r7.1).toInt = 1 → (0 : Int) ≤ (x1).toInt ∧ (x1).toInt ≤ (3 : Int)) := p11
  replace p12 : ((r7.1).toInt = 0 → (x1).toInt < (0 : Int) ∨ (3 : Int) < (x1).toInt) := p12
  have f16 := ti_b r7.1
  refine ok_bind (k_X12_may L hN (a0 := a0) (x1 := r7.1) (x2 := (1 : Int32)) (x3 := (2 : Int32)) k_a0 (show (1 : Int) ≠ 0 by first | assumption | omega) (show 0 ≤ (2 : Int) by first | assumption | omega) (show (2 : Int) ≤ 2 by first | assumption | omega) i3) (fun r17 hr18 => ?_)
  obtain ⟨i19, ⟨u23, u24, u25⟩, p20, p21, p22⟩ := hr18
  have u26 := kp_t u4 u23
  have v27 : q_V r17.2 = q_V δ := (u24).trans v5
  have v28 := kr_t v6 u25
  have f29 := bo_l p20
  have f30 := ti_b r17.1
  have f31 := ti_b (q_I d1 12 0 a0)
  have f32 : (q_I d1 12 0 a0).toInt = (0 : Int) := congrArg Int32.toInt (show q_I d1 12 0 a0 = (0 : Int32) by rw [e2]; exact rI_s)
  have f33 := ti_b r17.1
  refine ok_ite (fun h34 => ?_) (fun h34 => ?_)
  · have c35 : r17.1.toInt = (0 : Int) := o_eq h34
    exact ok_some (show RI ad h.1 δ0 r17.2 ∧ (kp [(12, 0)] δ r17.2 ∧ q_V r17.2 = q_V δ ∧ kr ad [100] δ r17.2) from ⟨i19, ⟨kp_w (by decide) u26, v27, kr_w (by decide) v28⟩⟩)
  · have c36 : r17.1.toInt ≠ (0 : Int) := o_ne h34
    refine ok_ite (fun h37 => ?_) (fun h37 => ?_)
    · have c38 : x1.toInt = (1 : Int) := o_eq h37
      have f39 := cb_12_12 i19 k_a0
      have f40 : (q_I r17.2 12 12 a0).toInt = (q_I d1 12 12 a0).toInt := congrArg Int32.toInt (u23 12 12 a0 (by decide))
      have f41 := cb_12_12 i3 k_a0
      have f42 : (q_I d1 12 12 a0).toInt = (q_I δ 12 12 a0).toInt := congrArg Int32.toInt (by rw [e2]; exact rI_o (by decide))
      have f43 := cb_12_12 I k_a0
      refine ok_ite (fun h44 => ?_) (fun h44 => ?_)
      · have c45 : (q_I r17.2 12 12 a0).toInt = (0 : Int) := o_eq h44
        unfold J_X12_told_39
        exact ok_some (show RI ad h.1 δ0 r17.2 ∧ (kp [(12, 0)] δ r17.2 ∧ q_V r17.2 = q_V δ ∧ kr ad [100] δ r17.2) from ⟨i19, ⟨kp_w (by decide) u26, v27, kr_w (by decide) v28⟩⟩)
      · have c46 : (q_I r17.2 12 12 a0).toInt ≠ (0 : Int) := o_ne h44
        unfold J_X12_told_39
        exact ok_some (show RI ad h.1 δ0 r17.2 ∧ (kp [(12, 0)] δ r17.2 ∧ q_V r17.2 = q_V δ ∧ kr ad [100] δ r17.2) from ⟨i19, ⟨kp_w (by decide) u26, v27, kr_w (by decide) v28⟩⟩)
    · have c47 : x1.toInt ≠ (1 : Int) := o_ne h37
      refine ok_ite (fun h48 => ?_) (fun h48 => ?_)
      · have c49 : x1.toInt = (0 : Int) := o_eq h48
        unfold J_X12_told_67
        exact ok_some (show RI ad h.1 δ0 r17.2 ∧ (kp [(12, 0)] δ r17.2 ∧ q_V r17.2 = q_V δ ∧ kr ad [100] δ r17.2) from ⟨i19, ⟨kp_w (by decide) u26, v27, kr_w (by decide) v28⟩⟩)
      · have c50 : x1.toInt ≠ (0 : Int) := o_ne h48
        refine ok_ite (fun h51 => ?_) (fun h51 => ?_)
        · have c52 : x1.toInt = (2 : Int) := o_eq h51
          unfold J_X12_told_67
          exact ok_some (show RI ad h.1 δ0 r17.2 ∧ (kp [(12, 0)] δ r17.2 ∧ q_V r17.2 = q_V δ ∧ kr ad [100] δ r17.2) from ⟨i19, ⟨kp_w (by decide) u26, v27, kr_w (by decide) v28⟩⟩)
        · have c53 : x1.toInt ≠ (2 : Int) := o_ne h51
          unfold J_X12_told_67
          exact ok_some (show RI ad h.1 δ0 r17.2 ∧ (kp [(12, 0)] δ r17.2 ∧ q_V r17.2 = q_V δ ∧ kr ad [100] δ r17.2) from ⟨i19, ⟨kp_w (by decide) u26, v27, kr_w (by decide) v28⟩⟩)
set_option maxHeartbeats 4000000 in
theorem kl_X12_place_10 {ad : List Nat} {h : hp} (L : Lay TLx ad h) {δ0 : dp} {N : Nat} (hN : 10000000 ≤ N) {a0 : Nat} {x1 : Int32} {x2 : Int32} (k_a0 : q_K h.1 a0 = 12) : ∀ (n : Nat) (x3v : Int32) (x4v : Int32) (δ : dp), RI ad h.1 δ0 δ → 0 ≤ (x1).toInt → (x1).toInt ≤ 3 → 0 ≤ (x3v).toInt → ((x3v).toInt = 0 ∨ (x3v).toInt ≤ (x4v).toInt) → -1000 ≤ (x4v).toInt → (x4v).toInt ≤ (q_R δ (Ad ad 103) (x1).toNatClampNeg).toInt → (x4v).toInt - (x3v).toInt + 1000 < (n : Int) → ok (L_X12_place_10 N h.1 a0 x1 x2 n x3v x4v δ) (fun r => r.2 = δ ∧ 0 ≤ (r.1).toInt ∧ ((r.1).toInt = 0 ∨ (r.1).toInt ≤ (q_R δ (Ad ad 103) (x1).toNatClampNeg).toInt)) := by
  intro n
  induction n with
  | zero =>
    intro x3v x4v δ I j0 j1 j2 j3 j4 j5 hm
    have f1 := ti_b x1
    have f2 := ti_b x3v
    have f3 := ti_b x4v
    have t4 := ti_tn x1
    have f5 := rb_103 L I (x1).toNatClampNeg
    exfalso; omega
  | succ n ih =>
    intro x3v x4v δ I j0 j1 j2 j3 j4 j5 hm
    unfold L_X12_place_10
    have f1 := ti_b x1
    have f2 := ti_b x3v
    have f3 := ti_b x4v
    have t4 := ti_tn x1
    have f5 := rb_103 L I (x1).toNatClampNeg
    refine ok_ite (fun h6 => ?_) (fun h6 => ?_)
    · have c7 : x4v.toInt ≤ x3v.toInt := o_le h6
      exact ok_some (show δ = δ ∧ 0 ≤ (x3v).toInt ∧ ((x3v).toInt = 0 ∨ (x3v).toInt ≤ (q_R δ (Ad ad 103) (x1).toNatClampNeg).toInt) from ⟨rfl, by first | assumption | omega, by first | assumption | omega⟩)
    · have c8 : x3v.toInt < x4v.toInt := o_nle h6
      first | (have q12 := te_add x3v x4v (by omega) (by omega); obtain ⟨f13, f14, f15⟩ := q12) | (obtain ⟨q12, f13, f14, f15⟩ := ti_add x3v x4v)
      have f16 := ti_div (c := 2) (n := 2) rfl (by decide) (x3v + x4v)
      have f17 := ti_b ((x3v + x4v) / (2 : Int32))
      refine ok_biv (fun vx9 e10 => ?_)
      have f18 : vx9.toInt = ((x3v + x4v) / (2 : Int32)).toInt := congrArg Int32.toInt e10
      obtain ⟨b19, o20, k21, n22, w23⟩ := gO_12_13 L k_a0
      obtain rfl := gS_12_13 L k_a0 o20
      refine ok_at o20 ?_
      first | (have q25 := te_mulc (c := 2000) (n := 2000) rfl x1 (by omega) (by omega); obtain ⟨f26, f27, f28⟩ := q25) | (obtain ⟨q25, f26, f27, f28⟩ := ti_mulc (c := 2000) (n := 2000) rfl x1)
      first | (have q30 := te_add ((2000 : Int32) * x1) vx9 (by omega) (by omega); obtain ⟨f31, f32, f33⟩ := q30) | (obtain ⟨q30, f31, f32, f33⟩ := ti_add ((2000 : Int32) * x1) vx9)
      have t34 := ti_tn (((2000 : Int32) * x1) + vx9)
      refine ok_gd (fun hc35 => ?_) ?_
      · rcases hc35 with hc35 | hc35
        · have c36 : (((2000 : Int32) * x1) + vx9).toInt < (0 : Int) := o_lt hc35
          omega
        · omega
      have f37 := ti_b x2
      have f38 := ti_b (q_R δ (Ad ad 102) (((2000 : Int32) * x1) + vx9).toNatClampNeg)
      refine ok_ite (fun h39 => ?_) (fun h39 => ?_)
      · have c40 : x2.toInt ≤ (q_R δ (Ad ad 102) (((2000 : Int32) * x1) + vx9).toNatClampNeg).toInt := o_le h39
        unfold J_X12_place_53
        refine ok_mono (ih x3v vx9 δ I (show 0 ≤ (x1).toInt by first | assumption | omega) (show (x1).toInt ≤ 3 by first | assumption | omega) (show 0 ≤ (x3v).toInt by first | assumption | omega) (show (x3v).toInt = 0 ∨ (x3v).toInt ≤ (vx9).toInt by first | assumption | omega) (show -1000 ≤ (vx9).toInt by first | assumption | omega) (show (vx9).toInt ≤ (q_R δ (Ad ad 103) (x1).toNatClampNeg).toInt by first | assumption | omega) (show (vx9).toInt - (x3v).toInt + 1000 < _ by omega)) (fun r41 hr42 => ?_)
        obtain ⟨i43, p44, p45⟩ := hr42
        have f46 := ti_b r41.1
        have f47 := ti_b r41.1
        exact ⟨by assumption, by first | assumption | omega, by first | assumption | omega⟩
      · have c48 : (q_R δ (Ad ad 102) (((2000 : Int32) * x1) + vx9).toNatClampNeg).toInt < x2.toInt := o_nle h39
        refine ok_biv (fun vx49 e50 => ?_)
        first | (have q51 := te_addc (c := 1) (n := 1) rfl vx9 (by omega) (by omega); rw [← e50] at q51; obtain ⟨f52, f53, f54⟩ := q51) | (obtain ⟨q51, f52, f53, f54⟩ : ∃ q : Int, vx49.toInt = vx9.toInt + (1 : Int) + 4294967296 * q ∧ -2147483648 ≤ vx49.toInt ∧ vx49.toInt ≤ 2147483647 := by rw [e50]; exact ti_addc (c := 1) (n := 1) rfl vx9)
        unfold J_X12_place_53
        refine ok_mono (ih vx49 x4v δ I (show 0 ≤ (x1).toInt by first | assumption | omega) (show (x1).toInt ≤ 3 by first | assumption | omega) (show 0 ≤ (vx49).toInt by first | assumption | omega) (show (vx49).toInt = 0 ∨ (vx49).toInt ≤ (x4v).toInt by first | assumption | omega) (show -1000 ≤ (x4v).toInt by first | assumption | omega) (show (x4v).toInt ≤ (q_R δ (Ad ad 103) (x1).toNatClampNeg).toInt by first | assumption | omega) (show (x4v).toInt - (vx49).toInt + 1000 < _ by omega)) (fun r55 hr56 => ?_)
        obtain ⟨i57, p58, p59⟩ := hr56
        have f60 := ti_b r55.1
        have f61 := ti_b r55.1
        exact ⟨by assumption, by first | assumption | omega, by first | assumption | omega⟩
set_option maxHeartbeats 4000000 in
theorem k_X12_place {ad : List Nat} {h : hp} (L : Lay TLx ad h) {δ0 : dp} {N : Nat} (hN : 10000000 ≤ N) {a0 : Nat} {x1 : Int32} {x2 : Int32} (k_a0 : q_K h.1 a0 = 12) {δ : dp} (z0 : 0 ≤ (x1).toInt) (z1 : (x1).toInt ≤ 3) (I : RI ad h.1 δ0 δ) : ok (D_X12_place N h.1 a0 x1 x2 δ) (fun r => r.2 = δ ∧ 0 ≤ (r.1).toInt ∧ ((r.1).toInt = 0 ∨ (r.1).toInt ≤ (q_R δ (Ad ad 103) (x1).toNatClampNeg).toInt)) := by
  unfold D_X12_place
  have f1 := ti_b x1
  obtain ⟨b2, o3, k4, n5⟩ := gO_12_14 L k_a0
  obtain rfl := gS_12_14 L k_a0 o3
  refine ok_at o3 ?_
  have t6 := ti_tn x1
  refine ok_gd (fun hc7 => ?_) ?_
  · rcases hc7 with hc7 | hc7
    · have c8 : x1.toInt < (0 : Int) := o_lt hc7
      omega
    · omega
  have f11 := rb_103 L I x1.toNatClampNeg
  refine ok_biv (fun vx9 e10 => ?_)
  have f12 : vx9.toInt = (q_R δ (Ad ad 103) x1.toNatClampNeg).toInt := congrArg Int32.toInt e10
  have t13 := ti_tn x1
  have f14 := rb_103 L I (x1).toNatClampNeg
  refine ok_mono (kl_X12_place_10 L hN   k_a0 _ (0 : Int32) vx9 δ I (show 0 ≤ (x1).toInt by first | assumption | omega) (show (x1).toInt ≤ 3 by first | assumption | omega) (show 0 ≤ (0 : Int) by first | assumption | omega) (show (0 : Int) = 0 ∨ (0 : Int) ≤ (vx9).toInt by first | assumption | omega) (show -1000 ≤ (vx9).toInt by first | assumption | omega) (show (vx9).toInt ≤ (q_R δ (Ad ad 103) (x1).toNatClampNeg).toInt by first | assumption | omega) (show (vx9).toInt - (0 : Int) + 1000 < _ by omega)) (fun r15 hr16 => ?_)
  obtain ⟨i17, p18, p19⟩ := hr16
  have f20 := ti_b r15.1
  have f21 := ti_b r15.1
  exact ⟨by assumption, by first | assumption | omega, by first | assumption | omega⟩
set_option maxHeartbeats 4000000 in
theorem k_X12_isThere {ad : List Nat} {h : hp} (L : Lay TLx ad h) {δ0 : dp} {N : Nat} (hN : 10000000 ≤ N) {a0 : Nat} {x1 : Int32} {x2 : Int32} (k_a0 : q_K h.1 a0 = 12) {δ : dp} (z0 : 0 ≤ (x1).toInt) (z1 : (x1).toInt ≤ 3) (I : RI ad h.1 δ0 δ) : ok (D_X12_isThere N h.1 a0 x1 x2 δ) (fun r => r.2 = δ ∧ bo (r.1) ∧ ((r.1).toInt = 1 → 1 ≤ (q_R δ (Ad ad 103) (x1).toNatClampNeg).toInt)) := by
  unfold D_X12_isThere
  have f1 := ti_b x1
  refine ok_bind (k_X12_place L hN (a0 := a0) (x1 := x1) (x2 := x2) k_a0 (show 0 ≤ (x1).toInt by first | assumption | omega) (show (x1).toInt ≤ 3 by first | assumption | omega) I) (fun r2 hr3 => ?_)
  obtain ⟨i4, p5, p6⟩ := hr3
  try rw [i4]
  have f7 := ti_b r2.1
  have t8 := ti_tn x1
  have f9 := rb_103 L I (x1).toNatClampNeg
  have f10 := ti_b r2.1
  obtain ⟨b11, o12, k13, n14⟩ := gO_12_14 L k_a0
  obtain rfl := gS_12_14 L k_a0 o12
  refine ok_at o12 ?_
  have t15 := ti_tn x1
  refine ok_gd (fun hc16 => ?_) ?_
  · rcases hc16 with hc16 | hc16
    · have c17 : x1.toInt < (0 : Int) := o_lt hc16
      omega
    · omega
  have f18 := rb_103 L I x1.toNatClampNeg
  refine ok_ite (fun h19 => ?_) (fun h19 => ?_)
  · have c20 : (q_R δ (Ad ad 103) x1.toNatClampNeg).toInt ≤ r2.1.toInt := o_le h19
    unfold J_X12_isThere_37
    unfold J_X12_isThere_38
    refine ok_gp (by decide) ?_
    exact ok_some (show δ = δ ∧ bo ((0 : Int32)) ∧ ((0 : Int) = 1 → 1 ≤ (q_R δ (Ad ad 103) (x1).toNatClampNeg).toInt) from ⟨rfl, bo_0, by first | assumption | omega⟩)
  · have c21 : r2.1.toInt < (q_R δ (Ad ad 103) x1.toNatClampNeg).toInt := o_nle h19
    obtain ⟨b22, o23, k24, n25, w26⟩ := gO_12_13 L k_a0
    obtain rfl := gS_12_13 L k_a0 o23
    refine ok_at o23 ?_
    first | (have q28 := te_mulc (c := 2000) (n := 2000) rfl x1 (by omega) (by omega); obtain ⟨f29, f30, f31⟩ := q28) | (obtain ⟨q28, f29, f30, f31⟩ := ti_mulc (c := 2000) (n := 2000) rfl x1)
    first | (have q33 := te_add ((2000 : Int32) * x1) r2.1 (by omega) (by omega); obtain ⟨f34, f35, f36⟩ := q33) | (obtain ⟨q33, f34, f35, f36⟩ := ti_add ((2000 : Int32) * x1) r2.1)
    have t37 := ti_tn (((2000 : Int32) * x1) + r2.1)
    refine ok_gd (fun hc38 => ?_) ?_
    · rcases hc38 with hc38 | hc38
      · have c39 : (((2000 : Int32) * x1) + r2.1).toInt < (0 : Int) := o_lt hc38
        omega
      · omega
    have f40 := ti_b (q_R δ (Ad ad 102) (((2000 : Int32) * x1) + r2.1).toNatClampNeg)
    have f41 := ti_b x2
    refine ok_ite (fun h42 => ?_) (fun h42 => ?_)
    · have c43 : (q_R δ (Ad ad 102) (((2000 : Int32) * x1) + r2.1).toNatClampNeg).toInt = x2.toInt := o_eq h42
      unfold J_X12_isThere_38
      refine ok_gp (by decide) ?_
      exact ok_some (show δ = δ ∧ bo ((1 : Int32)) ∧ ((1 : Int) = 1 → 1 ≤ (q_R δ (Ad ad 103) (x1).toNatClampNeg).toInt) from ⟨rfl, bo_1, by first | assumption | omega⟩)
    · have c44 : (q_R δ (Ad ad 102) (((2000 : Int32) * x1) + r2.1).toNatClampNeg).toInt ≠ x2.toInt := o_ne h42
      unfold J_X12_isThere_37
      unfold J_X12_isThere_38
      refine ok_gp (by decide) ?_
      exact ok_some (show δ = δ ∧ bo ((0 : Int32)) ∧ ((0 : Int) = 1 → 1 ≤ (q_R δ (Ad ad 103) (x1).toNatClampNeg).toInt) from ⟨rfl, bo_0, by first | assumption | omega⟩)
set_option maxHeartbeats 4000000 in
theorem kl_X12_comes_27 {ad : List Nat} {h : hp} (L : Lay TLx ad h) {δ0 : dp} {N : Nat} (hN : 10000000 ≤ N) {a0 : Nat} {x1 : Int32} {x2 : Int32} (k_a0 : q_K h.1 a0 = 12) : ∀ (n : Nat) (x3v : Int32) (x4v : Int32) (δ : dp), RI ad h.1 δ0 δ → 0 ≤ (x1).toInt → (x1).toInt ≤ 3 → 2000 * (x1).toInt ≤ (x3v).toInt → (x3v).toInt ≤ 2000 * (x1).toInt + 1999 → (x4v).toInt ≤ 2000 * (x1).toInt + 1999 → (x3v).toInt ≤ (x4v).toInt + 1000 → (q_R δ (Ad ad 103) (x1).toNatClampNeg).toInt < 2000 → (x4v).toInt - (x3v).toInt + 1000 < (n : Int) → ok (L_X12_comes_27 N h.1 a0 x1 x2 n x3v x4v δ) (fun r => RI ad h.1 δ0 r ∧ (kp [] δ r ∧ q_V r = q_V δ ∧ kr ad [102, 103] δ r) ∧ (q_R r (Ad ad 103) (x1).toNatClampNeg).toInt = (q_R δ (Ad ad 103) (x1).toNatClampNeg).toInt + 1) := by
  intro n
  induction n with
  | zero =>
    intro x3v x4v δ I j0 j1 j2 j3 j4 j5 j6 hm
    have f1 := ti_b x1
    have f2 := ti_b x3v
    have f3 := ti_b x4v
    have t4 := ti_tn x1
    have f5 := rb_103 L I (x1).toNatClampNeg
    exfalso; omega
  | succ n ih =>
    intro x3v x4v δ I j0 j1 j2 j3 j4 j5 j6 hm
    unfold L_X12_comes_27
    have f1 := ti_b x1
    have f2 := ti_b x3v
    have f3 := ti_b x4v
    have t4 := ti_tn x1
    have f5 := rb_103 L I (x1).toNatClampNeg
    refine ok_ite (fun h6 => ?_) (fun h6 => ?_)
    · have c7 : x4v.toInt ≤ x3v.toInt := o_le h6
      obtain ⟨b8, o9, k10, n11, w12⟩ := gO_12_13 L k_a0
      obtain rfl := gS_12_13 L k_a0 o9
      refine ok_at o9 ?_
      have t13 := ti_tn x3v
      refine ok_gd (fun hc14 => ?_) ?_
      · rcases hc14 with hc14 | hc14
        · have c15 : x3v.toInt < (0 : Int) := o_lt hc14
          omega
        · omega
      refine ok_bdv (fun d16 e17 => ?_)
      have i18 : RI ad h.1 δ0 d16 := by rw [e17]; exact RI.sR L I w12
      have u19 := kp_N kp_r (show q_I d16 = q_I δ by rw [e17]; rfl)
      have v20 : q_V d16 = q_V δ := ((show q_V d16 = q_V δ by rw [e17]; rfl)).trans rfl
      have v21 := kr_s L (by decide) (kr_r (ad := ad)) e17
      obtain ⟨b22, o23, k24, n25⟩ := gO_12_14 L k_a0
      obtain rfl := gS_12_14 L k_a0 o23
      refine ok_at o23 ?_
      have t26 := ti_tn x1
      refine ok_gd (fun hc27 => ?_) ?_
      · rcases hc27 with hc27 | hc27
        · have c28 : x1.toInt < (0 : Int) := o_lt hc27
          omega
        · omega
      refine ok_gd (fun hc29 => ?_) ?_
      · rcases hc29 with hc29 | hc29
        · have c30 : x1.toInt < (0 : Int) := o_lt hc29
          omega
        · omega
      have f34 : (q_R d16 (Ad ad 103) x1.toNatClampNeg).toInt = (q_R δ (Ad ad 103) x1.toNatClampNeg).toInt := congrArg Int32.toInt (show q_R d16 (Ad ad 103) x1.toNatClampNeg = _ by rw [e17, rR_o (ad_ne L (by decide) (by decide) (by decide))])
      have f35 := rb_103 L I x1.toNatClampNeg
      have f36 := rb_103 L i18 x1.toNatClampNeg
      first | (have q38 := te_addc (c := 1) (n := 1) rfl (q_R d16 (Ad ad 103) x1.toNatClampNeg) (by omega) (by omega); obtain ⟨f39, f40, f41⟩ := q38) | (obtain ⟨q38, f39, f40, f41⟩ := ti_addc (c := 1) (n := 1) rfl (q_R d16 (Ad ad 103) x1.toNatClampNeg))
      refine ok_bdv (fun d31 e32 => ?_)
      have i33 : RI ad h.1 δ0 d31 := by rw [e32]; exact cr_103 L i18 (show -1000 ≤ ((q_R d16 (Ad ad 103) x1.toNatClampNeg) + (1 : Int32)).toInt by omega) (show ((q_R d16 (Ad ad 103) x1.toNatClampNeg) + (1 : Int32)).toInt ≤ 2000 by omega)
      have u42 := kp_N u19 (show q_I d31 = q_I d16 by rw [e32]; rfl)
      have v43 : q_V d31 = q_V δ := ((show q_V d31 = q_V d16 by rw [e32]; rfl)).trans v20
      have v44 := kr_s L (by decide) v21 e32
      have f45 : (q_R d31 (Ad ad 103) (x1).toNatClampNeg).toInt = ((q_R d16 (Ad ad 103) x1.toNatClampNeg) + (1 : Int32)).toInt := congrArg Int32.toInt (show q_R d31 (Ad ad 103) (x1).toNatClampNeg = ((q_R d16 (Ad ad 103) x1.toNatClampNeg) + (1 : Int32)) by rw [e32, qR_sR, if_pos ⟨rfl, rfl⟩])
      have f46 := rb_103 L i33 (x1).toNatClampNeg
      exact ok_some (show RI ad h.1 δ0 d31 ∧ (kp [] δ d31 ∧ q_V d31 = q_V δ ∧ kr ad [102, 103] δ d31) ∧ (q_R d31 (Ad ad 103) (x1).toNatClampNeg).toInt = (q_R δ (Ad ad 103) (x1).toNatClampNeg).toInt + 1 from ⟨i33, ⟨kp_w (by decide) u42, v43, kr_w (by decide) v44⟩, by first | assumption | omega⟩)
    · have c47 : x3v.toInt < x4v.toInt := o_nle h6
      obtain ⟨b48, o49, k50, n51, w52⟩ := gO_12_13 L k_a0
      obtain rfl := gS_12_13 L k_a0 o49
      refine ok_at o49 ?_
      refine ok_at o49 ?_
      first | (have q54 := te_subc (c := 1) (n := 1) rfl x4v (by omega) (by omega); obtain ⟨f55, f56, f57⟩ := q54) | (obtain ⟨q54, f55, f56, f57⟩ := ti_subc (c := 1) (n := 1) rfl x4v)
      have t58 := ti_tn (x4v - (1 : Int32))
      refine ok_gd (fun hc59 => ?_) ?_
      · rcases hc59 with hc59 | hc59
        · have c60 : (x4v - (1 : Int32)).toInt < (0 : Int) := o_lt hc59
          omega
        · omega
      have t61 := ti_tn x4v
      refine ok_gd (fun hc62 => ?_) ?_
      · rcases hc62 with hc62 | hc62
        · have c63 : x4v.toInt < (0 : Int) := o_lt hc62
          omega
        · omega
      refine ok_bdv (fun d64 e65 => ?_)
      have i66 : RI ad h.1 δ0 d64 := by rw [e65]; exact RI.sR L I w52
      have u67 := kp_N kp_r (show q_I d64 = q_I δ by rw [e65]; rfl)
      have v68 : q_V d64 = q_V δ := ((show q_V d64 = q_V δ by rw [e65]; rfl)).trans rfl
      have v69 := kr_s L (by decide) (kr_r (ad := ad)) e65
      refine ok_biv (fun vx70 e71 => ?_)
      first | (have q72 := te_addc (c := -1) (n := -1) (by decide) x4v (by omega) (by omega); rw [← e71] at q72; obtain ⟨f73, f74, f75⟩ := q72) | (obtain ⟨q72, f73, f74, f75⟩ : ∃ q : Int, vx70.toInt = x4v.toInt + (-1 : Int) + 4294967296 * q ∧ -2147483648 ≤ vx70.toInt ∧ vx70.toInt ≤ 2147483647 := by rw [e71]; exact ti_addc (c := -1) (n := -1) (by decide) x4v)
      have f76 : (q_R d64 (Ad ad 103) (x1).toNatClampNeg).toInt = (q_R δ (Ad ad 103) (x1).toNatClampNeg).toInt := congrArg Int32.toInt (show q_R d64 (Ad ad 103) (x1).toNatClampNeg = _ by rw [e65, rR_o (ad_ne L (by decide) (by decide) (by decide))])
      have f77 := rb_103 L i66 (x1).toNatClampNeg
      refine ok_mono (ih x3v vx70 d64 i66 (show 0 ≤ (x1).toInt by first | assumption | omega) (show (x1).toInt ≤ 3 by first | assumption | omega) (show 2000 * (x1).toInt ≤ (x3v).toInt by first | assumption | omega) (show (x3v).toInt ≤ 2000 * (x1).toInt + 1999 by first | assumption | omega) (show (vx70).toInt ≤ 2000 * (x1).toInt + 1999 by first | assumption | omega) (show (x3v).toInt ≤ (vx70).toInt + 1000 by first | assumption | omega) (show (q_R d64 (Ad ad 103) (x1).toNatClampNeg).toInt < 2000 by first | assumption | omega) (show (vx70).toInt - (x3v).toInt + 1000 < _ by omega)) (fun r78 hr79 => ?_)
      obtain ⟨i80, ⟨u82, u83, u84⟩, p81⟩ := hr79
      have u85 := kp_t u67 u82
      have v86 : q_V r78 = q_V δ := (u83).trans v68
      have v87 := kr_t v69 u84
      have f88 := rb_103 L i80 (x1).toNatClampNeg
      exact ⟨by assumption, ⟨kp_w (by decide) u85, v86, kr_w (by decide) v87⟩, by first | assumption | omega⟩
set_option maxHeartbeats 4000000 in
theorem k_X12_comes {ad : List Nat} {h : hp} (L : Lay TLx ad h) {δ0 : dp} {N : Nat} (hN : 10000000 ≤ N) {a0 : Nat} {x1 : Int32} {x2 : Int32} (k_a0 : q_K h.1 a0 = 12) {δ : dp} (z0 : 0 ≤ (x1).toInt) (z1 : (x1).toInt ≤ 3) (z2 : (q_R δ (Ad ad 103) (x1).toNatClampNeg).toInt < 2000) (I : RI ad h.1 δ0 δ) : ok (D_X12_comes N h.1 a0 x1 x2 δ) (fun r => RI ad h.1 δ0 r ∧ (kp [] δ r ∧ q_V r = q_V δ ∧ kr ad [102, 103] δ r) ∧ (q_R r (Ad ad 103) (x1).toNatClampNeg).toInt = (q_R δ (Ad ad 103) (x1).toNatClampNeg).toInt + 1) := by
  unfold D_X12_comes
  have f1 := ti_b x1
  have t2 := ti_tn x1
  have f3 := rb_103 L I (x1).toNatClampNeg
  refine ok_bind (k_X12_place L hN (a0 := a0) (x1 := x1) (x2 := x2) k_a0 (show 0 ≤ (x1).toInt by first | assumption | omega) (show (x1).toInt ≤ 3 by first | assumption | omega) I) (fun r4 hr5 => ?_)
  obtain ⟨i6, p7, p8⟩ := hr5
  try rw [i6]
  have f9 := ti_b r4.1
  have f10 := ti_b r4.1
  first | (have q14 := te_mulc (c := 2000) (n := 2000) rfl x1 (by omega) (by omega); obtain ⟨f15, f16, f17⟩ := q14) | (obtain ⟨q14, f15, f16, f17⟩ := ti_mulc (c := 2000) (n := 2000) rfl x1)
  refine ok_biv (fun vx11 e12 => ?_)
  first | (have q18 := te_add ((2000 : Int32) * x1) r4.1 (by omega) (by omega); rw [← e12] at q18; obtain ⟨f19, f20, f21⟩ := q18) | (obtain ⟨q18, f19, f20, f21⟩ : ∃ q : Int, vx11.toInt = ((2000 : Int32) * x1).toInt + r4.1.toInt + 4294967296 * q ∧ -2147483648 ≤ vx11.toInt ∧ vx11.toInt ≤ 2147483647 := by rw [e12]; exact ti_add ((2000 : Int32) * x1) r4.1)
  obtain ⟨b22, o23, k24, n25⟩ := gO_12_14 L k_a0
  obtain rfl := gS_12_14 L k_a0 o23
  refine ok_at o23 ?_
  have t26 := ti_tn x1
  refine ok_gd (fun hc27 => ?_) ?_
  · rcases hc27 with hc27 | hc27
    · have c28 : x1.toInt < (0 : Int) := o_lt hc27
      omega
    · omega
  have f31 := rb_103 L I x1.toNatClampNeg
  refine ok_biv (fun vx29 e30 => ?_)
  first | (have q32 := te_add ((2000 : Int32) * x1) (q_R δ (Ad ad 103) x1.toNatClampNeg) (by omega) (by omega); rw [← e30] at q32; obtain ⟨f33, f34, f35⟩ := q32) | (obtain ⟨q32, f33, f34, f35⟩ : ∃ q : Int, vx29.toInt = ((2000 : Int32) * x1).toInt + (q_R δ (Ad ad 103) x1.toNatClampNeg).toInt + 4294967296 * q ∧ -2147483648 ≤ vx29.toInt ∧ vx29.toInt ≤ 2147483647 := by rw [e30]; exact ti_add ((2000 : Int32) * x1) (q_R δ (Ad ad 103) x1.toNatClampNeg))
  refine ok_mono (kl_X12_comes_27 L hN   k_a0 _ vx11 vx29 δ I (show 0 ≤ (x1).toInt by first | assumption | omega) (show (x1).toInt ≤ 3 by first | assumption | omega) (show 2000 * (x1).toInt ≤ (vx11).toInt by first | assumption | omega) (show (vx11).toInt ≤ 2000 * (x1).toInt + 1999 by first | assumption | omega) (show (vx29).toInt ≤ 2000 * (x1).toInt + 1999 by first | assumption | omega) (show (vx11).toInt ≤ (vx29).toInt + 1000 by first | assumption | omega) (show (q_R δ (Ad ad 103) (x1).toNatClampNeg).toInt < 2000 by first | assumption | omega) (show (vx29).toInt - (vx11).toInt + 1000 < _ by omega)) (fun r36 hr37 => ?_)
  obtain ⟨i38, ⟨u40, u41, u42⟩, p39⟩ := hr37
  have u43 := kp_t kp_r u40
  have v44 : q_V r36 = q_V δ := (u41).trans rfl
  have v45 := kr_t (kr_r (ad := ad)) u42
  have f46 := rb_103 L i38 (x1).toNatClampNeg
  exact ⟨by assumption, ⟨kp_w (by decide) u43, v44, kr_w (by decide) v45⟩, by first | assumption | omega⟩
set_option maxHeartbeats 4000000 in
theorem kl_X12_leaves_23 {ad : List Nat} {h : hp} (L : Lay TLx ad h) {δ0 : dp} {N : Nat} (hN : 10000000 ≤ N) {a0 : Nat} {x1 : Int32} {x2 : Int32} (k_a0 : q_K h.1 a0 = 12) : ∀ (n : Nat) (x3v : Int32) (δ : dp), RI ad h.1 δ0 δ → 0 ≤ (x1).toInt → (x1).toInt ≤ 3 → 2000 * (x1).toInt ≤ (x3v).toInt → (x3v).toInt ≤ 2000 * (x1).toInt + 2000 → (q_R δ (Ad ad 103) (x1).toNatClampNeg).toInt ≤ 1999 → 2000 * (x1).toInt + 2000 - (x3v).toInt < (n : Int) → ok (L_X12_leaves_23 N h.1 a0 x1 x2 n x3v δ) (fun r => RI ad h.1 δ0 r ∧ (kp [] δ r ∧ q_V r = q_V δ ∧ kr ad [102, 103] δ r) ∧ (q_R r (Ad ad 103) (x1).toNatClampNeg).toInt = (q_R δ (Ad ad 103) (x1).toNatClampNeg).toInt) := by
  intro n
  induction n with
  | zero =>
    intro x3v δ I j0 j1 j2 j3 j4 hm
    have f1 := ti_b x1
    have f2 := ti_b x3v
    have t3 := ti_tn x1
    have f4 := rb_103 L I (x1).toNatClampNeg
    exfalso; omega
  | succ n ih =>
    intro x3v δ I j0 j1 j2 j3 j4 hm
    unfold L_X12_leaves_23
    have f1 := ti_b x1
    have f2 := ti_b x3v
    have t3 := ti_tn x1
    have f4 := rb_103 L I (x1).toNatClampNeg
    obtain ⟨b5, o6, k7, n8⟩ := gO_12_14 L k_a0
    obtain rfl := gS_12_14 L k_a0 o6
    refine ok_at o6 ?_
    have t9 := ti_tn x1
    refine ok_gd (fun hc10 => ?_) ?_
    · rcases hc10 with hc10 | hc10
      · have c11 : x1.toInt < (0 : Int) := o_lt hc10
        omega
      · omega
    first | (have q13 := te_mulc (c := 2000) (n := 2000) rfl x1 (by omega) (by omega); obtain ⟨f14, f15, f16⟩ := q13) | (obtain ⟨q13, f14, f15, f16⟩ := ti_mulc (c := 2000) (n := 2000) rfl x1)
    have f17 := rb_103 L I x1.toNatClampNeg
    first | (have q19 := te_add ((2000 : Int32) * x1) (q_R δ (Ad ad 103) x1.toNatClampNeg) (by omega) (by omega); obtain ⟨f20, f21, f22⟩ := q19) | (obtain ⟨q19, f20, f21, f22⟩ := ti_add ((2000 : Int32) * x1) (q_R δ (Ad ad 103) x1.toNatClampNeg))
    refine ok_ite (fun h23 => ?_) (fun h23 => ?_)
    · have c24 : (((2000 : Int32) * x1) + (q_R δ (Ad ad 103) x1.toNatClampNeg)).toInt ≤ x3v.toInt := o_le h23
      exact ok_some (show RI ad h.1 δ0 δ ∧ (kp [] δ δ ∧ q_V δ = q_V δ ∧ kr ad [102, 103] δ δ) ∧ (q_R δ (Ad ad 103) (x1).toNatClampNeg).toInt = (q_R δ (Ad ad 103) (x1).toNatClampNeg).toInt from ⟨I, ⟨kp_w (by decide) kp_r, rfl, kr_w (by decide) (kr_r (ad := ad))⟩, by first | assumption | omega⟩)
    · have c25 : x3v.toInt < (((2000 : Int32) * x1) + (q_R δ (Ad ad 103) x1.toNatClampNeg)).toInt := o_nle h23
      obtain ⟨b26, o27, k28, n29, w30⟩ := gO_12_13 L k_a0
      obtain rfl := gS_12_13 L k_a0 o27
      refine ok_at o27 ?_
      refine ok_at o27 ?_
      first | (have q32 := te_addc (c := 1) (n := 1) rfl x3v (by omega) (by omega); obtain ⟨f33, f34, f35⟩ := q32) | (obtain ⟨q32, f33, f34, f35⟩ := ti_addc (c := 1) (n := 1) rfl x3v)
      have t36 := ti_tn (x3v + (1 : Int32))
      refine ok_gd (fun hc37 => ?_) ?_
      · rcases hc37 with hc37 | hc37
        · have c38 : (x3v + (1 : Int32)).toInt < (0 : Int) := o_lt hc37
          omega
        · omega
      have t39 := ti_tn x3v
      refine ok_gd (fun hc40 => ?_) ?_
      · rcases hc40 with hc40 | hc40
        · have c41 : x3v.toInt < (0 : Int) := o_lt hc40
          omega
        · omega
      refine ok_bdv (fun d42 e43 => ?_)
      have i44 : RI ad h.1 δ0 d42 := by rw [e43]; exact RI.sR L I w30
      have u45 := kp_N kp_r (show q_I d42 = q_I δ by rw [e43]; rfl)
      have v46 : q_V d42 = q_V δ := ((show q_V d42 = q_V δ by rw [e43]; rfl)).trans rfl
      have v47 := kr_s L (by decide) (kr_r (ad := ad)) e43
      refine ok_biv (fun vx48 e49 => ?_)
      first | (have q50 := te_addc (c := 1) (n := 1) rfl x3v (by omega) (by omega); rw [← e49] at q50; obtain ⟨f51, f52, f53⟩ := q50) | (obtain ⟨q50, f51, f52, f53⟩ : ∃ q : Int, vx48.toInt = x3v.toInt + (1 : Int) + 4294967296 * q ∧ -2147483648 ≤ vx48.toInt ∧ vx48.toInt ≤ 2147483647 := by rw [e49]; exact ti_addc (c := 1) (n := 1) rfl x3v)
      have f54 : (q_R d42 (Ad ad 103) (x1).toNatClampNeg).toInt = (q_R δ (Ad ad 103) (x1).toNatClampNeg).toInt := congrArg Int32.toInt (show q_R d42 (Ad ad 103) (x1).toNatClampNeg = _ by rw [e43, rR_o (ad_ne L (by decide) (by decide) (by decide))])
      have f55 := rb_103 L i44 (x1).toNatClampNeg
      refine ok_mono (ih vx48 d42 i44 (show 0 ≤ (x1).toInt by first | assumption | omega) (show (x1).toInt ≤ 3 by first | assumption | omega) (show 2000 * (x1).toInt ≤ (vx48).toInt by first | assumption | omega) (show (vx48).toInt ≤ 2000 * (x1).toInt + 2000 by first | assumption | omega) (show (q_R d42 (Ad ad 103) (x1).toNatClampNeg).toInt ≤ 1999 by first | assumption | omega) (show 2000 * (x1).toInt + 2000 - (vx48).toInt < _ by omega)) (fun r56 hr57 => ?_)
      obtain ⟨i58, ⟨u60, u61, u62⟩, p59⟩ := hr57
      have u63 := kp_t u45 u60
      have v64 : q_V r56 = q_V δ := (u61).trans v46
      have v65 := kr_t v47 u62
      have f66 := rb_103 L i58 (x1).toNatClampNeg
      exact ⟨by assumption, ⟨kp_w (by decide) u63, v64, kr_w (by decide) v65⟩, by first | assumption | omega⟩
set_option maxHeartbeats 4000000 in
theorem k_X12_leaves {ad : List Nat} {h : hp} (L : Lay TLx ad h) {δ0 : dp} {N : Nat} (hN : 10000000 ≤ N) {a0 : Nat} {x1 : Int32} {x2 : Int32} (k_a0 : q_K h.1 a0 = 12) {δ : dp} (z0 : 0 ≤ (x1).toInt) (z1 : (x1).toInt ≤ 3) (z2 : -999 ≤ (q_R δ (Ad ad 103) (x1).toNatClampNeg).toInt) (I : RI ad h.1 δ0 δ) : ok (D_X12_leaves N h.1 a0 x1 x2 δ) (fun r => RI ad h.1 δ0 r ∧ (kp [] δ r ∧ q_V r = q_V δ ∧ kr ad [102, 103] δ r) ∧ (q_R r (Ad ad 103) (x1).toNatClampNeg).toInt = (q_R δ (Ad ad 103) (x1).toNatClampNeg).toInt - 1) := by
  unfold D_X12_leaves
  have f1 := ti_b x1
  have t2 := ti_tn x1
  have f3 := rb_103 L I (x1).toNatClampNeg
  obtain ⟨b4, o5, k6, n7⟩ := gO_12_14 L k_a0
  obtain rfl := gS_12_14 L k_a0 o5
  refine ok_at o5 ?_
  have t8 := ti_tn x1
  refine ok_gd (fun hc9 => ?_) ?_
  · rcases hc9 with hc9 | hc9
    · have c10 : x1.toInt < (0 : Int) := o_lt hc9
      omega
    · omega
  refine ok_gd (fun hc11 => ?_) ?_
  · rcases hc11 with hc11 | hc11
    · have c12 : x1.toInt < (0 : Int) := o_lt hc11
      omega
    · omega
  have f16 := rb_103 L I x1.toNatClampNeg
  first | (have q18 := te_subc (c := 1) (n := 1) rfl (q_R δ (Ad ad 103) x1.toNatClampNeg) (by omega) (by omega); obtain ⟨f19, f20, f21⟩ := q18) | (obtain ⟨q18, f19, f20, f21⟩ := ti_subc (c := 1) (n := 1) rfl (q_R δ (Ad ad 103) x1.toNatClampNeg))
  refine ok_bdv (fun d13 e14 => ?_)
  have i15 : RI ad h.1 δ0 d13 := by rw [e14]; exact cr_103 L I (show -1000 ≤ ((q_R δ (Ad ad 103) x1.toNatClampNeg) - (1 : Int32)).toInt by omega) (show ((q_R δ (Ad ad 103) x1.toNatClampNeg) - (1 : Int32)).toInt ≤ 2000 by omega)
  have u22 := kp_N kp_r (show q_I d13 = q_I δ by rw [e14]; rfl)
  have v23 : q_V d13 = q_V δ := ((show q_V d13 = q_V δ by rw [e14]; rfl)).trans rfl
  have v24 := kr_s L (by decide) (kr_r (ad := ad)) e14
  refine ok_bind (k_X12_place L hN (a0 := a0) (x1 := x1) (x2 := x2) k_a0 (show 0 ≤ (x1).toInt by first | assumption | omega) (show (x1).toInt ≤ 3 by first | assumption | omega) i15) (fun r25 hr26 => ?_)
  obtain ⟨i27, p28, p29⟩ := hr26
  try rw [i27]
  have f30 := ti_b r25.1
  have f31 : (q_R d13 (Ad ad 103) (x1).toNatClampNeg).toInt = ((q_R δ (Ad ad 103) x1.toNatClampNeg) - (1 : Int32)).toInt := congrArg Int32.toInt (show q_R d13 (Ad ad 103) (x1).toNatClampNeg = ((q_R δ (Ad ad 103) x1.toNatClampNeg) - (1 : Int32)) by rw [e14, qR_sR, if_pos ⟨rfl, rfl⟩])
  have f32 := rb_103 L i15 (x1).toNatClampNeg
  have f33 := ti_b r25.1
  first | (have q37 := te_mulc (c := 2000) (n := 2000) rfl x1 (by omega) (by omega); obtain ⟨f38, f39, f40⟩ := q37) | (obtain ⟨q37, f38, f39, f40⟩ := ti_mulc (c := 2000) (n := 2000) rfl x1)
  refine ok_biv (fun vx34 e35 => ?_)
  first | (have q41 := te_add ((2000 : Int32) * x1) r25.1 (by omega) (by omega); rw [← e35] at q41; obtain ⟨f42, f43, f44⟩ := q41) | (obtain ⟨q41, f42, f43, f44⟩ : ∃ q : Int, vx34.toInt = ((2000 : Int32) * x1).toInt + r25.1.toInt + 4294967296 * q ∧ -2147483648 ≤ vx34.toInt ∧ vx34.toInt ≤ 2147483647 := by rw [e35]; exact ti_add ((2000 : Int32) * x1) r25.1)
  refine ok_mono (kl_X12_leaves_23 L hN   k_a0 _ vx34 d13 i15 (show 0 ≤ (x1).toInt by first | assumption | omega) (show (x1).toInt ≤ 3 by first | assumption | omega) (show 2000 * (x1).toInt ≤ (vx34).toInt by first | assumption | omega) (show (vx34).toInt ≤ 2000 * (x1).toInt + 2000 by first | assumption | omega) (show (q_R d13 (Ad ad 103) (x1).toNatClampNeg).toInt ≤ 1999 by first | assumption | omega) (show 2000 * (x1).toInt + 2000 - (vx34).toInt < _ by omega)) (fun r45 hr46 => ?_)
  obtain ⟨i47, ⟨u49, u50, u51⟩, p48⟩ := hr46
  have u52 := kp_t u22 u49
  have v53 : q_V r45 = q_V δ := (u50).trans v23
  have v54 := kr_t v24 u51
  have f55 := rb_103 L i47 (x1).toNatClampNeg
  exact ⟨by assumption, ⟨kp_w (by decide) u52, v53, kr_w (by decide) v54⟩, by first | assumption | omega⟩
set_option maxHeartbeats 4000000 in
theorem k_X12_notesDown {ad : List Nat} {h : hp} (L : Lay TLx ad h) {δ0 : dp} {N : Nat} (hN : 10000000 ≤ N) {a0 : Nat} {x1 : Int32} {x2 : Int32} {x3 : Int32} (k_a0 : q_K h.1 a0 = 12) {δ : dp} (z0 : 0 ≤ (x1).toInt) (z1 : (x1).toInt ≤ 3) (z2 : (q_R δ (Ad ad 106) (x1).toNatClampNeg).toInt < 1000) (I : RI ad h.1 δ0 δ) : ok (D_X12_notesDown N h.1 a0 x1 x2 x3 δ) (fun r => RI ad h.1 δ0 r ∧ (kp [] δ r ∧ q_V r = q_V δ ∧ kr ad [104, 105, 106] δ r) ∧ (q_R r (Ad ad 106) (x1).toNatClampNeg).toInt = (q_R δ (Ad ad 106) (x1).toNatClampNeg).toInt + 1) := by
  unfold D_X12_notesDown
  have f1 := ti_b x1
  have t2 := ti_tn x1
  have f3 := rb_106 L I (x1).toNatClampNeg
  obtain ⟨b4, o5, k6, n7, w8⟩ := gO_12_15 L k_a0
  obtain rfl := gS_12_15 L k_a0 o5
  refine ok_at o5 ?_
  obtain ⟨b9, o10, k11, n12⟩ := gO_12_17 L k_a0
  obtain rfl := gS_12_17 L k_a0 o10
  refine ok_at o10 ?_
  have t13 := ti_tn x1
  refine ok_gd (fun hc14 => ?_) ?_
  · rcases hc14 with hc14 | hc14
    · have c15 : x1.toInt < (0 : Int) := o_lt hc14
      omega
    · omega
  first | (have q17 := te_mulc (c := 1000) (n := 1000) rfl x1 (by omega) (by omega); obtain ⟨f18, f19, f20⟩ := q17) | (obtain ⟨q17, f18, f19, f20⟩ := ti_mulc (c := 1000) (n := 1000) rfl x1)
  have f21 := rb_106 L I x1.toNatClampNeg
  first | (have q23 := te_add ((1000 : Int32) * x1) (q_R δ (Ad ad 106) x1.toNatClampNeg) (by omega) (by omega); obtain ⟨f24, f25, f26⟩ := q23) | (obtain ⟨q23, f24, f25, f26⟩ := ti_add ((1000 : Int32) * x1) (q_R δ (Ad ad 106) x1.toNatClampNeg))
  have t27 := ti_tn (((1000 : Int32) * x1) + (q_R δ (Ad ad 106) x1.toNatClampNeg))
  refine ok_gd (fun hc28 => ?_) ?_
  · rcases hc28 with hc28 | hc28
    · have c29 : (((1000 : Int32) * x1) + (q_R δ (Ad ad 106) x1.toNatClampNeg)).toInt < (0 : Int) := o_lt hc28
      omega
    · omega
  refine ok_bdv (fun d30 e31 => ?_)
  have i32 : RI ad h.1 δ0 d30 := by rw [e31]; exact RI.sR L I w8
  have u33 := kp_N kp_r (show q_I d30 = q_I δ by rw [e31]; rfl)
  have v34 : q_V d30 = q_V δ := ((show q_V d30 = q_V δ by rw [e31]; rfl)).trans rfl
  have v35 := kr_s L (by decide) (kr_r (ad := ad)) e31
  obtain ⟨b36, o37, k38, n39, w40⟩ := gO_12_16 L k_a0
  obtain rfl := gS_12_16 L k_a0 o37
  refine ok_at o37 ?_
  refine ok_at o10 ?_
  refine ok_gd (fun hc41 => ?_) ?_
  · rcases hc41 with hc41 | hc41
    · have c42 : x1.toInt < (0 : Int) := o_lt hc41
      omega
    · omega
  have f43 : (q_R d30 (Ad ad 106) x1.toNatClampNeg).toInt = (q_R δ (Ad ad 106) x1.toNatClampNeg).toInt := congrArg Int32.toInt (show q_R d30 (Ad ad 106) x1.toNatClampNeg = _ by rw [e31, rR_o (ad_ne L (by decide) (by decide) (by decide))])
  have f44 := rb_106 L i32 x1.toNatClampNeg
  first | (have q46 := te_add ((1000 : Int32) * x1) (q_R d30 (Ad ad 106) x1.toNatClampNeg) (by omega) (by omega); obtain ⟨f47, f48, f49⟩ := q46) | (obtain ⟨q46, f47, f48, f49⟩ := ti_add ((1000 : Int32) * x1) (q_R d30 (Ad ad 106) x1.toNatClampNeg))
  have t50 := ti_tn (((1000 : Int32) * x1) + (q_R d30 (Ad ad 106) x1.toNatClampNeg))
  refine ok_gd (fun hc51 => ?_) ?_
  · rcases hc51 with hc51 | hc51
    · have c52 : (((1000 : Int32) * x1) + (q_R d30 (Ad ad 106) x1.toNatClampNeg)).toInt < (0 : Int) := o_lt hc51
      omega
    · omega
  refine ok_bdv (fun d53 e54 => ?_)
  have i55 : RI ad h.1 δ0 d53 := by rw [e54]; exact RI.sR L i32 w40
  have u56 := kp_N u33 (show q_I d53 = q_I d30 by rw [e54]; rfl)
  have v57 : q_V d53 = q_V δ := ((show q_V d53 = q_V d30 by rw [e54]; rfl)).trans v34
  have v58 := kr_s L (by decide) v35 e54
  refine ok_at o10 ?_
  refine ok_gd (fun hc59 => ?_) ?_
  · rcases hc59 with hc59 | hc59
    · have c60 : x1.toInt < (0 : Int) := o_lt hc59
      omega
    · omega
  refine ok_gd (fun hc61 => ?_) ?_
  · rcases hc61 with hc61 | hc61
    · have c62 : x1.toInt < (0 : Int) := o_lt hc61
      omega
    · omega
  have f66 : (q_R d53 (Ad ad 106) x1.toNatClampNeg).toInt = (q_R d30 (Ad ad 106) x1.toNatClampNeg).toInt := congrArg Int32.toInt (show q_R d53 (Ad ad 106) x1.toNatClampNeg = _ by rw [e54, rR_o (ad_ne L (by decide) (by decide) (by decide))])
  have f67 := rb_106 L i55 x1.toNatClampNeg
  first | (have q69 := te_addc (c := 1) (n := 1) rfl (q_R d53 (Ad ad 106) x1.toNatClampNeg) (by omega) (by omega); obtain ⟨f70, f71, f72⟩ := q69) | (obtain ⟨q69, f70, f71, f72⟩ := ti_addc (c := 1) (n := 1) rfl (q_R d53 (Ad ad 106) x1.toNatClampNeg))
  refine ok_bdv (fun d63 e64 => ?_)
  have i65 : RI ad h.1 δ0 d63 := by rw [e64]; exact cr_106 L i55 (show 0 ≤ ((q_R d53 (Ad ad 106) x1.toNatClampNeg) + (1 : Int32)).toInt by omega) (show ((q_R d53 (Ad ad 106) x1.toNatClampNeg) + (1 : Int32)).toInt ≤ 1000 by omega)
  have u73 := kp_N u56 (show q_I d63 = q_I d53 by rw [e64]; rfl)
  have v74 : q_V d63 = q_V δ := ((show q_V d63 = q_V d53 by rw [e64]; rfl)).trans v57
  have v75 := kr_s L (by decide) v58 e64
  have f76 : (q_R d63 (Ad ad 106) (x1).toNatClampNeg).toInt = ((q_R d53 (Ad ad 106) x1.toNatClampNeg) + (1 : Int32)).toInt := congrArg Int32.toInt (show q_R d63 (Ad ad 106) (x1).toNatClampNeg = ((q_R d53 (Ad ad 106) x1.toNatClampNeg) + (1 : Int32)) by rw [e64, qR_sR, if_pos ⟨rfl, rfl⟩])
  have f77 := rb_106 L i65 (x1).toNatClampNeg
  exact ok_some (show RI ad h.1 δ0 d63 ∧ (kp [] δ d63 ∧ q_V d63 = q_V δ ∧ kr ad [104, 105, 106] δ d63) ∧ (q_R d63 (Ad ad 106) (x1).toNatClampNeg).toInt = (q_R δ (Ad ad 106) (x1).toNatClampNeg).toInt + 1 from ⟨i65, ⟨kp_w (by decide) u73, v74, kr_w (by decide) v75⟩, by first | assumption | omega⟩)
set_option maxHeartbeats 4000000 in
theorem k_X12_isHouse {ad : List Nat} {h : hp} (L : Lay TLx ad h) {δ0 : dp} {N : Nat} (hN : 10000000 ≤ N) {a0 : Nat} {x1 : Int32} {x2 : Int32} (k_a0 : q_K h.1 a0 = 12) {δ : dp} (z0 : (x2).toInt ≠ 0) (I : RI ad h.1 δ0 δ) : ok (D_X12_isHouse N h.1 a0 x1 x2 δ) (fun r => RI ad h.1 δ0 r.2 ∧ (kp [(12, 0)] δ r.2 ∧ q_V r.2 = q_V δ ∧ kr ad [100] δ r.2) ∧ bo (r.1) ∧ ((r.1).toInt = 1 → 0 ≤ (x1).toInt ∧ (x1).toInt ≤ 3)) := by
  unfold D_X12_isHouse
  have f1 := ti_b x2
  refine ok_bind (k_X12_within L hN (x0 := x1) (x1 := (0 : Int32)) (x2 := (3 : Int32))  I) (fun r2 hr3 => ?_)
  obtain ⟨i4, p5, p6, p7⟩ := hr3
  try rw [i4]
  have f8 := bo_l p5
  have f9 := ti_b r2.1
  have f10 := ti_b x1
  replace p6 : ((r2.1).toInt = 1 → (0 : Int) ≤ (x1).toInt ∧ (x1).toInt ≤ (3 : Int)) := p6
  replace p7 : ((r2.1).toInt = 0 → (x1).toInt < (0 : Int) ∨ (3 : Int) < (x1).toInt) := p7
  have f11 := ti_b r2.1
  refine ok_bind (k_X12_may L hN (a0 := a0) (x1 := r2.1) (x2 := x2) (x3 := (0 : Int32)) k_a0 (show (x2).toInt ≠ 0 by first | assumption | omega) (show 0 ≤ (0 : Int) by first | assumption | omega) (show (0 : Int) ≤ 2 by first | assumption | omega) I) (fun r12 hr13 => ?_)
  obtain ⟨i14, ⟨u18, u19, u20⟩, p15, p16, p17⟩ := hr13
  have u21 := kp_t kp_r u18
  have v22 : q_V r12.2 = q_V δ := (u19).trans rfl
  have v23 := kr_t (kr_r (ad := ad)) u20
  have f24 := bo_l p15
  have f25 := ti_b r12.1
  have f26 := ti_b (q_I δ 12 0 a0)
  have f27 := ti_b r12.1
  refine ok_gp (show bo r12.1 by first | assumption | exact bo_0 | exact bo_1 | exact bo_i (by omega) (by omega)) ?_
  exact ok_some (show RI ad h.1 δ0 r12.2 ∧ (kp [(12, 0)] δ r12.2 ∧ q_V r12.2 = q_V δ ∧ kr ad [100] δ r12.2) ∧ bo (r12.1) ∧ ((r12.1).toInt = 1 → 0 ≤ (x1).toInt ∧ (x1).toInt ≤ 3) from ⟨i14, ⟨kp_w (by decide) u21, v22, kr_w (by decide) v23⟩, by first | assumption | exact bo_0 | exact bo_1 | exact bo_i (by omega) (by omega), by first | assumption | omega⟩)
set_option maxHeartbeats 4000000 in
theorem k_X12_all {ad : List Nat} {h : hp} (L : Lay TLx ad h) {δ0 : dp} {N : Nat} (hN : 10000000 ≤ N) {a0 : Nat} (k_a0 : q_K h.1 a0 = 12) {δ : dp} (I : RI ad h.1 δ0 δ) : ok (D_X12_all N h.1 a0 δ) (fun r => r.2 = δ ∧ 4 ≤ (r.1).toInt ∧ (r.1).toInt ≤ 65536 ∧ ((q_I δ 12 10 a0).toInt ≤ 6 → (r.1).toInt ≤ 64) ∧ ((q_I δ 12 10 a0).toInt ≤ 4 → (r.1).toInt ≤ 16)) := by
  unfold D_X12_all
  have f1 := cb_12_10 I k_a0
  have f2 := sh_b (q_I δ 12 10 a0)
  have f3 := ti_b ((1 : Int32) <<< ((q_I δ 12 10 a0) &&& 31))
  exact ok_some (show δ = δ ∧ 4 ≤ (((1 : Int32) <<< ((q_I δ 12 10 a0) &&& 31))).toInt ∧ (((1 : Int32) <<< ((q_I δ 12 10 a0) &&& 31))).toInt ≤ 65536 ∧ ((q_I δ 12 10 a0).toInt ≤ 6 → (((1 : Int32) <<< ((q_I δ 12 10 a0) &&& 31))).toInt ≤ 64) ∧ ((q_I δ 12 10 a0).toInt ≤ 4 → (((1 : Int32) <<< ((q_I δ 12 10 a0) &&& 31))).toInt ≤ 16) from ⟨rfl, by first | assumption | omega, by first | assumption | omega, by first | assumption | omega, by first | assumption | omega⟩)
set_option maxHeartbeats 4000000 in
theorem k_X12_isNumber {ad : List Nat} {h : hp} (L : Lay TLx ad h) {δ0 : dp} {N : Nat} (hN : 10000000 ≤ N) {a0 : Nat} {x1 : Int32} (k_a0 : q_K h.1 a0 = 12) {δ : dp} (I : RI ad h.1 δ0 δ) : ok (D_X12_isNumber N h.1 a0 x1 δ) (fun r => r.2 = δ ∧ bo (r.1) ∧ ((r.1).toInt = 1 → 0 ≤ (x1).toInt ∧ (x1).toInt ≤ 65535)) := by
  unfold D_X12_isNumber
  refine ok_bind (k_X12_all L hN (a0 := a0) k_a0 I) (fun r1 hr2 => ?_)
  obtain ⟨i3, p4, p5, p6, p7⟩ := hr2
  try rw [i3]
  have f8 := ti_b r1.1
  have f9 := cb_12_10 I k_a0
  have f10 := ti_b r1.1
  refine ok_bind (k_X12_within L hN (x0 := x1) (x1 := (0 : Int32)) (x2 := (r1.1 - (1 : Int32)))  I) (fun r11 hr12 => ?_)
  obtain ⟨i13, p14, p15, p16⟩ := hr12
  try rw [i13]
  have f17 := bo_l p14
  have f18 := ti_b r11.1
  have f19 := ti_b x1
  first | (have q21 := te_subc (c := 1) (n := 1) rfl r1.1 (by omega) (by omega); obtain ⟨f22, f23, f24⟩ := q21) | (obtain ⟨q21, f22, f23, f24⟩ := ti_subc (c := 1) (n := 1) rfl r1.1)
  replace p15 : ((r11.1).toInt = 1 → (0 : Int) ≤ (x1).toInt ∧ (x1).toInt ≤ ((r1.1 - (1 : Int32))).toInt) := p15
  replace p16 : ((r11.1).toInt = 0 → (x1).toInt < (0 : Int) ∨ ((r1.1 - (1 : Int32))).toInt < (x1).toInt) := p16
  have f25 := ti_b r11.1
  refine ok_gp (show bo r11.1 by first | assumption | exact bo_0 | exact bo_1 | exact bo_i (by omega) (by omega)) ?_
  exact ok_some (show δ = δ ∧ bo (r11.1) ∧ ((r11.1).toInt = 1 → 0 ≤ (x1).toInt ∧ (x1).toInt ≤ 65535) from ⟨rfl, by first | assumption | exact bo_0 | exact bo_1 | exact bo_i (by omega) (by omega), by first | assumption | omega⟩)
set_option maxHeartbeats 4000000 in
theorem k_X12_put {ad : List Nat} {h : hp} (L : Lay TLx ad h) {δ0 : dp} {N : Nat} (hN : 10000000 ≤ N) {a0 : Nat} {x1 : Int32} {x2 : Int32} (k_a0 : q_K h.1 a0 = 12) {δ : dp} (I : RI ad h.1 δ0 δ) : ok (D_X12_put N h.1 a0 x1 x2 δ) (fun r => RI ad h.1 δ0 r.2 ∧ (kp [(12, 0)] δ r.2 ∧ q_V r.2 = q_V δ ∧ kr ad [100, 102, 103, 104, 105, 106] δ r.2)) := by
  unfold D_X12_put
  refine ok_bdv (fun d1 e2 => ?_)
  have i3 : RI ad h.1 δ0 d1 := by rw [e2]; exact cs_12_0 L I
  have u4 := kp_I kp_r e2
  have v5 : q_V d1 = q_V δ := ((show q_V d1 = q_V δ by rw [e2]; rfl)).trans rfl
  have v6 := kr_N (kr_r (ad := ad)) (show q_R d1 = q_R δ by rw [e2]; rfl)
  refine ok_bind (k_X12_isHouse L hN (a0 := a0) (x1 := x1) (x2 := (1 : Int32)) k_a0 (show (1 : Int) ≠ 0 by first | assumption | omega) i3) (fun r7 hr8 => ?_)
  obtain ⟨i9, ⟨u12, u13, u14⟩, p10, p11⟩ := hr8
  have u15 := kp_t u4 u12
  have v16 : q_V r7.2 = q_V δ := (u13).trans v5
  have v17 := kr_t v6 u14
  have f18 := bo_l p10
  have f19 := ti_b r7.1
  have f20 := ti_b x1
  have f21 := ti_b r7.1
  refine ok_ite (fun h22 => ?_) (fun h22 => ?_)
  · have c23 : r7.1.toInt = (0 : Int) := o_eq h22
    unfold J_X12_put_28
    exact ok_some (show RI ad h.1 δ0 r7.2 ∧ (kp [(12, 0)] δ r7.2 ∧ q_V r7.2 = q_V δ ∧ kr ad [100, 102, 103, 104, 105, 106] δ r7.2) from ⟨i9, ⟨kp_w (by decide) u15, v16, kr_w (by decide) v17⟩⟩)
  · have c24 : r7.1.toInt ≠ (0 : Int) := o_ne h22
    refine ok_bind (k_X12_isNumber L hN (a0 := a0) (x1 := x2) k_a0 i9) (fun r25 hr26 => ?_)
    obtain ⟨i27, p28, p29⟩ := hr26
    try rw [i27]
    have f30 := bo_l p28
    have f31 := ti_b r25.1
    have f32 := ti_b x2
    have f33 := ti_b r25.1
    refine ok_bind (k_X12_may L hN (a0 := a0) (x1 := r25.1) (x2 := (2 : Int32)) (x3 := (2 : Int32)) k_a0 (show (2 : Int) ≠ 0 by first | assumption | omega) (show 0 ≤ (2 : Int) by first | assumption | omega) (show (2 : Int) ≤ 2 by first | assumption | omega) i9) (fun r34 hr35 => ?_)
    obtain ⟨i36, ⟨u40, u41, u42⟩, p37, p38, p39⟩ := hr35
    have u43 := kp_t u15 u40
    have v44 : q_V r34.2 = q_V δ := (u41).trans v16
    have v45 := kr_t v17 u42
    have f46 := bo_l p37
    have f47 := ti_b r34.1
    have f48 := ti_b (q_I r7.2 12 0 a0)
    have f49 := ti_b r34.1
    refine ok_ite (fun h50 => ?_) (fun h50 => ?_)
    · have c51 : r34.1.toInt = (0 : Int) := o_eq h50
      unfold J_X12_put_28
      exact ok_some (show RI ad h.1 δ0 r34.2 ∧ (kp [(12, 0)] δ r34.2 ∧ q_V r34.2 = q_V δ ∧ kr ad [100, 102, 103, 104, 105, 106] δ r34.2) from ⟨i36, ⟨kp_w (by decide) u43, v44, kr_w (by decide) v45⟩⟩)
    · have c52 : r34.1.toInt ≠ (0 : Int) := o_ne h50
      refine ok_bind (k_X12_isThere L hN (a0 := a0) (x1 := x1) (x2 := x2) k_a0 (show 0 ≤ (x1).toInt by first | assumption | omega) (show (x1).toInt ≤ 3 by first | assumption | omega) i36) (fun r53 hr54 => ?_)
      obtain ⟨i55, p56, p57⟩ := hr54
      try rw [i55]
      have f58 := bo_l p56
      have f59 := ti_b r53.1
      have t60 := ti_tn x1
      have f61 : (q_R r34.2 (Ad ad 103) (x1).toNatClampNeg).toInt = (q_R r7.2 (Ad ad 103) (x1).toNatClampNeg).toInt := congrArg Int32.toInt (congrFun (u42 103 (by decide) (by decide) (by decide)) _)
      have f62 : (q_R r7.2 (Ad ad 103) (x1).toNatClampNeg).toInt = (q_R d1 (Ad ad 103) (x1).toNatClampNeg).toInt := congrArg Int32.toInt (congrFun (u14 103 (by decide) (by decide) (by decide)) _)
      have f63 : (q_R d1 (Ad ad 103) (x1).toNatClampNeg).toInt = (q_R δ (Ad ad 103) (x1).toNatClampNeg).toInt := congrArg Int32.toInt (show q_R d1 (Ad ad 103) (x1).toNatClampNeg = _ by rw [e2]; rfl)
      have f64 := rb_103 L I (x1).toNatClampNeg
      have f65 := rb_103 L i3 (x1).toNatClampNeg
      have f66 := rb_103 L i9 (x1).toNatClampNeg
      have f67 := rb_103 L i36 (x1).toNatClampNeg
      have f68 := ti_b r53.1
      refine ok_ite (fun h69 => ?_) (fun h69 => ?_)
      · have c70 : r53.1.toInt = (0 : Int) := o_eq h69
        obtain ⟨b71, o72, k73, n74⟩ := gO_12_14 L k_a0
        obtain rfl := gS_12_14 L k_a0 o72
        refine ok_at o72 ?_
        have t75 := ti_tn x1
        refine ok_gd (fun hc76 => ?_) ?_
        · rcases hc76 with hc76 | hc76
          · have c77 : x1.toInt < (0 : Int) := o_lt hc76
            omega
          · omega
        have f78 : (q_R r34.2 (Ad ad 103) x1.toNatClampNeg).toInt = (q_R r7.2 (Ad ad 103) x1.toNatClampNeg).toInt := congrArg Int32.toInt (congrFun (u42 103 (by decide) (by decide) (by decide)) _)
        have f79 : (q_R r7.2 (Ad ad 103) x1.toNatClampNeg).toInt = (q_R d1 (Ad ad 103) x1.toNatClampNeg).toInt := congrArg Int32.toInt (congrFun (u14 103 (by decide) (by decide) (by decide)) _)
        have f80 : (q_R d1 (Ad ad 103) x1.toNatClampNeg).toInt = (q_R δ (Ad ad 103) x1.toNatClampNeg).toInt := congrArg Int32.toInt (show q_R d1 (Ad ad 103) x1.toNatClampNeg = _ by rw [e2]; rfl)
        have f81 := rb_103 L I x1.toNatClampNeg
        have f82 := rb_103 L i3 x1.toNatClampNeg
        have f83 := rb_103 L i9 x1.toNatClampNeg
        have f84 := rb_103 L i36 x1.toNatClampNeg
        refine ok_ite (fun h85 => ?_) (fun h85 => ?_)
        · have c86 : (q_R r34.2 (Ad ad 103) x1.toNatClampNeg).toInt = (2000 : Int) := o_eq h85
          exact ok_some (show RI ad h.1 δ0 r34.2 ∧ (kp [(12, 0)] δ r34.2 ∧ q_V r34.2 = q_V δ ∧ kr ad [100, 102, 103, 104, 105, 106] δ r34.2) from ⟨i36, ⟨kp_w (by decide) u43, v44, kr_w (by decide) v45⟩⟩)
        · have c87 : (q_R r34.2 (Ad ad 103) x1.toNatClampNeg).toInt ≠ (2000 : Int) := o_ne h85
          obtain ⟨b88, o89, k90, n91⟩ := gO_12_17 L k_a0
          obtain rfl := gS_12_17 L k_a0 o89
          refine ok_at o89 ?_
          refine ok_gd (fun hc92 => ?_) ?_
          · rcases hc92 with hc92 | hc92
            · have c93 : x1.toInt < (0 : Int) := o_lt hc92
              omega
            · omega
          have f94 : (q_R r34.2 (Ad ad 106) x1.toNatClampNeg).toInt = (q_R r7.2 (Ad ad 106) x1.toNatClampNeg).toInt := congrArg Int32.toInt (congrFun (u42 106 (by decide) (by decide) (by decide)) _)
          have f95 : (q_R r7.2 (Ad ad 106) x1.toNatClampNeg).toInt = (q_R d1 (Ad ad 106) x1.toNatClampNeg).toInt := congrArg Int32.toInt (congrFun (u14 106 (by decide) (by decide) (by decide)) _)
          have f96 : (q_R d1 (Ad ad 106) x1.toNatClampNeg).toInt = (q_R δ (Ad ad 106) x1.toNatClampNeg).toInt := congrArg Int32.toInt (show q_R d1 (Ad ad 106) x1.toNatClampNeg = _ by rw [e2]; rfl)
          have f97 := rb_106 L I x1.toNatClampNeg
          have f98 := rb_106 L i3 x1.toNatClampNeg
          have f99 := rb_106 L i9 x1.toNatClampNeg
          have f100 := rb_106 L i36 x1.toNatClampNeg
          refine ok_ite (fun h101 => ?_) (fun h101 => ?_)
          · have c102 : (q_R r34.2 (Ad ad 106) x1.toNatClampNeg).toInt = (1000 : Int) := o_eq h101
            exact ok_some (show RI ad h.1 δ0 r34.2 ∧ (kp [(12, 0)] δ r34.2 ∧ q_V r34.2 = q_V δ ∧ kr ad [100, 102, 103, 104, 105, 106] δ r34.2) from ⟨i36, ⟨kp_w (by decide) u43, v44, kr_w (by decide) v45⟩⟩)
          · have c103 : (q_R r34.2 (Ad ad 106) x1.toNatClampNeg).toInt ≠ (1000 : Int) := o_ne h101
            refine ok_bind (k_X12_comes L hN (a0 := a0) (x1 := x1) (x2 := x2) k_a0 (show 0 ≤ (x1).toInt by first | assumption | omega) (show (x1).toInt ≤ 3 by first | assumption | omega) (show (q_R r34.2 (Ad ad 103) (x1).toNatClampNeg).toInt < 2000 by first | assumption | omega) i36) (fun r104 hr105 => ?_)
            obtain ⟨i106, ⟨u108, u109, u110⟩, p107⟩ := hr105
            have u111 := kp_t u43 u108
            have v112 : q_V r104 = q_V δ := (u109).trans v44
            have v113 := kr_t v45 u110
            have f114 := rb_103 L i106 (x1).toNatClampNeg
            have f117 : (q_R r104 (Ad ad 106) (x1).toNatClampNeg).toInt = (q_R r34.2 (Ad ad 106) (x1).toNatClampNeg).toInt := congrArg Int32.toInt (congrFun (u110 106 (by decide) (by decide) (by decide)) _)
            have f118 : (q_R r34.2 (Ad ad 106) (x1).toNatClampNeg).toInt = (q_R r7.2 (Ad ad 106) (x1).toNatClampNeg).toInt := congrArg Int32.toInt (congrFun (u42 106 (by decide) (by decide) (by decide)) _)
            have f119 : (q_R r7.2 (Ad ad 106) (x1).toNatClampNeg).toInt = (q_R d1 (Ad ad 106) (x1).toNatClampNeg).toInt := congrArg Int32.toInt (congrFun (u14 106 (by decide) (by decide) (by decide)) _)
            have f120 : (q_R d1 (Ad ad 106) (x1).toNatClampNeg).toInt = (q_R δ (Ad ad 106) (x1).toNatClampNeg).toInt := congrArg Int32.toInt (show q_R d1 (Ad ad 106) (x1).toNatClampNeg = _ by rw [e2]; rfl)
            have f121 := rb_106 L I (x1).toNatClampNeg
            have f122 := rb_106 L i3 (x1).toNatClampNeg
            have f123 := rb_106 L i9 (x1).toNatClampNeg
            have f124 := rb_106 L i36 (x1).toNatClampNeg
            have f125 := rb_106 L i106 (x1).toNatClampNeg
            refine ok_bind (k_X12_notesDown L hN (a0 := a0) (x1 := x1) (x2 := x2) (x3 := (1 : Int32)) k_a0 (show 0 ≤ (x1).toInt by first | assumption | omega) (show (x1).toInt ≤ 3 by first | assumption | omega) (show (q_R r104 (Ad ad 106) (x1).toNatClampNeg).toInt < 1000 by first | assumption | omega) i106) (fun r115 hr116 => ?_)
            obtain ⟨i126, ⟨u128, u129, u130⟩, p127⟩ := hr116
            have u131 := kp_t u111 u128
            have v132 : q_V r115 = q_V δ := (u129).trans v112
            have v133 := kr_t v113 u130
            have f134 := rb_106 L i126 (x1).toNatClampNeg
            exact ok_some (show RI ad h.1 δ0 r115 ∧ (kp [(12, 0)] δ r115 ∧ q_V r115 = q_V δ ∧ kr ad [100, 102, 103, 104, 105, 106] δ r115) from ⟨i126, ⟨kp_w (by decide) u131, v132, kr_w (by decide) v133⟩⟩)
      · have c135 : r53.1.toInt ≠ (0 : Int) := o_ne h69
        exact ok_some (show RI ad h.1 δ0 r34.2 ∧ (kp [(12, 0)] δ r34.2 ∧ q_V r34.2 = q_V δ ∧ kr ad [100, 102, 103, 104, 105, 106] δ r34.2) from ⟨i36, ⟨kp_w (by decide) u43, v44, kr_w (by decide) v45⟩⟩)
set_option maxHeartbeats 4000000 in
theorem k_X12_drop {ad : List Nat} {h : hp} (L : Lay TLx ad h) {δ0 : dp} {N : Nat} (hN : 10000000 ≤ N) {a0 : Nat} {x1 : Int32} {x2 : Int32} (k_a0 : q_K h.1 a0 = 12) {δ : dp} (I : RI ad h.1 δ0 δ) : ok (D_X12_drop N h.1 a0 x1 x2 δ) (fun r => RI ad h.1 δ0 r.2 ∧ (kp [(12, 0)] δ r.2 ∧ q_V r.2 = q_V δ ∧ kr ad [100, 102, 103, 104, 105, 106] δ r.2)) := by
  unfold D_X12_drop
  refine ok_bdv (fun d1 e2 => ?_)
  have i3 : RI ad h.1 δ0 d1 := by rw [e2]; exact cs_12_0 L I
  have u4 := kp_I kp_r e2
  have v5 : q_V d1 = q_V δ := ((show q_V d1 = q_V δ by rw [e2]; rfl)).trans rfl
  have v6 := kr_N (kr_r (ad := ad)) (show q_R d1 = q_R δ by rw [e2]; rfl)
  refine ok_bind (k_X12_isHouse L hN (a0 := a0) (x1 := x1) (x2 := (1 : Int32)) k_a0 (show (1 : Int) ≠ 0 by first | assumption | omega) i3) (fun r7 hr8 => ?_)
  obtain ⟨i9, ⟨u12, u13, u14⟩, p10, p11⟩ := hr8
  have u15 := kp_t u4 u12
  have v16 : q_V r7.2 = q_V δ := (u13).trans v5
  have v17 := kr_t v6 u14
  have f18 := bo_l p10
  have f19 := ti_b r7.1
  have f20 := ti_b x1
  have f21 := ti_b r7.1
  refine ok_ite (fun h22 => ?_) (fun h22 => ?_)
  · have c23 : r7.1.toInt = (0 : Int) := o_eq h22
    unfold J_X12_drop_28
    exact ok_some (show RI ad h.1 δ0 r7.2 ∧ (kp [(12, 0)] δ r7.2 ∧ q_V r7.2 = q_V δ ∧ kr ad [100, 102, 103, 104, 105, 106] δ r7.2) from ⟨i9, ⟨kp_w (by decide) u15, v16, kr_w (by decide) v17⟩⟩)
  · have c24 : r7.1.toInt ≠ (0 : Int) := o_ne h22
    refine ok_bind (k_X12_isNumber L hN (a0 := a0) (x1 := x2) k_a0 i9) (fun r25 hr26 => ?_)
    obtain ⟨i27, p28, p29⟩ := hr26
    try rw [i27]
    have f30 := bo_l p28
    have f31 := ti_b r25.1
    have f32 := ti_b x2
    have f33 := ti_b r25.1
    refine ok_bind (k_X12_may L hN (a0 := a0) (x1 := r25.1) (x2 := (2 : Int32)) (x3 := (2 : Int32)) k_a0 (show (2 : Int) ≠ 0 by first | assumption | omega) (show 0 ≤ (2 : Int) by first | assumption | omega) (show (2 : Int) ≤ 2 by first | assumption | omega) i9) (fun r34 hr35 => ?_)
    obtain ⟨i36, ⟨u40, u41, u42⟩, p37, p38, p39⟩ := hr35
    have u43 := kp_t u15 u40
    have v44 : q_V r34.2 = q_V δ := (u41).trans v16
    have v45 := kr_t v17 u42
    have f46 := bo_l p37
    have f47 := ti_b r34.1
    have f48 := ti_b (q_I r7.2 12 0 a0)
    have f49 := ti_b r34.1
    refine ok_ite (fun h50 => ?_) (fun h50 => ?_)
    · have c51 : r34.1.toInt = (0 : Int) := o_eq h50
      unfold J_X12_drop_28
      exact ok_some (show RI ad h.1 δ0 r34.2 ∧ (kp [(12, 0)] δ r34.2 ∧ q_V r34.2 = q_V δ ∧ kr ad [100, 102, 103, 104, 105, 106] δ r34.2) from ⟨i36, ⟨kp_w (by decide) u43, v44, kr_w (by decide) v45⟩⟩)
    · have c52 : r34.1.toInt ≠ (0 : Int) := o_ne h50
      refine ok_bind (k_X12_isThere L hN (a0 := a0) (x1 := x1) (x2 := x2) k_a0 (show 0 ≤ (x1).toInt by first | assumption | omega) (show (x1).toInt ≤ 3 by first | assumption | omega) i36) (fun r53 hr54 => ?_)
      obtain ⟨i55, p56, p57⟩ := hr54
      try rw [i55]
      have f58 := bo_l p56
      have f59 := ti_b r53.1
      have t60 := ti_tn x1
      have f61 : (q_R r34.2 (Ad ad 103) (x1).toNatClampNeg).toInt = (q_R r7.2 (Ad ad 103) (x1).toNatClampNeg).toInt := congrArg Int32.toInt (congrFun (u42 103 (by decide) (by decide) (by decide)) _)
      have f62 : (q_R r7.2 (Ad ad 103) (x1).toNatClampNeg).toInt = (q_R d1 (Ad ad 103) (x1).toNatClampNeg).toInt := congrArg Int32.toInt (congrFun (u14 103 (by decide) (by decide) (by decide)) _)
      have f63 : (q_R d1 (Ad ad 103) (x1).toNatClampNeg).toInt = (q_R δ (Ad ad 103) (x1).toNatClampNeg).toInt := congrArg Int32.toInt (show q_R d1 (Ad ad 103) (x1).toNatClampNeg = _ by rw [e2]; rfl)
      have f64 := rb_103 L I (x1).toNatClampNeg
      have f65 := rb_103 L i3 (x1).toNatClampNeg
      have f66 := rb_103 L i9 (x1).toNatClampNeg
      have f67 := rb_103 L i36 (x1).toNatClampNeg
      have f68 := ti_b r53.1
      refine ok_ite (fun h69 => ?_) (fun h69 => ?_)
      · have c70 : r53.1.toInt = (0 : Int) := o_eq h69
        exact ok_some (show RI ad h.1 δ0 r34.2 ∧ (kp [(12, 0)] δ r34.2 ∧ q_V r34.2 = q_V δ ∧ kr ad [100, 102, 103, 104, 105, 106] δ r34.2) from ⟨i36, ⟨kp_w (by decide) u43, v44, kr_w (by decide) v45⟩⟩)
      · have c71 : r53.1.toInt ≠ (0 : Int) := o_ne h69
        obtain ⟨b72, o73, k74, n75⟩ := gO_12_17 L k_a0
        obtain rfl := gS_12_17 L k_a0 o73
        refine ok_at o73 ?_
        have t76 := ti_tn x1
        refine ok_gd (fun hc77 => ?_) ?_
        · rcases hc77 with hc77 | hc77
          · have c78 : x1.toInt < (0 : Int) := o_lt hc77
            omega
          · omega
        have f79 : (q_R r34.2 (Ad ad 106) x1.toNatClampNeg).toInt = (q_R r7.2 (Ad ad 106) x1.toNatClampNeg).toInt := congrArg Int32.toInt (congrFun (u42 106 (by decide) (by decide) (by decide)) _)
        have f80 : (q_R r7.2 (Ad ad 106) x1.toNatClampNeg).toInt = (q_R d1 (Ad ad 106) x1.toNatClampNeg).toInt := congrArg Int32.toInt (congrFun (u14 106 (by decide) (by decide) (by decide)) _)
        have f81 : (q_R d1 (Ad ad 106) x1.toNatClampNeg).toInt = (q_R δ (Ad ad 106) x1.toNatClampNeg).toInt := congrArg Int32.toInt (show q_R d1 (Ad ad 106) x1.toNatClampNeg = _ by rw [e2]; rfl)
        have f82 := rb_106 L I x1.toNatClampNeg
        have f83 := rb_106 L i3 x1.toNatClampNeg
        have f84 := rb_106 L i9 x1.toNatClampNeg
        have f85 := rb_106 L i36 x1.toNatClampNeg
        refine ok_ite (fun h86 => ?_) (fun h86 => ?_)
        · have c87 : (q_R r34.2 (Ad ad 106) x1.toNatClampNeg).toInt = (1000 : Int) := o_eq h86
          exact ok_some (show RI ad h.1 δ0 r34.2 ∧ (kp [(12, 0)] δ r34.2 ∧ q_V r34.2 = q_V δ ∧ kr ad [100, 102, 103, 104, 105, 106] δ r34.2) from ⟨i36, ⟨kp_w (by decide) u43, v44, kr_w (by decide) v45⟩⟩)
        · have c88 : (q_R r34.2 (Ad ad 106) x1.toNatClampNeg).toInt ≠ (1000 : Int) := o_ne h86
          refine ok_bind (k_X12_leaves L hN (a0 := a0) (x1 := x1) (x2 := x2) k_a0 (show 0 ≤ (x1).toInt by first | assumption | omega) (show (x1).toInt ≤ 3 by first | assumption | omega) (show -999 ≤ (q_R r34.2 (Ad ad 103) (x1).toNatClampNeg).toInt by first | assumption | omega) i36) (fun r89 hr90 => ?_)
          obtain ⟨i91, ⟨u93, u94, u95⟩, p92⟩ := hr90
          have u96 := kp_t u43 u93
          have v97 : q_V r89 = q_V δ := (u94).trans v44
          have v98 := kr_t v45 u95
          have f99 := rb_103 L i91 (x1).toNatClampNeg
          have f102 : (q_R r89 (Ad ad 106) (x1).toNatClampNeg).toInt = (q_R r34.2 (Ad ad 106) (x1).toNatClampNeg).toInt := congrArg Int32.toInt (congrFun (u95 106 (by decide) (by decide) (by decide)) _)
          have f103 : (q_R r34.2 (Ad ad 106) (x1).toNatClampNeg).toInt = (q_R r7.2 (Ad ad 106) (x1).toNatClampNeg).toInt := congrArg Int32.toInt (congrFun (u42 106 (by decide) (by decide) (by decide)) _)
          have f104 : (q_R r7.2 (Ad ad 106) (x1).toNatClampNeg).toInt = (q_R d1 (Ad ad 106) (x1).toNatClampNeg).toInt := congrArg Int32.toInt (congrFun (u14 106 (by decide) (by decide) (by decide)) _)
          have f105 : (q_R d1 (Ad ad 106) (x1).toNatClampNeg).toInt = (q_R δ (Ad ad 106) (x1).toNatClampNeg).toInt := congrArg Int32.toInt (show q_R d1 (Ad ad 106) (x1).toNatClampNeg = _ by rw [e2]; rfl)
          have f106 := rb_106 L I (x1).toNatClampNeg
          have f107 := rb_106 L i3 (x1).toNatClampNeg
          have f108 := rb_106 L i9 (x1).toNatClampNeg
          have f109 := rb_106 L i36 (x1).toNatClampNeg
          have f110 := rb_106 L i91 (x1).toNatClampNeg
          refine ok_bind (k_X12_notesDown L hN (a0 := a0) (x1 := x1) (x2 := x2) (x3 := (0 : Int32)) k_a0 (show 0 ≤ (x1).toInt by first | assumption | omega) (show (x1).toInt ≤ 3 by first | assumption | omega) (show (q_R r89 (Ad ad 106) (x1).toNatClampNeg).toInt < 1000 by first | assumption | omega) i91) (fun r100 hr101 => ?_)
          obtain ⟨i111, ⟨u113, u114, u115⟩, p112⟩ := hr101
          have u116 := kp_t u96 u113
          have v117 : q_V r100 = q_V δ := (u114).trans v97
          have v118 := kr_t v98 u115
          have f119 := rb_106 L i111 (x1).toNatClampNeg
          exact ok_some (show RI ad h.1 δ0 r100 ∧ (kp [(12, 0)] δ r100 ∧ q_V r100 = q_V δ ∧ kr ad [100, 102, 103, 104, 105, 106] δ r100) from ⟨i111, ⟨kp_w (by decide) u116, v117, kr_w (by decide) v118⟩⟩)
set_option maxHeartbeats 4000000 in
theorem k_X12_has {ad : List Nat} {h : hp} (L : Lay TLx ad h) {δ0 : dp} {N : Nat} (hN : 10000000 ≤ N) {a0 : Nat} {x1 : Int32} {x2 : Int32} (k_a0 : q_K h.1 a0 = 12) {δ : dp} (I : RI ad h.1 δ0 δ) : ok (D_X12_has N h.1 a0 x1 x2 δ) (fun r => RI ad h.1 δ0 r.2 ∧ (kp [(12, 0)] δ r.2 ∧ q_V r.2 = q_V δ ∧ kr ad [100] δ r.2)) := by
  unfold D_X12_has
  refine ok_bdv (fun d1 e2 => ?_)
  have i3 : RI ad h.1 δ0 d1 := by rw [e2]; exact cs_12_0 L I
  have u4 := kp_I kp_r e2
  have v5 : q_V d1 = q_V δ := ((show q_V d1 = q_V δ by rw [e2]; rfl)).trans rfl
  have v6 := kr_N (kr_r (ad := ad)) (show q_R d1 = q_R δ by rw [e2]; rfl)
  refine ok_bind (k_X12_isHouse L hN (a0 := a0) (x1 := x1) (x2 := (1 : Int32)) k_a0 (show (1 : Int) ≠ 0 by first | assumption | omega) i3) (fun r7 hr8 => ?_)
  obtain ⟨i9, ⟨u12, u13, u14⟩, p10, p11⟩ := hr8
  have u15 := kp_t u4 u12
  have v16 : q_V r7.2 = q_V δ := (u13).trans v5
  have v17 := kr_t v6 u14
  have f18 := bo_l p10
  have f19 := ti_b r7.1
  have f20 := ti_b x1
  have f21 := ti_b r7.1
  refine ok_ite (fun h22 => ?_) (fun h22 => ?_)
  · have c23 : r7.1.toInt = (0 : Int) := o_eq h22
    unfold J_X12_has_28
    refine ok_gp (by decide) ?_
    exact ok_some (show RI ad h.1 δ0 r7.2 ∧ (kp [(12, 0)] δ r7.2 ∧ q_V r7.2 = q_V δ ∧ kr ad [100] δ r7.2) from ⟨i9, ⟨kp_w (by decide) u15, v16, kr_w (by decide) v17⟩⟩)
  · have c24 : r7.1.toInt ≠ (0 : Int) := o_ne h22
    refine ok_bind (k_X12_isNumber L hN (a0 := a0) (x1 := x2) k_a0 i9) (fun r25 hr26 => ?_)
    obtain ⟨i27, p28, p29⟩ := hr26
    try rw [i27]
    have f30 := bo_l p28
    have f31 := ti_b r25.1
    have f32 := ti_b x2
    have f33 := ti_b r25.1
    refine ok_bind (k_X12_may L hN (a0 := a0) (x1 := r25.1) (x2 := (2 : Int32)) (x3 := (2 : Int32)) k_a0 (show (2 : Int) ≠ 0 by first | assumption | omega) (show 0 ≤ (2 : Int) by first | assumption | omega) (show (2 : Int) ≤ 2 by first | assumption | omega) i9) (fun r34 hr35 => ?_)
    obtain ⟨i36, ⟨u40, u41, u42⟩, p37, p38, p39⟩ := hr35
    have u43 := kp_t u15 u40
    have v44 : q_V r34.2 = q_V δ := (u41).trans v16
    have v45 := kr_t v17 u42
    have f46 := bo_l p37
    have f47 := ti_b r34.1
    have f48 := ti_b (q_I r7.2 12 0 a0)
    have f49 := ti_b r34.1
    refine ok_ite (fun h50 => ?_) (fun h50 => ?_)
    · have c51 : r34.1.toInt = (0 : Int) := o_eq h50
      unfold J_X12_has_28
      refine ok_gp (by decide) ?_
      exact ok_some (show RI ad h.1 δ0 r34.2 ∧ (kp [(12, 0)] δ r34.2 ∧ q_V r34.2 = q_V δ ∧ kr ad [100] δ r34.2) from ⟨i36, ⟨kp_w (by decide) u43, v44, kr_w (by decide) v45⟩⟩)
    · have c52 : r34.1.toInt ≠ (0 : Int) := o_ne h50
      refine ok_bind (k_X12_isThere L hN (a0 := a0) (x1 := x1) (x2 := x2) k_a0 (show 0 ≤ (x1).toInt by first | assumption | omega) (show (x1).toInt ≤ 3 by first | assumption | omega) i36) (fun r53 hr54 => ?_)
      obtain ⟨i55, p56, p57⟩ := hr54
      try rw [i55]
      have f58 := bo_l p56
      have f59 := ti_b r53.1
      have t60 := ti_tn x1
      have f61 : (q_R r34.2 (Ad ad 103) (x1).toNatClampNeg).toInt = (q_R r7.2 (Ad ad 103) (x1).toNatClampNeg).toInt := congrArg Int32.toInt (congrFun (u42 103 (by decide) (by decide) (by decide)) _)
      have f62 : (q_R r7.2 (Ad ad 103) (x1).toNatClampNeg).toInt = (q_R d1 (Ad ad 103) (x1).toNatClampNeg).toInt := congrArg Int32.toInt (congrFun (u14 103 (by decide) (by decide) (by decide)) _)
      have f63 : (q_R d1 (Ad ad 103) (x1).toNatClampNeg).toInt = (q_R δ (Ad ad 103) (x1).toNatClampNeg).toInt := congrArg Int32.toInt (show q_R d1 (Ad ad 103) (x1).toNatClampNeg = _ by rw [e2]; rfl)
      have f64 := rb_103 L I (x1).toNatClampNeg
      have f65 := rb_103 L i3 (x1).toNatClampNeg
      have f66 := rb_103 L i9 (x1).toNatClampNeg
      have f67 := rb_103 L i36 (x1).toNatClampNeg
      have f68 := ti_b r53.1
      refine ok_gp (show bo r53.1 by first | assumption | exact bo_0 | exact bo_1 | exact bo_i (by omega) (by omega)) ?_
      exact ok_some (show RI ad h.1 δ0 r34.2 ∧ (kp [(12, 0)] δ r34.2 ∧ q_V r34.2 = q_V δ ∧ kr ad [100] δ r34.2) from ⟨i36, ⟨kp_w (by decide) u43, v44, kr_w (by decide) v45⟩⟩)
set_option maxHeartbeats 4000000 in
theorem k_X12_numberAt {ad : List Nat} {h : hp} (L : Lay TLx ad h) {δ0 : dp} {N : Nat} (hN : 10000000 ≤ N) {a0 : Nat} {x1 : Int32} {x2 : Int32} (k_a0 : q_K h.1 a0 = 12) {δ : dp} (z0 : 0 ≤ (x1).toInt) (z1 : (x1).toInt ≤ 3) (I : RI ad h.1 δ0 δ) : ok (D_X12_numberAt N h.1 a0 x1 x2 δ) (fun r => r.2 = δ) := by
  unfold D_X12_numberAt
  have f1 := ti_b x1
  obtain ⟨b2, o3, k4, n5⟩ := gO_12_14 L k_a0
  obtain rfl := gS_12_14 L k_a0 o3
  refine ok_at o3 ?_
  have t6 := ti_tn x1
  refine ok_gd (fun hc7 => ?_) ?_
  · rcases hc7 with hc7 | hc7
    · have c8 : x1.toInt < (0 : Int) := o_lt hc7
      omega
    · omega
  refine ok_bind (k_X12_within L hN (x0 := x2) (x1 := (0 : Int32)) (x2 := ((q_R δ (Ad ad 103) x1.toNatClampNeg) - (1 : Int32)))  I) (fun r9 hr10 => ?_)
  obtain ⟨i11, p12, p13, p14⟩ := hr10
  try rw [i11]
  have f15 := bo_l p12
  have f16 := ti_b r9.1
  have f17 := ti_b x2
  have f18 := rb_103 L I x1.toNatClampNeg
  first | (have q20 := te_subc (c := 1) (n := 1) rfl (q_R δ (Ad ad 103) x1.toNatClampNeg) (by omega) (by omega); obtain ⟨f21, f22, f23⟩ := q20) | (obtain ⟨q20, f21, f22, f23⟩ := ti_subc (c := 1) (n := 1) rfl (q_R δ (Ad ad 103) x1.toNatClampNeg))
  replace p13 : ((r9.1).toInt = 1 → (0 : Int) ≤ (x2).toInt ∧ (x2).toInt ≤ (((q_R δ (Ad ad 103) x1.toNatClampNeg) - (1 : Int32))).toInt) := p13
  replace p14 : ((r9.1).toInt = 0 → (x2).toInt < (0 : Int) ∨ (((q_R δ (Ad ad 103) x1.toNatClampNeg) - (1 : Int32))).toInt < (x2).toInt) := p14
  have f24 := ti_b r9.1
  refine ok_ite (fun h25 => ?_) (fun h25 => ?_)
  · have c26 : r9.1.toInt = (0 : Int) := o_eq h25
    unfold J_X12_numberAt_32
    exact ok_some (show δ = δ from rfl)
  · have c27 : r9.1.toInt ≠ (0 : Int) := o_ne h25
    obtain ⟨b28, o29, k30, n31, w32⟩ := gO_12_13 L k_a0
    obtain rfl := gS_12_13 L k_a0 o29
    refine ok_at o29 ?_
    first | (have q34 := te_mulc (c := 2000) (n := 2000) rfl x1 (by omega) (by omega); obtain ⟨f35, f36, f37⟩ := q34) | (obtain ⟨q34, f35, f36, f37⟩ := ti_mulc (c := 2000) (n := 2000) rfl x1)
    first | (have q39 := te_add ((2000 : Int32) * x1) x2 (by omega) (by omega); obtain ⟨f40, f41, f42⟩ := q39) | (obtain ⟨q39, f40, f41, f42⟩ := ti_add ((2000 : Int32) * x1) x2)
    have t43 := ti_tn (((2000 : Int32) * x1) + x2)
    refine ok_gd (fun hc44 => ?_) ?_
    · rcases hc44 with hc44 | hc44
      · have c45 : (((2000 : Int32) * x1) + x2).toInt < (0 : Int) := o_lt hc44
        omega
      · omega
    unfold J_X12_numberAt_32
    exact ok_some (show δ = δ from rfl)
set_option maxHeartbeats 4000000 in
theorem k_X12_of_ {ad : List Nat} {h : hp} (L : Lay TLx ad h) {δ0 : dp} {N : Nat} (hN : 10000000 ≤ N) {a0 : Nat} {x1 : Int32} {x2 : Int32} (k_a0 : q_K h.1 a0 = 12) {δ : dp} (I : RI ad h.1 δ0 δ) : ok (D_X12_of_ N h.1 a0 x1 x2 δ) (fun r => RI ad h.1 δ0 r.2 ∧ (kp [(12, 0)] δ r.2 ∧ q_V r.2 = q_V δ ∧ kr ad [100] δ r.2)) := by
  unfold D_X12_of_
  refine ok_bdv (fun d1 e2 => ?_)
  have i3 : RI ad h.1 δ0 d1 := by rw [e2]; exact cs_12_0 L I
  have u4 := kp_I kp_r e2
  have v5 : q_V d1 = q_V δ := ((show q_V d1 = q_V δ by rw [e2]; rfl)).trans rfl
  have v6 := kr_N (kr_r (ad := ad)) (show q_R d1 = q_R δ by rw [e2]; rfl)
  refine ok_bind (k_X12_isHouse L hN (a0 := a0) (x1 := x1) (x2 := (1 : Int32)) k_a0 (show (1 : Int) ≠ 0 by first | assumption | omega) i3) (fun r7 hr8 => ?_)
  obtain ⟨i9, ⟨u12, u13, u14⟩, p10, p11⟩ := hr8
  have u15 := kp_t u4 u12
  have v16 : q_V r7.2 = q_V δ := (u13).trans v5
  have v17 := kr_t v6 u14
  have f18 := bo_l p10
  have f19 := ti_b r7.1
  have f20 := ti_b x1
  have f21 := ti_b r7.1
  refine ok_ite (fun h22 => ?_) (fun h22 => ?_)
  · have c23 : r7.1.toInt = (0 : Int) := o_eq h22
    unfold J_X12_of__29
    exact ok_some (show RI ad h.1 δ0 r7.2 ∧ (kp [(12, 0)] δ r7.2 ∧ q_V r7.2 = q_V δ ∧ kr ad [100] δ r7.2) from ⟨i9, ⟨kp_w (by decide) u15, v16, kr_w (by decide) v17⟩⟩)
  · have c24 : r7.1.toInt ≠ (0 : Int) := o_ne h22
    refine ok_bind (k_X12_within L hN (x0 := x2) (x1 := (0 : Int32)) (x2 := (3 : Int32))  i9) (fun r25 hr26 => ?_)
    obtain ⟨i27, p28, p29, p30⟩ := hr26
    try rw [i27]
    have f31 := bo_l p28
    have f32 := ti_b r25.1
    have f33 := ti_b x2
    replace p29 : ((r25.1).toInt = 1 → (0 : Int) ≤ (x2).toInt ∧ (x2).toInt ≤ (3 : Int)) := p29
    replace p30 : ((r25.1).toInt = 0 → (x2).toInt < (0 : Int) ∨ (3 : Int) < (x2).toInt) := p30
    have f34 := ti_b r25.1
    refine ok_bind (k_X12_may L hN (a0 := a0) (x1 := r25.1) (x2 := (2 : Int32)) (x3 := (2 : Int32)) k_a0 (show (2 : Int) ≠ 0 by first | assumption | omega) (show 0 ≤ (2 : Int) by first | assumption | omega) (show (2 : Int) ≤ 2 by first | assumption | omega) i9) (fun r35 hr36 => ?_)
    obtain ⟨i37, ⟨u41, u42, u43⟩, p38, p39, p40⟩ := hr36
    have u44 := kp_t u15 u41
    have v45 : q_V r35.2 = q_V δ := (u42).trans v16
    have v46 := kr_t v17 u43
    have f47 := bo_l p38
    have f48 := ti_b r35.1
    have f49 := ti_b (q_I r7.2 12 0 a0)
    have f50 := ti_b r35.1
    refine ok_ite (fun h51 => ?_) (fun h51 => ?_)
    · have c52 : r35.1.toInt = (0 : Int) := o_eq h51
      unfold J_X12_of__29
      exact ok_some (show RI ad h.1 δ0 r35.2 ∧ (kp [(12, 0)] δ r35.2 ∧ q_V r35.2 = q_V δ ∧ kr ad [100] δ r35.2) from ⟨i37, ⟨kp_w (by decide) u44, v45, kr_w (by decide) v46⟩⟩)
    · have c53 : r35.1.toInt ≠ (0 : Int) := o_ne h51
      refine ok_ite (fun h54 => ?_) (fun h54 => ?_)
      · have c55 : x2.toInt = (0 : Int) := o_eq h54
        obtain ⟨b56, o57, k58, n59⟩ := gO_12_14 L k_a0
        obtain rfl := gS_12_14 L k_a0 o57
        refine ok_at o57 ?_
        have t60 := ti_tn x1
        refine ok_gd (fun hc61 => ?_) ?_
        · rcases hc61 with hc61 | hc61
          · have c62 : x1.toInt < (0 : Int) := o_lt hc61
            omega
          · omega
        unfold J_X12_of__85
        exact ok_some (show RI ad h.1 δ0 r35.2 ∧ (kp [(12, 0)] δ r35.2 ∧ q_V r35.2 = q_V δ ∧ kr ad [100] δ r35.2) from ⟨i37, ⟨kp_w (by decide) u44, v45, kr_w (by decide) v46⟩⟩)
      · have c63 : x2.toInt ≠ (0 : Int) := o_ne h54
        refine ok_ite (fun h64 => ?_) (fun h64 => ?_)
        · have c65 : x2.toInt = (1 : Int) := o_eq h64
          refine ok_bind (k_X12_numberAt L hN (a0 := a0) (x1 := x1) (x2 := (0 : Int32)) k_a0 (show 0 ≤ (x1).toInt by first | assumption | omega) (show (x1).toInt ≤ 3 by first | assumption | omega) i37) (fun r66 hr67 => ?_)
          have i68 := hr67
          try rw [i68]
          have f69 := ti_b r66.1
          unfold J_X12_of__85
          exact ok_some (show RI ad h.1 δ0 r35.2 ∧ (kp [(12, 0)] δ r35.2 ∧ q_V r35.2 = q_V δ ∧ kr ad [100] δ r35.2) from ⟨i37, ⟨kp_w (by decide) u44, v45, kr_w (by decide) v46⟩⟩)
        · have c70 : x2.toInt ≠ (1 : Int) := o_ne h64
          refine ok_ite (fun h71 => ?_) (fun h71 => ?_)
          · have c72 : x2.toInt = (2 : Int) := o_eq h71
            obtain ⟨b73, o74, k75, n76⟩ := gO_12_14 L k_a0
            obtain rfl := gS_12_14 L k_a0 o74
            refine ok_at o74 ?_
            have t77 := ti_tn x1
            refine ok_gd (fun hc78 => ?_) ?_
            · rcases hc78 with hc78 | hc78
              · have c79 : x1.toInt < (0 : Int) := o_lt hc78
                omega
              · omega
            refine ok_bind (k_X12_numberAt L hN (a0 := a0) (x1 := x1) (x2 := ((q_R r35.2 (Ad ad 103) x1.toNatClampNeg) - (1 : Int32))) k_a0 (show 0 ≤ (x1).toInt by first | assumption | omega) (show (x1).toInt ≤ 3 by first | assumption | omega) i37) (fun r80 hr81 => ?_)
            have i82 := hr81
            try rw [i82]
            have f83 := ti_b r80.1
            unfold J_X12_of__85
            exact ok_some (show RI ad h.1 δ0 r35.2 ∧ (kp [(12, 0)] δ r35.2 ∧ q_V r35.2 = q_V δ ∧ kr ad [100] δ r35.2) from ⟨i37, ⟨kp_w (by decide) u44, v45, kr_w (by decide) v46⟩⟩)
          · have c84 : x2.toInt ≠ (2 : Int) := o_ne h71
            obtain ⟨b85, o86, k87, n88⟩ := gO_12_17 L k_a0
            obtain rfl := gS_12_17 L k_a0 o86
            refine ok_at o86 ?_
            have t89 := ti_tn x1
            refine ok_gd (fun hc90 => ?_) ?_
            · rcases hc90 with hc90 | hc90
              · have c91 : x1.toInt < (0 : Int) := o_lt hc90
                omega
              · omega
            unfold J_X12_of__85
            exact ok_some (show RI ad h.1 δ0 r35.2 ∧ (kp [(12, 0)] δ r35.2 ∧ q_V r35.2 = q_V δ ∧ kr ad [100] δ r35.2) from ⟨i37, ⟨kp_w (by decide) u44, v45, kr_w (by decide) v46⟩⟩)
set_option maxHeartbeats 4000000 in
theorem k_X12_answer {ad : List Nat} {h : hp} (L : Lay TLx ad h) {δ0 : dp} {N : Nat} (hN : 10000000 ≤ N) {a0 : Nat} {x1 : Int32} {x2 : Int32} {x3 : Int32} (k_a0 : q_K h.1 a0 = 12) {δ : dp} (z0 : 0 ≤ (x1).toInt) (z1 : (x1).toInt ≤ 3) (I : RI ad h.1 δ0 δ) : ok (D_X12_answer N h.1 a0 x1 x2 x3 δ) (fun r => r.2 = δ) := by
  unfold D_X12_answer
  have f1 := ti_b x1
  have f2 := ti_b x2
  refine ok_ite (fun h3 => ?_) (fun h3 => ?_)
  · have c4 : x2.toInt = (3 : Int) := o_eq h3
    refine ok_bind (k_X12_place L hN (a0 := a0) (x1 := x1) (x2 := (x3 + (1 : Int32))) k_a0 (show 0 ≤ (x1).toInt by first | assumption | omega) (show (x1).toInt ≤ 3 by first | assumption | omega) I) (fun r5 hr6 => ?_)
    obtain ⟨i7, p8, p9⟩ := hr6
    try rw [i7]
    have f10 := ti_b r5.1
    have t11 := ti_tn x1
    have f12 := rb_103 L I (x1).toNatClampNeg
    have f13 := ti_b r5.1
    refine ok_bind (k_X12_numberAt L hN (a0 := a0) (x1 := x1) (x2 := r5.1) k_a0 (show 0 ≤ (x1).toInt by first | assumption | omega) (show (x1).toInt ≤ 3 by first | assumption | omega) I) (fun r14 hr15 => ?_)
    have i16 := hr15
    try rw [i16]
    have f17 := ti_b r14.1
    exact ok_some (show δ = δ from rfl)
  · have c18 : x2.toInt ≠ (3 : Int) := o_ne h3
    refine ok_ite (fun h19 => ?_) (fun h19 => ?_)
    · have c20 : x2.toInt = (4 : Int) := o_eq h19
      refine ok_bind (k_X12_place L hN (a0 := a0) (x1 := x1) (x2 := x3) k_a0 (show 0 ≤ (x1).toInt by first | assumption | omega) (show (x1).toInt ≤ 3 by first | assumption | omega) I) (fun r21 hr22 => ?_)
      obtain ⟨i23, p24, p25⟩ := hr22
      try rw [i23]
      have f26 := ti_b r21.1
      have t27 := ti_tn x1
      have f28 := rb_103 L I (x1).toNatClampNeg
      have f29 := ti_b r21.1
      refine ok_bind (k_X12_numberAt L hN (a0 := a0) (x1 := x1) (x2 := (r21.1 - (1 : Int32))) k_a0 (show 0 ≤ (x1).toInt by first | assumption | omega) (show (x1).toInt ≤ 3 by first | assumption | omega) I) (fun r30 hr31 => ?_)
      have i32 := hr31
      try rw [i32]
      have f33 := ti_b r30.1
      exact ok_some (show δ = δ from rfl)
    · have c34 : x2.toInt ≠ (4 : Int) := o_ne h19
      refine ok_bind (k_X12_isThere L hN (a0 := a0) (x1 := x1) (x2 := x3) k_a0 (show 0 ≤ (x1).toInt by first | assumption | omega) (show (x1).toInt ≤ 3 by first | assumption | omega) I) (fun r35 hr36 => ?_)
      obtain ⟨i37, p38, p39⟩ := hr36
      try rw [i37]
      have f40 := bo_l p38
      have f41 := ti_b r35.1
      have t42 := ti_tn x1
      have f43 := rb_103 L I (x1).toNatClampNeg
      have f44 := ti_b r35.1
      refine ok_ite (fun h45 => ?_) (fun h45 => ?_)
      · have c46 : r35.1.toInt = (0 : Int) := o_eq h45
        unfold J_X12_answer_52
        exact ok_some (show δ = δ from rfl)
      · have c47 : r35.1.toInt ≠ (0 : Int) := o_ne h45
        unfold J_X12_answer_52
        exact ok_some (show δ = δ from rfl)
set_option maxHeartbeats 4000000 in
theorem k_X12_mayAsk {ad : List Nat} {h : hp} (L : Lay TLx ad h) {δ0 : dp} {N : Nat} (hN : 10000000 ≤ N) {a0 : Nat} {x1 : Int32} {x2 : Int32} (k_a0 : q_K h.1 a0 = 12) {δ : dp} (I : RI ad h.1 δ0 δ) : ok (D_X12_mayAsk N h.1 a0 x1 x2 δ) (fun r => r.2 = δ ∧ bo (r.1) ∧ ((r.1).toInt = 1 → -1 ≤ (x2).toInt ∧ (x2).toInt ≤ 65536)) := by
  unfold D_X12_mayAsk
  have f1 := ti_b x1
  refine ok_ite (fun h2 => ?_) (fun h2 => ?_)
  · have c3 : x1.toInt = (3 : Int) := o_eq h2
    refine ok_bind (k_X12_all L hN (a0 := a0) k_a0 I) (fun r4 hr5 => ?_)
    obtain ⟨i6, p7, p8, p9, p10⟩ := hr5
    try rw [i6]
    have f11 := ti_b r4.1
    have f12 := cb_12_10 I k_a0
    have f13 := ti_b r4.1
    refine ok_bind (k_X12_within L hN (x0 := x2) (x1 := (-1 : Int32)) (x2 := (r4.1 - (1 : Int32)))  I) (fun r14 hr15 => ?_)
    obtain ⟨i16, p17, p18, p19⟩ := hr15
    try rw [i16]
    have f20 := bo_l p17
    have f21 := ti_b r14.1
    have f22 := ti_b x2
    first | (have q24 := te_subc (c := 1) (n := 1) rfl r4.1 (by omega) (by omega); obtain ⟨f25, f26, f27⟩ := q24) | (obtain ⟨q24, f25, f26, f27⟩ := ti_subc (c := 1) (n := 1) rfl r4.1)
    replace p18 : ((r14.1).toInt = 1 → (-1 : Int) ≤ (x2).toInt ∧ (x2).toInt ≤ ((r4.1 - (1 : Int32))).toInt) := p18
    replace p19 : ((r14.1).toInt = 0 → (x2).toInt < (-1 : Int) ∨ ((r4.1 - (1 : Int32))).toInt < (x2).toInt) := p19
    have f28 := ti_b r14.1
    unfold J_X12_mayAsk_41
    refine ok_gp (show bo r14.1 by first | assumption | exact bo_0 | exact bo_1 | exact bo_i (by omega) (by omega)) ?_
    exact ok_some (show δ = δ ∧ bo (r14.1) ∧ ((r14.1).toInt = 1 → -1 ≤ (x2).toInt ∧ (x2).toInt ≤ 65536) from ⟨rfl, by first | assumption | exact bo_0 | exact bo_1 | exact bo_i (by omega) (by omega), by first | assumption | omega⟩)
  · have c29 : x1.toInt ≠ (3 : Int) := o_ne h2
    refine ok_ite (fun h30 => ?_) (fun h30 => ?_)
    · have c31 : x1.toInt = (4 : Int) := o_eq h30
      refine ok_bind (k_X12_all L hN (a0 := a0) k_a0 I) (fun r32 hr33 => ?_)
      obtain ⟨i34, p35, p36, p37, p38⟩ := hr33
      try rw [i34]
      have f39 := ti_b r32.1
      have f40 := cb_12_10 I k_a0
      have f41 := ti_b r32.1
      refine ok_bind (k_X12_within L hN (x0 := x2) (x1 := (0 : Int32)) (x2 := r32.1)  I) (fun r42 hr43 => ?_)
      obtain ⟨i44, p45, p46, p47⟩ := hr43
      try rw [i44]
      have f48 := bo_l p45
      have f49 := ti_b r42.1
      have f50 := ti_b x2
      replace p46 : ((r42.1).toInt = 1 → (0 : Int) ≤ (x2).toInt ∧ (x2).toInt ≤ (r32.1).toInt) := p46
      replace p47 : ((r42.1).toInt = 0 → (x2).toInt < (0 : Int) ∨ (r32.1).toInt < (x2).toInt) := p47
      have f51 := ti_b r42.1
      unfold J_X12_mayAsk_41
      refine ok_gp (show bo r42.1 by first | assumption | exact bo_0 | exact bo_1 | exact bo_i (by omega) (by omega)) ?_
      exact ok_some (show δ = δ ∧ bo (r42.1) ∧ ((r42.1).toInt = 1 → -1 ≤ (x2).toInt ∧ (x2).toInt ≤ 65536) from ⟨rfl, by first | assumption | exact bo_0 | exact bo_1 | exact bo_i (by omega) (by omega), by first | assumption | omega⟩)
    · have c52 : x1.toInt ≠ (4 : Int) := o_ne h30
      refine ok_bind (k_X12_isNumber L hN (a0 := a0) (x1 := x2) k_a0 I) (fun r53 hr54 => ?_)
      obtain ⟨i55, p56, p57⟩ := hr54
      try rw [i55]
      have f58 := bo_l p56
      have f59 := ti_b r53.1
      have f60 := ti_b x2
      have f61 := ti_b r53.1
      unfold J_X12_mayAsk_41
      refine ok_gp (show bo r53.1 by first | assumption | exact bo_0 | exact bo_1 | exact bo_i (by omega) (by omega)) ?_
      exact ok_some (show δ = δ ∧ bo (r53.1) ∧ ((r53.1).toInt = 1 → -1 ≤ (x2).toInt ∧ (x2).toInt ≤ 65536) from ⟨rfl, by first | assumption | exact bo_0 | exact bo_1 | exact bo_i (by omega) (by omega), by first | assumption | omega⟩)
set_option maxHeartbeats 4000000 in
theorem k_X12_next {ad : List Nat} {h : hp} (L : Lay TLx ad h) {δ0 : dp} {N : Nat} (hN : 10000000 ≤ N) {a0 : Nat} {x1 : Int32} {x2 : Int32} (k_a0 : q_K h.1 a0 = 12) {δ : dp} (I : RI ad h.1 δ0 δ) : ok (D_X12_next N h.1 a0 x1 x2 δ) (fun r => RI ad h.1 δ0 r.2 ∧ (kp [(12, 0)] δ r.2 ∧ q_V r.2 = q_V δ ∧ kr ad [100] δ r.2)) := by
  unfold D_X12_next
  refine ok_bdv (fun d1 e2 => ?_)
  have i3 : RI ad h.1 δ0 d1 := by rw [e2]; exact cs_12_0 L I
  have u4 := kp_I kp_r e2
  have v5 : q_V d1 = q_V δ := ((show q_V d1 = q_V δ by rw [e2]; rfl)).trans rfl
  have v6 := kr_N (kr_r (ad := ad)) (show q_R d1 = q_R δ by rw [e2]; rfl)
  refine ok_bind (k_X12_isHouse L hN (a0 := a0) (x1 := x1) (x2 := (1 : Int32)) k_a0 (show (1 : Int) ≠ 0 by first | assumption | omega) i3) (fun r7 hr8 => ?_)
  obtain ⟨i9, ⟨u12, u13, u14⟩, p10, p11⟩ := hr8
  have u15 := kp_t u4 u12
  have v16 : q_V r7.2 = q_V δ := (u13).trans v5
  have v17 := kr_t v6 u14
  have f18 := bo_l p10
  have f19 := ti_b r7.1
  have f20 := ti_b x1
  have f21 := ti_b r7.1
  refine ok_ite (fun h22 => ?_) (fun h22 => ?_)
  · have c23 : r7.1.toInt = (0 : Int) := o_eq h22
    unfold J_X12_next_29
    exact ok_some (show RI ad h.1 δ0 r7.2 ∧ (kp [(12, 0)] δ r7.2 ∧ q_V r7.2 = q_V δ ∧ kr ad [100] δ r7.2) from ⟨i9, ⟨kp_w (by decide) u15, v16, kr_w (by decide) v17⟩⟩)
  · have c24 : r7.1.toInt ≠ (0 : Int) := o_ne h22
    refine ok_bind (k_X12_mayAsk L hN (a0 := a0) (x1 := (3 : Int32)) (x2 := x2) k_a0 i9) (fun r25 hr26 => ?_)
    obtain ⟨i27, p28, p29⟩ := hr26
    try rw [i27]
    have f30 := bo_l p28
    have f31 := ti_b r25.1
    have f32 := ti_b x2
    have f33 := ti_b r25.1
    refine ok_bind (k_X12_may L hN (a0 := a0) (x1 := r25.1) (x2 := (2 : Int32)) (x3 := (2 : Int32)) k_a0 (show (2 : Int) ≠ 0 by first | assumption | omega) (show 0 ≤ (2 : Int) by first | assumption | omega) (show (2 : Int) ≤ 2 by first | assumption | omega) i9) (fun r34 hr35 => ?_)
    obtain ⟨i36, ⟨u40, u41, u42⟩, p37, p38, p39⟩ := hr35
    have u43 := kp_t u15 u40
    have v44 : q_V r34.2 = q_V δ := (u41).trans v16
    have v45 := kr_t v17 u42
    have f46 := bo_l p37
    have f47 := ti_b r34.1
    have f48 := ti_b (q_I r7.2 12 0 a0)
    have f49 := ti_b r34.1
    refine ok_ite (fun h50 => ?_) (fun h50 => ?_)
    · have c51 : r34.1.toInt = (0 : Int) := o_eq h50
      unfold J_X12_next_29
      exact ok_some (show RI ad h.1 δ0 r34.2 ∧ (kp [(12, 0)] δ r34.2 ∧ q_V r34.2 = q_V δ ∧ kr ad [100] δ r34.2) from ⟨i36, ⟨kp_w (by decide) u43, v44, kr_w (by decide) v45⟩⟩)
    · have c52 : r34.1.toInt ≠ (0 : Int) := o_ne h50
      refine ok_bind (k_X12_answer L hN (a0 := a0) (x1 := x1) (x2 := (3 : Int32)) (x3 := x2) k_a0 (show 0 ≤ (x1).toInt by first | assumption | omega) (show (x1).toInt ≤ 3 by first | assumption | omega) i36) (fun r53 hr54 => ?_)
      have i55 := hr54
      try rw [i55]
      have f56 := ti_b r53.1
      exact ok_some (show RI ad h.1 δ0 r34.2 ∧ (kp [(12, 0)] δ r34.2 ∧ q_V r34.2 = q_V δ ∧ kr ad [100] δ r34.2) from ⟨i36, ⟨kp_w (by decide) u43, v44, kr_w (by decide) v45⟩⟩)
set_option maxHeartbeats 4000000 in
theorem k_X12_before {ad : List Nat} {h : hp} (L : Lay TLx ad h) {δ0 : dp} {N : Nat} (hN : 10000000 ≤ N) {a0 : Nat} {x1 : Int32} {x2 : Int32} (k_a0 : q_K h.1 a0 = 12) {δ : dp} (I : RI ad h.1 δ0 δ) : ok (D_X12_before N h.1 a0 x1 x2 δ) (fun r => RI ad h.1 δ0 r.2 ∧ (kp [(12, 0)] δ r.2 ∧ q_V r.2 = q_V δ ∧ kr ad [100] δ r.2)) := by
  unfold D_X12_before
  refine ok_bdv (fun d1 e2 => ?_)
  have i3 : RI ad h.1 δ0 d1 := by rw [e2]; exact cs_12_0 L I
  have u4 := kp_I kp_r e2
  have v5 : q_V d1 = q_V δ := ((show q_V d1 = q_V δ by rw [e2]; rfl)).trans rfl
  have v6 := kr_N (kr_r (ad := ad)) (show q_R d1 = q_R δ by rw [e2]; rfl)
  refine ok_bind (k_X12_isHouse L hN (a0 := a0) (x1 := x1) (x2 := (1 : Int32)) k_a0 (show (1 : Int) ≠ 0 by first | assumption | omega) i3) (fun r7 hr8 => ?_)
  obtain ⟨i9, ⟨u12, u13, u14⟩, p10, p11⟩ := hr8
  have u15 := kp_t u4 u12
  have v16 : q_V r7.2 = q_V δ := (u13).trans v5
  have v17 := kr_t v6 u14
  have f18 := bo_l p10
  have f19 := ti_b r7.1
  have f20 := ti_b x1
  have f21 := ti_b r7.1
  refine ok_ite (fun h22 => ?_) (fun h22 => ?_)
  · have c23 : r7.1.toInt = (0 : Int) := o_eq h22
    unfold J_X12_before_29
    exact ok_some (show RI ad h.1 δ0 r7.2 ∧ (kp [(12, 0)] δ r7.2 ∧ q_V r7.2 = q_V δ ∧ kr ad [100] δ r7.2) from ⟨i9, ⟨kp_w (by decide) u15, v16, kr_w (by decide) v17⟩⟩)
  · have c24 : r7.1.toInt ≠ (0 : Int) := o_ne h22
    refine ok_bind (k_X12_mayAsk L hN (a0 := a0) (x1 := (4 : Int32)) (x2 := x2) k_a0 i9) (fun r25 hr26 => ?_)
    obtain ⟨i27, p28, p29⟩ := hr26
    try rw [i27]
    have f30 := bo_l p28
    have f31 := ti_b r25.1
    have f32 := ti_b x2
    have f33 := ti_b r25.1
    refine ok_bind (k_X12_may L hN (a0 := a0) (x1 := r25.1) (x2 := (2 : Int32)) (x3 := (2 : Int32)) k_a0 (show (2 : Int) ≠ 0 by first | assumption | omega) (show 0 ≤ (2 : Int) by first | assumption | omega) (show (2 : Int) ≤ 2 by first | assumption | omega) i9) (fun r34 hr35 => ?_)
    obtain ⟨i36, ⟨u40, u41, u42⟩, p37, p38, p39⟩ := hr35
    have u43 := kp_t u15 u40
    have v44 : q_V r34.2 = q_V δ := (u41).trans v16
    have v45 := kr_t v17 u42
    have f46 := bo_l p37
    have f47 := ti_b r34.1
    have f48 := ti_b (q_I r7.2 12 0 a0)
    have f49 := ti_b r34.1
    refine ok_ite (fun h50 => ?_) (fun h50 => ?_)
    · have c51 : r34.1.toInt = (0 : Int) := o_eq h50
      unfold J_X12_before_29
      exact ok_some (show RI ad h.1 δ0 r34.2 ∧ (kp [(12, 0)] δ r34.2 ∧ q_V r34.2 = q_V δ ∧ kr ad [100] δ r34.2) from ⟨i36, ⟨kp_w (by decide) u43, v44, kr_w (by decide) v45⟩⟩)
    · have c52 : r34.1.toInt ≠ (0 : Int) := o_ne h50
      refine ok_bind (k_X12_answer L hN (a0 := a0) (x1 := x1) (x2 := (4 : Int32)) (x3 := x2) k_a0 (show 0 ≤ (x1).toInt by first | assumption | omega) (show (x1).toInt ≤ 3 by first | assumption | omega) i36) (fun r53 hr54 => ?_)
      have i55 := hr54
      try rw [i55]
      have f56 := ti_b r53.1
      exact ok_some (show RI ad h.1 δ0 r34.2 ∧ (kp [(12, 0)] δ r34.2 ∧ q_V r34.2 = q_V δ ∧ kr ad [100] δ r34.2) from ⟨i36, ⟨kp_w (by decide) u43, v44, kr_w (by decide) v45⟩⟩)
set_option maxHeartbeats 4000000 in
theorem k_X12_kth {ad : List Nat} {h : hp} (L : Lay TLx ad h) {δ0 : dp} {N : Nat} (hN : 10000000 ≤ N) {a0 : Nat} {x1 : Int32} {x2 : Int32} (k_a0 : q_K h.1 a0 = 12) {δ : dp} (I : RI ad h.1 δ0 δ) : ok (D_X12_kth N h.1 a0 x1 x2 δ) (fun r => RI ad h.1 δ0 r.2 ∧ (kp [(12, 0)] δ r.2 ∧ q_V r.2 = q_V δ ∧ kr ad [100] δ r.2)) := by
  unfold D_X12_kth
  refine ok_bdv (fun d1 e2 => ?_)
  have i3 : RI ad h.1 δ0 d1 := by rw [e2]; exact cs_12_0 L I
  have u4 := kp_I kp_r e2
  have v5 : q_V d1 = q_V δ := ((show q_V d1 = q_V δ by rw [e2]; rfl)).trans rfl
  have v6 := kr_N (kr_r (ad := ad)) (show q_R d1 = q_R δ by rw [e2]; rfl)
  refine ok_bind (k_X12_isHouse L hN (a0 := a0) (x1 := x1) (x2 := (1 : Int32)) k_a0 (show (1 : Int) ≠ 0 by first | assumption | omega) i3) (fun r7 hr8 => ?_)
  obtain ⟨i9, ⟨u12, u13, u14⟩, p10, p11⟩ := hr8
  have u15 := kp_t u4 u12
  have v16 : q_V r7.2 = q_V δ := (u13).trans v5
  have v17 := kr_t v6 u14
  have f18 := bo_l p10
  have f19 := ti_b r7.1
  have f20 := ti_b x1
  have f21 := ti_b r7.1
  refine ok_ite (fun h22 => ?_) (fun h22 => ?_)
  · have c23 : r7.1.toInt = (0 : Int) := o_eq h22
    exact ok_some (show RI ad h.1 δ0 r7.2 ∧ (kp [(12, 0)] δ r7.2 ∧ q_V r7.2 = q_V δ ∧ kr ad [100] δ r7.2) from ⟨i9, ⟨kp_w (by decide) u15, v16, kr_w (by decide) v17⟩⟩)
  · have c24 : r7.1.toInt ≠ (0 : Int) := o_ne h22
    refine ok_bind (k_X12_numberAt L hN (a0 := a0) (x1 := x1) (x2 := x2) k_a0 (show 0 ≤ (x1).toInt by first | assumption | omega) (show (x1).toInt ≤ 3 by first | assumption | omega) i9) (fun r25 hr26 => ?_)
    have i27 := hr26
    try rw [i27]
    have f28 := ti_b r25.1
    exact ok_some (show RI ad h.1 δ0 r7.2 ∧ (kp [(12, 0)] δ r7.2 ∧ q_V r7.2 = q_V δ ∧ kr ad [100] δ r7.2) from ⟨i9, ⟨kp_w (by decide) u15, v16, kr_w (by decide) v17⟩⟩)
set_option maxHeartbeats 4000000 in
theorem k_X12_between {ad : List Nat} {h : hp} (L : Lay TLx ad h) {δ0 : dp} {N : Nat} (hN : 10000000 ≤ N) {a0 : Nat} {x1 : Int32} {x2 : Int32} {x3 : Int32} (k_a0 : q_K h.1 a0 = 12) {δ : dp} (I : RI ad h.1 δ0 δ) : ok (D_X12_between N h.1 a0 x1 x2 x3 δ) (fun r => RI ad h.1 δ0 r.2 ∧ (kp [(12, 0)] δ r.2 ∧ q_V r.2 = q_V δ ∧ kr ad [100] δ r.2)) := by
  unfold D_X12_between
  refine ok_bdv (fun d1 e2 => ?_)
  have i3 : RI ad h.1 δ0 d1 := by rw [e2]; exact cs_12_0 L I
  have u4 := kp_I kp_r e2
  have v5 : q_V d1 = q_V δ := ((show q_V d1 = q_V δ by rw [e2]; rfl)).trans rfl
  have v6 := kr_N (kr_r (ad := ad)) (show q_R d1 = q_R δ by rw [e2]; rfl)
  refine ok_bind (k_X12_isHouse L hN (a0 := a0) (x1 := x1) (x2 := (1 : Int32)) k_a0 (show (1 : Int) ≠ 0 by first | assumption | omega) i3) (fun r7 hr8 => ?_)
  obtain ⟨i9, ⟨u12, u13, u14⟩, p10, p11⟩ := hr8
  have u15 := kp_t u4 u12
  have v16 : q_V r7.2 = q_V δ := (u13).trans v5
  have v17 := kr_t v6 u14
  have f18 := bo_l p10
  have f19 := ti_b r7.1
  have f20 := ti_b x1
  have f21 := ti_b r7.1
  refine ok_ite (fun h22 => ?_) (fun h22 => ?_)
  · have c23 : r7.1.toInt = (0 : Int) := o_eq h22
    unfold J_X12_between_44
    exact ok_some (show RI ad h.1 δ0 r7.2 ∧ (kp [(12, 0)] δ r7.2 ∧ q_V r7.2 = q_V δ ∧ kr ad [100] δ r7.2) from ⟨i9, ⟨kp_w (by decide) u15, v16, kr_w (by decide) v17⟩⟩)
  · have c24 : r7.1.toInt ≠ (0 : Int) := o_ne h22
    refine ok_bind (k_X12_isNumber L hN (a0 := a0) (x1 := x2) k_a0 i9) (fun r25 hr26 => ?_)
    obtain ⟨i27, p28, p29⟩ := hr26
    try rw [i27]
    have f30 := bo_l p28
    have f31 := ti_b r25.1
    have f32 := ti_b x2
    have f33 := ti_b r25.1
    refine ok_ite (fun h34 => ?_) (fun h34 => ?_)
    · have c35 : r25.1.toInt = (0 : Int) := o_eq h34
      unfold J_X12_between_35
      unfold J_X12_between_36
      refine ok_bind (k_X12_may L hN (a0 := a0) (x1 := (0 : Int32)) (x2 := (2 : Int32)) (x3 := (2 : Int32)) k_a0 (show (2 : Int) ≠ 0 by first | assumption | omega) (show 0 ≤ (2 : Int) by first | assumption | omega) (show (2 : Int) ≤ 2 by first | assumption | omega) i9) (fun r36 hr37 => ?_)
      obtain ⟨i38, ⟨u42, u43, u44⟩, p39, p40, p41⟩ := hr37
      have u45 := kp_t u15 u42
      have v46 : q_V r36.2 = q_V δ := (u43).trans v16
      have v47 := kr_t v17 u44
      have f48 := bo_l p39
      have f49 := ti_b r36.1
      replace p40 : ((r36.1).toInt = 1 → (0 : Int) ≠ 0) := p40
      have f50 := ti_b (q_I r7.2 12 0 a0)
      replace p41 : ((q_I r7.2 12 0 a0).toInt = 0 → (r36.1).toInt = 0 → (0 : Int) = 0) := p41
      have f51 := ti_b r36.1
      refine ok_ite (fun h52 => ?_) (fun h52 => ?_)
      · have c53 : r36.1.toInt = (0 : Int) := o_eq h52
        unfold J_X12_between_44
        exact ok_some (show RI ad h.1 δ0 r36.2 ∧ (kp [(12, 0)] δ r36.2 ∧ q_V r36.2 = q_V δ ∧ kr ad [100] δ r36.2) from ⟨i38, ⟨kp_w (by decide) u45, v46, kr_w (by decide) v47⟩⟩)
      · have c54 : r36.1.toInt ≠ (0 : Int) := o_ne h52
        have f55 := ti_b x3
        refine ok_ite (fun h56 => ?_) (fun h56 => ?_)
        · have c57 : x2.toInt ≤ x3.toInt := o_le h56
          refine ok_bind (k_X12_place L hN (a0 := a0) (x1 := x1) (x2 := (x3 + (1 : Int32))) k_a0 (show 0 ≤ (x1).toInt by first | assumption | omega) (show (x1).toInt ≤ 3 by first | assumption | omega) i38) (fun r58 hr59 => ?_)
          obtain ⟨i60, p61, p62⟩ := hr59
          try rw [i60]
          have f63 := ti_b r58.1
          have t64 := ti_tn x1
          have f65 : (q_R r36.2 (Ad ad 103) (x1).toNatClampNeg).toInt = (q_R r7.2 (Ad ad 103) (x1).toNatClampNeg).toInt := congrArg Int32.toInt (congrFun (u44 103 (by decide) (by decide) (by decide)) _)
          have f66 : (q_R r7.2 (Ad ad 103) (x1).toNatClampNeg).toInt = (q_R d1 (Ad ad 103) (x1).toNatClampNeg).toInt := congrArg Int32.toInt (congrFun (u14 103 (by decide) (by decide) (by decide)) _)
          have f67 : (q_R d1 (Ad ad 103) (x1).toNatClampNeg).toInt = (q_R δ (Ad ad 103) (x1).toNatClampNeg).toInt := congrArg Int32.toInt (show q_R d1 (Ad ad 103) (x1).toNatClampNeg = _ by rw [e2]; rfl)
          have f68 := rb_103 L I (x1).toNatClampNeg
          have f69 := rb_103 L i3 (x1).toNatClampNeg
          have f70 := rb_103 L i9 (x1).toNatClampNeg
          have f71 := rb_103 L i38 (x1).toNatClampNeg
          have f72 := ti_b r58.1
          refine ok_bind (k_X12_place L hN (a0 := a0) (x1 := x1) (x2 := x2) k_a0 (show 0 ≤ (x1).toInt by first | assumption | omega) (show (x1).toInt ≤ 3 by first | assumption | omega) i38) (fun r73 hr74 => ?_)
          obtain ⟨i75, p76, p77⟩ := hr74
          try rw [i75]
          have f78 := ti_b r73.1
          have f79 := ti_b r73.1
          unfold J_X12_between_70
          exact ok_some (show RI ad h.1 δ0 r36.2 ∧ (kp [(12, 0)] δ r36.2 ∧ q_V r36.2 = q_V δ ∧ kr ad [100] δ r36.2) from ⟨i38, ⟨kp_w (by decide) u45, v46, kr_w (by decide) v47⟩⟩)
        · have c80 : x3.toInt < x2.toInt := o_nle h56
          unfold J_X12_between_70
          exact ok_some (show RI ad h.1 δ0 r36.2 ∧ (kp [(12, 0)] δ r36.2 ∧ q_V r36.2 = q_V δ ∧ kr ad [100] δ r36.2) from ⟨i38, ⟨kp_w (by decide) u45, v46, kr_w (by decide) v47⟩⟩)
    · have c81 : r25.1.toInt ≠ (0 : Int) := o_ne h34
      refine ok_bind (k_X12_isNumber L hN (a0 := a0) (x1 := x3) k_a0 i9) (fun r82 hr83 => ?_)
      obtain ⟨i84, p85, p86⟩ := hr83
      try rw [i84]
      have f87 := bo_l p85
      have f88 := ti_b r82.1
      have f89 := ti_b x3
      have f90 := ti_b r82.1
      refine ok_ite (fun h91 => ?_) (fun h91 => ?_)
      · have c92 : r82.1.toInt = (0 : Int) := o_eq h91
        unfold J_X12_between_35
        unfold J_X12_between_36
        refine ok_bind (k_X12_may L hN (a0 := a0) (x1 := (0 : Int32)) (x2 := (2 : Int32)) (x3 := (2 : Int32)) k_a0 (show (2 : Int) ≠ 0 by first | assumption | omega) (show 0 ≤ (2 : Int) by first | assumption | omega) (show (2 : Int) ≤ 2 by first | assumption | omega) i9) (fun r93 hr94 => ?_)
        obtain ⟨i95, ⟨u99, u100, u101⟩, p96, p97, p98⟩ := hr94
        have u102 := kp_t u15 u99
        have v103 : q_V r93.2 = q_V δ := (u100).trans v16
        have v104 := kr_t v17 u101
        have f105 := bo_l p96
        have f106 := ti_b r93.1
        replace p97 : ((r93.1).toInt = 1 → (0 : Int) ≠ 0) := p97
        have f107 := ti_b (q_I r7.2 12 0 a0)
        replace p98 : ((q_I r7.2 12 0 a0).toInt = 0 → (r93.1).toInt = 0 → (0 : Int) = 0) := p98
        have f108 := ti_b r93.1
        refine ok_ite (fun h109 => ?_) (fun h109 => ?_)
        · have c110 : r93.1.toInt = (0 : Int) := o_eq h109
          unfold J_X12_between_44
          exact ok_some (show RI ad h.1 δ0 r93.2 ∧ (kp [(12, 0)] δ r93.2 ∧ q_V r93.2 = q_V δ ∧ kr ad [100] δ r93.2) from ⟨i95, ⟨kp_w (by decide) u102, v103, kr_w (by decide) v104⟩⟩)
        · have c111 : r93.1.toInt ≠ (0 : Int) := o_ne h109
          refine ok_ite (fun h112 => ?_) (fun h112 => ?_)
          · have c113 : x2.toInt ≤ x3.toInt := o_le h112
            refine ok_bind (k_X12_place L hN (a0 := a0) (x1 := x1) (x2 := (x3 + (1 : Int32))) k_a0 (show 0 ≤ (x1).toInt by first | assumption | omega) (show (x1).toInt ≤ 3 by first | assumption | omega) i95) (fun r114 hr115 => ?_)
            obtain ⟨i116, p117, p118⟩ := hr115
            try rw [i116]
            have f119 := ti_b r114.1
            have t120 := ti_tn x1
            have f121 : (q_R r93.2 (Ad ad 103) (x1).toNatClampNeg).toInt = (q_R r7.2 (Ad ad 103) (x1).toNatClampNeg).toInt := congrArg Int32.toInt (congrFun (u101 103 (by decide) (by decide) (by decide)) _)
            have f122 : (q_R r7.2 (Ad ad 103) (x1).toNatClampNeg).toInt = (q_R d1 (Ad ad 103) (x1).toNatClampNeg).toInt := congrArg Int32.toInt (congrFun (u14 103 (by decide) (by decide) (by decide)) _)
            have f123 : (q_R d1 (Ad ad 103) (x1).toNatClampNeg).toInt = (q_R δ (Ad ad 103) (x1).toNatClampNeg).toInt := congrArg Int32.toInt (show q_R d1 (Ad ad 103) (x1).toNatClampNeg = _ by rw [e2]; rfl)
            have f124 := rb_103 L I (x1).toNatClampNeg
            have f125 := rb_103 L i3 (x1).toNatClampNeg
            have f126 := rb_103 L i9 (x1).toNatClampNeg
            have f127 := rb_103 L i95 (x1).toNatClampNeg
            have f128 := ti_b r114.1
            refine ok_bind (k_X12_place L hN (a0 := a0) (x1 := x1) (x2 := x2) k_a0 (show 0 ≤ (x1).toInt by first | assumption | omega) (show (x1).toInt ≤ 3 by first | assumption | omega) i95) (fun r129 hr130 => ?_)
            obtain ⟨i131, p132, p133⟩ := hr130
            try rw [i131]
            have f134 := ti_b r129.1
            have f135 := ti_b r129.1
            unfold J_X12_between_70
            exact ok_some (show RI ad h.1 δ0 r93.2 ∧ (kp [(12, 0)] δ r93.2 ∧ q_V r93.2 = q_V δ ∧ kr ad [100] δ r93.2) from ⟨i95, ⟨kp_w (by decide) u102, v103, kr_w (by decide) v104⟩⟩)
          · have c136 : x3.toInt < x2.toInt := o_nle h112
            unfold J_X12_between_70
            exact ok_some (show RI ad h.1 δ0 r93.2 ∧ (kp [(12, 0)] δ r93.2 ∧ q_V r93.2 = q_V δ ∧ kr ad [100] δ r93.2) from ⟨i95, ⟨kp_w (by decide) u102, v103, kr_w (by decide) v104⟩⟩)
      · have c137 : r82.1.toInt ≠ (0 : Int) := o_ne h91
        unfold J_X12_between_36
        refine ok_bind (k_X12_may L hN (a0 := a0) (x1 := (1 : Int32)) (x2 := (2 : Int32)) (x3 := (2 : Int32)) k_a0 (show (2 : Int) ≠ 0 by first | assumption | omega) (show 0 ≤ (2 : Int) by first | assumption | omega) (show (2 : Int) ≤ 2 by first | assumption | omega) i9) (fun r138 hr139 => ?_)
        obtain ⟨i140, ⟨u144, u145, u146⟩, p141, p142, p143⟩ := hr139
        have u147 := kp_t u15 u144
        have v148 : q_V r138.2 = q_V δ := (u145).trans v16
        have v149 := kr_t v17 u146
        have f150 := bo_l p141
        have f151 := ti_b r138.1
        replace p142 : ((r138.1).toInt = 1 → (1 : Int) ≠ 0) := p142
        have f152 := ti_b (q_I r7.2 12 0 a0)
        replace p143 : ((q_I r7.2 12 0 a0).toInt = 0 → (r138.1).toInt = 0 → (1 : Int) = 0) := p143
        have f153 := ti_b r138.1
        refine ok_ite (fun h154 => ?_) (fun h154 => ?_)
        · have c155 : r138.1.toInt = (0 : Int) := o_eq h154
          unfold J_X12_between_44
          exact ok_some (show RI ad h.1 δ0 r138.2 ∧ (kp [(12, 0)] δ r138.2 ∧ q_V r138.2 = q_V δ ∧ kr ad [100] δ r138.2) from ⟨i140, ⟨kp_w (by decide) u147, v148, kr_w (by decide) v149⟩⟩)
        · have c156 : r138.1.toInt ≠ (0 : Int) := o_ne h154
          refine ok_ite (fun h157 => ?_) (fun h157 => ?_)
          · have c158 : x2.toInt ≤ x3.toInt := o_le h157
            refine ok_bind (k_X12_place L hN (a0 := a0) (x1 := x1) (x2 := (x3 + (1 : Int32))) k_a0 (show 0 ≤ (x1).toInt by first | assumption | omega) (show (x1).toInt ≤ 3 by first | assumption | omega) i140) (fun r159 hr160 => ?_)
            obtain ⟨i161, p162, p163⟩ := hr160
            try rw [i161]
            have f164 := ti_b r159.1
            have t165 := ti_tn x1
            have f166 : (q_R r138.2 (Ad ad 103) (x1).toNatClampNeg).toInt = (q_R r7.2 (Ad ad 103) (x1).toNatClampNeg).toInt := congrArg Int32.toInt (congrFun (u146 103 (by decide) (by decide) (by decide)) _)
            have f167 : (q_R r7.2 (Ad ad 103) (x1).toNatClampNeg).toInt = (q_R d1 (Ad ad 103) (x1).toNatClampNeg).toInt := congrArg Int32.toInt (congrFun (u14 103 (by decide) (by decide) (by decide)) _)
            have f168 : (q_R d1 (Ad ad 103) (x1).toNatClampNeg).toInt = (q_R δ (Ad ad 103) (x1).toNatClampNeg).toInt := congrArg Int32.toInt (show q_R d1 (Ad ad 103) (x1).toNatClampNeg = _ by rw [e2]; rfl)
            have f169 := rb_103 L I (x1).toNatClampNeg
            have f170 := rb_103 L i3 (x1).toNatClampNeg
            have f171 := rb_103 L i9 (x1).toNatClampNeg
            have f172 := rb_103 L i140 (x1).toNatClampNeg
            have f173 := ti_b r159.1
            refine ok_bind (k_X12_place L hN (a0 := a0) (x1 := x1) (x2 := x2) k_a0 (show 0 ≤ (x1).toInt by first | assumption | omega) (show (x1).toInt ≤ 3 by first | assumption | omega) i140) (fun r174 hr175 => ?_)
            obtain ⟨i176, p177, p178⟩ := hr175
            try rw [i176]
            have f179 := ti_b r174.1
            have f180 := ti_b r174.1
            unfold J_X12_between_70
            exact ok_some (show RI ad h.1 δ0 r138.2 ∧ (kp [(12, 0)] δ r138.2 ∧ q_V r138.2 = q_V δ ∧ kr ad [100] δ r138.2) from ⟨i140, ⟨kp_w (by decide) u147, v148, kr_w (by decide) v149⟩⟩)
          · have c181 : x3.toInt < x2.toInt := o_nle h157
            unfold J_X12_between_70
            exact ok_some (show RI ad h.1 δ0 r138.2 ∧ (kp [(12, 0)] δ r138.2 ∧ q_V r138.2 = q_V δ ∧ kr ad [100] δ r138.2) from ⟨i140, ⟨kp_w (by decide) u147, v148, kr_w (by decide) v149⟩⟩)
set_option maxHeartbeats 4000000 in
theorem k_X12_isTime {ad : List Nat} {h : hp} (L : Lay TLx ad h) {δ0 : dp} {N : Nat} (hN : 10000000 ≤ N) {a0 : Nat} {x1 : Int32} {x2 : Int32} (k_a0 : q_K h.1 a0 = 12) {δ : dp} (z0 : 0 ≤ (x1).toInt) (z1 : (x1).toInt ≤ 3) (I : RI ad h.1 δ0 δ) : ok (D_X12_isTime N h.1 a0 x1 x2 δ) (fun r => r.2 = δ ∧ bo (r.1) ∧ ((r.1).toInt = 1 → 0 ≤ (x2).toInt ∧ (x2).toInt ≤ (q_R δ (Ad ad 106) (x1).toNatClampNeg).toInt)) := by
  unfold D_X12_isTime
  have f1 := ti_b x1
  obtain ⟨b2, o3, k4, n5⟩ := gO_12_17 L k_a0
  obtain rfl := gS_12_17 L k_a0 o3
  refine ok_at o3 ?_
  have t6 := ti_tn x1
  refine ok_gd (fun hc7 => ?_) ?_
  · rcases hc7 with hc7 | hc7
    · have c8 : x1.toInt < (0 : Int) := o_lt hc7
      omega
    · omega
  refine ok_bind (k_X12_within L hN (x0 := x2) (x1 := (0 : Int32)) (x2 := (q_R δ (Ad ad 106) x1.toNatClampNeg))  I) (fun r9 hr10 => ?_)
  obtain ⟨i11, p12, p13, p14⟩ := hr10
  try rw [i11]
  have f15 := bo_l p12
  have f16 := ti_b r9.1
  have f17 := ti_b x2
  have f18 := rb_106 L I x1.toNatClampNeg
  replace p13 : ((r9.1).toInt = 1 → (0 : Int) ≤ (x2).toInt ∧ (x2).toInt ≤ ((q_R δ (Ad ad 106) x1.toNatClampNeg)).toInt) := p13
  replace p14 : ((r9.1).toInt = 0 → (x2).toInt < (0 : Int) ∨ ((q_R δ (Ad ad 106) x1.toNatClampNeg)).toInt < (x2).toInt) := p14
  have f19 := ti_b r9.1
  refine ok_gp (show bo r9.1 by first | assumption | exact bo_0 | exact bo_1 | exact bo_i (by omega) (by omega)) ?_
  have t20 := ti_tn x1
  have f21 := rb_106 L I (x1).toNatClampNeg
  exact ok_some (show δ = δ ∧ bo (r9.1) ∧ ((r9.1).toInt = 1 → 0 ≤ (x2).toInt ∧ (x2).toInt ≤ (q_R δ (Ad ad 106) (x1).toNatClampNeg).toInt) from ⟨rfl, by first | assumption | exact bo_0 | exact bo_1 | exact bo_i (by omega) (by omega), by first | assumption | omega⟩)
set_option maxHeartbeats 4000000 in
theorem kl_X12_since_57 {ad : List Nat} {h : hp} (L : Lay TLx ad h) {δ0 : dp} {N : Nat} (hN : 10000000 ≤ N) {a0 : Nat} {x1 : Int32} {x2 : Int32} {x3 : Int32} (k_a0 : q_K h.1 a0 = 12) : ∀ (n : Nat) (x4v : Int32) (δ : dp), RI ad h.1 δ0 δ → 0 ≤ (x1).toInt → (x1).toInt ≤ 3 → -1 ≤ (x4v).toInt → (x4v).toInt < 1000 → (x4v).toInt + 1 < (n : Int) → ok (L_X12_since_57 N h.1 a0 x1 x2 x3 n x4v δ) (fun r => RI ad h.1 δ0 r.2 ∧ (kp [(12, 0)] δ r.2 ∧ q_V r.2 = q_V δ ∧ kr ad [100] δ r.2)) := by
  intro n
  induction n with
  | zero =>
    intro x4v δ I j0 j1 j2 j3 hm
    have f1 := ti_b x1
    have f2 := ti_b x4v
    exfalso; omega
  | succ n ih =>
    intro x4v δ I j0 j1 j2 j3 hm
    unfold L_X12_since_57
    have f1 := ti_b x1
    have f2 := ti_b x4v
    refine ok_ite (fun h3 => ?_) (fun h3 => ?_)
    · have c4 : x4v.toInt < (0 : Int) := o_lt h3
      exact ok_some (show RI ad h.1 δ0 δ ∧ (kp [(12, 0)] δ δ ∧ q_V δ = q_V δ ∧ kr ad [100] δ δ) from ⟨I, ⟨kp_w (by decide) kp_r, rfl, kr_w (by decide) (kr_r (ad := ad))⟩⟩)
    · have c5 : (0 : Int) ≤ x4v.toInt := o_nlt h3
      obtain ⟨b6, o7, k8, n9, w10⟩ := gO_12_15 L k_a0
      obtain rfl := gS_12_15 L k_a0 o7
      refine ok_at o7 ?_
      first | (have q12 := te_mulc (c := 1000) (n := 1000) rfl x1 (by omega) (by omega); obtain ⟨f13, f14, f15⟩ := q12) | (obtain ⟨q12, f13, f14, f15⟩ := ti_mulc (c := 1000) (n := 1000) rfl x1)
      first | (have q17 := te_add ((1000 : Int32) * x1) x4v (by omega) (by omega); obtain ⟨f18, f19, f20⟩ := q17) | (obtain ⟨q17, f18, f19, f20⟩ := ti_add ((1000 : Int32) * x1) x4v)
      have t21 := ti_tn (((1000 : Int32) * x1) + x4v)
      refine ok_gd (fun hc22 => ?_) ?_
      · rcases hc22 with hc22 | hc22
        · have c23 : (((1000 : Int32) * x1) + x4v).toInt < (0 : Int) := o_lt hc22
          omega
        · omega
      have f24 := ti_b (q_R δ (Ad ad 104) (((1000 : Int32) * x1) + x4v).toNatClampNeg)
      have f25 := ti_b x2
      refine ok_ite (fun h26 => ?_) (fun h26 => ?_)
      · have c27 : (q_R δ (Ad ad 104) (((1000 : Int32) * x1) + x4v).toNatClampNeg).toInt = x2.toInt := o_eq h26
        obtain ⟨b28, o29, k30, n31, w32⟩ := gO_12_16 L k_a0
        obtain rfl := gS_12_16 L k_a0 o29
        refine ok_at o29 ?_
        refine ok_gd (fun hc33 => ?_) ?_
        · rcases hc33 with hc33 | hc33
          · have c34 : (((1000 : Int32) * x1) + x4v).toInt < (0 : Int) := o_lt hc33
            omega
          · omega
        have f35 := ti_b (q_R δ (Ad ad 105) (((1000 : Int32) * x1) + x4v).toNatClampNeg)
        have f36 := ti_b x3
        first | (have q38 := te_csub (c := 1) (n := 1) rfl x3 (by omega) (by omega); obtain ⟨f39, f40, f41⟩ := q38) | (obtain ⟨q38, f39, f40, f41⟩ := ti_csub (c := 1) (n := 1) rfl x3)
        refine ok_ite (fun h42 => ?_) (fun h42 => ?_)
        · have c43 : (q_R δ (Ad ad 105) (((1000 : Int32) * x1) + x4v).toNatClampNeg).toInt = ((1 : Int32) - x3).toInt := o_eq h42
          exact ok_some (show RI ad h.1 δ0 δ ∧ (kp [(12, 0)] δ δ ∧ q_V δ = q_V δ ∧ kr ad [100] δ δ) from ⟨I, ⟨kp_w (by decide) kp_r, rfl, kr_w (by decide) (kr_r (ad := ad))⟩⟩)
        · have c44 : (q_R δ (Ad ad 105) (((1000 : Int32) * x1) + x4v).toNatClampNeg).toInt ≠ ((1 : Int32) - x3).toInt := o_ne h42
          unfold J_X12_since_103
          refine ok_biv (fun vx45 e46 => ?_)
          first | (have q47 := te_addc (c := -1) (n := -1) (by decide) x4v (by omega) (by omega); rw [← e46] at q47; obtain ⟨f48, f49, f50⟩ := q47) | (obtain ⟨q47, f48, f49, f50⟩ : ∃ q : Int, vx45.toInt = x4v.toInt + (-1 : Int) + 4294967296 * q ∧ -2147483648 ≤ vx45.toInt ∧ vx45.toInt ≤ 2147483647 := by rw [e46]; exact ti_addc (c := -1) (n := -1) (by decide) x4v)
          refine ok_mono (ih vx45 δ I (show 0 ≤ (x1).toInt by first | assumption | omega) (show (x1).toInt ≤ 3 by first | assumption | omega) (show -1 ≤ (vx45).toInt by first | assumption | omega) (show (vx45).toInt < 1000 by first | assumption | omega) (show (vx45).toInt + 1 < _ by omega)) (fun r51 hr52 => ?_)
          obtain ⟨i53, ⟨u54, u55, u56⟩⟩ := hr52
          have u57 := kp_t kp_r u54
          have v58 : q_V r51.2 = q_V δ := (u55).trans rfl
          have v59 := kr_t (kr_r (ad := ad)) u56
          have f60 := ti_b r51.1
          exact ⟨by assumption, ⟨kp_w (by decide) u57, v58, kr_w (by decide) v59⟩⟩
      · have c61 : (q_R δ (Ad ad 104) (((1000 : Int32) * x1) + x4v).toNatClampNeg).toInt ≠ x2.toInt := o_ne h26
        unfold J_X12_since_103
        refine ok_biv (fun vx62 e63 => ?_)
        first | (have q64 := te_addc (c := -1) (n := -1) (by decide) x4v (by omega) (by omega); rw [← e63] at q64; obtain ⟨f65, f66, f67⟩ := q64) | (obtain ⟨q64, f65, f66, f67⟩ : ∃ q : Int, vx62.toInt = x4v.toInt + (-1 : Int) + 4294967296 * q ∧ -2147483648 ≤ vx62.toInt ∧ vx62.toInt ≤ 2147483647 := by rw [e63]; exact ti_addc (c := -1) (n := -1) (by decide) x4v)
        refine ok_mono (ih vx62 δ I (show 0 ≤ (x1).toInt by first | assumption | omega) (show (x1).toInt ≤ 3 by first | assumption | omega) (show -1 ≤ (vx62).toInt by first | assumption | omega) (show (vx62).toInt < 1000 by first | assumption | omega) (show (vx62).toInt + 1 < _ by omega)) (fun r68 hr69 => ?_)
        obtain ⟨i70, ⟨u71, u72, u73⟩⟩ := hr69
        have u74 := kp_t kp_r u71
        have v75 : q_V r68.2 = q_V δ := (u72).trans rfl
        have v76 := kr_t (kr_r (ad := ad)) u73
        have f77 := ti_b r68.1
        exact ⟨by assumption, ⟨kp_w (by decide) u74, v75, kr_w (by decide) v76⟩⟩
set_option maxHeartbeats 4000000 in
theorem k_X12_since {ad : List Nat} {h : hp} (L : Lay TLx ad h) {δ0 : dp} {N : Nat} (hN : 10000000 ≤ N) {a0 : Nat} {x1 : Int32} {x2 : Int32} {x3 : Int32} (k_a0 : q_K h.1 a0 = 12) {δ : dp} (I : RI ad h.1 δ0 δ) : ok (D_X12_since N h.1 a0 x1 x2 x3 δ) (fun r => RI ad h.1 δ0 r.2 ∧ (kp [(12, 0)] δ r.2 ∧ q_V r.2 = q_V δ ∧ kr ad [100] δ r.2)) := by
  unfold D_X12_since
  refine ok_bdv (fun d1 e2 => ?_)
  have i3 : RI ad h.1 δ0 d1 := by rw [e2]; exact cs_12_0 L I
  have u4 := kp_I kp_r e2
  have v5 : q_V d1 = q_V δ := ((show q_V d1 = q_V δ by rw [e2]; rfl)).trans rfl
  have v6 := kr_N (kr_r (ad := ad)) (show q_R d1 = q_R δ by rw [e2]; rfl)
  refine ok_bind (k_X12_isHouse L hN (a0 := a0) (x1 := x1) (x2 := (1 : Int32)) k_a0 (show (1 : Int) ≠ 0 by first | assumption | omega) i3) (fun r7 hr8 => ?_)
  obtain ⟨i9, ⟨u12, u13, u14⟩, p10, p11⟩ := hr8
  have u15 := kp_t u4 u12
  have v16 : q_V r7.2 = q_V δ := (u13).trans v5
  have v17 := kr_t v6 u14
  have f18 := bo_l p10
  have f19 := ti_b r7.1
  have f20 := ti_b x1
  have f21 := ti_b r7.1
  refine ok_ite (fun h22 => ?_) (fun h22 => ?_)
  · have c23 : r7.1.toInt = (0 : Int) := o_eq h22
    unfold J_X12_since_45
    exact ok_some (show RI ad h.1 δ0 r7.2 ∧ (kp [(12, 0)] δ r7.2 ∧ q_V r7.2 = q_V δ ∧ kr ad [100] δ r7.2) from ⟨i9, ⟨kp_w (by decide) u15, v16, kr_w (by decide) v17⟩⟩)
  · have c24 : r7.1.toInt ≠ (0 : Int) := o_ne h22
    refine ok_bind (k_X12_isNumber L hN (a0 := a0) (x1 := x2) k_a0 i9) (fun r25 hr26 => ?_)
    obtain ⟨i27, p28, p29⟩ := hr26
    try rw [i27]
    have f30 := bo_l p28
    have f31 := ti_b r25.1
    have f32 := ti_b x2
    have f33 := ti_b r25.1
    refine ok_ite (fun h34 => ?_) (fun h34 => ?_)
    · have c35 : r25.1.toInt = (0 : Int) := o_eq h34
      unfold J_X12_since_36
      unfold J_X12_since_37
      refine ok_bind (k_X12_may L hN (a0 := a0) (x1 := (0 : Int32)) (x2 := (2 : Int32)) (x3 := (2 : Int32)) k_a0 (show (2 : Int) ≠ 0 by first | assumption | omega) (show 0 ≤ (2 : Int) by first | assumption | omega) (show (2 : Int) ≤ 2 by first | assumption | omega) i9) (fun r36 hr37 => ?_)
      obtain ⟨i38, ⟨u42, u43, u44⟩, p39, p40, p41⟩ := hr37
      have u45 := kp_t u15 u42
      have v46 : q_V r36.2 = q_V δ := (u43).trans v16
      have v47 := kr_t v17 u44
      have f48 := bo_l p39
      have f49 := ti_b r36.1
      replace p40 : ((r36.1).toInt = 1 → (0 : Int) ≠ 0) := p40
      have f50 := ti_b (q_I r7.2 12 0 a0)
      replace p41 : ((q_I r7.2 12 0 a0).toInt = 0 → (r36.1).toInt = 0 → (0 : Int) = 0) := p41
      have f51 := ti_b r36.1
      refine ok_ite (fun h52 => ?_) (fun h52 => ?_)
      · have c53 : r36.1.toInt = (0 : Int) := o_eq h52
        unfold J_X12_since_45
        exact ok_some (show RI ad h.1 δ0 r36.2 ∧ (kp [(12, 0)] δ r36.2 ∧ q_V r36.2 = q_V δ ∧ kr ad [100] δ r36.2) from ⟨i38, ⟨kp_w (by decide) u45, v46, kr_w (by decide) v47⟩⟩)
      · have c54 : r36.1.toInt ≠ (0 : Int) := o_ne h52
        obtain ⟨b55, o56, k57, n58⟩ := gO_12_17 L k_a0
        obtain rfl := gS_12_17 L k_a0 o56
        refine ok_at o56 ?_
        have t59 := ti_tn x1
        refine ok_gd (fun hc60 => ?_) ?_
        · rcases hc60 with hc60 | hc60
          · have c61 : x1.toInt < (0 : Int) := o_lt hc60
            omega
          · omega
        have f64 : (q_R r36.2 (Ad ad 106) x1.toNatClampNeg).toInt = (q_R r7.2 (Ad ad 106) x1.toNatClampNeg).toInt := congrArg Int32.toInt (congrFun (u44 106 (by decide) (by decide) (by decide)) _)
        have f65 : (q_R r7.2 (Ad ad 106) x1.toNatClampNeg).toInt = (q_R d1 (Ad ad 106) x1.toNatClampNeg).toInt := congrArg Int32.toInt (congrFun (u14 106 (by decide) (by decide) (by decide)) _)
        have f66 : (q_R d1 (Ad ad 106) x1.toNatClampNeg).toInt = (q_R δ (Ad ad 106) x1.toNatClampNeg).toInt := congrArg Int32.toInt (show q_R d1 (Ad ad 106) x1.toNatClampNeg = _ by rw [e2]; rfl)
        have f67 := rb_106 L I x1.toNatClampNeg
        have f68 := rb_106 L i3 x1.toNatClampNeg
        have f69 := rb_106 L i9 x1.toNatClampNeg
        have f70 := rb_106 L i38 x1.toNatClampNeg
        refine ok_biv (fun vx62 e63 => ?_)
        first | (have q71 := te_subc (c := 1) (n := 1) rfl (q_R r36.2 (Ad ad 106) x1.toNatClampNeg) (by omega) (by omega); rw [← e63] at q71; obtain ⟨f72, f73, f74⟩ := q71) | (obtain ⟨q71, f72, f73, f74⟩ : ∃ q : Int, vx62.toInt = (q_R r36.2 (Ad ad 106) x1.toNatClampNeg).toInt - (1 : Int) + 4294967296 * q ∧ -2147483648 ≤ vx62.toInt ∧ vx62.toInt ≤ 2147483647 := by rw [e63]; exact ti_subc (c := 1) (n := 1) rfl (q_R r36.2 (Ad ad 106) x1.toNatClampNeg))
        refine ok_mono (kl_X12_since_57 L hN   k_a0 _ vx62 r36.2 i38 (show 0 ≤ (x1).toInt by first | assumption | omega) (show (x1).toInt ≤ 3 by first | assumption | omega) (show -1 ≤ (vx62).toInt by first | assumption | omega) (show (vx62).toInt < 1000 by first | assumption | omega) (show (vx62).toInt + 1 < _ by omega)) (fun r75 hr76 => ?_)
        obtain ⟨i77, ⟨u78, u79, u80⟩⟩ := hr76
        have u81 := kp_t u45 u78
        have v82 : q_V r75.2 = q_V δ := (u79).trans v46
        have v83 := kr_t v47 u80
        have f84 := ti_b r75.1
        exact ⟨by assumption, ⟨kp_w (by decide) u81, v82, kr_w (by decide) v83⟩⟩
    · have c85 : r25.1.toInt ≠ (0 : Int) := o_ne h34
      refine ok_bind (k_X12_within L hN (x0 := x3) (x1 := (0 : Int32)) (x2 := (1 : Int32))  i9) (fun r86 hr87 => ?_)
      obtain ⟨i88, p89, p90, p91⟩ := hr87
      try rw [i88]
      have f92 := bo_l p89
      have f93 := ti_b r86.1
      have f94 := ti_b x3
      replace p90 : ((r86.1).toInt = 1 → (0 : Int) ≤ (x3).toInt ∧ (x3).toInt ≤ (1 : Int)) := p90
      replace p91 : ((r86.1).toInt = 0 → (x3).toInt < (0 : Int) ∨ (1 : Int) < (x3).toInt) := p91
      have f95 := ti_b r86.1
      refine ok_ite (fun h96 => ?_) (fun h96 => ?_)
      · have c97 : r86.1.toInt = (0 : Int) := o_eq h96
        unfold J_X12_since_36
        unfold J_X12_since_37
        refine ok_bind (k_X12_may L hN (a0 := a0) (x1 := (0 : Int32)) (x2 := (2 : Int32)) (x3 := (2 : Int32)) k_a0 (show (2 : Int) ≠ 0 by first | assumption | omega) (show 0 ≤ (2 : Int) by first | assumption | omega) (show (2 : Int) ≤ 2 by first | assumption | omega) i9) (fun r98 hr99 => ?_)
        obtain ⟨i100, ⟨u104, u105, u106⟩, p101, p102, p103⟩ := hr99
        have u107 := kp_t u15 u104
        have v108 : q_V r98.2 = q_V δ := (u105).trans v16
        have v109 := kr_t v17 u106
        have f110 := bo_l p101
        have f111 := ti_b r98.1
        replace p102 : ((r98.1).toInt = 1 → (0 : Int) ≠ 0) := p102
        have f112 := ti_b (q_I r7.2 12 0 a0)
        replace p103 : ((q_I r7.2 12 0 a0).toInt = 0 → (r98.1).toInt = 0 → (0 : Int) = 0) := p103
        have f113 := ti_b r98.1
        refine ok_ite (fun h114 => ?_) (fun h114 => ?_)
        · have c115 : r98.1.toInt = (0 : Int) := o_eq h114
          unfold J_X12_since_45
          exact ok_some (show RI ad h.1 δ0 r98.2 ∧ (kp [(12, 0)] δ r98.2 ∧ q_V r98.2 = q_V δ ∧ kr ad [100] δ r98.2) from ⟨i100, ⟨kp_w (by decide) u107, v108, kr_w (by decide) v109⟩⟩)
        · have c116 : r98.1.toInt ≠ (0 : Int) := o_ne h114
          obtain ⟨b117, o118, k119, n120⟩ := gO_12_17 L k_a0
          obtain rfl := gS_12_17 L k_a0 o118
          refine ok_at o118 ?_
          have t121 := ti_tn x1
          refine ok_gd (fun hc122 => ?_) ?_
          · rcases hc122 with hc122 | hc122
            · have c123 : x1.toInt < (0 : Int) := o_lt hc122
              omega
            · omega
          have f126 : (q_R r98.2 (Ad ad 106) x1.toNatClampNeg).toInt = (q_R r7.2 (Ad ad 106) x1.toNatClampNeg).toInt := congrArg Int32.toInt (congrFun (u106 106 (by decide) (by decide) (by decide)) _)
          have f127 : (q_R r7.2 (Ad ad 106) x1.toNatClampNeg).toInt = (q_R d1 (Ad ad 106) x1.toNatClampNeg).toInt := congrArg Int32.toInt (congrFun (u14 106 (by decide) (by decide) (by decide)) _)
          have f128 : (q_R d1 (Ad ad 106) x1.toNatClampNeg).toInt = (q_R δ (Ad ad 106) x1.toNatClampNeg).toInt := congrArg Int32.toInt (show q_R d1 (Ad ad 106) x1.toNatClampNeg = _ by rw [e2]; rfl)
          have f129 := rb_106 L I x1.toNatClampNeg
          have f130 := rb_106 L i3 x1.toNatClampNeg
          have f131 := rb_106 L i9 x1.toNatClampNeg
          have f132 := rb_106 L i100 x1.toNatClampNeg
          refine ok_biv (fun vx124 e125 => ?_)
          first | (have q133 := te_subc (c := 1) (n := 1) rfl (q_R r98.2 (Ad ad 106) x1.toNatClampNeg) (by omega) (by omega); rw [← e125] at q133; obtain ⟨f134, f135, f136⟩ := q133) | (obtain ⟨q133, f134, f135, f136⟩ : ∃ q : Int, vx124.toInt = (q_R r98.2 (Ad ad 106) x1.toNatClampNeg).toInt - (1 : Int) + 4294967296 * q ∧ -2147483648 ≤ vx124.toInt ∧ vx124.toInt ≤ 2147483647 := by rw [e125]; exact ti_subc (c := 1) (n := 1) rfl (q_R r98.2 (Ad ad 106) x1.toNatClampNeg))
          refine ok_mono (kl_X12_since_57 L hN   k_a0 _ vx124 r98.2 i100 (show 0 ≤ (x1).toInt by first | assumption | omega) (show (x1).toInt ≤ 3 by first | assumption | omega) (show -1 ≤ (vx124).toInt by first | assumption | omega) (show (vx124).toInt < 1000 by first | assumption | omega) (show (vx124).toInt + 1 < _ by omega)) (fun r137 hr138 => ?_)
          obtain ⟨i139, ⟨u140, u141, u142⟩⟩ := hr138
          have u143 := kp_t u107 u140
          have v144 : q_V r137.2 = q_V δ := (u141).trans v108
          have v145 := kr_t v109 u142
          have f146 := ti_b r137.1
          exact ⟨by assumption, ⟨kp_w (by decide) u143, v144, kr_w (by decide) v145⟩⟩
      · have c147 : r86.1.toInt ≠ (0 : Int) := o_ne h96
        unfold J_X12_since_37
        refine ok_bind (k_X12_may L hN (a0 := a0) (x1 := (1 : Int32)) (x2 := (2 : Int32)) (x3 := (2 : Int32)) k_a0 (show (2 : Int) ≠ 0 by first | assumption | omega) (show 0 ≤ (2 : Int) by first | assumption | omega) (show (2 : Int) ≤ 2 by first | assumption | omega) i9) (fun r148 hr149 => ?_)
        obtain ⟨i150, ⟨u154, u155, u156⟩, p151, p152, p153⟩ := hr149
        have u157 := kp_t u15 u154
        have v158 : q_V r148.2 = q_V δ := (u155).trans v16
        have v159 := kr_t v17 u156
        have f160 := bo_l p151
        have f161 := ti_b r148.1
        replace p152 : ((r148.1).toInt = 1 → (1 : Int) ≠ 0) := p152
        have f162 := ti_b (q_I r7.2 12 0 a0)
        replace p153 : ((q_I r7.2 12 0 a0).toInt = 0 → (r148.1).toInt = 0 → (1 : Int) = 0) := p153
        have f163 := ti_b r148.1
        refine ok_ite (fun h164 => ?_) (fun h164 => ?_)
        · have c165 : r148.1.toInt = (0 : Int) := o_eq h164
          unfold J_X12_since_45
          exact ok_some (show RI ad h.1 δ0 r148.2 ∧ (kp [(12, 0)] δ r148.2 ∧ q_V r148.2 = q_V δ ∧ kr ad [100] δ r148.2) from ⟨i150, ⟨kp_w (by decide) u157, v158, kr_w (by decide) v159⟩⟩)
        · have c166 : r148.1.toInt ≠ (0 : Int) := o_ne h164
          obtain ⟨b167, o168, k169, n170⟩ := gO_12_17 L k_a0
          obtain rfl := gS_12_17 L k_a0 o168
          refine ok_at o168 ?_
          have t171 := ti_tn x1
          refine ok_gd (fun hc172 => ?_) ?_
          · rcases hc172 with hc172 | hc172
            · have c173 : x1.toInt < (0 : Int) := o_lt hc172
              omega
            · omega
          have f176 : (q_R r148.2 (Ad ad 106) x1.toNatClampNeg).toInt = (q_R r7.2 (Ad ad 106) x1.toNatClampNeg).toInt := congrArg Int32.toInt (congrFun (u156 106 (by decide) (by decide) (by decide)) _)
          have f177 : (q_R r7.2 (Ad ad 106) x1.toNatClampNeg).toInt = (q_R d1 (Ad ad 106) x1.toNatClampNeg).toInt := congrArg Int32.toInt (congrFun (u14 106 (by decide) (by decide) (by decide)) _)
          have f178 : (q_R d1 (Ad ad 106) x1.toNatClampNeg).toInt = (q_R δ (Ad ad 106) x1.toNatClampNeg).toInt := congrArg Int32.toInt (show q_R d1 (Ad ad 106) x1.toNatClampNeg = _ by rw [e2]; rfl)
          have f179 := rb_106 L I x1.toNatClampNeg
          have f180 := rb_106 L i3 x1.toNatClampNeg
          have f181 := rb_106 L i9 x1.toNatClampNeg
          have f182 := rb_106 L i150 x1.toNatClampNeg
          refine ok_biv (fun vx174 e175 => ?_)
          first | (have q183 := te_subc (c := 1) (n := 1) rfl (q_R r148.2 (Ad ad 106) x1.toNatClampNeg) (by omega) (by omega); rw [← e175] at q183; obtain ⟨f184, f185, f186⟩ := q183) | (obtain ⟨q183, f184, f185, f186⟩ : ∃ q : Int, vx174.toInt = (q_R r148.2 (Ad ad 106) x1.toNatClampNeg).toInt - (1 : Int) + 4294967296 * q ∧ -2147483648 ≤ vx174.toInt ∧ vx174.toInt ≤ 2147483647 := by rw [e175]; exact ti_subc (c := 1) (n := 1) rfl (q_R r148.2 (Ad ad 106) x1.toNatClampNeg))
          refine ok_mono (kl_X12_since_57 L hN   k_a0 _ vx174 r148.2 i150 (show 0 ≤ (x1).toInt by first | assumption | omega) (show (x1).toInt ≤ 3 by first | assumption | omega) (show -1 ≤ (vx174).toInt by first | assumption | omega) (show (vx174).toInt < 1000 by first | assumption | omega) (show (vx174).toInt + 1 < _ by omega)) (fun r187 hr188 => ?_)
          obtain ⟨i189, ⟨u190, u191, u192⟩⟩ := hr188
          have u193 := kp_t u157 u190
          have v194 : q_V r187.2 = q_V δ := (u191).trans v158
          have v195 := kr_t v159 u192
          have f196 := ti_b r187.1
          exact ⟨by assumption, ⟨kp_w (by decide) u193, v194, kr_w (by decide) v195⟩⟩
set_option maxHeartbeats 4000000 in
theorem kl_X12_gap_39 {ad : List Nat} {h : hp} (L : Lay TLx ad h) {δ0 : dp} {N : Nat} (hN : 10000000 ≤ N) {a0 : Nat} {x1 : Int32} {x2 : Int32} (k_a0 : q_K h.1 a0 = 12) : ∀ (n : Nat) (x3v : Int32) (x4v : Int32) (x5v : Int32) (δ : dp), RI ad h.1 δ0 δ → 0 ≤ (x1).toInt → (x1).toInt ≤ 3 → 1 ≤ (x5v).toInt → (x5v).toInt ≤ 2001 → 2001 - (x5v).toInt < (n : Int) → ok (L_X12_gap_39 N h.1 a0 x1 x2 n x3v x4v x5v δ) (fun r => RI ad h.1 δ0 r.2 ∧ (kp [(12, 0)] δ r.2 ∧ q_V r.2 = q_V δ ∧ kr ad [100] δ r.2)) := by
  intro n
  induction n with
  | zero =>
    intro x3v x4v x5v δ I j0 j1 j2 j3 hm
    have f1 := ti_b x1
    have f2 := ti_b x5v
    exfalso; omega
  | succ n ih =>
    intro x3v x4v x5v δ I j0 j1 j2 j3 hm
    unfold L_X12_gap_39
    have f1 := ti_b x1
    have f2 := ti_b x5v
    obtain ⟨b3, o4, k5, n6⟩ := gO_12_14 L k_a0
    obtain rfl := gS_12_14 L k_a0 o4
    refine ok_at o4 ?_
    have t7 := ti_tn x1
    refine ok_gd (fun hc8 => ?_) ?_
    · rcases hc8 with hc8 | hc8
      · have c9 : x1.toInt < (0 : Int) := o_lt hc8
        omega
      · omega
    have f10 := rb_103 L I x1.toNatClampNeg
    refine ok_ite (fun h11 => ?_) (fun h11 => ?_)
    · have c12 : (q_R δ (Ad ad 103) x1.toNatClampNeg).toInt ≤ x5v.toInt := o_le h11
      have f13 := ti_b x2
      refine ok_ite (fun h14 => ?_) (fun h14 => ?_)
      · have c15 : x2.toInt = (0 : Int) := o_eq h14
        unfold J_X12_gap_108
        exact ok_some (show RI ad h.1 δ0 δ ∧ (kp [(12, 0)] δ δ ∧ q_V δ = q_V δ ∧ kr ad [100] δ δ) from ⟨I, ⟨kp_w (by decide) kp_r, rfl, kr_w (by decide) (kr_r (ad := ad))⟩⟩)
      · have c16 : x2.toInt ≠ (0 : Int) := o_ne h14
        unfold J_X12_gap_108
        exact ok_some (show RI ad h.1 δ0 δ ∧ (kp [(12, 0)] δ δ ∧ q_V δ = q_V δ ∧ kr ad [100] δ δ) from ⟨I, ⟨kp_w (by decide) kp_r, rfl, kr_w (by decide) (kr_r (ad := ad))⟩⟩)
    · have c17 : x5v.toInt < (q_R δ (Ad ad 103) x1.toNatClampNeg).toInt := o_nle h11
      refine ok_bind (k_X12_numberAt L hN (a0 := a0) (x1 := x1) (x2 := x5v) k_a0 (show 0 ≤ (x1).toInt by first | assumption | omega) (show (x1).toInt ≤ 3 by first | assumption | omega) I) (fun r18 hr19 => ?_)
      have i20 := hr19
      try rw [i20]
      have f21 := ti_b r18.1
      refine ok_bind (k_X12_numberAt L hN (a0 := a0) (x1 := x1) (x2 := (x5v - (1 : Int32))) k_a0 (show 0 ≤ (x1).toInt by first | assumption | omega) (show (x1).toInt ≤ 3 by first | assumption | omega) I) (fun r22 hr23 => ?_)
      have i24 := hr23
      try rw [i24]
      have f25 := ti_b r22.1
      refine ok_biv (fun vx26 e27 => ?_)
      first | (have q28 := te_sub r18.1 r22.1 (by omega) (by omega); rw [← e27] at q28; obtain ⟨f29, f30, f31⟩ := q28) | (obtain ⟨q28, f29, f30, f31⟩ : ∃ q : Int, vx26.toInt = r18.1.toInt - r22.1.toInt + 4294967296 * q ∧ -2147483648 ≤ vx26.toInt ∧ vx26.toInt ≤ 2147483647 := by rw [e27]; exact ti_sub r18.1 r22.1)
      have f32 := ti_b x3v
      refine ok_ite (fun h33 => ?_) (fun h33 => ?_)
      · have c34 : x3v.toInt < vx26.toInt := o_lt h33
        refine ok_bind (k_X12_numberAt L hN (a0 := a0) (x1 := x1) (x2 := (x5v - (1 : Int32))) k_a0 (show 0 ≤ (x1).toInt by first | assumption | omega) (show (x1).toInt ≤ 3 by first | assumption | omega) I) (fun r35 hr36 => ?_)
        have i37 := hr36
        try rw [i37]
        have f38 := ti_b r35.1
        unfold J_X12_gap_92
        refine ok_biv (fun vx39 e40 => ?_)
        first | (have q41 := te_addc (c := 1) (n := 1) rfl x5v (by omega) (by omega); rw [← e40] at q41; obtain ⟨f42, f43, f44⟩ := q41) | (obtain ⟨q41, f42, f43, f44⟩ : ∃ q : Int, vx39.toInt = x5v.toInt + (1 : Int) + 4294967296 * q ∧ -2147483648 ≤ vx39.toInt ∧ vx39.toInt ≤ 2147483647 := by rw [e40]; exact ti_addc (c := 1) (n := 1) rfl x5v)
        refine ok_mono (ih vx26 r35.1 vx39 δ I (show 0 ≤ (x1).toInt by first | assumption | omega) (show (x1).toInt ≤ 3 by first | assumption | omega) (show 1 ≤ (vx39).toInt by first | assumption | omega) (show (vx39).toInt ≤ 2001 by first | assumption | omega) (show 2001 - (vx39).toInt < _ by omega)) (fun r45 hr46 => ?_)
        obtain ⟨i47, ⟨u48, u49, u50⟩⟩ := hr46
        have u51 := kp_t kp_r u48
        have v52 : q_V r45.2 = q_V δ := (u49).trans rfl
        have v53 := kr_t (kr_r (ad := ad)) u50
        have f54 := ti_b r45.1
        exact ⟨by assumption, ⟨kp_w (by decide) u51, v52, kr_w (by decide) v53⟩⟩
      · have c55 : vx26.toInt ≤ x3v.toInt := o_nlt h33
        unfold J_X12_gap_92
        refine ok_biv (fun vx56 e57 => ?_)
        first | (have q58 := te_addc (c := 1) (n := 1) rfl x5v (by omega) (by omega); rw [← e57] at q58; obtain ⟨f59, f60, f61⟩ := q58) | (obtain ⟨q58, f59, f60, f61⟩ : ∃ q : Int, vx56.toInt = x5v.toInt + (1 : Int) + 4294967296 * q ∧ -2147483648 ≤ vx56.toInt ∧ vx56.toInt ≤ 2147483647 := by rw [e57]; exact ti_addc (c := 1) (n := 1) rfl x5v)
        refine ok_mono (ih x3v x4v vx56 δ I (show 0 ≤ (x1).toInt by first | assumption | omega) (show (x1).toInt ≤ 3 by first | assumption | omega) (show 1 ≤ (vx56).toInt by first | assumption | omega) (show (vx56).toInt ≤ 2001 by first | assumption | omega) (show 2001 - (vx56).toInt < _ by omega)) (fun r62 hr63 => ?_)
        obtain ⟨i64, ⟨u65, u66, u67⟩⟩ := hr63
        have u68 := kp_t kp_r u65
        have v69 : q_V r62.2 = q_V δ := (u66).trans rfl
        have v70 := kr_t (kr_r (ad := ad)) u67
        have f71 := ti_b r62.1
        exact ⟨by assumption, ⟨kp_w (by decide) u68, v69, kr_w (by decide) v70⟩⟩
set_option maxHeartbeats 4000000 in
theorem k_X12_gap {ad : List Nat} {h : hp} (L : Lay TLx ad h) {δ0 : dp} {N : Nat} (hN : 10000000 ≤ N) {a0 : Nat} {x1 : Int32} {x2 : Int32} (k_a0 : q_K h.1 a0 = 12) {δ : dp} (I : RI ad h.1 δ0 δ) : ok (D_X12_gap N h.1 a0 x1 x2 δ) (fun r => RI ad h.1 δ0 r.2 ∧ (kp [(12, 0)] δ r.2 ∧ q_V r.2 = q_V δ ∧ kr ad [100] δ r.2)) := by
  unfold D_X12_gap
  refine ok_bdv (fun d1 e2 => ?_)
  have i3 : RI ad h.1 δ0 d1 := by rw [e2]; exact cs_12_0 L I
  have u4 := kp_I kp_r e2
  have v5 : q_V d1 = q_V δ := ((show q_V d1 = q_V δ by rw [e2]; rfl)).trans rfl
  have v6 := kr_N (kr_r (ad := ad)) (show q_R d1 = q_R δ by rw [e2]; rfl)
  refine ok_bind (k_X12_isHouse L hN (a0 := a0) (x1 := x1) (x2 := (1 : Int32)) k_a0 (show (1 : Int) ≠ 0 by first | assumption | omega) i3) (fun r7 hr8 => ?_)
  obtain ⟨i9, ⟨u12, u13, u14⟩, p10, p11⟩ := hr8
  have u15 := kp_t u4 u12
  have v16 : q_V r7.2 = q_V δ := (u13).trans v5
  have v17 := kr_t v6 u14
  have f18 := bo_l p10
  have f19 := ti_b r7.1
  have f20 := ti_b x1
  have f21 := ti_b r7.1
  refine ok_ite (fun h22 => ?_) (fun h22 => ?_)
  · have c23 : r7.1.toInt = (0 : Int) := o_eq h22
    unfold J_X12_gap_29
    exact ok_some (show RI ad h.1 δ0 r7.2 ∧ (kp [(12, 0)] δ r7.2 ∧ q_V r7.2 = q_V δ ∧ kr ad [100] δ r7.2) from ⟨i9, ⟨kp_w (by decide) u15, v16, kr_w (by decide) v17⟩⟩)
  · have c24 : r7.1.toInt ≠ (0 : Int) := o_ne h22
    refine ok_bind (k_X12_within L hN (x0 := x2) (x1 := (0 : Int32)) (x2 := (1 : Int32))  i9) (fun r25 hr26 => ?_)
    obtain ⟨i27, p28, p29, p30⟩ := hr26
    try rw [i27]
    have f31 := bo_l p28
    have f32 := ti_b r25.1
    have f33 := ti_b x2
    replace p29 : ((r25.1).toInt = 1 → (0 : Int) ≤ (x2).toInt ∧ (x2).toInt ≤ (1 : Int)) := p29
    replace p30 : ((r25.1).toInt = 0 → (x2).toInt < (0 : Int) ∨ (1 : Int) < (x2).toInt) := p30
    have f34 := ti_b r25.1
    refine ok_bind (k_X12_may L hN (a0 := a0) (x1 := r25.1) (x2 := (2 : Int32)) (x3 := (2 : Int32)) k_a0 (show (2 : Int) ≠ 0 by first | assumption | omega) (show 0 ≤ (2 : Int) by first | assumption | omega) (show (2 : Int) ≤ 2 by first | assumption | omega) i9) (fun r35 hr36 => ?_)
    obtain ⟨i37, ⟨u41, u42, u43⟩, p38, p39, p40⟩ := hr36
    have u44 := kp_t u15 u41
    have v45 : q_V r35.2 = q_V δ := (u42).trans v16
    have v46 := kr_t v17 u43
    have f47 := bo_l p38
    have f48 := ti_b r35.1
    have f49 := ti_b (q_I r7.2 12 0 a0)
    have f50 := ti_b r35.1
    refine ok_ite (fun h51 => ?_) (fun h51 => ?_)
    · have c52 : r35.1.toInt = (0 : Int) := o_eq h51
      unfold J_X12_gap_29
      exact ok_some (show RI ad h.1 δ0 r35.2 ∧ (kp [(12, 0)] δ r35.2 ∧ q_V r35.2 = q_V δ ∧ kr ad [100] δ r35.2) from ⟨i37, ⟨kp_w (by decide) u44, v45, kr_w (by decide) v46⟩⟩)
    · have c53 : r35.1.toInt ≠ (0 : Int) := o_ne h51
      refine ok_mono (kl_X12_gap_39 L hN   k_a0 _ (-1 : Int32) (-1 : Int32) (1 : Int32) r35.2 i37 (show 0 ≤ (x1).toInt by first | assumption | omega) (show (x1).toInt ≤ 3 by first | assumption | omega) (show 1 ≤ (1 : Int) by first | assumption | omega) (show (1 : Int) ≤ 2001 by first | assumption | omega) (show 2001 - (1 : Int) < _ by omega)) (fun r54 hr55 => ?_)
      obtain ⟨i56, ⟨u57, u58, u59⟩⟩ := hr55
      have u60 := kp_t u44 u57
      have v61 : q_V r54.2 = q_V δ := (u58).trans v45
      have v62 := kr_t v46 u59
      have f63 := ti_b r54.1
      exact ⟨by assumption, ⟨kp_w (by decide) u60, v61, kr_w (by decide) v62⟩⟩
set_option maxHeartbeats 4000000 in
theorem kl_X12_keeps_2 {ad : List Nat} {h : hp} (L : Lay TLx ad h) {δ0 : dp} {N : Nat} (hN : 10000000 ≤ N) {a0 : Nat} {x1 : Int32} (k_a0 : q_K h.1 a0 = 12) : ∀ (n : Nat) (x2v : Int32) (δ : dp), RI ad h.1 δ0 δ → 0 ≤ (x1).toInt → (x1).toInt ≤ 3 → 0 ≤ (x2v).toInt → (x2v).toInt ≤ 2000 → 2000 - (x2v).toInt < (n : Int) → ok (L_X12_keeps_2 N h.1 a0 x1 n x2v δ) (fun r => RI ad h.1 δ0 r ∧ (kp [(12, 47)] δ r ∧ q_V r = q_V δ ∧ kr ad [124] δ r) ∧ (q_I r 12 47 a0).toInt = (q_R δ (Ad ad 103) (x1).toNatClampNeg).toInt) := by
  intro n
  induction n with
  | zero =>
    intro x2v δ I j0 j1 j2 j3 hm
    have f1 := ti_b x1
    have f2 := ti_b x2v
    exfalso; omega
  | succ n ih =>
    intro x2v δ I j0 j1 j2 j3 hm
    unfold L_X12_keeps_2
    have f1 := ti_b x1
    have f2 := ti_b x2v
    obtain ⟨b3, o4, k5, n6⟩ := gO_12_14 L k_a0
    obtain rfl := gS_12_14 L k_a0 o4
    refine ok_at o4 ?_
    have t7 := ti_tn x1
    refine ok_gd (fun hc8 => ?_) ?_
    · rcases hc8 with hc8 | hc8
      · have c9 : x1.toInt < (0 : Int) := o_lt hc8
        omega
      · omega
    have f10 := rb_103 L I x1.toNatClampNeg
    refine ok_ite (fun h11 => ?_) (fun h11 => ?_)
    · have c12 : (q_R δ (Ad ad 103) x1.toNatClampNeg).toInt ≤ x2v.toInt := o_le h11
      refine ok_at o4 ?_
      refine ok_gd (fun hc13 => ?_) ?_
      · rcases hc13 with hc13 | hc13
        · have c14 : x1.toInt < (0 : Int) := o_lt hc13
          omega
        · omega
      refine ok_bdv (fun d15 e16 => ?_)
      have i17 : RI ad h.1 δ0 d15 := by rw [e16]; exact cs_12_47 L I k_a0 (show -1000 ≤ (q_R δ (Ad ad 103) x1.toNatClampNeg).toInt by omega) (show (q_R δ (Ad ad 103) x1.toNatClampNeg).toInt ≤ 2000 by omega)
      have u18 := kp_I kp_r e16
      have v19 : q_V d15 = q_V δ := ((show q_V d15 = q_V δ by rw [e16]; rfl)).trans rfl
      have v20 := kr_N (kr_r (ad := ad)) (show q_R d15 = q_R δ by rw [e16]; rfl)
      have f21 := cb_12_47 i17 k_a0
      have f22 : (q_I d15 12 47 a0).toInt = (q_R δ (Ad ad 103) x1.toNatClampNeg).toInt := congrArg Int32.toInt (show q_I d15 12 47 a0 = (q_R δ (Ad ad 103) x1.toNatClampNeg) by rw [e16]; exact rI_s)
      have t23 := ti_tn x1
      have f24 := rb_103 L I (x1).toNatClampNeg
      exact ok_some (show RI ad h.1 δ0 d15 ∧ (kp [(12, 47)] δ d15 ∧ q_V d15 = q_V δ ∧ kr ad [124] δ d15) ∧ (q_I d15 12 47 a0).toInt = (q_R δ (Ad ad 103) (x1).toNatClampNeg).toInt from ⟨i17, ⟨kp_w (by decide) u18, v19, kr_w (by decide) v20⟩, by first | assumption | omega⟩)
    · have c25 : x2v.toInt < (q_R δ (Ad ad 103) x1.toNatClampNeg).toInt := o_nle h11
      obtain ⟨b26, o27, k28, n29, w30⟩ := gO_12_46 L k_a0
      obtain rfl := gS_12_46 L k_a0 o27
      refine ok_at o27 ?_
      obtain ⟨b31, o32, k33, n34, w35⟩ := gO_12_13 L k_a0
      obtain rfl := gS_12_13 L k_a0 o32
      refine ok_at o32 ?_
      first | (have q37 := te_mulc (c := 2000) (n := 2000) rfl x1 (by omega) (by omega); obtain ⟨f38, f39, f40⟩ := q37) | (obtain ⟨q37, f38, f39, f40⟩ := ti_mulc (c := 2000) (n := 2000) rfl x1)
      first | (have q42 := te_add ((2000 : Int32) * x1) x2v (by omega) (by omega); obtain ⟨f43, f44, f45⟩ := q42) | (obtain ⟨q42, f43, f44, f45⟩ := ti_add ((2000 : Int32) * x1) x2v)
      have t46 := ti_tn (((2000 : Int32) * x1) + x2v)
      refine ok_gd (fun hc47 => ?_) ?_
      · rcases hc47 with hc47 | hc47
        · have c48 : (((2000 : Int32) * x1) + x2v).toInt < (0 : Int) := o_lt hc47
          omega
        · omega
      have t49 := ti_tn x2v
      refine ok_gd (fun hc50 => ?_) ?_
      · rcases hc50 with hc50 | hc50
        · have c51 : x2v.toInt < (0 : Int) := o_lt hc50
          omega
        · omega
      refine ok_bdv (fun d52 e53 => ?_)
      have i54 : RI ad h.1 δ0 d52 := by rw [e53]; exact RI.sR L I w30
      have u55 := kp_N kp_r (show q_I d52 = q_I δ by rw [e53]; rfl)
      have v56 : q_V d52 = q_V δ := ((show q_V d52 = q_V δ by rw [e53]; rfl)).trans rfl
      have v57 := kr_s L (by decide) (kr_r (ad := ad)) e53
      refine ok_biv (fun vx58 e59 => ?_)
      first | (have q60 := te_addc (c := 1) (n := 1) rfl x2v (by omega) (by omega); rw [← e59] at q60; obtain ⟨f61, f62, f63⟩ := q60) | (obtain ⟨q60, f61, f62, f63⟩ : ∃ q : Int, vx58.toInt = x2v.toInt + (1 : Int) + 4294967296 * q ∧ -2147483648 ≤ vx58.toInt ∧ vx58.toInt ≤ 2147483647 := by rw [e59]; exact ti_addc (c := 1) (n := 1) rfl x2v)
      refine ok_mono (ih vx58 d52 i54 (show 0 ≤ (x1).toInt by first | assumption | omega) (show (x1).toInt ≤ 3 by first | assumption | omega) (show 0 ≤ (vx58).toInt by first | assumption | omega) (show (vx58).toInt ≤ 2000 by first | assumption | omega) (show 2000 - (vx58).toInt < _ by omega)) (fun r64 hr65 => ?_)
      obtain ⟨i66, ⟨u68, u69, u70⟩, p67⟩ := hr65
      have u71 := kp_t u55 u68
      have v72 : q_V r64 = q_V δ := (u69).trans v56
      have v73 := kr_t v57 u70
      have f74 := cb_12_47 i66 k_a0
      have t75 := ti_tn x1
      have f76 : (q_R d52 (Ad ad 103) (x1).toNatClampNeg).toInt = (q_R δ (Ad ad 103) (x1).toNatClampNeg).toInt := congrArg Int32.toInt (show q_R d52 (Ad ad 103) (x1).toNatClampNeg = _ by rw [e53, rR_o (ad_ne L (by decide) (by decide) (by decide))])
      have f77 := rb_103 L I (x1).toNatClampNeg
      have f78 := rb_103 L i54 (x1).toNatClampNeg
      exact ⟨by assumption, ⟨kp_w (by decide) u71, v72, kr_w (by decide) v73⟩, by first | assumption | omega⟩
set_option maxHeartbeats 4000000 in
theorem k_X12_keeps {ad : List Nat} {h : hp} (L : Lay TLx ad h) {δ0 : dp} {N : Nat} (hN : 10000000 ≤ N) {a0 : Nat} {x1 : Int32} (k_a0 : q_K h.1 a0 = 12) {δ : dp} (z0 : 0 ≤ (x1).toInt) (z1 : (x1).toInt ≤ 3) (I : RI ad h.1 δ0 δ) : ok (D_X12_keeps N h.1 a0 x1 δ) (fun r => RI ad h.1 δ0 r ∧ (kp [(12, 47)] δ r ∧ q_V r = q_V δ ∧ kr ad [124] δ r) ∧ (q_I r 12 47 a0).toInt = (q_R δ (Ad ad 103) (x1).toNatClampNeg).toInt) := by
  unfold D_X12_keeps
  have f1 := ti_b x1
  refine ok_mono (kl_X12_keeps_2 L hN   k_a0 _ (0 : Int32) δ I (show 0 ≤ (x1).toInt by first | assumption | omega) (show (x1).toInt ≤ 3 by first | assumption | omega) (show 0 ≤ (0 : Int) by first | assumption | omega) (show (0 : Int) ≤ 2000 by first | assumption | omega) (show 2000 - (0 : Int) < _ by omega)) (fun r2 hr3 => ?_)
  obtain ⟨i4, ⟨u6, u7, u8⟩, p5⟩ := hr3
  have u9 := kp_t kp_r u6
  have v10 : q_V r2 = q_V δ := (u7).trans rfl
  have v11 := kr_t (kr_r (ad := ad)) u8
  have f12 := cb_12_47 i4 k_a0
  have t13 := ti_tn x1
  have f14 := rb_103 L I (x1).toNatClampNeg
  exact ⟨by assumption, ⟨kp_w (by decide) u9, v10, kr_w (by decide) v11⟩, by first | assumption | omega⟩
set_option maxHeartbeats 4000000 in
theorem kl_X12_comesBack_2 {ad : List Nat} {h : hp} (L : Lay TLx ad h) {δ0 : dp} {N : Nat} (hN : 10000000 ≤ N) {a0 : Nat} {x1 : Int32} (k_a0 : q_K h.1 a0 = 12) : ∀ (n : Nat) (x2v : Int32) (δ : dp), RI ad h.1 δ0 δ → 0 ≤ (x1).toInt → (x1).toInt ≤ 3 → 0 ≤ (x2v).toInt → (x2v).toInt ≤ 2000 → 2000 - (x2v).toInt < (n : Int) → ok (L_X12_comesBack_2 N h.1 a0 x1 n x2v δ) (fun r => RI ad h.1 δ0 r ∧ (kp [] δ r ∧ q_V r = q_V δ ∧ kr ad [102, 103] δ r)) := by
  intro n
  induction n with
  | zero =>
    intro x2v δ I j0 j1 j2 j3 hm
    have f1 := ti_b x1
    have f2 := ti_b x2v
    exfalso; omega
  | succ n ih =>
    intro x2v δ I j0 j1 j2 j3 hm
    unfold L_X12_comesBack_2
    have f1 := ti_b x1
    have f2 := ti_b x2v
    have f3 := cb_12_47 I k_a0
    refine ok_ite (fun h4 => ?_) (fun h4 => ?_)
    · have c5 : (q_I δ 12 47 a0).toInt ≤ x2v.toInt := o_le h4
      obtain ⟨b6, o7, k8, n9⟩ := gO_12_14 L k_a0
      obtain rfl := gS_12_14 L k_a0 o7
      refine ok_at o7 ?_
      have t10 := ti_tn x1
      refine ok_gd (fun hc11 => ?_) ?_
      · rcases hc11 with hc11 | hc11
        · have c12 : x1.toInt < (0 : Int) := o_lt hc11
          omega
        · omega
      refine ok_bdv (fun d13 e14 => ?_)
      have i15 : RI ad h.1 δ0 d13 := by rw [e14]; exact cr_103 L I (show -1000 ≤ (q_I δ 12 47 a0).toInt by omega) (show (q_I δ 12 47 a0).toInt ≤ 2000 by omega)
      have u16 := kp_N kp_r (show q_I d13 = q_I δ by rw [e14]; rfl)
      have v17 : q_V d13 = q_V δ := ((show q_V d13 = q_V δ by rw [e14]; rfl)).trans rfl
      have v18 := kr_s L (by decide) (kr_r (ad := ad)) e14
      exact ok_some (show RI ad h.1 δ0 d13 ∧ (kp [] δ d13 ∧ q_V d13 = q_V δ ∧ kr ad [102, 103] δ d13) from ⟨i15, ⟨kp_w (by decide) u16, v17, kr_w (by decide) v18⟩⟩)
    · have c19 : x2v.toInt < (q_I δ 12 47 a0).toInt := o_nle h4
      obtain ⟨b20, o21, k22, n23, w24⟩ := gO_12_13 L k_a0
      obtain rfl := gS_12_13 L k_a0 o21
      refine ok_at o21 ?_
      obtain ⟨b25, o26, k27, n28, w29⟩ := gO_12_46 L k_a0
      obtain rfl := gS_12_46 L k_a0 o26
      refine ok_at o26 ?_
      have t30 := ti_tn x2v
      refine ok_gd (fun hc31 => ?_) ?_
      · rcases hc31 with hc31 | hc31
        · have c32 : x2v.toInt < (0 : Int) := o_lt hc31
          omega
        · omega
      first | (have q34 := te_mulc (c := 2000) (n := 2000) rfl x1 (by omega) (by omega); obtain ⟨f35, f36, f37⟩ := q34) | (obtain ⟨q34, f35, f36, f37⟩ := ti_mulc (c := 2000) (n := 2000) rfl x1)
      first | (have q39 := te_add ((2000 : Int32) * x1) x2v (by omega) (by omega); obtain ⟨f40, f41, f42⟩ := q39) | (obtain ⟨q39, f40, f41, f42⟩ := ti_add ((2000 : Int32) * x1) x2v)
      have t43 := ti_tn (((2000 : Int32) * x1) + x2v)
      refine ok_gd (fun hc44 => ?_) ?_
      · rcases hc44 with hc44 | hc44
        · have c45 : (((2000 : Int32) * x1) + x2v).toInt < (0 : Int) := o_lt hc44
          omega
        · omega
      refine ok_bdv (fun d46 e47 => ?_)
      have i48 : RI ad h.1 δ0 d46 := by rw [e47]; exact RI.sR L I w24
      have u49 := kp_N kp_r (show q_I d46 = q_I δ by rw [e47]; rfl)
      have v50 : q_V d46 = q_V δ := ((show q_V d46 = q_V δ by rw [e47]; rfl)).trans rfl
      have v51 := kr_s L (by decide) (kr_r (ad := ad)) e47
      refine ok_biv (fun vx52 e53 => ?_)
      first | (have q54 := te_addc (c := 1) (n := 1) rfl x2v (by omega) (by omega); rw [← e53] at q54; obtain ⟨f55, f56, f57⟩ := q54) | (obtain ⟨q54, f55, f56, f57⟩ : ∃ q : Int, vx52.toInt = x2v.toInt + (1 : Int) + 4294967296 * q ∧ -2147483648 ≤ vx52.toInt ∧ vx52.toInt ≤ 2147483647 := by rw [e53]; exact ti_addc (c := 1) (n := 1) rfl x2v)
      refine ok_mono (ih vx52 d46 i48 (show 0 ≤ (x1).toInt by first | assumption | omega) (show (x1).toInt ≤ 3 by first | assumption | omega) (show 0 ≤ (vx52).toInt by first | assumption | omega) (show (vx52).toInt ≤ 2000 by first | assumption | omega) (show 2000 - (vx52).toInt < _ by omega)) (fun r58 hr59 => ?_)
      obtain ⟨i60, ⟨u61, u62, u63⟩⟩ := hr59
      have u64 := kp_t u49 u61
      have v65 : q_V r58 = q_V δ := (u62).trans v50
      have v66 := kr_t v51 u63
      exact ⟨by assumption, ⟨kp_w (by decide) u64, v65, kr_w (by decide) v66⟩⟩
set_option maxHeartbeats 4000000 in
theorem k_X12_comesBack {ad : List Nat} {h : hp} (L : Lay TLx ad h) {δ0 : dp} {N : Nat} (hN : 10000000 ≤ N) {a0 : Nat} {x1 : Int32} (k_a0 : q_K h.1 a0 = 12) {δ : dp} (z0 : 0 ≤ (x1).toInt) (z1 : (x1).toInt ≤ 3) (I : RI ad h.1 δ0 δ) : ok (D_X12_comesBack N h.1 a0 x1 δ) (fun r => RI ad h.1 δ0 r ∧ (kp [] δ r ∧ q_V r = q_V δ ∧ kr ad [102, 103] δ r)) := by
  unfold D_X12_comesBack
  have f1 := ti_b x1
  refine ok_mono (kl_X12_comesBack_2 L hN   k_a0 _ (0 : Int32) δ I (show 0 ≤ (x1).toInt by first | assumption | omega) (show (x1).toInt ≤ 3 by first | assumption | omega) (show 0 ≤ (0 : Int) by first | assumption | omega) (show (0 : Int) ≤ 2000 by first | assumption | omega) (show 2000 - (0 : Int) < _ by omega)) (fun r2 hr3 => ?_)
  obtain ⟨i4, ⟨u5, u6, u7⟩⟩ := hr3
  have u8 := kp_t kp_r u5
  have v9 : q_V r2 = q_V δ := (u6).trans rfl
  have v10 := kr_t (kr_r (ad := ad)) u7
  exact ⟨by assumption, ⟨kp_w (by decide) u8, v9, kr_w (by decide) v10⟩⟩
set_option maxHeartbeats 4000000 in
theorem k_X12_changes {ad : List Nat} {h : hp} (L : Lay TLx ad h) {δ0 : dp} {N : Nat} (hN : 10000000 ≤ N) {a0 : Nat} {x1 : Int32} {x2 : Int32} (k_a0 : q_K h.1 a0 = 12) {δ : dp} (z0 : 0 ≤ (x1).toInt) (z1 : (x1).toInt ≤ 3) (z2 : 0 ≤ (x2).toInt) (z3 : (x2).toInt < 1000) (z4 : -999 ≤ (q_R δ (Ad ad 103) (x1).toNatClampNeg).toInt) (z5 : (q_R δ (Ad ad 103) (x1).toNatClampNeg).toInt < 2000) (I : RI ad h.1 δ0 δ) : ok (D_X12_changes N h.1 a0 x1 x2 δ) (fun r => RI ad h.1 δ0 r ∧ (kp [] δ r ∧ q_V r = q_V δ ∧ kr ad [102, 103] δ r) ∧ (q_R δ (Ad ad 103) (x1).toNatClampNeg).toInt - 1 ≤ (q_R r (Ad ad 103) (x1).toNatClampNeg).toInt ∧ (q_R r (Ad ad 103) (x1).toNatClampNeg).toInt ≤ (q_R δ (Ad ad 103) (x1).toNatClampNeg).toInt + 1) := by
  unfold D_X12_changes
  have f1 := ti_b x1
  have f2 := ti_b x2
  have t3 := ti_tn x1
  have f4 := rb_103 L I (x1).toNatClampNeg
  obtain ⟨b5, o6, k7, n8, w9⟩ := gO_12_15 L k_a0
  obtain rfl := gS_12_15 L k_a0 o6
  refine ok_at o6 ?_
  first | (have q11 := te_mulc (c := 1000) (n := 1000) rfl x1 (by omega) (by omega); obtain ⟨f12, f13, f14⟩ := q11) | (obtain ⟨q11, f12, f13, f14⟩ := ti_mulc (c := 1000) (n := 1000) rfl x1)
  first | (have q16 := te_add ((1000 : Int32) * x1) x2 (by omega) (by omega); obtain ⟨f17, f18, f19⟩ := q16) | (obtain ⟨q16, f17, f18, f19⟩ := ti_add ((1000 : Int32) * x1) x2)
  have t20 := ti_tn (((1000 : Int32) * x1) + x2)
  refine ok_gd (fun hc21 => ?_) ?_
  · rcases hc21 with hc21 | hc21
    · have c22 : (((1000 : Int32) * x1) + x2).toInt < (0 : Int) := o_lt hc21
      omega
    · omega
  have f25 := ti_b (q_R δ (Ad ad 104) (((1000 : Int32) * x1) + x2).toNatClampNeg)
  refine ok_biv (fun vx23 e24 => ?_)
  have f26 : vx23.toInt = (q_R δ (Ad ad 104) (((1000 : Int32) * x1) + x2).toNatClampNeg).toInt := congrArg Int32.toInt e24
  obtain ⟨b27, o28, k29, n30, w31⟩ := gO_12_16 L k_a0
  obtain rfl := gS_12_16 L k_a0 o28
  refine ok_at o28 ?_
  refine ok_gd (fun hc32 => ?_) ?_
  · rcases hc32 with hc32 | hc32
    · have c33 : (((1000 : Int32) * x1) + x2).toInt < (0 : Int) := o_lt hc32
      omega
    · omega
  have f34 := ti_b (q_R δ (Ad ad 105) (((1000 : Int32) * x1) + x2).toNatClampNeg)
  refine ok_ite (fun h35 => ?_) (fun h35 => ?_)
  · have c36 : (q_R δ (Ad ad 105) (((1000 : Int32) * x1) + x2).toNatClampNeg).toInt = (1 : Int) := o_eq h35
    refine ok_bind (k_X12_comes L hN (a0 := a0) (x1 := x1) (x2 := vx23) k_a0 (show 0 ≤ (x1).toInt by first | assumption | omega) (show (x1).toInt ≤ 3 by first | assumption | omega) (show (q_R δ (Ad ad 103) (x1).toNatClampNeg).toInt < 2000 by first | assumption | omega) I) (fun r37 hr38 => ?_)
    obtain ⟨i39, ⟨u41, u42, u43⟩, p40⟩ := hr38
    have u44 := kp_t kp_r u41
    have v45 : q_V r37 = q_V δ := (u42).trans rfl
    have v46 := kr_t (kr_r (ad := ad)) u43
    have f47 := rb_103 L i39 (x1).toNatClampNeg
    unfold J_X12_changes_44
    exact ok_some (show RI ad h.1 δ0 r37 ∧ (kp [] δ r37 ∧ q_V r37 = q_V δ ∧ kr ad [102, 103] δ r37) ∧ (q_R δ (Ad ad 103) (x1).toNatClampNeg).toInt - 1 ≤ (q_R r37 (Ad ad 103) (x1).toNatClampNeg).toInt ∧ (q_R r37 (Ad ad 103) (x1).toNatClampNeg).toInt ≤ (q_R δ (Ad ad 103) (x1).toNatClampNeg).toInt + 1 from ⟨i39, ⟨kp_w (by decide) u44, v45, kr_w (by decide) v46⟩, by first | assumption | omega, by first | assumption | omega⟩)
  · have c48 : (q_R δ (Ad ad 105) (((1000 : Int32) * x1) + x2).toNatClampNeg).toInt ≠ (1 : Int) := o_ne h35
    refine ok_bind (k_X12_leaves L hN (a0 := a0) (x1 := x1) (x2 := vx23) k_a0 (show 0 ≤ (x1).toInt by first | assumption | omega) (show (x1).toInt ≤ 3 by first | assumption | omega) (show -999 ≤ (q_R δ (Ad ad 103) (x1).toNatClampNeg).toInt by first | assumption | omega) I) (fun r49 hr50 => ?_)
    obtain ⟨i51, ⟨u53, u54, u55⟩, p52⟩ := hr50
    have u56 := kp_t kp_r u53
    have v57 : q_V r49 = q_V δ := (u54).trans rfl
    have v58 := kr_t (kr_r (ad := ad)) u55
    have f59 := rb_103 L i51 (x1).toNatClampNeg
    unfold J_X12_changes_44
    exact ok_some (show RI ad h.1 δ0 r49 ∧ (kp [] δ r49 ∧ q_V r49 = q_V δ ∧ kr ad [102, 103] δ r49) ∧ (q_R δ (Ad ad 103) (x1).toNatClampNeg).toInt - 1 ≤ (q_R r49 (Ad ad 103) (x1).toNatClampNeg).toInt ∧ (q_R r49 (Ad ad 103) (x1).toNatClampNeg).toInt ≤ (q_R δ (Ad ad 103) (x1).toNatClampNeg).toInt + 1 from ⟨i51, ⟨kp_w (by decide) u56, v57, kr_w (by decide) v58⟩, by first | assumption | omega, by first | assumption | omega⟩)
set_option maxHeartbeats 4000000 in
theorem kl_X12_goesTo_14 {ad : List Nat} {h : hp} (L : Lay TLx ad h) {δ0 : dp} {N : Nat} (hN : 10000000 ≤ N) {a0 : Nat} {x1 : Int32} {x2 : Int32} (k_a0 : q_K h.1 a0 = 12) : ∀ (n : Nat) (x3v : Int32) (δ : dp), RI ad h.1 δ0 δ → 0 ≤ (x1).toInt → (x1).toInt ≤ 3 → 0 ≤ (x3v).toInt → (x3v).toInt ≤ (x2).toInt → (x2).toInt ≤ 1000 → -(x3v).toInt ≤ (q_R δ (Ad ad 103) (x1).toNatClampNeg).toInt → (q_R δ (Ad ad 103) (x1).toNatClampNeg).toInt ≤ (x3v).toInt → (x2).toInt - (x3v).toInt < (n : Int) → ok (L_X12_goesTo_14 N h.1 a0 x1 x2 n x3v δ) (fun r => RI ad h.1 δ0 r ∧ (kp [(12, 47)] δ r ∧ q_V r = q_V δ ∧ kr ad [102, 103, 124] δ r)) := by
  intro n
  induction n with
  | zero =>
    intro x3v δ I j0 j1 j2 j3 j4 j5 j6 hm
    have f1 := ti_b x1
    have f2 := ti_b x3v
    have f3 := ti_b x2
    have t4 := ti_tn x1
    have f5 := rb_103 L I (x1).toNatClampNeg
    exfalso; omega
  | succ n ih =>
    intro x3v δ I j0 j1 j2 j3 j4 j5 j6 hm
    unfold L_X12_goesTo_14
    have f1 := ti_b x1
    have f2 := ti_b x3v
    have f3 := ti_b x2
    have t4 := ti_tn x1
    have f5 := rb_103 L I (x1).toNatClampNeg
    refine ok_ite (fun h6 => ?_) (fun h6 => ?_)
    · have c7 : x2.toInt ≤ x3v.toInt := o_le h6
      exact ok_some (show RI ad h.1 δ0 δ ∧ (kp [(12, 47)] δ δ ∧ q_V δ = q_V δ ∧ kr ad [102, 103, 124] δ δ) from ⟨I, ⟨kp_w (by decide) kp_r, rfl, kr_w (by decide) (kr_r (ad := ad))⟩⟩)
    · have c8 : x3v.toInt < x2.toInt := o_nle h6
      refine ok_bind (k_X12_changes L hN (a0 := a0) (x1 := x1) (x2 := x3v) k_a0 (show 0 ≤ (x1).toInt by first | assumption | omega) (show (x1).toInt ≤ 3 by first | assumption | omega) (show 0 ≤ (x3v).toInt by first | assumption | omega) (show (x3v).toInt < 1000 by first | assumption | omega) (show -999 ≤ (q_R δ (Ad ad 103) (x1).toNatClampNeg).toInt by first | assumption | omega) (show (q_R δ (Ad ad 103) (x1).toNatClampNeg).toInt < 2000 by first | assumption | omega) I) (fun r9 hr10 => ?_)
      obtain ⟨i11, ⟨u14, u15, u16⟩, p12, p13⟩ := hr10
      have u17 := kp_t kp_r u14
      have v18 : q_V r9 = q_V δ := (u15).trans rfl
      have v19 := kr_t (kr_r (ad := ad)) u16
      have f20 := rb_103 L i11 (x1).toNatClampNeg
      refine ok_biv (fun vx21 e22 => ?_)
      first | (have q23 := te_addc (c := 1) (n := 1) rfl x3v (by omega) (by omega); rw [← e22] at q23; obtain ⟨f24, f25, f26⟩ := q23) | (obtain ⟨q23, f24, f25, f26⟩ : ∃ q : Int, vx21.toInt = x3v.toInt + (1 : Int) + 4294967296 * q ∧ -2147483648 ≤ vx21.toInt ∧ vx21.toInt ≤ 2147483647 := by rw [e22]; exact ti_addc (c := 1) (n := 1) rfl x3v)
      refine ok_mono (ih vx21 r9 i11 (show 0 ≤ (x1).toInt by first | assumption | omega) (show (x1).toInt ≤ 3 by first | assumption | omega) (show 0 ≤ (vx21).toInt by first | assumption | omega) (show (vx21).toInt ≤ (x2).toInt by first | assumption | omega) (show (x2).toInt ≤ 1000 by first | assumption | omega) (show -(vx21).toInt ≤ (q_R r9 (Ad ad 103) (x1).toNatClampNeg).toInt by first | assumption | omega) (show (q_R r9 (Ad ad 103) (x1).toNatClampNeg).toInt ≤ (vx21).toInt by first | assumption | omega) (show (x2).toInt - (vx21).toInt < _ by omega)) (fun r27 hr28 => ?_)
      obtain ⟨i29, ⟨u30, u31, u32⟩⟩ := hr28
      have u33 := kp_t u17 u30
      have v34 : q_V r27 = q_V δ := (u31).trans v18
      have v35 := kr_t v19 u32
      exact ⟨by assumption, ⟨kp_w (by decide) u33, v34, kr_w (by decide) v35⟩⟩
set_option maxHeartbeats 4000000 in
theorem k_X12_goesTo {ad : List Nat} {h : hp} (L : Lay TLx ad h) {δ0 : dp} {N : Nat} (hN : 10000000 ≤ N) {a0 : Nat} {x1 : Int32} {x2 : Int32} (k_a0 : q_K h.1 a0 = 12) {δ : dp} (z0 : 0 ≤ (x1).toInt) (z1 : (x1).toInt ≤ 3) (z2 : 0 ≤ (x2).toInt) (z3 : (x2).toInt ≤ 1000) (I : RI ad h.1 δ0 δ) : ok (D_X12_goesTo N h.1 a0 x1 x2 δ) (fun r => RI ad h.1 δ0 r ∧ (kp [(12, 47)] δ r ∧ q_V r = q_V δ ∧ kr ad [102, 103, 124] δ r)) := by
  unfold D_X12_goesTo
  have f1 := ti_b x1
  have f2 := ti_b x2
  refine ok_bind (k_X12_keeps L hN (a0 := a0) (x1 := x1) k_a0 (show 0 ≤ (x1).toInt by first | assumption | omega) (show (x1).toInt ≤ 3 by first | assumption | omega) I) (fun r3 hr4 => ?_)
  obtain ⟨i5, ⟨u7, u8, u9⟩, p6⟩ := hr4
  have u10 := kp_t kp_r u7
  have v11 : q_V r3 = q_V δ := (u8).trans rfl
  have v12 := kr_t (kr_r (ad := ad)) u9
  have f13 := cb_12_47 i5 k_a0
  have t14 := ti_tn x1
  have f15 := rb_103 L I (x1).toNatClampNeg
  obtain ⟨b16, o17, k18, n19⟩ := gO_12_14 L k_a0
  obtain rfl := gS_12_14 L k_a0 o17
  refine ok_at o17 ?_
  have t20 := ti_tn x1
  refine ok_gd (fun hc21 => ?_) ?_
  · rcases hc21 with hc21 | hc21
    · have c22 : x1.toInt < (0 : Int) := o_lt hc21
      omega
    · omega
  refine ok_bdv (fun d23 e24 => ?_)
  have i25 : RI ad h.1 δ0 d23 := by rw [e24]; exact cr_103 L i5 (show -1000 ≤ (0 : Int) by omega) (show (0 : Int) ≤ 2000 by omega)
  have u26 := kp_N u10 (show q_I d23 = q_I r3 by rw [e24]; rfl)
  have v27 : q_V d23 = q_V δ := ((show q_V d23 = q_V r3 by rw [e24]; rfl)).trans v11
  have v28 := kr_s L (by decide) v12 e24
  have f29 : (q_R d23 (Ad ad 103) (x1).toNatClampNeg).toInt = (0 : Int) := congrArg Int32.toInt (show q_R d23 (Ad ad 103) (x1).toNatClampNeg = (0 : Int32) by rw [e24, qR_sR, if_pos ⟨rfl, rfl⟩])
  have f30 := rb_103 L i25 (x1).toNatClampNeg
  refine ok_mono (kl_X12_goesTo_14 L hN   k_a0 _ (0 : Int32) d23 i25 (show 0 ≤ (x1).toInt by first | assumption | omega) (show (x1).toInt ≤ 3 by first | assumption | omega) (show 0 ≤ (0 : Int) by first | assumption | omega) (show (0 : Int) ≤ (x2).toInt by first | assumption | omega) (show (x2).toInt ≤ 1000 by first | assumption | omega) (show -(0 : Int) ≤ (q_R d23 (Ad ad 103) (x1).toNatClampNeg).toInt by first | assumption | omega) (show (q_R d23 (Ad ad 103) (x1).toNatClampNeg).toInt ≤ (0 : Int) by first | assumption | omega) (show (x2).toInt - (0 : Int) < _ by omega)) (fun r31 hr32 => ?_)
  obtain ⟨i33, ⟨u34, u35, u36⟩⟩ := hr32
  have u37 := kp_t u26 u34
  have v38 : q_V r31 = q_V δ := (u35).trans v27
  have v39 := kr_t v28 u36
  exact ⟨by assumption, ⟨kp_w (by decide) u37, v38, kr_w (by decide) v39⟩⟩
set_option maxHeartbeats 4000000 in
theorem k_X12_was {ad : List Nat} {h : hp} (L : Lay TLx ad h) {δ0 : dp} {N : Nat} (hN : 10000000 ≤ N) {a0 : Nat} {x1 : Int32} {x2 : Int32} {x3 : Int32} (k_a0 : q_K h.1 a0 = 12) {δ : dp} (I : RI ad h.1 δ0 δ) : ok (D_X12_was N h.1 a0 x1 x2 x3 δ) (fun r => RI ad h.1 δ0 r.2 ∧ (kp [(12, 0), (12, 47)] δ r.2 ∧ q_V r.2 = q_V δ ∧ kr ad [100, 102, 103, 124] δ r.2)) := by
  unfold D_X12_was
  refine ok_bdv (fun d1 e2 => ?_)
  have i3 : RI ad h.1 δ0 d1 := by rw [e2]; exact cs_12_0 L I
  have u4 := kp_I kp_r e2
  have v5 : q_V d1 = q_V δ := ((show q_V d1 = q_V δ by rw [e2]; rfl)).trans rfl
  have v6 := kr_N (kr_r (ad := ad)) (show q_R d1 = q_R δ by rw [e2]; rfl)
  refine ok_bind (k_X12_isHouse L hN (a0 := a0) (x1 := x1) (x2 := (1 : Int32)) k_a0 (show (1 : Int) ≠ 0 by first | assumption | omega) i3) (fun r7 hr8 => ?_)
  obtain ⟨i9, ⟨u12, u13, u14⟩, p10, p11⟩ := hr8
  have u15 := kp_t u4 u12
  have v16 : q_V r7.2 = q_V δ := (u13).trans v5
  have v17 := kr_t v6 u14
  have f18 := bo_l p10
  have f19 := ti_b r7.1
  have f20 := ti_b x1
  have f21 := ti_b r7.1
  refine ok_ite (fun h22 => ?_) (fun h22 => ?_)
  · have c23 : r7.1.toInt = (0 : Int) := o_eq h22
    unfold J_X12_was_46
    exact ok_some (show RI ad h.1 δ0 r7.2 ∧ (kp [(12, 0), (12, 47)] δ r7.2 ∧ q_V r7.2 = q_V δ ∧ kr ad [100, 102, 103, 124] δ r7.2) from ⟨i9, ⟨kp_w (by decide) u15, v16, kr_w (by decide) v17⟩⟩)
  · have c24 : r7.1.toInt ≠ (0 : Int) := o_ne h22
    refine ok_bind (k_X12_isTime L hN (a0 := a0) (x1 := x1) (x2 := x2) k_a0 (show 0 ≤ (x1).toInt by first | assumption | omega) (show (x1).toInt ≤ 3 by first | assumption | omega) i9) (fun r25 hr26 => ?_)
    obtain ⟨i27, p28, p29⟩ := hr26
    try rw [i27]
    have f30 := bo_l p28
    have f31 := ti_b r25.1
    have f32 := ti_b x2
    have t33 := ti_tn x1
    have f34 : (q_R r7.2 (Ad ad 106) (x1).toNatClampNeg).toInt = (q_R d1 (Ad ad 106) (x1).toNatClampNeg).toInt := congrArg Int32.toInt (congrFun (u14 106 (by decide) (by decide) (by decide)) _)
    have f35 : (q_R d1 (Ad ad 106) (x1).toNatClampNeg).toInt = (q_R δ (Ad ad 106) (x1).toNatClampNeg).toInt := congrArg Int32.toInt (show q_R d1 (Ad ad 106) (x1).toNatClampNeg = _ by rw [e2]; rfl)
    have f36 := rb_106 L I (x1).toNatClampNeg
    have f37 := rb_106 L i3 (x1).toNatClampNeg
    have f38 := rb_106 L i9 (x1).toNatClampNeg
    have f39 := ti_b r25.1
    refine ok_ite (fun h40 => ?_) (fun h40 => ?_)
    · have c41 : r25.1.toInt = (0 : Int) := o_eq h40
      unfold J_X12_was_37
      unfold J_X12_was_38
      refine ok_bind (k_X12_may L hN (a0 := a0) (x1 := (0 : Int32)) (x2 := (2 : Int32)) (x3 := (2 : Int32)) k_a0 (show (2 : Int) ≠ 0 by first | assumption | omega) (show 0 ≤ (2 : Int) by first | assumption | omega) (show (2 : Int) ≤ 2 by first | assumption | omega) i9) (fun r42 hr43 => ?_)
      obtain ⟨i44, ⟨u48, u49, u50⟩, p45, p46, p47⟩ := hr43
      have u51 := kp_t u15 u48
      have v52 : q_V r42.2 = q_V δ := (u49).trans v16
      have v53 := kr_t v17 u50
      have f54 := bo_l p45
      have f55 := ti_b r42.1
      replace p46 : ((r42.1).toInt = 1 → (0 : Int) ≠ 0) := p46
      have f56 := ti_b (q_I r7.2 12 0 a0)
      replace p47 : ((q_I r7.2 12 0 a0).toInt = 0 → (r42.1).toInt = 0 → (0 : Int) = 0) := p47
      have f57 := ti_b r42.1
      refine ok_ite (fun h58 => ?_) (fun h58 => ?_)
      · have c59 : r42.1.toInt = (0 : Int) := o_eq h58
        unfold J_X12_was_46
        exact ok_some (show RI ad h.1 δ0 r42.2 ∧ (kp [(12, 0), (12, 47)] δ r42.2 ∧ q_V r42.2 = q_V δ ∧ kr ad [100, 102, 103, 124] δ r42.2) from ⟨i44, ⟨kp_w (by decide) u51, v52, kr_w (by decide) v53⟩⟩)
      · have c60 : r42.1.toInt ≠ (0 : Int) := o_ne h58
        refine ok_bind (k_X12_goesTo L hN (a0 := a0) (x1 := x1) (x2 := x2) k_a0 (show 0 ≤ (x1).toInt by first | assumption | omega) (show (x1).toInt ≤ 3 by first | assumption | omega) (show 0 ≤ (x2).toInt by first | assumption | omega) (show (x2).toInt ≤ 1000 by first | assumption | omega) i44) (fun r61 hr62 => ?_)
        obtain ⟨i63, ⟨u64, u65, u66⟩⟩ := hr62
        have u67 := kp_t u51 u64
        have v68 : q_V r61 = q_V δ := (u65).trans v52
        have v69 := kr_t v53 u66
        have f70 := ti_b x3
        refine ok_ite (fun h71 => ?_) (fun h71 => ?_)
        · have c72 : x3.toInt = (0 : Int) := o_eq h71
          obtain ⟨b73, o74, k75, n76⟩ := gO_12_14 L k_a0
          obtain rfl := gS_12_14 L k_a0 o74
          refine ok_at o74 ?_
          have t77 := ti_tn x1
          refine ok_gd (fun hc78 => ?_) ?_
          · rcases hc78 with hc78 | hc78
            · have c79 : x1.toInt < (0 : Int) := o_lt hc78
              omega
            · omega
          unfold J_X12_was_94
          refine ok_bind (k_X12_comesBack L hN (a0 := a0) (x1 := x1) k_a0 (show 0 ≤ (x1).toInt by first | assumption | omega) (show (x1).toInt ≤ 3 by first | assumption | omega) i63) (fun r80 hr81 => ?_)
          obtain ⟨i82, ⟨u83, u84, u85⟩⟩ := hr81
          have u86 := kp_t u67 u83
          have v87 : q_V r80 = q_V δ := (u84).trans v68
          have v88 := kr_t v69 u85
          exact ok_some (show RI ad h.1 δ0 r80 ∧ (kp [(12, 0), (12, 47)] δ r80 ∧ q_V r80 = q_V δ ∧ kr ad [100, 102, 103, 124] δ r80) from ⟨i82, ⟨kp_w (by decide) u86, v87, kr_w (by decide) v88⟩⟩)
        · have c89 : x3.toInt ≠ (0 : Int) := o_ne h71
          refine ok_ite (fun h90 => ?_) (fun h90 => ?_)
          · have c91 : x3.toInt = (1 : Int) := o_eq h90
            refine ok_bind (k_X12_numberAt L hN (a0 := a0) (x1 := x1) (x2 := (0 : Int32)) k_a0 (show 0 ≤ (x1).toInt by first | assumption | omega) (show (x1).toInt ≤ 3 by first | assumption | omega) i63) (fun r92 hr93 => ?_)
            have i94 := hr93
            try rw [i94]
            have f95 := ti_b r92.1
            unfold J_X12_was_94
            refine ok_bind (k_X12_comesBack L hN (a0 := a0) (x1 := x1) k_a0 (show 0 ≤ (x1).toInt by first | assumption | omega) (show (x1).toInt ≤ 3 by first | assumption | omega) i63) (fun r96 hr97 => ?_)
            obtain ⟨i98, ⟨u99, u100, u101⟩⟩ := hr97
            have u102 := kp_t u67 u99
            have v103 : q_V r96 = q_V δ := (u100).trans v68
            have v104 := kr_t v69 u101
            exact ok_some (show RI ad h.1 δ0 r96 ∧ (kp [(12, 0), (12, 47)] δ r96 ∧ q_V r96 = q_V δ ∧ kr ad [100, 102, 103, 124] δ r96) from ⟨i98, ⟨kp_w (by decide) u102, v103, kr_w (by decide) v104⟩⟩)
          · have c105 : x3.toInt ≠ (1 : Int) := o_ne h90
            obtain ⟨b106, o107, k108, n109⟩ := gO_12_14 L k_a0
            obtain rfl := gS_12_14 L k_a0 o107
            refine ok_at o107 ?_
            have t110 := ti_tn x1
            refine ok_gd (fun hc111 => ?_) ?_
            · rcases hc111 with hc111 | hc111
              · have c112 : x1.toInt < (0 : Int) := o_lt hc111
                omega
              · omega
            refine ok_bind (k_X12_numberAt L hN (a0 := a0) (x1 := x1) (x2 := ((q_R r61 (Ad ad 103) x1.toNatClampNeg) - (1 : Int32))) k_a0 (show 0 ≤ (x1).toInt by first | assumption | omega) (show (x1).toInt ≤ 3 by first | assumption | omega) i63) (fun r113 hr114 => ?_)
            have i115 := hr114
            try rw [i115]
            have f116 := ti_b r113.1
            unfold J_X12_was_94
            refine ok_bind (k_X12_comesBack L hN (a0 := a0) (x1 := x1) k_a0 (show 0 ≤ (x1).toInt by first | assumption | omega) (show (x1).toInt ≤ 3 by first | assumption | omega) i63) (fun r117 hr118 => ?_)
            obtain ⟨i119, ⟨u120, u121, u122⟩⟩ := hr118
            have u123 := kp_t u67 u120
            have v124 : q_V r117 = q_V δ := (u121).trans v68
            have v125 := kr_t v69 u122
            exact ok_some (show RI ad h.1 δ0 r117 ∧ (kp [(12, 0), (12, 47)] δ r117 ∧ q_V r117 = q_V δ ∧ kr ad [100, 102, 103, 124] δ r117) from ⟨i119, ⟨kp_w (by decide) u123, v124, kr_w (by decide) v125⟩⟩)
    · have c126 : r25.1.toInt ≠ (0 : Int) := o_ne h40
      refine ok_bind (k_X12_within L hN (x0 := x3) (x1 := (0 : Int32)) (x2 := (2 : Int32))  i9) (fun r127 hr128 => ?_)
      obtain ⟨i129, p130, p131, p132⟩ := hr128
      try rw [i129]
      have f133 := bo_l p130
      have f134 := ti_b r127.1
      have f135 := ti_b x3
      replace p131 : ((r127.1).toInt = 1 → (0 : Int) ≤ (x3).toInt ∧ (x3).toInt ≤ (2 : Int)) := p131
      replace p132 : ((r127.1).toInt = 0 → (x3).toInt < (0 : Int) ∨ (2 : Int) < (x3).toInt) := p132
      have f136 := ti_b r127.1
      refine ok_ite (fun h137 => ?_) (fun h137 => ?_)
      · have c138 : r127.1.toInt = (0 : Int) := o_eq h137
        unfold J_X12_was_37
        unfold J_X12_was_38
        refine ok_bind (k_X12_may L hN (a0 := a0) (x1 := (0 : Int32)) (x2 := (2 : Int32)) (x3 := (2 : Int32)) k_a0 (show (2 : Int) ≠ 0 by first | assumption | omega) (show 0 ≤ (2 : Int) by first | assumption | omega) (show (2 : Int) ≤ 2 by first | assumption | omega) i9) (fun r139 hr140 => ?_)
        obtain ⟨i141, ⟨u145, u146, u147⟩, p142, p143, p144⟩ := hr140
        have u148 := kp_t u15 u145
        have v149 : q_V r139.2 = q_V δ := (u146).trans v16
        have v150 := kr_t v17 u147
        have f151 := bo_l p142
        have f152 := ti_b r139.1
        replace p143 : ((r139.1).toInt = 1 → (0 : Int) ≠ 0) := p143
        have f153 := ti_b (q_I r7.2 12 0 a0)
        replace p144 : ((q_I r7.2 12 0 a0).toInt = 0 → (r139.1).toInt = 0 → (0 : Int) = 0) := p144
        have f154 := ti_b r139.1
        refine ok_ite (fun h155 => ?_) (fun h155 => ?_)
        · have c156 : r139.1.toInt = (0 : Int) := o_eq h155
          unfold J_X12_was_46
          exact ok_some (show RI ad h.1 δ0 r139.2 ∧ (kp [(12, 0), (12, 47)] δ r139.2 ∧ q_V r139.2 = q_V δ ∧ kr ad [100, 102, 103, 124] δ r139.2) from ⟨i141, ⟨kp_w (by decide) u148, v149, kr_w (by decide) v150⟩⟩)
        · have c157 : r139.1.toInt ≠ (0 : Int) := o_ne h155
          refine ok_bind (k_X12_goesTo L hN (a0 := a0) (x1 := x1) (x2 := x2) k_a0 (show 0 ≤ (x1).toInt by first | assumption | omega) (show (x1).toInt ≤ 3 by first | assumption | omega) (show 0 ≤ (x2).toInt by first | assumption | omega) (show (x2).toInt ≤ 1000 by first | assumption | omega) i141) (fun r158 hr159 => ?_)
          obtain ⟨i160, ⟨u161, u162, u163⟩⟩ := hr159
          have u164 := kp_t u148 u161
          have v165 : q_V r158 = q_V δ := (u162).trans v149
          have v166 := kr_t v150 u163
          refine ok_ite (fun h167 => ?_) (fun h167 => ?_)
          · have c168 : x3.toInt = (0 : Int) := o_eq h167
            obtain ⟨b169, o170, k171, n172⟩ := gO_12_14 L k_a0
            obtain rfl := gS_12_14 L k_a0 o170
            refine ok_at o170 ?_
            have t173 := ti_tn x1
            refine ok_gd (fun hc174 => ?_) ?_
            · rcases hc174 with hc174 | hc174
              · have c175 : x1.toInt < (0 : Int) := o_lt hc174
                omega
              · omega
            unfold J_X12_was_94
            refine ok_bind (k_X12_comesBack L hN (a0 := a0) (x1 := x1) k_a0 (show 0 ≤ (x1).toInt by first | assumption | omega) (show (x1).toInt ≤ 3 by first | assumption | omega) i160) (fun r176 hr177 => ?_)
            obtain ⟨i178, ⟨u179, u180, u181⟩⟩ := hr177
            have u182 := kp_t u164 u179
            have v183 : q_V r176 = q_V δ := (u180).trans v165
            have v184 := kr_t v166 u181
            exact ok_some (show RI ad h.1 δ0 r176 ∧ (kp [(12, 0), (12, 47)] δ r176 ∧ q_V r176 = q_V δ ∧ kr ad [100, 102, 103, 124] δ r176) from ⟨i178, ⟨kp_w (by decide) u182, v183, kr_w (by decide) v184⟩⟩)
          · have c185 : x3.toInt ≠ (0 : Int) := o_ne h167
            refine ok_ite (fun h186 => ?_) (fun h186 => ?_)
            · have c187 : x3.toInt = (1 : Int) := o_eq h186
              refine ok_bind (k_X12_numberAt L hN (a0 := a0) (x1 := x1) (x2 := (0 : Int32)) k_a0 (show 0 ≤ (x1).toInt by first | assumption | omega) (show (x1).toInt ≤ 3 by first | assumption | omega) i160) (fun r188 hr189 => ?_)
              have i190 := hr189
              try rw [i190]
              have f191 := ti_b r188.1
              unfold J_X12_was_94
              refine ok_bind (k_X12_comesBack L hN (a0 := a0) (x1 := x1) k_a0 (show 0 ≤ (x1).toInt by first | assumption | omega) (show (x1).toInt ≤ 3 by first | assumption | omega) i160) (fun r192 hr193 => ?_)
              obtain ⟨i194, ⟨u195, u196, u197⟩⟩ := hr193
              have u198 := kp_t u164 u195
              have v199 : q_V r192 = q_V δ := (u196).trans v165
              have v200 := kr_t v166 u197
              exact ok_some (show RI ad h.1 δ0 r192 ∧ (kp [(12, 0), (12, 47)] δ r192 ∧ q_V r192 = q_V δ ∧ kr ad [100, 102, 103, 124] δ r192) from ⟨i194, ⟨kp_w (by decide) u198, v199, kr_w (by decide) v200⟩⟩)
            · have c201 : x3.toInt ≠ (1 : Int) := o_ne h186
              obtain ⟨b202, o203, k204, n205⟩ := gO_12_14 L k_a0
              obtain rfl := gS_12_14 L k_a0 o203
              refine ok_at o203 ?_
              have t206 := ti_tn x1
              refine ok_gd (fun hc207 => ?_) ?_
              · rcases hc207 with hc207 | hc207
                · have c208 : x1.toInt < (0 : Int) := o_lt hc207
                  omega
                · omega
              refine ok_bind (k_X12_numberAt L hN (a0 := a0) (x1 := x1) (x2 := ((q_R r158 (Ad ad 103) x1.toNatClampNeg) - (1 : Int32))) k_a0 (show 0 ≤ (x1).toInt by first | assumption | omega) (show (x1).toInt ≤ 3 by first | assumption | omega) i160) (fun r209 hr210 => ?_)
              have i211 := hr210
              try rw [i211]
              have f212 := ti_b r209.1
              unfold J_X12_was_94
              refine ok_bind (k_X12_comesBack L hN (a0 := a0) (x1 := x1) k_a0 (show 0 ≤ (x1).toInt by first | assumption | omega) (show (x1).toInt ≤ 3 by first | assumption | omega) i160) (fun r213 hr214 => ?_)
              obtain ⟨i215, ⟨u216, u217, u218⟩⟩ := hr214
              have u219 := kp_t u164 u216
              have v220 : q_V r213 = q_V δ := (u217).trans v165
              have v221 := kr_t v166 u218
              exact ok_some (show RI ad h.1 δ0 r213 ∧ (kp [(12, 0), (12, 47)] δ r213 ∧ q_V r213 = q_V δ ∧ kr ad [100, 102, 103, 124] δ r213) from ⟨i215, ⟨kp_w (by decide) u219, v220, kr_w (by decide) v221⟩⟩)
      · have c222 : r127.1.toInt ≠ (0 : Int) := o_ne h137
        unfold J_X12_was_38
        refine ok_bind (k_X12_may L hN (a0 := a0) (x1 := (1 : Int32)) (x2 := (2 : Int32)) (x3 := (2 : Int32)) k_a0 (show (2 : Int) ≠ 0 by first | assumption | omega) (show 0 ≤ (2 : Int) by first | assumption | omega) (show (2 : Int) ≤ 2 by first | assumption | omega) i9) (fun r223 hr224 => ?_)
        obtain ⟨i225, ⟨u229, u230, u231⟩, p226, p227, p228⟩ := hr224
        have u232 := kp_t u15 u229
        have v233 : q_V r223.2 = q_V δ := (u230).trans v16
        have v234 := kr_t v17 u231
        have f235 := bo_l p226
        have f236 := ti_b r223.1
        replace p227 : ((r223.1).toInt = 1 → (1 : Int) ≠ 0) := p227
        have f237 := ti_b (q_I r7.2 12 0 a0)
        replace p228 : ((q_I r7.2 12 0 a0).toInt = 0 → (r223.1).toInt = 0 → (1 : Int) = 0) := p228
        have f238 := ti_b r223.1
        refine ok_ite (fun h239 => ?_) (fun h239 => ?_)
        · have c240 : r223.1.toInt = (0 : Int) := o_eq h239
          unfold J_X12_was_46
          exact ok_some (show RI ad h.1 δ0 r223.2 ∧ (kp [(12, 0), (12, 47)] δ r223.2 ∧ q_V r223.2 = q_V δ ∧ kr ad [100, 102, 103, 124] δ r223.2) from ⟨i225, ⟨kp_w (by decide) u232, v233, kr_w (by decide) v234⟩⟩)
        · have c241 : r223.1.toInt ≠ (0 : Int) := o_ne h239
          refine ok_bind (k_X12_goesTo L hN (a0 := a0) (x1 := x1) (x2 := x2) k_a0 (show 0 ≤ (x1).toInt by first | assumption | omega) (show (x1).toInt ≤ 3 by first | assumption | omega) (show 0 ≤ (x2).toInt by first | assumption | omega) (show (x2).toInt ≤ 1000 by first | assumption | omega) i225) (fun r242 hr243 => ?_)
          obtain ⟨i244, ⟨u245, u246, u247⟩⟩ := hr243
          have u248 := kp_t u232 u245
          have v249 : q_V r242 = q_V δ := (u246).trans v233
          have v250 := kr_t v234 u247
          refine ok_ite (fun h251 => ?_) (fun h251 => ?_)
          · have c252 : x3.toInt = (0 : Int) := o_eq h251
            obtain ⟨b253, o254, k255, n256⟩ := gO_12_14 L k_a0
            obtain rfl := gS_12_14 L k_a0 o254
            refine ok_at o254 ?_
            have t257 := ti_tn x1
            refine ok_gd (fun hc258 => ?_) ?_
            · rcases hc258 with hc258 | hc258
              · have c259 : x1.toInt < (0 : Int) := o_lt hc258
                omega
              · omega
            unfold J_X12_was_94
            refine ok_bind (k_X12_comesBack L hN (a0 := a0) (x1 := x1) k_a0 (show 0 ≤ (x1).toInt by first | assumption | omega) (show (x1).toInt ≤ 3 by first | assumption | omega) i244) (fun r260 hr261 => ?_)
            obtain ⟨i262, ⟨u263, u264, u265⟩⟩ := hr261
            have u266 := kp_t u248 u263
            have v267 : q_V r260 = q_V δ := (u264).trans v249
            have v268 := kr_t v250 u265
            exact ok_some (show RI ad h.1 δ0 r260 ∧ (kp [(12, 0), (12, 47)] δ r260 ∧ q_V r260 = q_V δ ∧ kr ad [100, 102, 103, 124] δ r260) from ⟨i262, ⟨kp_w (by decide) u266, v267, kr_w (by decide) v268⟩⟩)
          · have c269 : x3.toInt ≠ (0 : Int) := o_ne h251
            refine ok_ite (fun h270 => ?_) (fun h270 => ?_)
            · have c271 : x3.toInt = (1 : Int) := o_eq h270
              refine ok_bind (k_X12_numberAt L hN (a0 := a0) (x1 := x1) (x2 := (0 : Int32)) k_a0 (show 0 ≤ (x1).toInt by first | assumption | omega) (show (x1).toInt ≤ 3 by first | assumption | omega) i244) (fun r272 hr273 => ?_)
              have i274 := hr273
              try rw [i274]
              have f275 := ti_b r272.1
              unfold J_X12_was_94
              refine ok_bind (k_X12_comesBack L hN (a0 := a0) (x1 := x1) k_a0 (show 0 ≤ (x1).toInt by first | assumption | omega) (show (x1).toInt ≤ 3 by first | assumption | omega) i244) (fun r276 hr277 => ?_)
              obtain ⟨i278, ⟨u279, u280, u281⟩⟩ := hr277
              have u282 := kp_t u248 u279
              have v283 : q_V r276 = q_V δ := (u280).trans v249
              have v284 := kr_t v250 u281
              exact ok_some (show RI ad h.1 δ0 r276 ∧ (kp [(12, 0), (12, 47)] δ r276 ∧ q_V r276 = q_V δ ∧ kr ad [100, 102, 103, 124] δ r276) from ⟨i278, ⟨kp_w (by decide) u282, v283, kr_w (by decide) v284⟩⟩)
            · have c285 : x3.toInt ≠ (1 : Int) := o_ne h270
              obtain ⟨b286, o287, k288, n289⟩ := gO_12_14 L k_a0
              obtain rfl := gS_12_14 L k_a0 o287
              refine ok_at o287 ?_
              have t290 := ti_tn x1
              refine ok_gd (fun hc291 => ?_) ?_
              · rcases hc291 with hc291 | hc291
                · have c292 : x1.toInt < (0 : Int) := o_lt hc291
                  omega
                · omega
              refine ok_bind (k_X12_numberAt L hN (a0 := a0) (x1 := x1) (x2 := ((q_R r242 (Ad ad 103) x1.toNatClampNeg) - (1 : Int32))) k_a0 (show 0 ≤ (x1).toInt by first | assumption | omega) (show (x1).toInt ≤ 3 by first | assumption | omega) i244) (fun r293 hr294 => ?_)
              have i295 := hr294
              try rw [i295]
              have f296 := ti_b r293.1
              unfold J_X12_was_94
              refine ok_bind (k_X12_comesBack L hN (a0 := a0) (x1 := x1) k_a0 (show 0 ≤ (x1).toInt by first | assumption | omega) (show (x1).toInt ≤ 3 by first | assumption | omega) i244) (fun r297 hr298 => ?_)
              obtain ⟨i299, ⟨u300, u301, u302⟩⟩ := hr298
              have u303 := kp_t u248 u300
              have v304 : q_V r297 = q_V δ := (u301).trans v249
              have v305 := kr_t v250 u302
              exact ok_some (show RI ad h.1 δ0 r297 ∧ (kp [(12, 0), (12, 47)] δ r297 ∧ q_V r297 = q_V δ ∧ kr ad [100, 102, 103, 124] δ r297) from ⟨i299, ⟨kp_w (by decide) u303, v304, kr_w (by decide) v305⟩⟩)
set_option maxHeartbeats 4000000 in
theorem k_X12_asked {ad : List Nat} {h : hp} (L : Lay TLx ad h) {δ0 : dp} {N : Nat} (hN : 10000000 ≤ N) {a0 : Nat} {x1 : Int32} {x2 : Int32} {x3 : Int32} {x4 : Int32} (k_a0 : q_K h.1 a0 = 12) {δ : dp} (I : RI ad h.1 δ0 δ) : ok (D_X12_asked N h.1 a0 x1 x2 x3 x4 δ) (fun r => RI ad h.1 δ0 r.2 ∧ (kp [(12, 0), (12, 47)] δ r.2 ∧ q_V r.2 = q_V δ ∧ kr ad [100, 102, 103, 124] δ r.2)) := by
  unfold D_X12_asked
  refine ok_bdv (fun d1 e2 => ?_)
  have i3 : RI ad h.1 δ0 d1 := by rw [e2]; exact cs_12_0 L I
  have u4 := kp_I kp_r e2
  have v5 : q_V d1 = q_V δ := ((show q_V d1 = q_V δ by rw [e2]; rfl)).trans rfl
  have v6 := kr_N (kr_r (ad := ad)) (show q_R d1 = q_R δ by rw [e2]; rfl)
  refine ok_bind (k_X12_isHouse L hN (a0 := a0) (x1 := x1) (x2 := (1 : Int32)) k_a0 (show (1 : Int) ≠ 0 by first | assumption | omega) i3) (fun r7 hr8 => ?_)
  obtain ⟨i9, ⟨u12, u13, u14⟩, p10, p11⟩ := hr8
  have u15 := kp_t u4 u12
  have v16 : q_V r7.2 = q_V δ := (u13).trans v5
  have v17 := kr_t v6 u14
  have f18 := bo_l p10
  have f19 := ti_b r7.1
  have f20 := ti_b x1
  have f21 := ti_b r7.1
  refine ok_ite (fun h22 => ?_) (fun h22 => ?_)
  · have c23 : r7.1.toInt = (0 : Int) := o_eq h22
    unfold J_X12_asked_56
    exact ok_some (show RI ad h.1 δ0 r7.2 ∧ (kp [(12, 0), (12, 47)] δ r7.2 ∧ q_V r7.2 = q_V δ ∧ kr ad [100, 102, 103, 124] δ r7.2) from ⟨i9, ⟨kp_w (by decide) u15, v16, kr_w (by decide) v17⟩⟩)
  · have c24 : r7.1.toInt ≠ (0 : Int) := o_ne h22
    refine ok_bind (k_X12_isTime L hN (a0 := a0) (x1 := x1) (x2 := x2) k_a0 (show 0 ≤ (x1).toInt by first | assumption | omega) (show (x1).toInt ≤ 3 by first | assumption | omega) i9) (fun r25 hr26 => ?_)
    obtain ⟨i27, p28, p29⟩ := hr26
    try rw [i27]
    have f30 := bo_l p28
    have f31 := ti_b r25.1
    have f32 := ti_b x2
    have t33 := ti_tn x1
    have f34 : (q_R r7.2 (Ad ad 106) (x1).toNatClampNeg).toInt = (q_R d1 (Ad ad 106) (x1).toNatClampNeg).toInt := congrArg Int32.toInt (congrFun (u14 106 (by decide) (by decide) (by decide)) _)
    have f35 : (q_R d1 (Ad ad 106) (x1).toNatClampNeg).toInt = (q_R δ (Ad ad 106) (x1).toNatClampNeg).toInt := congrArg Int32.toInt (show q_R d1 (Ad ad 106) (x1).toNatClampNeg = _ by rw [e2]; rfl)
    have f36 := rb_106 L I (x1).toNatClampNeg
    have f37 := rb_106 L i3 (x1).toNatClampNeg
    have f38 := rb_106 L i9 (x1).toNatClampNeg
    have f39 := ti_b r25.1
    refine ok_ite (fun h40 => ?_) (fun h40 => ?_)
    · have c41 : r25.1.toInt = (0 : Int) := o_eq h40
      unfold J_X12_asked_47
      unfold J_X12_asked_48
      refine ok_bind (k_X12_may L hN (a0 := a0) (x1 := (0 : Int32)) (x2 := (2 : Int32)) (x3 := (2 : Int32)) k_a0 (show (2 : Int) ≠ 0 by first | assumption | omega) (show 0 ≤ (2 : Int) by first | assumption | omega) (show (2 : Int) ≤ 2 by first | assumption | omega) i9) (fun r42 hr43 => ?_)
      obtain ⟨i44, ⟨u48, u49, u50⟩, p45, p46, p47⟩ := hr43
      have u51 := kp_t u15 u48
      have v52 : q_V r42.2 = q_V δ := (u49).trans v16
      have v53 := kr_t v17 u50
      have f54 := bo_l p45
      have f55 := ti_b r42.1
      replace p46 : ((r42.1).toInt = 1 → (0 : Int) ≠ 0) := p46
      have f56 := ti_b (q_I r7.2 12 0 a0)
      replace p47 : ((q_I r7.2 12 0 a0).toInt = 0 → (r42.1).toInt = 0 → (0 : Int) = 0) := p47
      have f57 := ti_b r42.1
      refine ok_ite (fun h58 => ?_) (fun h58 => ?_)
      · have c59 : r42.1.toInt = (0 : Int) := o_eq h58
        unfold J_X12_asked_56
        exact ok_some (show RI ad h.1 δ0 r42.2 ∧ (kp [(12, 0), (12, 47)] δ r42.2 ∧ q_V r42.2 = q_V δ ∧ kr ad [100, 102, 103, 124] δ r42.2) from ⟨i44, ⟨kp_w (by decide) u51, v52, kr_w (by decide) v53⟩⟩)
      · have c60 : r42.1.toInt ≠ (0 : Int) := o_ne h58
        refine ok_bind (k_X12_goesTo L hN (a0 := a0) (x1 := x1) (x2 := x2) k_a0 (show 0 ≤ (x1).toInt by first | assumption | omega) (show (x1).toInt ≤ 3 by first | assumption | omega) (show 0 ≤ (x2).toInt by first | assumption | omega) (show (x2).toInt ≤ 1000 by first | assumption | omega) i44) (fun r61 hr62 => ?_)
        obtain ⟨i63, ⟨u64, u65, u66⟩⟩ := hr62
        have u67 := kp_t u51 u64
        have v68 : q_V r61 = q_V δ := (u65).trans v52
        have v69 := kr_t v53 u66
        refine ok_bind (k_X12_answer L hN (a0 := a0) (x1 := x1) (x2 := x3) (x3 := x4) k_a0 (show 0 ≤ (x1).toInt by first | assumption | omega) (show (x1).toInt ≤ 3 by first | assumption | omega) i63) (fun r70 hr71 => ?_)
        have i72 := hr71
        try rw [i72]
        have f73 := ti_b r70.1
        refine ok_bind (k_X12_comesBack L hN (a0 := a0) (x1 := x1) k_a0 (show 0 ≤ (x1).toInt by first | assumption | omega) (show (x1).toInt ≤ 3 by first | assumption | omega) i63) (fun r74 hr75 => ?_)
        obtain ⟨i76, ⟨u77, u78, u79⟩⟩ := hr75
        have u80 := kp_t u67 u77
        have v81 : q_V r74 = q_V δ := (u78).trans v68
        have v82 := kr_t v69 u79
        exact ok_some (show RI ad h.1 δ0 r74 ∧ (kp [(12, 0), (12, 47)] δ r74 ∧ q_V r74 = q_V δ ∧ kr ad [100, 102, 103, 124] δ r74) from ⟨i76, ⟨kp_w (by decide) u80, v81, kr_w (by decide) v82⟩⟩)
    · have c83 : r25.1.toInt ≠ (0 : Int) := o_ne h40
      refine ok_bind (k_X12_within L hN (x0 := x3) (x1 := (2 : Int32)) (x2 := (4 : Int32))  i9) (fun r84 hr85 => ?_)
      obtain ⟨i86, p87, p88, p89⟩ := hr85
      try rw [i86]
      have f90 := bo_l p87
      have f91 := ti_b r84.1
      have f92 := ti_b x3
      replace p88 : ((r84.1).toInt = 1 → (2 : Int) ≤ (x3).toInt ∧ (x3).toInt ≤ (4 : Int)) := p88
      replace p89 : ((r84.1).toInt = 0 → (x3).toInt < (2 : Int) ∨ (4 : Int) < (x3).toInt) := p89
      have f93 := ti_b r84.1
      refine ok_ite (fun h94 => ?_) (fun h94 => ?_)
      · have c95 : r84.1.toInt = (0 : Int) := o_eq h94
        unfold J_X12_asked_47
        unfold J_X12_asked_48
        refine ok_bind (k_X12_may L hN (a0 := a0) (x1 := (0 : Int32)) (x2 := (2 : Int32)) (x3 := (2 : Int32)) k_a0 (show (2 : Int) ≠ 0 by first | assumption | omega) (show 0 ≤ (2 : Int) by first | assumption | omega) (show (2 : Int) ≤ 2 by first | assumption | omega) i9) (fun r96 hr97 => ?_)
        obtain ⟨i98, ⟨u102, u103, u104⟩, p99, p100, p101⟩ := hr97
        have u105 := kp_t u15 u102
        have v106 : q_V r96.2 = q_V δ := (u103).trans v16
        have v107 := kr_t v17 u104
        have f108 := bo_l p99
        have f109 := ti_b r96.1
        replace p100 : ((r96.1).toInt = 1 → (0 : Int) ≠ 0) := p100
        have f110 := ti_b (q_I r7.2 12 0 a0)
        replace p101 : ((q_I r7.2 12 0 a0).toInt = 0 → (r96.1).toInt = 0 → (0 : Int) = 0) := p101
        have f111 := ti_b r96.1
        refine ok_ite (fun h112 => ?_) (fun h112 => ?_)
        · have c113 : r96.1.toInt = (0 : Int) := o_eq h112
          unfold J_X12_asked_56
          exact ok_some (show RI ad h.1 δ0 r96.2 ∧ (kp [(12, 0), (12, 47)] δ r96.2 ∧ q_V r96.2 = q_V δ ∧ kr ad [100, 102, 103, 124] δ r96.2) from ⟨i98, ⟨kp_w (by decide) u105, v106, kr_w (by decide) v107⟩⟩)
        · have c114 : r96.1.toInt ≠ (0 : Int) := o_ne h112
          refine ok_bind (k_X12_goesTo L hN (a0 := a0) (x1 := x1) (x2 := x2) k_a0 (show 0 ≤ (x1).toInt by first | assumption | omega) (show (x1).toInt ≤ 3 by first | assumption | omega) (show 0 ≤ (x2).toInt by first | assumption | omega) (show (x2).toInt ≤ 1000 by first | assumption | omega) i98) (fun r115 hr116 => ?_)
          obtain ⟨i117, ⟨u118, u119, u120⟩⟩ := hr116
          have u121 := kp_t u105 u118
          have v122 : q_V r115 = q_V δ := (u119).trans v106
          have v123 := kr_t v107 u120
          refine ok_bind (k_X12_answer L hN (a0 := a0) (x1 := x1) (x2 := x3) (x3 := x4) k_a0 (show 0 ≤ (x1).toInt by first | assumption | omega) (show (x1).toInt ≤ 3 by first | assumption | omega) i117) (fun r124 hr125 => ?_)
          have i126 := hr125
          try rw [i126]
          have f127 := ti_b r124.1
          refine ok_bind (k_X12_comesBack L hN (a0 := a0) (x1 := x1) k_a0 (show 0 ≤ (x1).toInt by first | assumption | omega) (show (x1).toInt ≤ 3 by first | assumption | omega) i117) (fun r128 hr129 => ?_)
          obtain ⟨i130, ⟨u131, u132, u133⟩⟩ := hr129
          have u134 := kp_t u121 u131
          have v135 : q_V r128 = q_V δ := (u132).trans v122
          have v136 := kr_t v123 u133
          exact ok_some (show RI ad h.1 δ0 r128 ∧ (kp [(12, 0), (12, 47)] δ r128 ∧ q_V r128 = q_V δ ∧ kr ad [100, 102, 103, 124] δ r128) from ⟨i130, ⟨kp_w (by decide) u134, v135, kr_w (by decide) v136⟩⟩)
      · have c137 : r84.1.toInt ≠ (0 : Int) := o_ne h94
        refine ok_bind (k_X12_mayAsk L hN (a0 := a0) (x1 := x3) (x2 := x4) k_a0 i9) (fun r138 hr139 => ?_)
        obtain ⟨i140, p141, p142⟩ := hr139
        try rw [i140]
        have f143 := bo_l p141
        have f144 := ti_b r138.1
        have f145 := ti_b x4
        have f146 := ti_b r138.1
        refine ok_ite (fun h147 => ?_) (fun h147 => ?_)
        · have c148 : r138.1.toInt = (0 : Int) := o_eq h147
          unfold J_X12_asked_47
          unfold J_X12_asked_48
          refine ok_bind (k_X12_may L hN (a0 := a0) (x1 := (0 : Int32)) (x2 := (2 : Int32)) (x3 := (2 : Int32)) k_a0 (show (2 : Int) ≠ 0 by first | assumption | omega) (show 0 ≤ (2 : Int) by first | assumption | omega) (show (2 : Int) ≤ 2 by first | assumption | omega) i9) (fun r149 hr150 => ?_)
          obtain ⟨i151, ⟨u155, u156, u157⟩, p152, p153, p154⟩ := hr150
          have u158 := kp_t u15 u155
          have v159 : q_V r149.2 = q_V δ := (u156).trans v16
          have v160 := kr_t v17 u157
          have f161 := bo_l p152
          have f162 := ti_b r149.1
          replace p153 : ((r149.1).toInt = 1 → (0 : Int) ≠ 0) := p153
          have f163 := ti_b (q_I r7.2 12 0 a0)
          replace p154 : ((q_I r7.2 12 0 a0).toInt = 0 → (r149.1).toInt = 0 → (0 : Int) = 0) := p154
          have f164 := ti_b r149.1
          refine ok_ite (fun h165 => ?_) (fun h165 => ?_)
          · have c166 : r149.1.toInt = (0 : Int) := o_eq h165
            unfold J_X12_asked_56
            exact ok_some (show RI ad h.1 δ0 r149.2 ∧ (kp [(12, 0), (12, 47)] δ r149.2 ∧ q_V r149.2 = q_V δ ∧ kr ad [100, 102, 103, 124] δ r149.2) from ⟨i151, ⟨kp_w (by decide) u158, v159, kr_w (by decide) v160⟩⟩)
          · have c167 : r149.1.toInt ≠ (0 : Int) := o_ne h165
            refine ok_bind (k_X12_goesTo L hN (a0 := a0) (x1 := x1) (x2 := x2) k_a0 (show 0 ≤ (x1).toInt by first | assumption | omega) (show (x1).toInt ≤ 3 by first | assumption | omega) (show 0 ≤ (x2).toInt by first | assumption | omega) (show (x2).toInt ≤ 1000 by first | assumption | omega) i151) (fun r168 hr169 => ?_)
            obtain ⟨i170, ⟨u171, u172, u173⟩⟩ := hr169
            have u174 := kp_t u158 u171
            have v175 : q_V r168 = q_V δ := (u172).trans v159
            have v176 := kr_t v160 u173
            refine ok_bind (k_X12_answer L hN (a0 := a0) (x1 := x1) (x2 := x3) (x3 := x4) k_a0 (show 0 ≤ (x1).toInt by first | assumption | omega) (show (x1).toInt ≤ 3 by first | assumption | omega) i170) (fun r177 hr178 => ?_)
            have i179 := hr178
            try rw [i179]
            have f180 := ti_b r177.1
            refine ok_bind (k_X12_comesBack L hN (a0 := a0) (x1 := x1) k_a0 (show 0 ≤ (x1).toInt by first | assumption | omega) (show (x1).toInt ≤ 3 by first | assumption | omega) i170) (fun r181 hr182 => ?_)
            obtain ⟨i183, ⟨u184, u185, u186⟩⟩ := hr182
            have u187 := kp_t u174 u184
            have v188 : q_V r181 = q_V δ := (u185).trans v175
            have v189 := kr_t v176 u186
            exact ok_some (show RI ad h.1 δ0 r181 ∧ (kp [(12, 0), (12, 47)] δ r181 ∧ q_V r181 = q_V δ ∧ kr ad [100, 102, 103, 124] δ r181) from ⟨i183, ⟨kp_w (by decide) u187, v188, kr_w (by decide) v189⟩⟩)
        · have c190 : r138.1.toInt ≠ (0 : Int) := o_ne h147
          unfold J_X12_asked_48
          refine ok_bind (k_X12_may L hN (a0 := a0) (x1 := (1 : Int32)) (x2 := (2 : Int32)) (x3 := (2 : Int32)) k_a0 (show (2 : Int) ≠ 0 by first | assumption | omega) (show 0 ≤ (2 : Int) by first | assumption | omega) (show (2 : Int) ≤ 2 by first | assumption | omega) i9) (fun r191 hr192 => ?_)
          obtain ⟨i193, ⟨u197, u198, u199⟩, p194, p195, p196⟩ := hr192
          have u200 := kp_t u15 u197
          have v201 : q_V r191.2 = q_V δ := (u198).trans v16
          have v202 := kr_t v17 u199
          have f203 := bo_l p194
          have f204 := ti_b r191.1
          replace p195 : ((r191.1).toInt = 1 → (1 : Int) ≠ 0) := p195
          have f205 := ti_b (q_I r7.2 12 0 a0)
          replace p196 : ((q_I r7.2 12 0 a0).toInt = 0 → (r191.1).toInt = 0 → (1 : Int) = 0) := p196
          have f206 := ti_b r191.1
          refine ok_ite (fun h207 => ?_) (fun h207 => ?_)
          · have c208 : r191.1.toInt = (0 : Int) := o_eq h207
            unfold J_X12_asked_56
            exact ok_some (show RI ad h.1 δ0 r191.2 ∧ (kp [(12, 0), (12, 47)] δ r191.2 ∧ q_V r191.2 = q_V δ ∧ kr ad [100, 102, 103, 124] δ r191.2) from ⟨i193, ⟨kp_w (by decide) u200, v201, kr_w (by decide) v202⟩⟩)
          · have c209 : r191.1.toInt ≠ (0 : Int) := o_ne h207
            refine ok_bind (k_X12_goesTo L hN (a0 := a0) (x1 := x1) (x2 := x2) k_a0 (show 0 ≤ (x1).toInt by first | assumption | omega) (show (x1).toInt ≤ 3 by first | assumption | omega) (show 0 ≤ (x2).toInt by first | assumption | omega) (show (x2).toInt ≤ 1000 by first | assumption | omega) i193) (fun r210 hr211 => ?_)
            obtain ⟨i212, ⟨u213, u214, u215⟩⟩ := hr211
            have u216 := kp_t u200 u213
            have v217 : q_V r210 = q_V δ := (u214).trans v201
            have v218 := kr_t v202 u215
            refine ok_bind (k_X12_answer L hN (a0 := a0) (x1 := x1) (x2 := x3) (x3 := x4) k_a0 (show 0 ≤ (x1).toInt by first | assumption | omega) (show (x1).toInt ≤ 3 by first | assumption | omega) i212) (fun r219 hr220 => ?_)
            have i221 := hr220
            try rw [i221]
            have f222 := ti_b r219.1
            refine ok_bind (k_X12_comesBack L hN (a0 := a0) (x1 := x1) k_a0 (show 0 ≤ (x1).toInt by first | assumption | omega) (show (x1).toInt ≤ 3 by first | assumption | omega) i212) (fun r223 hr224 => ?_)
            obtain ⟨i225, ⟨u226, u227, u228⟩⟩ := hr224
            have u229 := kp_t u216 u226
            have v230 : q_V r223 = q_V δ := (u227).trans v217
            have v231 := kr_t v218 u228
            exact ok_some (show RI ad h.1 δ0 r223 ∧ (kp [(12, 0), (12, 47)] δ r223 ∧ q_V r223 = q_V δ ∧ kr ad [100, 102, 103, 124] δ r223) from ⟨i225, ⟨kp_w (by decide) u229, v230, kr_w (by decide) v231⟩⟩)
set_option maxHeartbeats 4000000 in
theorem k_X12_isThief {ad : List Nat} {h : hp} (L : Lay TLx ad h) {δ0 : dp} {N : Nat} (hN : 10000000 ≤ N) {a0 : Nat} {x1 : Int32} (k_a0 : q_K h.1 a0 = 12) {δ : dp} (I : RI ad h.1 δ0 δ) : ok (D_X12_isThief N h.1 a0 x1 δ) (fun r => RI ad h.1 δ0 r.2 ∧ (kp [(12, 0)] δ r.2 ∧ q_V r.2 = q_V δ ∧ kr ad [100] δ r.2) ∧ bo (r.1) ∧ ((r.1).toInt = 1 → 0 ≤ (x1).toInt ∧ (x1).toInt < (q_I δ 12 24 a0).toInt)) := by
  unfold D_X12_isThief
  refine ok_bind (k_X12_within L hN (x0 := x1) (x1 := (0 : Int32)) (x2 := ((q_I δ 12 24 a0) - (1 : Int32)))  I) (fun r1 hr2 => ?_)
  obtain ⟨i3, p4, p5, p6⟩ := hr2
  try rw [i3]
  have f7 := bo_l p4
  have f8 := ti_b r1.1
  have f9 := ti_b x1
  have f10 := cb_12_24 I k_a0
  first | (have q12 := te_subc (c := 1) (n := 1) rfl (q_I δ 12 24 a0) (by omega) (by omega); obtain ⟨f13, f14, f15⟩ := q12) | (obtain ⟨q12, f13, f14, f15⟩ := ti_subc (c := 1) (n := 1) rfl (q_I δ 12 24 a0))
  replace p5 : ((r1.1).toInt = 1 → (0 : Int) ≤ (x1).toInt ∧ (x1).toInt ≤ (((q_I δ 12 24 a0) - (1 : Int32))).toInt) := p5
  replace p6 : ((r1.1).toInt = 0 → (x1).toInt < (0 : Int) ∨ (((q_I δ 12 24 a0) - (1 : Int32))).toInt < (x1).toInt) := p6
  have f16 := ti_b r1.1
  refine ok_bind (k_X12_may L hN (a0 := a0) (x1 := r1.1) (x2 := (2 : Int32)) (x3 := (1 : Int32)) k_a0 (show (2 : Int) ≠ 0 by first | assumption | omega) (show 0 ≤ (1 : Int) by first | assumption | omega) (show (1 : Int) ≤ 2 by first | assumption | omega) I) (fun r17 hr18 => ?_)
  obtain ⟨i19, ⟨u23, u24, u25⟩, p20, p21, p22⟩ := hr18
  have u26 := kp_t kp_r u23
  have v27 : q_V r17.2 = q_V δ := (u24).trans rfl
  have v28 := kr_t (kr_r (ad := ad)) u25
  have f29 := bo_l p20
  have f30 := ti_b r17.1
  have f31 := ti_b (q_I δ 12 0 a0)
  have f32 := ti_b r17.1
  refine ok_gp (show bo r17.1 by first | assumption | exact bo_0 | exact bo_1 | exact bo_i (by omega) (by omega)) ?_
  exact ok_some (show RI ad h.1 δ0 r17.2 ∧ (kp [(12, 0)] δ r17.2 ∧ q_V r17.2 = q_V δ ∧ kr ad [100] δ r17.2) ∧ bo (r17.1) ∧ ((r17.1).toInt = 1 → 0 ≤ (x1).toInt ∧ (x1).toInt < (q_I δ 12 24 a0).toInt) from ⟨i19, ⟨kp_w (by decide) u26, v27, kr_w (by decide) v28⟩, by first | assumption | exact bo_0 | exact bo_1 | exact bo_i (by omega) (by omega), by first | assumption | omega⟩)
set_option maxHeartbeats 4000000 in
theorem kl_X12_image_110 {ad : List Nat} {h : hp} (L : Lay TLx ad h) {δ0 : dp} {N : Nat} (hN : 10000000 ≤ N) {a0 : Nat} (k_a0 : q_K h.1 a0 = 12) : ∀ (n : Nat) (x1v : Int32) (δ : dp), RI ad h.1 δ0 δ → 0 ≤ (x1v).toInt → (x1v).toInt ≤ 4 → (q_I δ 12 18 a0).toInt < 3 → 4 - (x1v).toInt < (n : Int) → ok (L_X12_image_110 N h.1 a0 n x1v δ) (fun r => RI ad h.1 δ0 r.2 ∧ (kp [(12, 0), (12, 18)] δ r.2 ∧ q_V r.2 = q_V δ ∧ kr ad [107, 108, 109, 110, 111] δ r.2) ∧ (r.1).toInt = (q_I δ 12 18 a0).toInt + 1 ∧ (q_I r.2 12 18 a0).toInt = (q_I δ 12 18 a0).toInt + 1) := by
  intro n
  induction n with
  | zero =>
    intro x1v δ I j0 j1 j2 hm
    have f1 := ti_b x1v
    have f2 := cb_12_18 I k_a0
    exfalso; omega
  | succ n ih =>
    intro x1v δ I j0 j1 j2 hm
    unfold L_X12_image_110
    have f1 := ti_b x1v
    have f2 := cb_12_18 I k_a0
    refine ok_ite (fun h3 => ?_) (fun h3 => ?_)
    · have c4 : (4 : Int) ≤ x1v.toInt := o_le h3
      first | (have q9 := te_addc (c := 1) (n := 1) rfl (q_I δ 12 18 a0) (by omega) (by omega); obtain ⟨f10, f11, f12⟩ := q9) | (obtain ⟨q9, f10, f11, f12⟩ := ti_addc (c := 1) (n := 1) rfl (q_I δ 12 18 a0))
      refine ok_bdv (fun d5 e6 => ?_)
      have i7 : RI ad h.1 δ0 d5 := by rw [e6]; exact cs_12_18 L I k_a0 (show 0 ≤ ((q_I δ 12 18 a0) + (1 : Int32)).toInt by omega) (show ((q_I δ 12 18 a0) + (1 : Int32)).toInt ≤ 3 by omega)
      have u13 := kp_I kp_r e6
      have v14 : q_V d5 = q_V δ := ((show q_V d5 = q_V δ by rw [e6]; rfl)).trans rfl
      have v15 := kr_N (kr_r (ad := ad)) (show q_R d5 = q_R δ by rw [e6]; rfl)
      have f16 := cb_12_18 i7 k_a0
      have f17 : (q_I d5 12 18 a0).toInt = ((q_I δ 12 18 a0) + (1 : Int32)).toInt := congrArg Int32.toInt (show q_I d5 12 18 a0 = ((q_I δ 12 18 a0) + (1 : Int32)) by rw [e6]; exact rI_s)
      exact ok_some (show RI ad h.1 δ0 d5 ∧ (kp [(12, 0), (12, 18)] δ d5 ∧ q_V d5 = q_V δ ∧ kr ad [107, 108, 109, 110, 111] δ d5) ∧ ((q_I d5 12 18 a0)).toInt = (q_I δ 12 18 a0).toInt + 1 ∧ (q_I d5 12 18 a0).toInt = (q_I δ 12 18 a0).toInt + 1 from ⟨i7, ⟨kp_w (by decide) u13, v14, kr_w (by decide) v15⟩, by first | assumption | omega, by first | assumption | omega⟩)
    · have c18 : x1v.toInt < (4 : Int) := o_nle h3
      obtain ⟨b19, o20, k21, n22⟩ := gO_12_20 L k_a0
      obtain rfl := gS_12_20 L k_a0 o20
      refine ok_at o20 ?_
      obtain ⟨b23, o24, k25, n26⟩ := gO_12_14 L k_a0
      obtain rfl := gS_12_14 L k_a0 o24
      refine ok_at o24 ?_
      have t27 := ti_tn x1v
      refine ok_gd (fun hc28 => ?_) ?_
      · rcases hc28 with hc28 | hc28
        · have c29 : x1v.toInt < (0 : Int) := o_lt hc28
          omega
        · omega
      first | (have q31 := te_mulc (c := 4) (n := 4) rfl (q_I δ 12 18 a0) (by omega) (by omega); obtain ⟨f32, f33, f34⟩ := q31) | (obtain ⟨q31, f32, f33, f34⟩ := ti_mulc (c := 4) (n := 4) rfl (q_I δ 12 18 a0))
      first | (have q36 := te_add ((4 : Int32) * (q_I δ 12 18 a0)) x1v (by omega) (by omega); obtain ⟨f37, f38, f39⟩ := q36) | (obtain ⟨q36, f37, f38, f39⟩ := ti_add ((4 : Int32) * (q_I δ 12 18 a0)) x1v)
      have t40 := ti_tn (((4 : Int32) * (q_I δ 12 18 a0)) + x1v)
      refine ok_gd (fun hc41 => ?_) ?_
      · rcases hc41 with hc41 | hc41
        · have c42 : (((4 : Int32) * (q_I δ 12 18 a0)) + x1v).toInt < (0 : Int) := o_lt hc41
          omega
        · omega
      have f46 := rb_103 L I x1v.toNatClampNeg
      refine ok_bdv (fun d43 e44 => ?_)
      have i45 : RI ad h.1 δ0 d43 := by rw [e44]; exact cr_108 L I (show -1000 ≤ (q_R δ (Ad ad 103) x1v.toNatClampNeg).toInt by omega) (show (q_R δ (Ad ad 103) x1v.toNatClampNeg).toInt ≤ 2000 by omega)
      have u47 := kp_N kp_r (show q_I d43 = q_I δ by rw [e44]; rfl)
      have v48 : q_V d43 = q_V δ := ((show q_V d43 = q_V δ by rw [e44]; rfl)).trans rfl
      have v49 := kr_s L (by decide) (kr_r (ad := ad)) e44
      obtain ⟨b50, o51, k52, n53⟩ := gO_12_23 L k_a0
      obtain rfl := gS_12_23 L k_a0 o51
      refine ok_at o51 ?_
      obtain ⟨b54, o55, k56, n57⟩ := gO_12_17 L k_a0
      obtain rfl := gS_12_17 L k_a0 o55
      refine ok_at o55 ?_
      refine ok_gd (fun hc58 => ?_) ?_
      · rcases hc58 with hc58 | hc58
        · have c59 : x1v.toInt < (0 : Int) := o_lt hc58
          omega
        · omega
      have f61 := cb_12_18 i45 k_a0
      have f62 : (q_I d43 12 18 a0).toInt = (q_I δ 12 18 a0).toInt := congrArg Int32.toInt (by rw [e44]; rfl)
      first | (have q63 := te_mulc (c := 4) (n := 4) rfl (q_I d43 12 18 a0) (by omega) (by omega); obtain ⟨f64, f65, f66⟩ := q63) | (obtain ⟨q63, f64, f65, f66⟩ := ti_mulc (c := 4) (n := 4) rfl (q_I d43 12 18 a0))
      first | (have q68 := te_add ((4 : Int32) * (q_I d43 12 18 a0)) x1v (by omega) (by omega); obtain ⟨f69, f70, f71⟩ := q68) | (obtain ⟨q68, f69, f70, f71⟩ := ti_add ((4 : Int32) * (q_I d43 12 18 a0)) x1v)
      have t72 := ti_tn (((4 : Int32) * (q_I d43 12 18 a0)) + x1v)
      refine ok_gd (fun hc73 => ?_) ?_
      · rcases hc73 with hc73 | hc73
        · have c74 : (((4 : Int32) * (q_I d43 12 18 a0)) + x1v).toInt < (0 : Int) := o_lt hc73
          omega
        · omega
      have f78 : (q_R d43 (Ad ad 106) x1v.toNatClampNeg).toInt = (q_R δ (Ad ad 106) x1v.toNatClampNeg).toInt := congrArg Int32.toInt (show q_R d43 (Ad ad 106) x1v.toNatClampNeg = _ by rw [e44, rR_o (ad_ne L (by decide) (by decide) (by decide))])
      have f79 := rb_106 L I x1v.toNatClampNeg
      have f80 := rb_106 L i45 x1v.toNatClampNeg
      refine ok_bdv (fun d75 e76 => ?_)
      have i77 : RI ad h.1 δ0 d75 := by rw [e76]; exact cr_111 L i45 (show 0 ≤ (q_R d43 (Ad ad 106) x1v.toNatClampNeg).toInt by omega) (show (q_R d43 (Ad ad 106) x1v.toNatClampNeg).toInt ≤ 1000 by omega)
      have u81 := kp_N u47 (show q_I d75 = q_I d43 by rw [e76]; rfl)
      have v82 : q_V d75 = q_V δ := ((show q_V d75 = q_V d43 by rw [e76]; rfl)).trans v48
      have v83 := kr_s L (by decide) v49 e76
      refine ok_biv (fun vx84 e85 => ?_)
      first | (have q86 := te_addc (c := 1) (n := 1) rfl x1v (by omega) (by omega); rw [← e85] at q86; obtain ⟨f87, f88, f89⟩ := q86) | (obtain ⟨q86, f87, f88, f89⟩ : ∃ q : Int, vx84.toInt = x1v.toInt + (1 : Int) + 4294967296 * q ∧ -2147483648 ≤ vx84.toInt ∧ vx84.toInt ≤ 2147483647 := by rw [e85]; exact ti_addc (c := 1) (n := 1) rfl x1v)
      have f90 := cb_12_18 i77 k_a0
      have f91 : (q_I d75 12 18 a0).toInt = (q_I d43 12 18 a0).toInt := congrArg Int32.toInt (by rw [e76]; rfl)
      refine ok_mono (ih vx84 d75 i77 (show 0 ≤ (vx84).toInt by first | assumption | omega) (show (vx84).toInt ≤ 4 by first | assumption | omega) (show (q_I d75 12 18 a0).toInt < 3 by first | assumption | omega) (show 4 - (vx84).toInt < _ by omega)) (fun r92 hr93 => ?_)
      obtain ⟨i94, ⟨u97, u98, u99⟩, p95, p96⟩ := hr93
      have u100 := kp_t u81 u97
      have v101 : q_V r92.2 = q_V δ := (u98).trans v82
      have v102 := kr_t v83 u99
      have f103 := ti_b r92.1
      have f104 := cb_12_18 i94 k_a0
      have f105 := ti_b r92.1
      exact ⟨by assumption, ⟨kp_w (by decide) u100, v101, kr_w (by decide) v102⟩, by first | assumption | omega, by first | assumption | omega⟩
set_option maxHeartbeats 4000000 in
theorem kl_X12_image_53 {ad : List Nat} {h : hp} (L : Lay TLx ad h) {δ0 : dp} {N : Nat} (hN : 10000000 ≤ N) {a0 : Nat} (k_a0 : q_K h.1 a0 = 12) : ∀ (n : Nat) (x1v : Int32) (δ : dp), RI ad h.1 δ0 δ → 0 ≤ (x1v).toInt → (x1v).toInt ≤ 4000 → (q_I δ 12 18 a0).toInt < 3 → 4000 - (x1v).toInt < (n : Int) → ok (L_X12_image_53 N h.1 a0 n x1v δ) (fun r => RI ad h.1 δ0 r.2 ∧ (kp [(12, 0), (12, 18)] δ r.2 ∧ q_V r.2 = q_V δ ∧ kr ad [107, 108, 109, 110, 111] δ r.2) ∧ (r.1).toInt = (q_I δ 12 18 a0).toInt + 1 ∧ (q_I r.2 12 18 a0).toInt = (q_I δ 12 18 a0).toInt + 1) := by
  intro n
  induction n with
  | zero =>
    intro x1v δ I j0 j1 j2 hm
    have f1 := ti_b x1v
    have f2 := cb_12_18 I k_a0
    exfalso; omega
  | succ n ih =>
    intro x1v δ I j0 j1 j2 hm
    unfold L_X12_image_53
    have f1 := ti_b x1v
    have f2 := cb_12_18 I k_a0
    refine ok_ite (fun h3 => ?_) (fun h3 => ?_)
    · have c4 : (4000 : Int) ≤ x1v.toInt := o_le h3
      refine ok_mono (kl_X12_image_110 L hN   k_a0 _ (0 : Int32) δ I (show 0 ≤ (0 : Int) by first | assumption | omega) (show (0 : Int) ≤ 4 by first | assumption | omega) (show (q_I δ 12 18 a0).toInt < 3 by first | assumption | omega) (show 4 - (0 : Int) < _ by omega)) (fun r5 hr6 => ?_)
      obtain ⟨i7, ⟨u10, u11, u12⟩, p8, p9⟩ := hr6
      have u13 := kp_t kp_r u10
      have v14 : q_V r5.2 = q_V δ := (u11).trans rfl
      have v15 := kr_t (kr_r (ad := ad)) u12
      have f16 := ti_b r5.1
      have f17 := cb_12_18 i7 k_a0
      have f18 := ti_b r5.1
      exact ⟨by assumption, ⟨kp_w (by decide) u13, v14, kr_w (by decide) v15⟩, by first | assumption | omega, by first | assumption | omega⟩
    · have c19 : x1v.toInt < (4000 : Int) := o_nle h3
      obtain ⟨b20, o21, k22, n23, w24⟩ := gO_12_21 L k_a0
      obtain rfl := gS_12_21 L k_a0 o21
      refine ok_at o21 ?_
      obtain ⟨b25, o26, k27, n28, w29⟩ := gO_12_15 L k_a0
      obtain rfl := gS_12_15 L k_a0 o26
      refine ok_at o26 ?_
      have t30 := ti_tn x1v
      refine ok_gd (fun hc31 => ?_) ?_
      · rcases hc31 with hc31 | hc31
        · have c32 : x1v.toInt < (0 : Int) := o_lt hc31
          omega
        · omega
      first | (have q34 := te_mulc (c := 4000) (n := 4000) rfl (q_I δ 12 18 a0) (by omega) (by omega); obtain ⟨f35, f36, f37⟩ := q34) | (obtain ⟨q34, f35, f36, f37⟩ := ti_mulc (c := 4000) (n := 4000) rfl (q_I δ 12 18 a0))
      first | (have q39 := te_add ((4000 : Int32) * (q_I δ 12 18 a0)) x1v (by omega) (by omega); obtain ⟨f40, f41, f42⟩ := q39) | (obtain ⟨q39, f40, f41, f42⟩ := ti_add ((4000 : Int32) * (q_I δ 12 18 a0)) x1v)
      have t43 := ti_tn (((4000 : Int32) * (q_I δ 12 18 a0)) + x1v)
      refine ok_gd (fun hc44 => ?_) ?_
      · rcases hc44 with hc44 | hc44
        · have c45 : (((4000 : Int32) * (q_I δ 12 18 a0)) + x1v).toInt < (0 : Int) := o_lt hc44
          omega
        · omega
      refine ok_bdv (fun d46 e47 => ?_)
      have i48 : RI ad h.1 δ0 d46 := by rw [e47]; exact RI.sR L I w24
      have u49 := kp_N kp_r (show q_I d46 = q_I δ by rw [e47]; rfl)
      have v50 : q_V d46 = q_V δ := ((show q_V d46 = q_V δ by rw [e47]; rfl)).trans rfl
      have v51 := kr_s L (by decide) (kr_r (ad := ad)) e47
      obtain ⟨b52, o53, k54, n55, w56⟩ := gO_12_22 L k_a0
      obtain rfl := gS_12_22 L k_a0 o53
      refine ok_at o53 ?_
      obtain ⟨b57, o58, k59, n60, w61⟩ := gO_12_16 L k_a0
      obtain rfl := gS_12_16 L k_a0 o58
      refine ok_at o58 ?_
      refine ok_gd (fun hc62 => ?_) ?_
      · rcases hc62 with hc62 | hc62
        · have c63 : x1v.toInt < (0 : Int) := o_lt hc62
          omega
        · omega
      have f65 := cb_12_18 i48 k_a0
      have f66 : (q_I d46 12 18 a0).toInt = (q_I δ 12 18 a0).toInt := congrArg Int32.toInt (by rw [e47]; rfl)
      first | (have q67 := te_mulc (c := 4000) (n := 4000) rfl (q_I d46 12 18 a0) (by omega) (by omega); obtain ⟨f68, f69, f70⟩ := q67) | (obtain ⟨q67, f68, f69, f70⟩ := ti_mulc (c := 4000) (n := 4000) rfl (q_I d46 12 18 a0))
      first | (have q72 := te_add ((4000 : Int32) * (q_I d46 12 18 a0)) x1v (by omega) (by omega); obtain ⟨f73, f74, f75⟩ := q72) | (obtain ⟨q72, f73, f74, f75⟩ := ti_add ((4000 : Int32) * (q_I d46 12 18 a0)) x1v)
      have t76 := ti_tn (((4000 : Int32) * (q_I d46 12 18 a0)) + x1v)
      refine ok_gd (fun hc77 => ?_) ?_
      · rcases hc77 with hc77 | hc77
        · have c78 : (((4000 : Int32) * (q_I d46 12 18 a0)) + x1v).toInt < (0 : Int) := o_lt hc77
          omega
        · omega
      refine ok_bdv (fun d79 e80 => ?_)
      have i81 : RI ad h.1 δ0 d79 := by rw [e80]; exact RI.sR L i48 w56
      have u82 := kp_N u49 (show q_I d79 = q_I d46 by rw [e80]; rfl)
      have v83 : q_V d79 = q_V δ := ((show q_V d79 = q_V d46 by rw [e80]; rfl)).trans v50
      have v84 := kr_s L (by decide) v51 e80
      refine ok_biv (fun vx85 e86 => ?_)
      first | (have q87 := te_addc (c := 1) (n := 1) rfl x1v (by omega) (by omega); rw [← e86] at q87; obtain ⟨f88, f89, f90⟩ := q87) | (obtain ⟨q87, f88, f89, f90⟩ : ∃ q : Int, vx85.toInt = x1v.toInt + (1 : Int) + 4294967296 * q ∧ -2147483648 ≤ vx85.toInt ∧ vx85.toInt ≤ 2147483647 := by rw [e86]; exact ti_addc (c := 1) (n := 1) rfl x1v)
      have f91 := cb_12_18 i81 k_a0
      have f92 : (q_I d79 12 18 a0).toInt = (q_I d46 12 18 a0).toInt := congrArg Int32.toInt (by rw [e80]; rfl)
      refine ok_mono (ih vx85 d79 i81 (show 0 ≤ (vx85).toInt by first | assumption | omega) (show (vx85).toInt ≤ 4000 by first | assumption | omega) (show (q_I d79 12 18 a0).toInt < 3 by first | assumption | omega) (show 4000 - (vx85).toInt < _ by omega)) (fun r93 hr94 => ?_)
      obtain ⟨i95, ⟨u98, u99, u100⟩, p96, p97⟩ := hr94
      have u101 := kp_t u82 u98
      have v102 : q_V r93.2 = q_V δ := (u99).trans v83
      have v103 := kr_t v84 u100
      have f104 := ti_b r93.1
      have f105 := cb_12_18 i95 k_a0
      have f106 := ti_b r93.1
      exact ⟨by assumption, ⟨kp_w (by decide) u101, v102, kr_w (by decide) v103⟩, by first | assumption | omega, by first | assumption | omega⟩
set_option maxHeartbeats 4000000 in
theorem kl_X12_image_17 {ad : List Nat} {h : hp} (L : Lay TLx ad h) {δ0 : dp} {N : Nat} (hN : 10000000 ≤ N) {a0 : Nat} (k_a0 : q_K h.1 a0 = 12) : ∀ (n : Nat) (x1v : Int32) (δ : dp), RI ad h.1 δ0 δ → 0 ≤ (x1v).toInt → (x1v).toInt ≤ 8000 → (q_I δ 12 18 a0).toInt < 3 → 8000 - (x1v).toInt < (n : Int) → ok (L_X12_image_17 N h.1 a0 n x1v δ) (fun r => RI ad h.1 δ0 r.2 ∧ (kp [(12, 0), (12, 18)] δ r.2 ∧ q_V r.2 = q_V δ ∧ kr ad [107, 108, 109, 110, 111] δ r.2) ∧ (r.1).toInt = (q_I δ 12 18 a0).toInt + 1 ∧ (q_I r.2 12 18 a0).toInt = (q_I δ 12 18 a0).toInt + 1) := by
  intro n
  induction n with
  | zero =>
    intro x1v δ I j0 j1 j2 hm
    have f1 := ti_b x1v
    have f2 := cb_12_18 I k_a0
    exfalso; omega
  | succ n ih =>
    intro x1v δ I j0 j1 j2 hm
    unfold L_X12_image_17
    have f1 := ti_b x1v
    have f2 := cb_12_18 I k_a0
    refine ok_ite (fun h3 => ?_) (fun h3 => ?_)
    · have c4 : (8000 : Int) ≤ x1v.toInt := o_le h3
      refine ok_mono (kl_X12_image_53 L hN   k_a0 _ (0 : Int32) δ I (show 0 ≤ (0 : Int) by first | assumption | omega) (show (0 : Int) ≤ 4000 by first | assumption | omega) (show (q_I δ 12 18 a0).toInt < 3 by first | assumption | omega) (show 4000 - (0 : Int) < _ by omega)) (fun r5 hr6 => ?_)
      obtain ⟨i7, ⟨u10, u11, u12⟩, p8, p9⟩ := hr6
      have u13 := kp_t kp_r u10
      have v14 : q_V r5.2 = q_V δ := (u11).trans rfl
      have v15 := kr_t (kr_r (ad := ad)) u12
      have f16 := ti_b r5.1
      have f17 := cb_12_18 i7 k_a0
      have f18 := ti_b r5.1
      exact ⟨by assumption, ⟨kp_w (by decide) u13, v14, kr_w (by decide) v15⟩, by first | assumption | omega, by first | assumption | omega⟩
    · have c19 : x1v.toInt < (8000 : Int) := o_nle h3
      obtain ⟨b20, o21, k22, n23, w24⟩ := gO_12_19 L k_a0
      obtain rfl := gS_12_19 L k_a0 o21
      refine ok_at o21 ?_
      obtain ⟨b25, o26, k27, n28, w29⟩ := gO_12_13 L k_a0
      obtain rfl := gS_12_13 L k_a0 o26
      refine ok_at o26 ?_
      have t30 := ti_tn x1v
      refine ok_gd (fun hc31 => ?_) ?_
      · rcases hc31 with hc31 | hc31
        · have c32 : x1v.toInt < (0 : Int) := o_lt hc31
          omega
        · omega
      first | (have q34 := te_mulc (c := 8000) (n := 8000) rfl (q_I δ 12 18 a0) (by omega) (by omega); obtain ⟨f35, f36, f37⟩ := q34) | (obtain ⟨q34, f35, f36, f37⟩ := ti_mulc (c := 8000) (n := 8000) rfl (q_I δ 12 18 a0))
      first | (have q39 := te_add ((8000 : Int32) * (q_I δ 12 18 a0)) x1v (by omega) (by omega); obtain ⟨f40, f41, f42⟩ := q39) | (obtain ⟨q39, f40, f41, f42⟩ := ti_add ((8000 : Int32) * (q_I δ 12 18 a0)) x1v)
      have t43 := ti_tn (((8000 : Int32) * (q_I δ 12 18 a0)) + x1v)
      refine ok_gd (fun hc44 => ?_) ?_
      · rcases hc44 with hc44 | hc44
        · have c45 : (((8000 : Int32) * (q_I δ 12 18 a0)) + x1v).toInt < (0 : Int) := o_lt hc44
          omega
        · omega
      refine ok_bdv (fun d46 e47 => ?_)
      have i48 : RI ad h.1 δ0 d46 := by rw [e47]; exact RI.sR L I w24
      have u49 := kp_N kp_r (show q_I d46 = q_I δ by rw [e47]; rfl)
      have v50 : q_V d46 = q_V δ := ((show q_V d46 = q_V δ by rw [e47]; rfl)).trans rfl
      have v51 := kr_s L (by decide) (kr_r (ad := ad)) e47
      refine ok_biv (fun vx52 e53 => ?_)
      first | (have q54 := te_addc (c := 1) (n := 1) rfl x1v (by omega) (by omega); rw [← e53] at q54; obtain ⟨f55, f56, f57⟩ := q54) | (obtain ⟨q54, f55, f56, f57⟩ : ∃ q : Int, vx52.toInt = x1v.toInt + (1 : Int) + 4294967296 * q ∧ -2147483648 ≤ vx52.toInt ∧ vx52.toInt ≤ 2147483647 := by rw [e53]; exact ti_addc (c := 1) (n := 1) rfl x1v)
      have f58 := cb_12_18 i48 k_a0
      have f59 : (q_I d46 12 18 a0).toInt = (q_I δ 12 18 a0).toInt := congrArg Int32.toInt (by rw [e47]; rfl)
      refine ok_mono (ih vx52 d46 i48 (show 0 ≤ (vx52).toInt by first | assumption | omega) (show (vx52).toInt ≤ 8000 by first | assumption | omega) (show (q_I d46 12 18 a0).toInt < 3 by first | assumption | omega) (show 8000 - (vx52).toInt < _ by omega)) (fun r60 hr61 => ?_)
      obtain ⟨i62, ⟨u65, u66, u67⟩, p63, p64⟩ := hr61
      have u68 := kp_t u49 u65
      have v69 : q_V r60.2 = q_V δ := (u66).trans v50
      have v70 := kr_t v51 u67
      have f71 := ti_b r60.1
      have f72 := cb_12_18 i62 k_a0
      have f73 := ti_b r60.1
      exact ⟨by assumption, ⟨kp_w (by decide) u68, v69, kr_w (by decide) v70⟩, by first | assumption | omega, by first | assumption | omega⟩
set_option maxHeartbeats 4000000 in
theorem k_X12_image {ad : List Nat} {h : hp} (L : Lay TLx ad h) {δ0 : dp} {N : Nat} (hN : 10000000 ≤ N) {a0 : Nat} (k_a0 : q_K h.1 a0 = 12) {δ : dp} (I : RI ad h.1 δ0 δ) : ok (D_X12_image N h.1 a0 δ) (fun r => RI ad h.1 δ0 r.2 ∧ (kp [(12, 0), (12, 18)] δ r.2 ∧ q_V r.2 = q_V δ ∧ kr ad [107, 108, 109, 110, 111] δ r.2) ∧ ((q_I δ 12 18 a0).toInt < 3 → (r.1).toInt = (q_I δ 12 18 a0).toInt + 1 ∧ (q_I r.2 12 18 a0).toInt = (q_I δ 12 18 a0).toInt + 1) ∧ (3 ≤ (q_I δ 12 18 a0).toInt → (r.1).toInt = -1 ∧ (q_I r.2 12 18 a0).toInt = (q_I δ 12 18 a0).toInt)) := by
  unfold D_X12_image
  refine ok_bdv (fun d1 e2 => ?_)
  have i3 : RI ad h.1 δ0 d1 := by rw [e2]; exact cs_12_0 L I
  have u4 := kp_I kp_r e2
  have v5 : q_V d1 = q_V δ := ((show q_V d1 = q_V δ by rw [e2]; rfl)).trans rfl
  have v6 := kr_N (kr_r (ad := ad)) (show q_R d1 = q_R δ by rw [e2]; rfl)
  have f7 := cb_12_18 i3 k_a0
  have f8 : (q_I d1 12 18 a0).toInt = (q_I δ 12 18 a0).toInt := congrArg Int32.toInt (by rw [e2]; exact rI_o (by decide))
  have f9 := cb_12_18 I k_a0
  refine ok_ite (fun h10 => ?_) (fun h10 => ?_)
  · have c11 : (q_I d1 12 18 a0).toInt = (3 : Int) := o_eq h10
    exact ok_some (show RI ad h.1 δ0 d1 ∧ (kp [(12, 0), (12, 18)] δ d1 ∧ q_V d1 = q_V δ ∧ kr ad [107, 108, 109, 110, 111] δ d1) ∧ ((q_I δ 12 18 a0).toInt < 3 → (-1 : Int) = (q_I δ 12 18 a0).toInt + 1 ∧ (q_I d1 12 18 a0).toInt = (q_I δ 12 18 a0).toInt + 1) ∧ (3 ≤ (q_I δ 12 18 a0).toInt → (-1 : Int) = -1 ∧ (q_I d1 12 18 a0).toInt = (q_I δ 12 18 a0).toInt) from ⟨i3, ⟨kp_w (by decide) u4, v5, kr_w (by decide) v6⟩, by first | assumption | omega, by first | assumption | omega⟩)
  · have c12 : (q_I d1 12 18 a0).toInt ≠ (3 : Int) := o_ne h10
    refine ok_mono (kl_X12_image_17 L hN   k_a0 _ (0 : Int32) d1 i3 (show 0 ≤ (0 : Int) by first | assumption | omega) (show (0 : Int) ≤ 8000 by first | assumption | omega) (show (q_I d1 12 18 a0).toInt < 3 by first | assumption | omega) (show 8000 - (0 : Int) < _ by omega)) (fun r13 hr14 => ?_)
    obtain ⟨i15, ⟨u18, u19, u20⟩, p16, p17⟩ := hr14
    have u21 := kp_t u4 u18
    have v22 : q_V r13.2 = q_V δ := (u19).trans v5
    have v23 := kr_t v6 u20
    have f24 := ti_b r13.1
    have f25 := cb_12_18 i15 k_a0
    have f26 := ti_b r13.1
    exact ⟨by assumption, ⟨kp_w (by decide) u21, v22, kr_w (by decide) v23⟩, by first | assumption | omega, by first | assumption | omega⟩
set_option maxHeartbeats 4000000 in
theorem kl_X12_restore_119 {ad : List Nat} {h : hp} (L : Lay TLx ad h) {δ0 : dp} {N : Nat} (hN : 10000000 ≤ N) {a0 : Nat} (k_a0 : q_K h.1 a0 = 12) : ∀ (n : Nat) (x1v : Int32) (δ : dp), RI ad h.1 δ0 δ → 0 ≤ (x1v).toInt → (x1v).toInt ≤ 4 → (q_I δ 12 18 a0).toInt < 3 → 4 - (x1v).toInt < (n : Int) → ok (L_X12_restore_119 N h.1 a0 n x1v δ) (fun r => RI ad h.1 δ0 r.2 ∧ (kp [(12, 0), (12, 18)] δ r.2 ∧ q_V r.2 = q_V δ ∧ kr ad [102, 103, 104, 105, 106] δ r.2) ∧ (r.1).toInt = (q_I δ 12 18 a0).toInt ∧ (q_I r.2 12 18 a0).toInt = (q_I δ 12 18 a0).toInt) := by
  intro n
  induction n with
  | zero =>
    intro x1v δ I j0 j1 j2 hm
    have f1 := ti_b x1v
    have f2 := cb_12_18 I k_a0
    exfalso; omega
  | succ n ih =>
    intro x1v δ I j0 j1 j2 hm
    unfold L_X12_restore_119
    have f1 := ti_b x1v
    have f2 := cb_12_18 I k_a0
    refine ok_ite (fun h3 => ?_) (fun h3 => ?_)
    · have c4 : (4 : Int) ≤ x1v.toInt := o_le h3
      exact ok_some (show RI ad h.1 δ0 δ ∧ (kp [(12, 0), (12, 18)] δ δ ∧ q_V δ = q_V δ ∧ kr ad [102, 103, 104, 105, 106] δ δ) ∧ ((q_I δ 12 18 a0)).toInt = (q_I δ 12 18 a0).toInt ∧ (q_I δ 12 18 a0).toInt = (q_I δ 12 18 a0).toInt from ⟨I, ⟨kp_w (by decide) kp_r, rfl, kr_w (by decide) (kr_r (ad := ad))⟩, by first | assumption | omega, by first | assumption | omega⟩)
    · have c5 : x1v.toInt < (4 : Int) := o_nle h3
      obtain ⟨b6, o7, k8, n9⟩ := gO_12_14 L k_a0
      obtain rfl := gS_12_14 L k_a0 o7
      refine ok_at o7 ?_
      obtain ⟨b10, o11, k12, n13⟩ := gO_12_20 L k_a0
      obtain rfl := gS_12_20 L k_a0 o11
      refine ok_at o11 ?_
      first | (have q15 := te_mulc (c := 4) (n := 4) rfl (q_I δ 12 18 a0) (by omega) (by omega); obtain ⟨f16, f17, f18⟩ := q15) | (obtain ⟨q15, f16, f17, f18⟩ := ti_mulc (c := 4) (n := 4) rfl (q_I δ 12 18 a0))
      first | (have q20 := te_add ((4 : Int32) * (q_I δ 12 18 a0)) x1v (by omega) (by omega); obtain ⟨f21, f22, f23⟩ := q20) | (obtain ⟨q20, f21, f22, f23⟩ := ti_add ((4 : Int32) * (q_I δ 12 18 a0)) x1v)
      have t24 := ti_tn (((4 : Int32) * (q_I δ 12 18 a0)) + x1v)
      refine ok_gd (fun hc25 => ?_) ?_
      · rcases hc25 with hc25 | hc25
        · have c26 : (((4 : Int32) * (q_I δ 12 18 a0)) + x1v).toInt < (0 : Int) := o_lt hc25
          omega
        · omega
      have t27 := ti_tn x1v
      refine ok_gd (fun hc28 => ?_) ?_
      · rcases hc28 with hc28 | hc28
        · have c29 : x1v.toInt < (0 : Int) := o_lt hc28
          omega
        · omega
      have f33 := rb_108 L I (((4 : Int32) * (q_I δ 12 18 a0)) + x1v).toNatClampNeg
      refine ok_bdv (fun d30 e31 => ?_)
      have i32 : RI ad h.1 δ0 d30 := by rw [e31]; exact cr_103 L I (show -1000 ≤ (q_R δ (Ad ad 108) (((4 : Int32) * (q_I δ 12 18 a0)) + x1v).toNatClampNeg).toInt by omega) (show (q_R δ (Ad ad 108) (((4 : Int32) * (q_I δ 12 18 a0)) + x1v).toNatClampNeg).toInt ≤ 2000 by omega)
      have u34 := kp_N kp_r (show q_I d30 = q_I δ by rw [e31]; rfl)
      have v35 : q_V d30 = q_V δ := ((show q_V d30 = q_V δ by rw [e31]; rfl)).trans rfl
      have v36 := kr_s L (by decide) (kr_r (ad := ad)) e31
      obtain ⟨b37, o38, k39, n40⟩ := gO_12_17 L k_a0
      obtain rfl := gS_12_17 L k_a0 o38
      refine ok_at o38 ?_
      obtain ⟨b41, o42, k43, n44⟩ := gO_12_23 L k_a0
      obtain rfl := gS_12_23 L k_a0 o42
      refine ok_at o42 ?_
      have f46 := cb_12_18 i32 k_a0
      have f47 : (q_I d30 12 18 a0).toInt = (q_I δ 12 18 a0).toInt := congrArg Int32.toInt (by rw [e31]; rfl)
      first | (have q48 := te_mulc (c := 4) (n := 4) rfl (q_I d30 12 18 a0) (by omega) (by omega); obtain ⟨f49, f50, f51⟩ := q48) | (obtain ⟨q48, f49, f50, f51⟩ := ti_mulc (c := 4) (n := 4) rfl (q_I d30 12 18 a0))
      first | (have q53 := te_add ((4 : Int32) * (q_I d30 12 18 a0)) x1v (by omega) (by omega); obtain ⟨f54, f55, f56⟩ := q53) | (obtain ⟨q53, f54, f55, f56⟩ := ti_add ((4 : Int32) * (q_I d30 12 18 a0)) x1v)
      have t57 := ti_tn (((4 : Int32) * (q_I d30 12 18 a0)) + x1v)
      refine ok_gd (fun hc58 => ?_) ?_
      · rcases hc58 with hc58 | hc58
        · have c59 : (((4 : Int32) * (q_I d30 12 18 a0)) + x1v).toInt < (0 : Int) := o_lt hc58
          omega
        · omega
      refine ok_gd (fun hc60 => ?_) ?_
      · rcases hc60 with hc60 | hc60
        · have c61 : x1v.toInt < (0 : Int) := o_lt hc60
          omega
        · omega
      have f65 : (q_R d30 (Ad ad 111) (((4 : Int32) * (q_I d30 12 18 a0)) + x1v).toNatClampNeg).toInt = (q_R δ (Ad ad 111) (((4 : Int32) * (q_I d30 12 18 a0)) + x1v).toNatClampNeg).toInt := congrArg Int32.toInt (show q_R d30 (Ad ad 111) (((4 : Int32) * (q_I d30 12 18 a0)) + x1v).toNatClampNeg = _ by rw [e31, rR_o (ad_ne L (by decide) (by decide) (by decide))])
      have f66 := rb_111 L I (((4 : Int32) * (q_I d30 12 18 a0)) + x1v).toNatClampNeg
      have f67 := rb_111 L i32 (((4 : Int32) * (q_I d30 12 18 a0)) + x1v).toNatClampNeg
      refine ok_bdv (fun d62 e63 => ?_)
      have i64 : RI ad h.1 δ0 d62 := by rw [e63]; exact cr_106 L i32 (show 0 ≤ (q_R d30 (Ad ad 111) (((4 : Int32) * (q_I d30 12 18 a0)) + x1v).toNatClampNeg).toInt by omega) (show (q_R d30 (Ad ad 111) (((4 : Int32) * (q_I d30 12 18 a0)) + x1v).toNatClampNeg).toInt ≤ 1000 by omega)
      have u68 := kp_N u34 (show q_I d62 = q_I d30 by rw [e63]; rfl)
      have v69 : q_V d62 = q_V δ := ((show q_V d62 = q_V d30 by rw [e63]; rfl)).trans v35
      have v70 := kr_s L (by decide) v36 e63
      refine ok_biv (fun vx71 e72 => ?_)
      first | (have q73 := te_addc (c := 1) (n := 1) rfl x1v (by omega) (by omega); rw [← e72] at q73; obtain ⟨f74, f75, f76⟩ := q73) | (obtain ⟨q73, f74, f75, f76⟩ : ∃ q : Int, vx71.toInt = x1v.toInt + (1 : Int) + 4294967296 * q ∧ -2147483648 ≤ vx71.toInt ∧ vx71.toInt ≤ 2147483647 := by rw [e72]; exact ti_addc (c := 1) (n := 1) rfl x1v)
      have f77 := cb_12_18 i64 k_a0
      have f78 : (q_I d62 12 18 a0).toInt = (q_I d30 12 18 a0).toInt := congrArg Int32.toInt (by rw [e63]; rfl)
      refine ok_mono (ih vx71 d62 i64 (show 0 ≤ (vx71).toInt by first | assumption | omega) (show (vx71).toInt ≤ 4 by first | assumption | omega) (show (q_I d62 12 18 a0).toInt < 3 by first | assumption | omega) (show 4 - (vx71).toInt < _ by omega)) (fun r79 hr80 => ?_)
      obtain ⟨i81, ⟨u84, u85, u86⟩, p82, p83⟩ := hr80
      have u87 := kp_t u68 u84
      have v88 : q_V r79.2 = q_V δ := (u85).trans v69
      have v89 := kr_t v70 u86
      have f90 := ti_b r79.1
      have f91 := cb_12_18 i81 k_a0
      have f92 := ti_b r79.1
      exact ⟨by assumption, ⟨kp_w (by decide) u87, v88, kr_w (by decide) v89⟩, by first | assumption | omega, by first | assumption | omega⟩
set_option maxHeartbeats 4000000 in
theorem kl_X12_restore_62 {ad : List Nat} {h : hp} (L : Lay TLx ad h) {δ0 : dp} {N : Nat} (hN : 10000000 ≤ N) {a0 : Nat} (k_a0 : q_K h.1 a0 = 12) : ∀ (n : Nat) (x1v : Int32) (δ : dp), RI ad h.1 δ0 δ → 0 ≤ (x1v).toInt → (x1v).toInt ≤ 4000 → (q_I δ 12 18 a0).toInt < 3 → 4000 - (x1v).toInt < (n : Int) → ok (L_X12_restore_62 N h.1 a0 n x1v δ) (fun r => RI ad h.1 δ0 r.2 ∧ (kp [(12, 0), (12, 18)] δ r.2 ∧ q_V r.2 = q_V δ ∧ kr ad [102, 103, 104, 105, 106] δ r.2) ∧ (r.1).toInt = (q_I δ 12 18 a0).toInt ∧ (q_I r.2 12 18 a0).toInt = (q_I δ 12 18 a0).toInt) := by
  intro n
  induction n with
  | zero =>
    intro x1v δ I j0 j1 j2 hm
    have f1 := ti_b x1v
    have f2 := cb_12_18 I k_a0
    exfalso; omega
  | succ n ih =>
    intro x1v δ I j0 j1 j2 hm
    unfold L_X12_restore_62
    have f1 := ti_b x1v
    have f2 := cb_12_18 I k_a0
    refine ok_ite (fun h3 => ?_) (fun h3 => ?_)
    · have c4 : (4000 : Int) ≤ x1v.toInt := o_le h3
      refine ok_mono (kl_X12_restore_119 L hN   k_a0 _ (0 : Int32) δ I (show 0 ≤ (0 : Int) by first | assumption | omega) (show (0 : Int) ≤ 4 by first | assumption | omega) (show (q_I δ 12 18 a0).toInt < 3 by first | assumption | omega) (show 4 - (0 : Int) < _ by omega)) (fun r5 hr6 => ?_)
      obtain ⟨i7, ⟨u10, u11, u12⟩, p8, p9⟩ := hr6
      have u13 := kp_t kp_r u10
      have v14 : q_V r5.2 = q_V δ := (u11).trans rfl
      have v15 := kr_t (kr_r (ad := ad)) u12
      have f16 := ti_b r5.1
      have f17 := cb_12_18 i7 k_a0
      have f18 := ti_b r5.1
      exact ⟨by assumption, ⟨kp_w (by decide) u13, v14, kr_w (by decide) v15⟩, by first | assumption | omega, by first | assumption | omega⟩
    · have c19 : x1v.toInt < (4000 : Int) := o_nle h3
      obtain ⟨b20, o21, k22, n23, w24⟩ := gO_12_15 L k_a0
      obtain rfl := gS_12_15 L k_a0 o21
      refine ok_at o21 ?_
      obtain ⟨b25, o26, k27, n28, w29⟩ := gO_12_21 L k_a0
      obtain rfl := gS_12_21 L k_a0 o26
      refine ok_at o26 ?_
      first | (have q31 := te_mulc (c := 4000) (n := 4000) rfl (q_I δ 12 18 a0) (by omega) (by omega); obtain ⟨f32, f33, f34⟩ := q31) | (obtain ⟨q31, f32, f33, f34⟩ := ti_mulc (c := 4000) (n := 4000) rfl (q_I δ 12 18 a0))
      first | (have q36 := te_add ((4000 : Int32) * (q_I δ 12 18 a0)) x1v (by omega) (by omega); obtain ⟨f37, f38, f39⟩ := q36) | (obtain ⟨q36, f37, f38, f39⟩ := ti_add ((4000 : Int32) * (q_I δ 12 18 a0)) x1v)
      have t40 := ti_tn (((4000 : Int32) * (q_I δ 12 18 a0)) + x1v)
      refine ok_gd (fun hc41 => ?_) ?_
      · rcases hc41 with hc41 | hc41
        · have c42 : (((4000 : Int32) * (q_I δ 12 18 a0)) + x1v).toInt < (0 : Int) := o_lt hc41
          omega
        · omega
      have t43 := ti_tn x1v
      refine ok_gd (fun hc44 => ?_) ?_
      · rcases hc44 with hc44 | hc44
        · have c45 : x1v.toInt < (0 : Int) := o_lt hc44
          omega
        · omega
      refine ok_bdv (fun d46 e47 => ?_)
      have i48 : RI ad h.1 δ0 d46 := by rw [e47]; exact RI.sR L I w24
      have u49 := kp_N kp_r (show q_I d46 = q_I δ by rw [e47]; rfl)
      have v50 : q_V d46 = q_V δ := ((show q_V d46 = q_V δ by rw [e47]; rfl)).trans rfl
      have v51 := kr_s L (by decide) (kr_r (ad := ad)) e47
      obtain ⟨b52, o53, k54, n55, w56⟩ := gO_12_16 L k_a0
      obtain rfl := gS_12_16 L k_a0 o53
      refine ok_at o53 ?_
      obtain ⟨b57, o58, k59, n60, w61⟩ := gO_12_22 L k_a0
      obtain rfl := gS_12_22 L k_a0 o58
      refine ok_at o58 ?_
      have f63 := cb_12_18 i48 k_a0
      have f64 : (q_I d46 12 18 a0).toInt = (q_I δ 12 18 a0).toInt := congrArg Int32.toInt (by rw [e47]; rfl)
      first | (have q65 := te_mulc (c := 4000) (n := 4000) rfl (q_I d46 12 18 a0) (by omega) (by omega); obtain ⟨f66, f67, f68⟩ := q65) | (obtain ⟨q65, f66, f67, f68⟩ := ti_mulc (c := 4000) (n := 4000) rfl (q_I d46 12 18 a0))
      first | (have q70 := te_add ((4000 : Int32) * (q_I d46 12 18 a0)) x1v (by omega) (by omega); obtain ⟨f71, f72, f73⟩ := q70) | (obtain ⟨q70, f71, f72, f73⟩ := ti_add ((4000 : Int32) * (q_I d46 12 18 a0)) x1v)
      have t74 := ti_tn (((4000 : Int32) * (q_I d46 12 18 a0)) + x1v)
      refine ok_gd (fun hc75 => ?_) ?_
      · rcases hc75 with hc75 | hc75
        · have c76 : (((4000 : Int32) * (q_I d46 12 18 a0)) + x1v).toInt < (0 : Int) := o_lt hc75
          omega
        · omega
      refine ok_gd (fun hc77 => ?_) ?_
      · rcases hc77 with hc77 | hc77
        · have c78 : x1v.toInt < (0 : Int) := o_lt hc77
          omega
        · omega
      refine ok_bdv (fun d79 e80 => ?_)
      have i81 : RI ad h.1 δ0 d79 := by rw [e80]; exact RI.sR L i48 w56
      have u82 := kp_N u49 (show q_I d79 = q_I d46 by rw [e80]; rfl)
      have v83 : q_V d79 = q_V δ := ((show q_V d79 = q_V d46 by rw [e80]; rfl)).trans v50
      have v84 := kr_s L (by decide) v51 e80
      refine ok_biv (fun vx85 e86 => ?_)
      first | (have q87 := te_addc (c := 1) (n := 1) rfl x1v (by omega) (by omega); rw [← e86] at q87; obtain ⟨f88, f89, f90⟩ := q87) | (obtain ⟨q87, f88, f89, f90⟩ : ∃ q : Int, vx85.toInt = x1v.toInt + (1 : Int) + 4294967296 * q ∧ -2147483648 ≤ vx85.toInt ∧ vx85.toInt ≤ 2147483647 := by rw [e86]; exact ti_addc (c := 1) (n := 1) rfl x1v)
      have f91 := cb_12_18 i81 k_a0
      have f92 : (q_I d79 12 18 a0).toInt = (q_I d46 12 18 a0).toInt := congrArg Int32.toInt (by rw [e80]; rfl)
      refine ok_mono (ih vx85 d79 i81 (show 0 ≤ (vx85).toInt by first | assumption | omega) (show (vx85).toInt ≤ 4000 by first | assumption | omega) (show (q_I d79 12 18 a0).toInt < 3 by first | assumption | omega) (show 4000 - (vx85).toInt < _ by omega)) (fun r93 hr94 => ?_)
      obtain ⟨i95, ⟨u98, u99, u100⟩, p96, p97⟩ := hr94
      have u101 := kp_t u82 u98
      have v102 : q_V r93.2 = q_V δ := (u99).trans v83
      have v103 := kr_t v84 u100
      have f104 := ti_b r93.1
      have f105 := cb_12_18 i95 k_a0
      have f106 := ti_b r93.1
      exact ⟨by assumption, ⟨kp_w (by decide) u101, v102, kr_w (by decide) v103⟩, by first | assumption | omega, by first | assumption | omega⟩
set_option maxHeartbeats 4000000 in
theorem kl_X12_restore_26 {ad : List Nat} {h : hp} (L : Lay TLx ad h) {δ0 : dp} {N : Nat} (hN : 10000000 ≤ N) {a0 : Nat} (k_a0 : q_K h.1 a0 = 12) : ∀ (n : Nat) (x1v : Int32) (δ : dp), RI ad h.1 δ0 δ → 0 ≤ (x1v).toInt → (x1v).toInt ≤ 8000 → (q_I δ 12 18 a0).toInt < 3 → 8000 - (x1v).toInt < (n : Int) → ok (L_X12_restore_26 N h.1 a0 n x1v δ) (fun r => RI ad h.1 δ0 r.2 ∧ (kp [(12, 0), (12, 18)] δ r.2 ∧ q_V r.2 = q_V δ ∧ kr ad [102, 103, 104, 105, 106] δ r.2) ∧ (r.1).toInt = (q_I δ 12 18 a0).toInt ∧ (q_I r.2 12 18 a0).toInt = (q_I δ 12 18 a0).toInt) := by
  intro n
  induction n with
  | zero =>
    intro x1v δ I j0 j1 j2 hm
    have f1 := ti_b x1v
    have f2 := cb_12_18 I k_a0
    exfalso; omega
  | succ n ih =>
    intro x1v δ I j0 j1 j2 hm
    unfold L_X12_restore_26
    have f1 := ti_b x1v
    have f2 := cb_12_18 I k_a0
    refine ok_ite (fun h3 => ?_) (fun h3 => ?_)
    · have c4 : (8000 : Int) ≤ x1v.toInt := o_le h3
      refine ok_mono (kl_X12_restore_62 L hN   k_a0 _ (0 : Int32) δ I (show 0 ≤ (0 : Int) by first | assumption | omega) (show (0 : Int) ≤ 4000 by first | assumption | omega) (show (q_I δ 12 18 a0).toInt < 3 by first | assumption | omega) (show 4000 - (0 : Int) < _ by omega)) (fun r5 hr6 => ?_)
      obtain ⟨i7, ⟨u10, u11, u12⟩, p8, p9⟩ := hr6
      have u13 := kp_t kp_r u10
      have v14 : q_V r5.2 = q_V δ := (u11).trans rfl
      have v15 := kr_t (kr_r (ad := ad)) u12
      have f16 := ti_b r5.1
      have f17 := cb_12_18 i7 k_a0
      have f18 := ti_b r5.1
      exact ⟨by assumption, ⟨kp_w (by decide) u13, v14, kr_w (by decide) v15⟩, by first | assumption | omega, by first | assumption | omega⟩
    · have c19 : x1v.toInt < (8000 : Int) := o_nle h3
      obtain ⟨b20, o21, k22, n23, w24⟩ := gO_12_13 L k_a0
      obtain rfl := gS_12_13 L k_a0 o21
      refine ok_at o21 ?_
      obtain ⟨b25, o26, k27, n28, w29⟩ := gO_12_19 L k_a0
      obtain rfl := gS_12_19 L k_a0 o26
      refine ok_at o26 ?_
      first | (have q31 := te_mulc (c := 8000) (n := 8000) rfl (q_I δ 12 18 a0) (by omega) (by omega); obtain ⟨f32, f33, f34⟩ := q31) | (obtain ⟨q31, f32, f33, f34⟩ := ti_mulc (c := 8000) (n := 8000) rfl (q_I δ 12 18 a0))
      first | (have q36 := te_add ((8000 : Int32) * (q_I δ 12 18 a0)) x1v (by omega) (by omega); obtain ⟨f37, f38, f39⟩ := q36) | (obtain ⟨q36, f37, f38, f39⟩ := ti_add ((8000 : Int32) * (q_I δ 12 18 a0)) x1v)
      have t40 := ti_tn (((8000 : Int32) * (q_I δ 12 18 a0)) + x1v)
      refine ok_gd (fun hc41 => ?_) ?_
      · rcases hc41 with hc41 | hc41
        · have c42 : (((8000 : Int32) * (q_I δ 12 18 a0)) + x1v).toInt < (0 : Int) := o_lt hc41
          omega
        · omega
      have t43 := ti_tn x1v
      refine ok_gd (fun hc44 => ?_) ?_
      · rcases hc44 with hc44 | hc44
        · have c45 : x1v.toInt < (0 : Int) := o_lt hc44
          omega
        · omega
      refine ok_bdv (fun d46 e47 => ?_)
      have i48 : RI ad h.1 δ0 d46 := by rw [e47]; exact RI.sR L I w24
      have u49 := kp_N kp_r (show q_I d46 = q_I δ by rw [e47]; rfl)
      have v50 : q_V d46 = q_V δ := ((show q_V d46 = q_V δ by rw [e47]; rfl)).trans rfl
      have v51 := kr_s L (by decide) (kr_r (ad := ad)) e47
      refine ok_biv (fun vx52 e53 => ?_)
      first | (have q54 := te_addc (c := 1) (n := 1) rfl x1v (by omega) (by omega); rw [← e53] at q54; obtain ⟨f55, f56, f57⟩ := q54) | (obtain ⟨q54, f55, f56, f57⟩ : ∃ q : Int, vx52.toInt = x1v.toInt + (1 : Int) + 4294967296 * q ∧ -2147483648 ≤ vx52.toInt ∧ vx52.toInt ≤ 2147483647 := by rw [e53]; exact ti_addc (c := 1) (n := 1) rfl x1v)
      have f58 := cb_12_18 i48 k_a0
      have f59 : (q_I d46 12 18 a0).toInt = (q_I δ 12 18 a0).toInt := congrArg Int32.toInt (by rw [e47]; rfl)
      refine ok_mono (ih vx52 d46 i48 (show 0 ≤ (vx52).toInt by first | assumption | omega) (show (vx52).toInt ≤ 8000 by first | assumption | omega) (show (q_I d46 12 18 a0).toInt < 3 by first | assumption | omega) (show 8000 - (vx52).toInt < _ by omega)) (fun r60 hr61 => ?_)
      obtain ⟨i62, ⟨u65, u66, u67⟩, p63, p64⟩ := hr61
      have u68 := kp_t u49 u65
      have v69 : q_V r60.2 = q_V δ := (u66).trans v50
      have v70 := kr_t v51 u67
      have f71 := ti_b r60.1
      have f72 := cb_12_18 i62 k_a0
      have f73 := ti_b r60.1
      exact ⟨by assumption, ⟨kp_w (by decide) u68, v69, kr_w (by decide) v70⟩, by first | assumption | omega, by first | assumption | omega⟩
set_option maxHeartbeats 4000000 in
theorem k_X12_restore {ad : List Nat} {h : hp} (L : Lay TLx ad h) {δ0 : dp} {N : Nat} (hN : 10000000 ≤ N) {a0 : Nat} (k_a0 : q_K h.1 a0 = 12) {δ : dp} (I : RI ad h.1 δ0 δ) : ok (D_X12_restore N h.1 a0 δ) (fun r => RI ad h.1 δ0 r.2 ∧ (kp [(12, 0), (12, 18)] δ r.2 ∧ q_V r.2 = q_V δ ∧ kr ad [102, 103, 104, 105, 106] δ r.2) ∧ (0 < (q_I δ 12 18 a0).toInt → (r.1).toInt = (q_I δ 12 18 a0).toInt - 1 ∧ (q_I r.2 12 18 a0).toInt = (q_I δ 12 18 a0).toInt - 1) ∧ ((q_I δ 12 18 a0).toInt ≤ 0 → (r.1).toInt = -1 ∧ (q_I r.2 12 18 a0).toInt = (q_I δ 12 18 a0).toInt)) := by
  unfold D_X12_restore
  refine ok_bdv (fun d1 e2 => ?_)
  have i3 : RI ad h.1 δ0 d1 := by rw [e2]; exact cs_12_0 L I
  have u4 := kp_I kp_r e2
  have v5 : q_V d1 = q_V δ := ((show q_V d1 = q_V δ by rw [e2]; rfl)).trans rfl
  have v6 := kr_N (kr_r (ad := ad)) (show q_R d1 = q_R δ by rw [e2]; rfl)
  have f7 := cb_12_18 i3 k_a0
  have f8 : (q_I d1 12 18 a0).toInt = (q_I δ 12 18 a0).toInt := congrArg Int32.toInt (by rw [e2]; exact rI_o (by decide))
  have f9 := cb_12_18 I k_a0
  refine ok_ite (fun h10 => ?_) (fun h10 => ?_)
  · have c11 : (q_I d1 12 18 a0).toInt = (0 : Int) := o_eq h10
    exact ok_some (show RI ad h.1 δ0 d1 ∧ (kp [(12, 0), (12, 18)] δ d1 ∧ q_V d1 = q_V δ ∧ kr ad [102, 103, 104, 105, 106] δ d1) ∧ (0 < (q_I δ 12 18 a0).toInt → (-1 : Int) = (q_I δ 12 18 a0).toInt - 1 ∧ (q_I d1 12 18 a0).toInt = (q_I δ 12 18 a0).toInt - 1) ∧ ((q_I δ 12 18 a0).toInt ≤ 0 → (-1 : Int) = -1 ∧ (q_I d1 12 18 a0).toInt = (q_I δ 12 18 a0).toInt) from ⟨i3, ⟨kp_w (by decide) u4, v5, kr_w (by decide) v6⟩, by first | assumption | omega, by first | assumption | omega⟩)
  · have c12 : (q_I d1 12 18 a0).toInt ≠ (0 : Int) := o_ne h10
    first | (have q17 := te_subc (c := 1) (n := 1) rfl (q_I d1 12 18 a0) (by omega) (by omega); obtain ⟨f18, f19, f20⟩ := q17) | (obtain ⟨q17, f18, f19, f20⟩ := ti_subc (c := 1) (n := 1) rfl (q_I d1 12 18 a0))
    refine ok_bdv (fun d13 e14 => ?_)
    have i15 : RI ad h.1 δ0 d13 := by rw [e14]; exact cs_12_18 L i3 k_a0 (show 0 ≤ ((q_I d1 12 18 a0) - (1 : Int32)).toInt by omega) (show ((q_I d1 12 18 a0) - (1 : Int32)).toInt ≤ 3 by omega)
    have u21 := kp_I u4 e14
    have v22 : q_V d13 = q_V δ := ((show q_V d13 = q_V d1 by rw [e14]; rfl)).trans v5
    have v23 := kr_N v6 (show q_R d13 = q_R d1 by rw [e14]; rfl)
    have f24 := cb_12_18 i15 k_a0
    have f25 : (q_I d13 12 18 a0).toInt = ((q_I d1 12 18 a0) - (1 : Int32)).toInt := congrArg Int32.toInt (show q_I d13 12 18 a0 = ((q_I d1 12 18 a0) - (1 : Int32)) by rw [e14]; exact rI_s)
    refine ok_mono (kl_X12_restore_26 L hN   k_a0 _ (0 : Int32) d13 i15 (show 0 ≤ (0 : Int) by first | assumption | omega) (show (0 : Int) ≤ 8000 by first | assumption | omega) (show (q_I d13 12 18 a0).toInt < 3 by first | assumption | omega) (show 8000 - (0 : Int) < _ by omega)) (fun r26 hr27 => ?_)
    obtain ⟨i28, ⟨u31, u32, u33⟩, p29, p30⟩ := hr27
    have u34 := kp_t u21 u31
    have v35 : q_V r26.2 = q_V δ := (u32).trans v22
    have v36 := kr_t v23 u33
    have f37 := ti_b r26.1
    have f38 := cb_12_18 i28 k_a0
    have f39 := ti_b r26.1
    exact ⟨by assumption, ⟨kp_w (by decide) u34, v35, kr_w (by decide) v36⟩, by first | assumption | omega, by first | assumption | omega⟩
set_option maxHeartbeats 4000000 in
theorem k_X12_status {ad : List Nat} {h : hp} (L : Lay TLx ad h) {δ0 : dp} {N : Nat} (hN : 10000000 ≤ N) {a0 : Nat} {x1 : Int32} (k_a0 : q_K h.1 a0 = 12) {δ : dp} (I : RI ad h.1 δ0 δ) : ok (D_X12_status N h.1 a0 x1 δ) (fun r => RI ad h.1 δ0 r.2 ∧ (kp [(12, 0)] δ r.2 ∧ q_V r.2 = q_V δ ∧ q_R r.2 = q_R δ ∧ kr ad [] δ r.2)) := by
  unfold D_X12_status
  refine ok_bdv (fun d1 e2 => ?_)
  have i3 : RI ad h.1 δ0 d1 := by rw [e2]; exact cs_12_0 L I
  have u4 := kp_I kp_r e2
  have v5 : q_V d1 = q_V δ := ((show q_V d1 = q_V δ by rw [e2]; rfl)).trans rfl
  have v6 : q_R d1 = q_R δ := ((show q_R d1 = q_R δ by rw [e2]; rfl)).trans rfl
  have v7 := kr_N (kr_r (ad := ad)) (show q_R d1 = q_R δ by rw [e2]; rfl)
  refine ok_bind (k_X12_within L hN (x0 := x1) (x1 := (0 : Int32)) (x2 := (2 : Int32))  i3) (fun r8 hr9 => ?_)
  obtain ⟨i10, p11, p12, p13⟩ := hr9
  try rw [i10]
  have f14 := bo_l p11
  have f15 := ti_b r8.1
  have f16 := ti_b x1
  replace p12 : ((r8.1).toInt = 1 → (0 : Int) ≤ (x1).toInt ∧ (x1).toInt ≤ (2 : Int)) := p12
  replace p13 : ((r8.1).toInt = 0 → (x1).toInt < (0 : Int) ∨ (2 : Int) < (x1).toInt) := p13
  have f17 := ti_b r8.1
  refine ok_ite (fun h18 => ?_) (fun h18 => ?_)
  · have c19 : r8.1.toInt = (0 : Int) := o_eq h18
    unfold J_X12_status_24
    exact ok_some (show RI ad h.1 δ0 d1 ∧ (kp [(12, 0)] δ d1 ∧ q_V d1 = q_V δ ∧ q_R d1 = q_R δ ∧ kr ad [] δ d1) from ⟨i3, ⟨kp_w (by decide) u4, v5, v6, kr_w (by decide) v7⟩⟩)
  · have c20 : r8.1.toInt ≠ (0 : Int) := o_ne h18
    obtain ⟨b21, o22, k23, n24, w25⟩ := gO_12_1 L k_a0
    obtain rfl := gS_12_1 L k_a0 o22
    refine ok_at o22 ?_
    have t26 := ti_tn x1
    refine ok_gd (fun hc27 => ?_) ?_
    · rcases hc27 with hc27 | hc27
      · have c28 : x1.toInt < (0 : Int) := o_lt hc27
        omega
      · omega
    unfold J_X12_status_24
    exact ok_some (show RI ad h.1 δ0 d1 ∧ (kp [(12, 0)] δ d1 ∧ q_V d1 = q_V δ ∧ q_R d1 = q_R δ ∧ kr ad [] δ d1) from ⟨i3, ⟨kp_w (by decide) u4, v5, v6, kr_w (by decide) v7⟩⟩)
set_option maxHeartbeats 4000000 in
theorem k_X12_count {ad : List Nat} {h : hp} (L : Lay TLx ad h) {δ0 : dp} {N : Nat} (hN : 10000000 ≤ N) {a0 : Nat} {x1 : Int32} (k_a0 : q_K h.1 a0 = 12) {δ : dp} (I : RI ad h.1 δ0 δ) : ok (D_X12_count N h.1 a0 x1 δ) (fun r => RI ad h.1 δ0 r.2 ∧ (kp [(12, 0)] δ r.2 ∧ q_V r.2 = q_V δ ∧ q_R r.2 = q_R δ ∧ kr ad [] δ r.2)) := by
  unfold D_X12_count
  refine ok_bdv (fun d1 e2 => ?_)
  have i3 : RI ad h.1 δ0 d1 := by rw [e2]; exact cs_12_0 L I
  have u4 := kp_I kp_r e2
  have v5 : q_V d1 = q_V δ := ((show q_V d1 = q_V δ by rw [e2]; rfl)).trans rfl
  have v6 : q_R d1 = q_R δ := ((show q_R d1 = q_R δ by rw [e2]; rfl)).trans rfl
  have v7 := kr_N (kr_r (ad := ad)) (show q_R d1 = q_R δ by rw [e2]; rfl)
  have f8 := ti_b x1
  refine ok_ite (fun h9 => ?_) (fun h9 => ?_)
  · have c10 : x1.toInt = (0 : Int) := o_eq h9
    unfold J_X12_count_64
    exact ok_some (show RI ad h.1 δ0 d1 ∧ (kp [(12, 0)] δ d1 ∧ q_V d1 = q_V δ ∧ q_R d1 = q_R δ ∧ kr ad [] δ d1) from ⟨i3, ⟨kp_w (by decide) u4, v5, v6, kr_w (by decide) v7⟩⟩)
  · have c11 : x1.toInt ≠ (0 : Int) := o_ne h9
    refine ok_ite (fun h12 => ?_) (fun h12 => ?_)
    · have c13 : x1.toInt = (1 : Int) := o_eq h12
      unfold J_X12_count_64
      exact ok_some (show RI ad h.1 δ0 d1 ∧ (kp [(12, 0)] δ d1 ∧ q_V d1 = q_V δ ∧ q_R d1 = q_R δ ∧ kr ad [] δ d1) from ⟨i3, ⟨kp_w (by decide) u4, v5, v6, kr_w (by decide) v7⟩⟩)
    · have c14 : x1.toInt ≠ (1 : Int) := o_ne h12
      refine ok_ite (fun h15 => ?_) (fun h15 => ?_)
      · have c16 : x1.toInt = (2 : Int) := o_eq h15
        obtain ⟨b17, o18, k19, n20⟩ := gO_12_14 L k_a0
        obtain rfl := gS_12_14 L k_a0 o18
        refine ok_at o18 ?_
        have t21 : (0 : Int32).toNatClampNeg = 0 := rfl
        refine ok_gd (fun hc22 => ?_) ?_
        · rcases hc22 with hc22 | hc22
          · have c23 : (0 : Int) < (0 : Int) := o_lt hc22
            omega
          · omega
        refine ok_at o18 ?_
        have t24 : (1 : Int32).toNatClampNeg = 1 := rfl
        refine ok_gd (fun hc25 => ?_) ?_
        · rcases hc25 with hc25 | hc25
          · have c26 : (1 : Int) < (0 : Int) := o_lt hc25
            omega
          · omega
        refine ok_at o18 ?_
        have t27 : (2 : Int32).toNatClampNeg = 2 := rfl
        refine ok_gd (fun hc28 => ?_) ?_
        · rcases hc28 with hc28 | hc28
          · have c29 : (2 : Int) < (0 : Int) := o_lt hc28
            omega
          · omega
        refine ok_at o18 ?_
        have t30 : (3 : Int32).toNatClampNeg = 3 := rfl
        refine ok_gd (fun hc31 => ?_) ?_
        · rcases hc31 with hc31 | hc31
          · have c32 : (3 : Int) < (0 : Int) := o_lt hc31
            omega
          · omega
        unfold J_X12_count_64
        exact ok_some (show RI ad h.1 δ0 d1 ∧ (kp [(12, 0)] δ d1 ∧ q_V d1 = q_V δ ∧ q_R d1 = q_R δ ∧ kr ad [] δ d1) from ⟨i3, ⟨kp_w (by decide) u4, v5, v6, kr_w (by decide) v7⟩⟩)
      · have c33 : x1.toInt ≠ (2 : Int) := o_ne h15
        unfold J_X12_count_64
        exact ok_some (show RI ad h.1 δ0 d1 ∧ (kp [(12, 0)] δ d1 ∧ q_V d1 = q_V δ ∧ q_R d1 = q_R δ ∧ kr ad [] δ d1) from ⟨i3, ⟨kp_w (by decide) u4, v5, v6, kr_w (by decide) v7⟩⟩)
