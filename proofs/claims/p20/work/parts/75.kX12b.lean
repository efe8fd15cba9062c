/-! 75.kX12b (by gen_safe.py) -/
set_option maxHeartbeats 4000000 in
theorem k_X12_told {ad : List Nat} {h : hp} (L : Lay TLx ad h) {δ0 : dp} {N : Nat} (hN : 10000000 ≤ N) {a0 : Nat} {x1 : Int32} (k_a0 : q_K h.1 a0 = 12) {δ : dp} (I : RI ad h.1 δ0 δ) : ok (D_X12_told N h.1 a0 x1 δ) (fun r => RI ad h.1 δ0 r.2 ∧ (kp [(12, 0)] δ r.2 ∧ q_V r.2 = q_V δ ∧ kr ad [100] δ r.2)) := by
  unfold D_X12_told
  refine ok_bdv (fun d1 e2 => ?_)
  have i3 : RI ad h.1 δ0 d1 := by rw [e2]; exact cs_12_0 L I
  have u4 := kp_I kp_r e2
  have v5 : q_V d1 = q_V δ := ((show q_V d1 = q_V δ by rw [e2]; rfl)).trans rfl
  have v6 := kr_N (kr_r (ad := ad)) (show q_R d1 = q_R δ by rw [e2]; rfl)
  refine ok_bind (k_X12_within L hN (x0 := x1) (x1 := (0 : Int32)) (x2 := (3 : Int32))  i3) (fun r7 hr8 => ?_)
  obtain ⟨i9, p10, p11, p12⟩ := hr8
  try rw [i9]
  have f13 := bo_l p10
  have f14 := ti_b r7.1
  have f15 := ti_b x1
  replace p11 : ((r7.1).toInt = 1 → (0 : Int) ≤ (x1).toInt ∧ (x1).toInt ≤ (3 : Int)) := p11
  replace p12 : ((r7.1).toInt = 0 → (x1).toInt < (0 : Int) ∨ (3 : Int) < (x1).toInt) := p12
  refine ok_bind (k_X12_may L hN (a0 := a0) (x1 := r7.1) (x2 := (1 : Int32)) (x3 := (2 : Int32)) k_a0 (show (1 : Int) ≠ 0 by first | with_reducible assumption | omega) (show 0 ≤ (2 : Int) by first | with_reducible assumption | omega) (show (2 : Int) ≤ 2 by first | with_reducible assumption | omega) i3) (fun r16 hr17 => ?_)
  obtain ⟨i18, ⟨u22, u23, u24⟩, p19, p20, p21⟩ := hr17
  have u25 := kp_t u4 u22
  have v26 : q_V r16.2 = q_V δ := (u23).trans v5
  have v27 := kr_t v6 u24
  have f28 := bo_l p19
  have f29 := ti_b r16.1
  have f30 := ti_b (q_I d1 12 0 a0)
  have f31 : (q_I d1 12 0 a0).toInt = (0 : Int) := congrArg Int32.toInt (show q_I d1 12 0 a0 = (0 : Int32) by rw [e2]; exact rI_s)
  refine ok_ite (fun h32 => ?_) (fun h32 => ?_)
  · have c33 : r16.1.toInt = (0 : Int) := o_eq h32
    exact ok_some (show RI ad h.1 δ0 r16.2 ∧ (kp [(12, 0)] δ r16.2 ∧ q_V r16.2 = q_V δ ∧ kr ad [100] δ r16.2) from ⟨i18, ⟨kp_w (by decide) u25, v26, kr_w (by decide) v27⟩⟩)
  · have c34 : r16.1.toInt ≠ (0 : Int) := o_ne h32
    refine ok_ite (fun h35 => ?_) (fun h35 => ?_)
    · have c36 : x1.toInt = (1 : Int) := o_eq h35
      have f37 : (q_I r16.2 12 12 a0).toInt = (q_I δ 12 12 a0).toInt := ((show (q_I r16.2 12 12 a0).toInt = (q_I d1 12 12 a0).toInt from congrArg Int32.toInt (u22 12 12 a0 (by decide))).trans (show (q_I d1 12 12 a0).toInt = (q_I δ 12 12 a0).toInt from congrArg Int32.toInt (by rw [e2]; exact rI_o (by decide))))
      have f38 := cb_12_12 I k_a0
      refine ok_ite (fun h39 => ?_) (fun h39 => ?_)
      · have c40 : (q_I r16.2 12 12 a0).toInt = (0 : Int) := o_eq h39
        unfold J_X12_told_39
        exact ok_some (show RI ad h.1 δ0 r16.2 ∧ (kp [(12, 0)] δ r16.2 ∧ q_V r16.2 = q_V δ ∧ kr ad [100] δ r16.2) from ⟨i18, ⟨kp_w (by decide) u25, v26, kr_w (by decide) v27⟩⟩)
      · have c41 : (q_I r16.2 12 12 a0).toInt ≠ (0 : Int) := o_ne h39
        unfold J_X12_told_39
        exact ok_some (show RI ad h.1 δ0 r16.2 ∧ (kp [(12, 0)] δ r16.2 ∧ q_V r16.2 = q_V δ ∧ kr ad [100] δ r16.2) from ⟨i18, ⟨kp_w (by decide) u25, v26, kr_w (by decide) v27⟩⟩)
    · have c42 : x1.toInt ≠ (1 : Int) := o_ne h35
      refine ok_ite (fun h43 => ?_) (fun h43 => ?_)
      · have c44 : x1.toInt = (0 : Int) := o_eq h43
        unfold J_X12_told_67
        exact ok_some (show RI ad h.1 δ0 r16.2 ∧ (kp [(12, 0)] δ r16.2 ∧ q_V r16.2 = q_V δ ∧ kr ad [100] δ r16.2) from ⟨i18, ⟨kp_w (by decide) u25, v26, kr_w (by decide) v27⟩⟩)
      · have c45 : x1.toInt ≠ (0 : Int) := o_ne h43
        refine ok_ite (fun h46 => ?_) (fun h46 => ?_)
        · have c47 : x1.toInt = (2 : Int) := o_eq h46
          unfold J_X12_told_67
          exact ok_some (show RI ad h.1 δ0 r16.2 ∧ (kp [(12, 0)] δ r16.2 ∧ q_V r16.2 = q_V δ ∧ kr ad [100] δ r16.2) from ⟨i18, ⟨kp_w (by decide) u25, v26, kr_w (by decide) v27⟩⟩)
        · have c48 : x1.toInt ≠ (2 : Int) := o_ne h46
          unfold J_X12_told_67
          exact ok_some (show RI ad h.1 δ0 r16.2 ∧ (kp [(12, 0)] δ r16.2 ∧ q_V r16.2 = q_V δ ∧ kr ad [100] δ r16.2) from ⟨i18, ⟨kp_w (by decide) u25, v26, kr_w (by decide) v27⟩⟩)
set_option maxHeartbeats 4000000 in
theorem kl_X12_place_10 {ad : List Nat} {h : hp} (L : Lay TLx ad h) {δ0 : dp} {N : Nat} (hN : 10000000 ≤ N) {a0 : Nat} {x1 : Int32} {x2 : Int32} (k_a0 : q_K h.1 a0 = 12) : ∀ (n : Nat) (x3v : Int32) (x4v : Int32) (δ : dp), RI ad h.1 δ0 δ → 0 ≤ (x1).toInt → (x1).toInt ≤ 3 → 0 ≤ (x3v).toInt → ((x3v).toInt = 0 ∨ (x3v).toInt ≤ (x4v).toInt) → -1000 ≤ (x4v).toInt → (x4v).toInt ≤ (q_R δ (Ad ad 103) (x1).toNatClampNeg).toInt → (x4v).toInt - (x3v).toInt + 1000 < (n : Int) → ok (L_X12_place_10 N h.1 a0 x1 x2 n x3v x4v δ) (fun r => r.2 = δ ∧ 0 ≤ (r.1).toInt ∧ ((r.1).toInt = 0 ∨ (r.1).toInt ≤ (q_R δ (Ad ad 103) (x1).toNatClampNeg).toInt)) := by
  intro n
  induction n with
  | zero =>
    intro x3v x4v δ I j0 j1 j2 j3 j4 j5 hm
    have f1 := ti_b x1
    have f2 := ti_b x3v
    have f3 := ti_b x4v
    have t4 := ti_tn x1
    have f5 := rb_103 L I (x1).toNatClampNeg
    exfalso; omega
  | succ n ih =>
    intro x3v x4v δ I j0 j1 j2 j3 j4 j5 hm
    unfold L_X12_place_10
    have f1 := ti_b x1
    have f2 := ti_b x3v
    have f3 := ti_b x4v
    have t4 := ti_tn x1
    have f5 := rb_103 L I (x1).toNatClampNeg
    refine ok_ite (fun h6 => ?_) (fun h6 => ?_)
    · have c7 : x4v.toInt ≤ x3v.toInt := o_le h6
      exact ok_some (show δ = δ ∧ 0 ≤ (x3v).toInt ∧ ((x3v).toInt = 0 ∨ (x3v).toInt ≤ (q_R δ (Ad ad 103) (x1).toNatClampNeg).toInt) from ⟨rfl, by first | with_reducible assumption | omega, by first | with_reducible assumption | omega⟩)
    · have c8 : x3v.toInt < x4v.toInt := o_nle h6
      first | (have q12 := te_add x3v x4v (by omega) (by omega); obtain ⟨f13, f14, f15⟩ := q12) | (obtain ⟨q12, f13, f14, f15⟩ := ti_add x3v x4v)
      have f16 := ti_div (c := 2) (n := 2) rfl (by decide) (x3v + x4v)
      have f17 := ti_b ((x3v + x4v) / (2 : Int32))
      refine ok_biv (fun vx9 e10 => ?_)
      have f18 : vx9.toInt = ((x3v + x4v) / (2 : Int32)).toInt := congrArg Int32.toInt e10
      obtain ⟨b19, o20, k21, n22, w23⟩ := gO_12_13 L k_a0
      obtain rfl := gS_12_13 L k_a0 o20
      refine ok_at o20 ?_
      first | (have q25 := te_mulc (c := 2000) (n := 2000) rfl x1 (by omega) (by omega); obtain ⟨f26, f27, f28⟩ := q25) | (obtain ⟨q25, f26, f27, f28⟩ := ti_mulc (c := 2000) (n := 2000) rfl x1)
      first | (have q30 := te_add ((2000 : Int32) * x1) vx9 (by omega) (by omega); obtain ⟨f31, f32, f33⟩ := q30) | (obtain ⟨q30, f31, f32, f33⟩ := ti_add ((2000 : Int32) * x1) vx9)
      have t34 := ti_tn (((2000 : Int32) * x1) + vx9)
      refine ok_gd (fun hc35 => ?_) ?_
      · rcases hc35 with hc35 | hc35
        · have c36 : (((2000 : Int32) * x1) + vx9).toInt < (0 : Int) := o_lt hc35
          omega
        · omega
      have f37 := ti_b x2
      have f38 := ti_b (q_R δ (Ad ad 102) (((2000 : Int32) * x1) + vx9).toNatClampNeg)
      refine ok_ite (fun h39 => ?_) (fun h39 => ?_)
      · have c40 : x2.toInt ≤ (q_R δ (Ad ad 102) (((2000 : Int32) * x1) + vx9).toNatClampNeg).toInt := o_le h39
        unfold J_X12_place_53
        refine ok_mono (ih x3v vx9 δ I (show 0 ≤ (x1).toInt by first | with_reducible assumption | omega) (show (x1).toInt ≤ 3 by first | with_reducible assumption | omega) (show 0 ≤ (x3v).toInt by first | with_reducible assumption | omega) (show (x3v).toInt = 0 ∨ (x3v).toInt ≤ (vx9).toInt by first | with_reducible assumption | omega) (show -1000 ≤ (vx9).toInt by first | with_reducible assumption | omega) (show (vx9).toInt ≤ (q_R δ (Ad ad 103) (x1).toNatClampNeg).toInt by first | with_reducible assumption | omega) (show (vx9).toInt - (x3v).toInt + 1000 < _ by omega)) (fun r41 hr42 => ?_)
        obtain ⟨i43, p44, p45⟩ := hr42
        have f46 := ti_b r41.1
        exact ⟨by first | with_reducible assumption | assumption, by first | with_reducible assumption | omega, by first | with_reducible assumption | omega⟩
      · have c47 : (q_R δ (Ad ad 102) (((2000 : Int32) * x1) + vx9).toNatClampNeg).toInt < x2.toInt := o_nle h39
        refine ok_biv (fun vx48 e49 => ?_)
        first | (have q50 := te_addc (c := 1) (n := 1) rfl vx9 (by omega) (by omega); rw [← e49] at q50; obtain ⟨f51, f52, f53⟩ := q50) | (obtain ⟨q50, f51, f52, f53⟩ : ∃ q : Int, vx48.toInt = vx9.toInt + (1 : Int) + 4294967296 * q ∧ -2147483648 ≤ vx48.toInt ∧ vx48.toInt ≤ 2147483647 := by rw [e49]; exact ti_addc (c := 1) (n := 1) rfl vx9)
        unfold J_X12_place_53
        refine ok_mono (ih vx48 x4v δ I (show 0 ≤ (x1).toInt by first | with_reducible assumption | omega) (show (x1).toInt ≤ 3 by first | with_reducible assumption | omega) (show 0 ≤ (vx48).toInt by first | with_reducible assumption | omega) (show (vx48).toInt = 0 ∨ (vx48).toInt ≤ (x4v).toInt by first | with_reducible assumption | omega) (show -1000 ≤ (x4v).toInt by first | with_reducible assumption | omega) (show (x4v).toInt ≤ (q_R δ (Ad ad 103) (x1).toNatClampNeg).toInt by first | with_reducible assumption | omega) (show (x4v).toInt - (vx48).toInt + 1000 < _ by omega)) (fun r54 hr55 => ?_)
        obtain ⟨i56, p57, p58⟩ := hr55
        have f59 := ti_b r54.1
        exact ⟨by first | with_reducible assumption | assumption, by first | with_reducible assumption | omega, by first | with_reducible assumption | omega⟩
set_option maxHeartbeats 4000000 in
theorem k_X12_place {ad : List Nat} {h : hp} (L : Lay TLx ad h) {δ0 : dp} {N : Nat} (hN : 10000000 ≤ N) {a0 : Nat} {x1 : Int32} {x2 : Int32} (k_a0 : q_K h.1 a0 = 12) {δ : dp} (z0 : 0 ≤ (x1).toInt) (z1 : (x1).toInt ≤ 3) (I : RI ad h.1 δ0 δ) : ok (D_X12_place N h.1 a0 x1 x2 δ) (fun r => r.2 = δ ∧ 0 ≤ (r.1).toInt ∧ ((r.1).toInt = 0 ∨ (r.1).toInt ≤ (q_R δ (Ad ad 103) (x1).toNatClampNeg).toInt)) := by
  unfold D_X12_place
  have f1 := ti_b x1
  obtain ⟨b2, o3, k4, n5⟩ := gO_12_14 L k_a0
  obtain rfl := gS_12_14 L k_a0 o3
  refine ok_at o3 ?_
  have t6 := ti_tn x1
  refine ok_gd (fun hc7 => ?_) ?_
  · rcases hc7 with hc7 | hc7
    · have c8 : x1.toInt < (0 : Int) := o_lt hc7
      omega
    · omega
  have f11 := rb_103 L I x1.toNatClampNeg
  refine ok_biv (fun vx9 e10 => ?_)
  have f12 : vx9.toInt = (q_R δ (Ad ad 103) x1.toNatClampNeg).toInt := congrArg Int32.toInt e10
  have t13 := ti_tn x1
  have f14 := rb_103 L I (x1).toNatClampNeg
  refine ok_mono (kl_X12_place_10 L hN   k_a0 _ (0 : Int32) vx9 δ I (show 0 ≤ (x1).toInt by first | with_reducible assumption | omega) (show (x1).toInt ≤ 3 by first | with_reducible assumption | omega) (show 0 ≤ (0 : Int) by first | with_reducible assumption | omega) (show (0 : Int) = 0 ∨ (0 : Int) ≤ (vx9).toInt by first | with_reducible assumption | omega) (show -1000 ≤ (vx9).toInt by first | with_reducible assumption | omega) (show (vx9).toInt ≤ (q_R δ (Ad ad 103) (x1).toNatClampNeg).toInt by first | with_reducible assumption | omega) (show (vx9).toInt - (0 : Int) + 1000 < _ by omega)) (fun r15 hr16 => ?_)
  obtain ⟨i17, p18, p19⟩ := hr16
  have f20 := ti_b r15.1
  exact ⟨by first | with_reducible assumption | assumption, by first | with_reducible assumption | omega, by first | with_reducible assumption | omega⟩
set_option maxHeartbeats 4000000 in
theorem k_X12_isThere {ad : List Nat} {h : hp} (L : Lay TLx ad h) {δ0 : dp} {N : Nat} (hN : 10000000 ≤ N) {a0 : Nat} {x1 : Int32} {x2 : Int32} (k_a0 : q_K h.1 a0 = 12) {δ : dp} (z0 : 0 ≤ (x1).toInt) (z1 : (x1).toInt ≤ 3) (I : RI ad h.1 δ0 δ) : ok (D_X12_isThere N h.1 a0 x1 x2 δ) (fun r => r.2 = δ ∧ bo (r.1) ∧ ((r.1).toInt = 1 → 1 ≤ (q_R δ (Ad ad 103) (x1).toNatClampNeg).toInt)) := by
  unfold D_X12_isThere
  have f1 := ti_b x1
  refine ok_bind (k_X12_place L hN (a0 := a0) (x1 := x1) (x2 := x2) k_a0 (show 0 ≤ (x1).toInt by first | with_reducible assumption | omega) (show (x1).toInt ≤ 3 by first | with_reducible assumption | omega) I) (fun r2 hr3 => ?_)
  obtain ⟨i4, p5, p6⟩ := hr3
  try rw [i4]
  have f7 := ti_b r2.1
  have t8 := ti_tn x1
  have f9 := rb_103 L I (x1).toNatClampNeg
  obtain ⟨b10, o11, k12, n13⟩ := gO_12_14 L k_a0
  obtain rfl := gS_12_14 L k_a0 o11
  refine ok_at o11 ?_
  have t14 := ti_tn x1
  refine ok_gd (fun hc15 => ?_) ?_
  · rcases hc15 with hc15 | hc15
    · have c16 : x1.toInt < (0 : Int) := o_lt hc15
      omega
    · omega
  have f17 := rb_103 L I x1.toNatClampNeg
  refine ok_ite (fun h18 => ?_) (fun h18 => ?_)
  · have c19 : (q_R δ (Ad ad 103) x1.toNatClampNeg).toInt ≤ r2.1.toInt := o_le h18
    unfold J_X12_isThere_37
    unfold J_X12_isThere_38
    refine ok_gp (by decide) ?_
    exact ok_some (show δ = δ ∧ bo ((0 : Int32)) ∧ ((0 : Int) = 1 → 1 ≤ (q_R δ (Ad ad 103) (x1).toNatClampNeg).toInt) from ⟨rfl, bo_0, by first | with_reducible assumption | omega⟩)
  · have c20 : r2.1.toInt < (q_R δ (Ad ad 103) x1.toNatClampNeg).toInt := o_nle h18
    obtain ⟨b21, o22, k23, n24, w25⟩ := gO_12_13 L k_a0
    obtain rfl := gS_12_13 L k_a0 o22
    refine ok_at o22 ?_
    first | (have q27 := te_mulc (c := 2000) (n := 2000) rfl x1 (by omega) (by omega); obtain ⟨f28, f29, f30⟩ := q27) | (obtain ⟨q27, f28, f29, f30⟩ := ti_mulc (c := 2000) (n := 2000) rfl x1)
    first | (have q32 := te_add ((2000 : Int32) * x1) r2.1 (by omega) (by omega); obtain ⟨f33, f34, f35⟩ := q32) | (obtain ⟨q32, f33, f34, f35⟩ := ti_add ((2000 : Int32) * x1) r2.1)
    have t36 := ti_tn (((2000 : Int32) * x1) + r2.1)
    refine ok_gd (fun hc37 => ?_) ?_
    · rcases hc37 with hc37 | hc37
      · have c38 : (((2000 : Int32) * x1) + r2.1).toInt < (0 : Int) := o_lt hc37
        omega
      · omega
    have f39 := ti_b (q_R δ (Ad ad 102) (((2000 : Int32) * x1) + r2.1).toNatClampNeg)
    have f40 := ti_b x2
    refine ok_ite (fun h41 => ?_) (fun h41 => ?_)
    · have c42 : (q_R δ (Ad ad 102) (((2000 : Int32) * x1) + r2.1).toNatClampNeg).toInt = x2.toInt := o_eq h41
      unfold J_X12_isThere_38
      refine ok_gp (by decide) ?_
      exact ok_some (show δ = δ ∧ bo ((1 : Int32)) ∧ ((1 : Int) = 1 → 1 ≤ (q_R δ (Ad ad 103) (x1).toNatClampNeg).toInt) from ⟨rfl, bo_1, by first | with_reducible assumption | omega⟩)
    · have c43 : (q_R δ (Ad ad 102) (((2000 : Int32) * x1) + r2.1).toNatClampNeg).toInt ≠ x2.toInt := o_ne h41
      unfold J_X12_isThere_37
      unfold J_X12_isThere_38
      refine ok_gp (by decide) ?_
      exact ok_some (show δ = δ ∧ bo ((0 : Int32)) ∧ ((0 : Int) = 1 → 1 ≤ (q_R δ (Ad ad 103) (x1).toNatClampNeg).toInt) from ⟨rfl, bo_0, by first | with_reducible assumption | omega⟩)
set_option maxHeartbeats 4000000 in
theorem kl_X12_comes_27 {ad : List Nat} {h : hp} (L : Lay TLx ad h) {δ0 : dp} {N : Nat} (hN : 10000000 ≤ N) {a0 : Nat} {x1 : Int32} {x2 : Int32} (k_a0 : q_K h.1 a0 = 12) : ∀ (n : Nat) (x3v : Int32) (x4v : Int32) (δ : dp), RI ad h.1 δ0 δ → 0 ≤ (x1).toInt → (x1).toInt ≤ 3 → 2000 * (x1).toInt ≤ (x3v).toInt → (x3v).toInt ≤ 2000 * (x1).toInt + 1999 → (x4v).toInt ≤ 2000 * (x1).toInt + 1999 → (x3v).toInt ≤ (x4v).toInt + 1000 → (q_R δ (Ad ad 103) (x1).toNatClampNeg).toInt < 2000 → (x4v).toInt - (x3v).toInt + 1000 < (n : Int) → ok (L_X12_comes_27 N h.1 a0 x1 x2 n x3v x4v δ) (fun r => RI ad h.1 δ0 r ∧ (kp [] δ r ∧ q_V r = q_V δ ∧ kr ad [102, 103] δ r) ∧ (q_R r (Ad ad 103) (x1).toNatClampNeg).toInt = (q_R δ (Ad ad 103) (x1).toNatClampNeg).toInt + 1) := by
  intro n
  induction n with
  | zero =>
    intro x3v x4v δ I j0 j1 j2 j3 j4 j5 j6 hm
    have f1 := ti_b x1
    have f2 := ti_b x3v
    have f3 := ti_b x4v
    have t4 := ti_tn x1
    have f5 := rb_103 L I (x1).toNatClampNeg
    exfalso; omega
  | succ n ih =>
    intro x3v x4v δ I j0 j1 j2 j3 j4 j5 j6 hm
    unfold L_X12_comes_27
    have f1 := ti_b x1
    have f2 := ti_b x3v
    have f3 := ti_b x4v
    have t4 := ti_tn x1
    have f5 := rb_103 L I (x1).toNatClampNeg
    refine ok_ite (fun h6 => ?_) (fun h6 => ?_)
    · have c7 : x4v.toInt ≤ x3v.toInt := o_le h6
      obtain ⟨b8, o9, k10, n11, w12⟩ := gO_12_13 L k_a0
      obtain rfl := gS_12_13 L k_a0 o9
      refine ok_at o9 ?_
      have t13 := ti_tn x3v
      refine ok_gd (fun hc14 => ?_) ?_
      · rcases hc14 with hc14 | hc14
        · have c15 : x3v.toInt < (0 : Int) := o_lt hc14
          omega
        · omega
      refine ok_bdv (fun d16 e17 => ?_)
      have i18 : RI ad h.1 δ0 d16 := by rw [e17]; exact RI.sR L I w12
      have u19 := kp_N kp_r (show q_I d16 = q_I δ by rw [e17]; rfl)
      have v20 : q_V d16 = q_V δ := ((show q_V d16 = q_V δ by rw [e17]; rfl)).trans rfl
      have v21 := kr_s L (by decide) (kr_r (ad := ad)) e17
      obtain ⟨b22, o23, k24, n25⟩ := gO_12_14 L k_a0
      obtain rfl := gS_12_14 L k_a0 o23
      refine ok_at o23 ?_
      have t26 := ti_tn x1
      refine ok_gd (fun hc27 => ?_) ?_
      · rcases hc27 with hc27 | hc27
        · have c28 : x1.toInt < (0 : Int) := o_lt hc27
          omega
        · omega
      refine ok_gd (fun hc29 => ?_) ?_
      · rcases hc29 with hc29 | hc29
        · have c30 : x1.toInt < (0 : Int) := o_lt hc29
          omega
        · omega
      have f34 : (q_R d16 (Ad ad 103) x1.toNatClampNeg).toInt = (q_R δ (Ad ad 103) x1.toNatClampNeg).toInt := congrArg Int32.toInt (show q_R d16 (Ad ad 103) x1.toNatClampNeg = _ by rw [e17, rR_o (ad_ne L (by decide) (by decide) (by decide))])
      have f35 := rb_103 L I x1.toNatClampNeg
      have f36 := rb_103 L i18 x1.toNatClampNeg
      first | (have q38 := te_addc (c := 1) (n := 1) rfl (q_R d16 (Ad ad 103) x1.toNatClampNeg) (by omega) (by omega); obtain ⟨f39, f40, f41⟩ := q38) | (obtain ⟨q38, f39, f40, f41⟩ := ti_addc (c := 1) (n := 1) rfl (q_R d16 (Ad ad 103) x1.toNatClampNeg))
      refine ok_bdv (fun d31 e32 => ?_)
      have i33 : RI ad h.1 δ0 d31 := by rw [e32]; exact cr_103 L i18 (show -1000 ≤ ((q_R d16 (Ad ad 103) x1.toNatClampNeg) + (1 : Int32)).toInt by omega) (show ((q_R d16 (Ad ad 103) x1.toNatClampNeg) + (1 : Int32)).toInt ≤ 2000 by omega)
      have u42 := kp_N u19 (show q_I d31 = q_I d16 by rw [e32]; rfl)
      have v43 : q_V d31 = q_V δ := ((show q_V d31 = q_V d16 by rw [e32]; rfl)).trans v20
      have v44 := kr_s L (by decide) v21 e32
      have f45 : (q_R d31 (Ad ad 103) (x1).toNatClampNeg).toInt = ((q_R d16 (Ad ad 103) x1.toNatClampNeg) + (1 : Int32)).toInt := congrArg Int32.toInt (show q_R d31 (Ad ad 103) (x1).toNatClampNeg = ((q_R d16 (Ad ad 103) x1.toNatClampNeg) + (1 : Int32)) by rw [e32, qR_sR, if_pos ⟨rfl, rfl⟩])
      have f46 := rb_103 L i33 (x1).toNatClampNeg
      exact ok_some (show RI ad h.1 δ0 d31 ∧ (kp [] δ d31 ∧ q_V d31 = q_V δ ∧ kr ad [102, 103] δ d31) ∧ (q_R d31 (Ad ad 103) (x1).toNatClampNeg).toInt = (q_R δ (Ad ad 103) (x1).toNatClampNeg).toInt + 1 from ⟨i33, ⟨kp_w (by decide) u42, v43, kr_w (by decide) v44⟩, by first | with_reducible assumption | omega⟩)
    · have c47 : x3v.toInt < x4v.toInt := o_nle h6
      obtain ⟨b48, o49, k50, n51, w52⟩ := gO_12_13 L k_a0
      obtain rfl := gS_12_13 L k_a0 o49
      refine ok_at o49 ?_
      refine ok_at o49 ?_
      first | (have q54 := te_subc (c := 1) (n := 1) rfl x4v (by omega) (by omega); obtain ⟨f55, f56, f57⟩ := q54) | (obtain ⟨q54, f55, f56, f57⟩ := ti_subc (c := 1) (n := 1) rfl x4v)
      have t58 := ti_tn (x4v - (1 : Int32))
      refine ok_gd (fun hc59 => ?_) ?_
      · rcases hc59 with hc59 | hc59
        · have c60 : (x4v - (1 : Int32)).toInt < (0 : Int) := o_lt hc59
          omega
        · omega
      have t61 := ti_tn x4v
      refine ok_gd (fun hc62 => ?_) ?_
      · rcases hc62 with hc62 | hc62
        · have c63 : x4v.toInt < (0 : Int) := o_lt hc62
          omega
        · omega
      refine ok_bdv (fun d64 e65 => ?_)
      have i66 : RI ad h.1 δ0 d64 := by rw [e65]; exact RI.sR L I w52
      have u67 := kp_N kp_r (show q_I d64 = q_I δ by rw [e65]; rfl)
      have v68 : q_V d64 = q_V δ := ((show q_V d64 = q_V δ by rw [e65]; rfl)).trans rfl
      have v69 := kr_s L (by decide) (kr_r (ad := ad)) e65
      refine ok_biv (fun vx70 e71 => ?_)
      first | (have q72 := te_addc (c := -1) (n := -1) (by decide) x4v (by omega) (by omega); rw [← e71] at q72; obtain ⟨f73, f74, f75⟩ := q72) | (obtain ⟨q72, f73, f74, f75⟩ : ∃ q : Int, vx70.toInt = x4v.toInt + (-1 : Int) + 4294967296 * q ∧ -2147483648 ≤ vx70.toInt ∧ vx70.toInt ≤ 2147483647 := by rw [e71]; exact ti_addc (c := -1) (n := -1) (by decide) x4v)
      have f76 : (q_R d64 (Ad ad 103) (x1).toNatClampNeg).toInt = (q_R δ (Ad ad 103) (x1).toNatClampNeg).toInt := congrArg Int32.toInt (show q_R d64 (Ad ad 103) (x1).toNatClampNeg = _ by rw [e65, rR_o (ad_ne L (by decide) (by decide) (by decide))])
      have f77 := rb_103 L i66 (x1).toNatClampNeg
      refine ok_mono (ih x3v vx70 d64 i66 (show 0 ≤ (x1).toInt by first | with_reducible assumption | omega) (show (x1).toInt ≤ 3 by first | with_reducible assumption | omega) (show 2000 * (x1).toInt ≤ (x3v).toInt by first | with_reducible assumption | omega) (show (x3v).toInt ≤ 2000 * (x1).toInt + 1999 by first | with_reducible assumption | omega) (show (vx70).toInt ≤ 2000 * (x1).toInt + 1999 by first | with_reducible assumption | omega) (show (x3v).toInt ≤ (vx70).toInt + 1000 by first | with_reducible assumption | omega) (show (q_R d64 (Ad ad 103) (x1).toNatClampNeg).toInt < 2000 by first | with_reducible assumption | omega) (show (vx70).toInt - (x3v).toInt + 1000 < _ by omega)) (fun r78 hr79 => ?_)
      obtain ⟨i80, ⟨u82, u83, u84⟩, p81⟩ := hr79
      have u85 := kp_t u67 u82
      have v86 : q_V r78 = q_V δ := (u83).trans v68
      have v87 := kr_t v69 u84
      have f88 := rb_103 L i80 (x1).toNatClampNeg
      exact ⟨by first | with_reducible assumption | assumption, ⟨kp_w (by decide) u85, v86, kr_w (by decide) v87⟩, by first | with_reducible assumption | omega⟩
set_option maxHeartbeats 4000000 in
theorem k_X12_comes {ad : List Nat} {h : hp} (L : Lay TLx ad h) {δ0 : dp} {N : Nat} (hN : 10000000 ≤ N) {a0 : Nat} {x1 : Int32} {x2 : Int32} (k_a0 : q_K h.1 a0 = 12) {δ : dp} (z0 : 0 ≤ (x1).toInt) (z1 : (x1).toInt ≤ 3) (z2 : (q_R δ (Ad ad 103) (x1).toNatClampNeg).toInt < 2000) (I : RI ad h.1 δ0 δ) : ok (D_X12_comes N h.1 a0 x1 x2 δ) (fun r => RI ad h.1 δ0 r ∧ (kp [] δ r ∧ q_V r = q_V δ ∧ kr ad [102, 103] δ r) ∧ (q_R r (Ad ad 103) (x1).toNatClampNeg).toInt = (q_R δ (Ad ad 103) (x1).toNatClampNeg).toInt + 1) := by
  unfold D_X12_comes
  have f1 := ti_b x1
  have t2 := ti_tn x1
  have f3 := rb_103 L I (x1).toNatClampNeg
  refine ok_bind (k_X12_place L hN (a0 := a0) (x1 := x1) (x2 := x2) k_a0 (show 0 ≤ (x1).toInt by first | with_reducible assumption | omega) (show (x1).toInt ≤ 3 by first | with_reducible assumption | omega) I) (fun r4 hr5 => ?_)
  obtain ⟨i6, p7, p8⟩ := hr5
  try rw [i6]
  have f9 := ti_b r4.1
  first | (have q13 := te_mulc (c := 2000) (n := 2000) rfl x1 (by omega) (by omega); obtain ⟨f14, f15, f16⟩ := q13) | (obtain ⟨q13, f14, f15, f16⟩ := ti_mulc (c := 2000) (n := 2000) rfl x1)
  refine ok_biv (fun vx10 e11 => ?_)
  first | (have q17 := te_add ((2000 : Int32) * x1) r4.1 (by omega) (by omega); rw [← e11] at q17; obtain ⟨f18, f19, f20⟩ := q17) | (obtain ⟨q17, f18, f19, f20⟩ : ∃ q : Int, vx10.toInt = ((2000 : Int32) * x1).toInt + r4.1.toInt + 4294967296 * q ∧ -2147483648 ≤ vx10.toInt ∧ vx10.toInt ≤ 2147483647 := by rw [e11]; exact ti_add ((2000 : Int32) * x1) r4.1)
  obtain ⟨b21, o22, k23, n24⟩ := gO_12_14 L k_a0
  obtain rfl := gS_12_14 L k_a0 o22
  refine ok_at o22 ?_
  have t25 := ti_tn x1
  refine ok_gd (fun hc26 => ?_) ?_
  · rcases hc26 with hc26 | hc26
    · have c27 : x1.toInt < (0 : Int) := o_lt hc26
      omega
    · omega
  have f30 := rb_103 L I x1.toNatClampNeg
  refine ok_biv (fun vx28 e29 => ?_)
  first | (have q31 := te_add ((2000 : Int32) * x1) (q_R δ (Ad ad 103) x1.toNatClampNeg) (by omega) (by omega); rw [← e29] at q31; obtain ⟨f32, f33, f34⟩ := q31) | (obtain ⟨q31, f32, f33, f34⟩ : ∃ q : Int, vx28.toInt = ((2000 : Int32) * x1).toInt + (q_R δ (Ad ad 103) x1.toNatClampNeg).toInt + 4294967296 * q ∧ -2147483648 ≤ vx28.toInt ∧ vx28.toInt ≤ 2147483647 := by rw [e29]; exact ti_add ((2000 : Int32) * x1) (q_R δ (Ad ad 103) x1.toNatClampNeg))
  refine ok_mono (kl_X12_comes_27 L hN   k_a0 _ vx10 vx28 δ I (show 0 ≤ (x1).toInt by first | with_reducible assumption | omega) (show (x1).toInt ≤ 3 by first | with_reducible assumption | omega) (show 2000 * (x1).toInt ≤ (vx10).toInt by first | with_reducible assumption | omega) (show (vx10).toInt ≤ 2000 * (x1).toInt + 1999 by first | with_reducible assumption | omega) (show (vx28).toInt ≤ 2000 * (x1).toInt + 1999 by first | with_reducible assumption | omega) (show (vx10).toInt ≤ (vx28).toInt + 1000 by first | with_reducible assumption | omega) (show (q_R δ (Ad ad 103) (x1).toNatClampNeg).toInt < 2000 by first | with_reducible assumption | omega) (show (vx28).toInt - (vx10).toInt + 1000 < _ by omega)) (fun r35 hr36 => ?_)
  obtain ⟨i37, ⟨u39, u40, u41⟩, p38⟩ := hr36
  have u42 := kp_t kp_r u39
  have v43 : q_V r35 = q_V δ := (u40).trans rfl
  have v44 := kr_t (kr_r (ad := ad)) u41
  have f45 := rb_103 L i37 (x1).toNatClampNeg
  exact ⟨by first | with_reducible assumption | assumption, ⟨kp_w (by decide) u42, v43, kr_w (by decide) v44⟩, by first | with_reducible assumption | omega⟩
set_option maxHeartbeats 4000000 in
theorem kl_X12_leaves_23 {ad : List Nat} {h : hp} (L : Lay TLx ad h) {δ0 : dp} {N : Nat} (hN : 10000000 ≤ N) {a0 : Nat} {x1 : Int32} {x2 : Int32} (k_a0 : q_K h.1 a0 = 12) : ∀ (n : Nat) (x3v : Int32) (δ : dp), RI ad h.1 δ0 δ → 0 ≤ (x1).toInt → (x1).toInt ≤ 3 → 2000 * (x1).toInt ≤ (x3v).toInt → (x3v).toInt ≤ 2000 * (x1).toInt + 2000 → (q_R δ (Ad ad 103) (x1).toNatClampNeg).toInt ≤ 1999 → 2000 * (x1).toInt + 2000 - (x3v).toInt < (n : Int) → ok (L_X12_leaves_23 N h.1 a0 x1 x2 n x3v δ) (fun r => RI ad h.1 δ0 r ∧ (kp [] δ r ∧ q_V r = q_V δ ∧ kr ad [102, 103] δ r) ∧ (q_R r (Ad ad 103) (x1).toNatClampNeg).toInt = (q_R δ (Ad ad 103) (x1).toNatClampNeg).toInt) := by
  intro n
  induction n with
  | zero =>
    intro x3v δ I j0 j1 j2 j3 j4 hm
    have f1 := ti_b x1
    have f2 := ti_b x3v
    have t3 := ti_tn x1
    have f4 := rb_103 L I (x1).toNatClampNeg
    exfalso; omega
  | succ n ih =>
    intro x3v δ I j0 j1 j2 j3 j4 hm
    unfold L_X12_leaves_23
    have f1 := ti_b x1
    have f2 := ti_b x3v
    have t3 := ti_tn x1
    have f4 := rb_103 L I (x1).toNatClampNeg
    obtain ⟨b5, o6, k7, n8⟩ := gO_12_14 L k_a0
    obtain rfl := gS_12_14 L k_a0 o6
    refine ok_at o6 ?_
    have t9 := ti_tn x1
    refine ok_gd (fun hc10 => ?_) ?_
    · rcases hc10 with hc10 | hc10
      · have c11 : x1.toInt < (0 : Int) := o_lt hc10
        omega
      · omega
    first | (have q13 := te_mulc (c := 2000) (n := 2000) rfl x1 (by omega) (by omega); obtain ⟨f14, f15, f16⟩ := q13) | (obtain ⟨q13, f14, f15, f16⟩ := ti_mulc (c := 2000) (n := 2000) rfl x1)
    have f17 := rb_103 L I x1.toNatClampNeg
    first | (have q19 := te_add ((2000 : Int32) * x1) (q_R δ (Ad ad 103) x1.toNatClampNeg) (by omega) (by omega); obtain ⟨f20, f21, f22⟩ := q19) | (obtain ⟨q19, f20, f21, f22⟩ := ti_add ((2000 : Int32) * x1) (q_R δ (Ad ad 103) x1.toNatClampNeg))
    refine ok_ite (fun h23 => ?_) (fun h23 => ?_)
    · have c24 : (((2000 : Int32) * x1) + (q_R δ (Ad ad 103) x1.toNatClampNeg)).toInt ≤ x3v.toInt := o_le h23
      exact ok_some (show RI ad h.1 δ0 δ ∧ (kp [] δ δ ∧ q_V δ = q_V δ ∧ kr ad [102, 103] δ δ) ∧ (q_R δ (Ad ad 103) (x1).toNatClampNeg).toInt = (q_R δ (Ad ad 103) (x1).toNatClampNeg).toInt from ⟨I, ⟨kp_w (by decide) kp_r, rfl, kr_w (by decide) (kr_r (ad := ad))⟩, by first | with_reducible assumption | omega⟩)
    · have c25 : x3v.toInt < (((2000 : Int32) * x1) + (q_R δ (Ad ad 103) x1.toNatClampNeg)).toInt := o_nle h23
      obtain ⟨b26, o27, k28, n29, w30⟩ := gO_12_13 L k_a0
      obtain rfl := gS_12_13 L k_a0 o27
      refine ok_at o27 ?_
      refine ok_at o27 ?_
      first | (have q32 := te_addc (c := 1) (n := 1) rfl x3v (by omega) (by omega); obtain ⟨f33, f34, f35⟩ := q32) | (obtain ⟨q32, f33, f34, f35⟩ := ti_addc (c := 1) (n := 1) rfl x3v)
      have t36 := ti_tn (x3v + (1 : Int32))
      refine ok_gd (fun hc37 => ?_) ?_
      · rcases hc37 with hc37 | hc37
        · have c38 : (x3v + (1 : Int32)).toInt < (0 : Int) := o_lt hc37
          omega
        · omega
      have t39 := ti_tn x3v
      refine ok_gd (fun hc40 => ?_) ?_
      · rcases hc40 with hc40 | hc40
        · have c41 : x3v.toInt < (0 : Int) := o_lt hc40
          omega
        · omega
      refine ok_bdv (fun d42 e43 => ?_)
      have i44 : RI ad h.1 δ0 d42 := by rw [e43]; exact RI.sR L I w30
      have u45 := kp_N kp_r (show q_I d42 = q_I δ by rw [e43]; rfl)
      have v46 : q_V d42 = q_V δ := ((show q_V d42 = q_V δ by rw [e43]; rfl)).trans rfl
      have v47 := kr_s L (by decide) (kr_r (ad := ad)) e43
      refine ok_biv (fun vx48 e49 => ?_)
      first | (have q50 := te_addc (c := 1) (n := 1) rfl x3v (by omega) (by omega); rw [← e49] at q50; obtain ⟨f51, f52, f53⟩ := q50) | (obtain ⟨q50, f51, f52, f53⟩ : ∃ q : Int, vx48.toInt = x3v.toInt + (1 : Int) + 4294967296 * q ∧ -2147483648 ≤ vx48.toInt ∧ vx48.toInt ≤ 2147483647 := by rw [e49]; exact ti_addc (c := 1) (n := 1) rfl x3v)
      have f54 : (q_R d42 (Ad ad 103) (x1).toNatClampNeg).toInt = (q_R δ (Ad ad 103) (x1).toNatClampNeg).toInt := congrArg Int32.toInt (show q_R d42 (Ad ad 103) (x1).toNatClampNeg = _ by rw [e43, rR_o (ad_ne L (by decide) (by decide) (by decide))])
      have f55 := rb_103 L i44 (x1).toNatClampNeg
      refine ok_mono (ih vx48 d42 i44 (show 0 ≤ (x1).toInt by first | with_reducible assumption | omega) (show (x1).toInt ≤ 3 by first | with_reducible assumption | omega) (show 2000 * (x1).toInt ≤ (vx48).toInt by first | with_reducible assumption | omega) (show (vx48).toInt ≤ 2000 * (x1).toInt + 2000 by first | with_reducible assumption | omega) (show (q_R d42 (Ad ad 103) (x1).toNatClampNeg).toInt ≤ 1999 by first | with_reducible assumption | omega) (show 2000 * (x1).toInt + 2000 - (vx48).toInt < _ by omega)) (fun r56 hr57 => ?_)
      obtain ⟨i58, ⟨u60, u61, u62⟩, p59⟩ := hr57
      have u63 := kp_t u45 u60
      have v64 : q_V r56 = q_V δ := (u61).trans v46
      have v65 := kr_t v47 u62
      have f66 := rb_103 L i58 (x1).toNatClampNeg
      exact ⟨by first | with_reducible assumption | assumption, ⟨kp_w (by decide) u63, v64, kr_w (by decide) v65⟩, by first | with_reducible assumption | omega⟩
set_option maxHeartbeats 4000000 in
theorem k_X12_leaves {ad : List Nat} {h : hp} (L : Lay TLx ad h) {δ0 : dp} {N : Nat} (hN : 10000000 ≤ N) {a0 : Nat} {x1 : Int32} {x2 : Int32} (k_a0 : q_K h.1 a0 = 12) {δ : dp} (z0 : 0 ≤ (x1).toInt) (z1 : (x1).toInt ≤ 3) (z2 : -999 ≤ (q_R δ (Ad ad 103) (x1).toNatClampNeg).toInt) (I : RI ad h.1 δ0 δ) : ok (D_X12_leaves N h.1 a0 x1 x2 δ) (fun r => RI ad h.1 δ0 r ∧ (kp [] δ r ∧ q_V r = q_V δ ∧ kr ad [102, 103] δ r) ∧ (q_R r (Ad ad 103) (x1).toNatClampNeg).toInt = (q_R δ (Ad ad 103) (x1).toNatClampNeg).toInt - 1) := by
  unfold D_X12_leaves
  have f1 := ti_b x1
  have t2 := ti_tn x1
  have f3 := rb_103 L I (x1).toNatClampNeg
  obtain ⟨b4, o5, k6, n7⟩ := gO_12_14 L k_a0
  obtain rfl := gS_12_14 L k_a0 o5
  refine ok_at o5 ?_
  have t8 := ti_tn x1
  refine ok_gd (fun hc9 => ?_) ?_
  · rcases hc9 with hc9 | hc9
    · have c10 : x1.toInt < (0 : Int) := o_lt hc9
      omega
    · omega
  refine ok_gd (fun hc11 => ?_) ?_
  · rcases hc11 with hc11 | hc11
    · have c12 : x1.toInt < (0 : Int) := o_lt hc11
      omega
    · omega
  have f16 := rb_103 L I x1.toNatClampNeg
  first | (have q18 := te_subc (c := 1) (n := 1) rfl (q_R δ (Ad ad 103) x1.toNatClampNeg) (by omega) (by omega); obtain ⟨f19, f20, f21⟩ := q18) | (obtain ⟨q18, f19, f20, f21⟩ := ti_subc (c := 1) (n := 1) rfl (q_R δ (Ad ad 103) x1.toNatClampNeg))
  refine ok_bdv (fun d13 e14 => ?_)
  have i15 : RI ad h.1 δ0 d13 := by rw [e14]; exact cr_103 L I (show -1000 ≤ ((q_R δ (Ad ad 103) x1.toNatClampNeg) - (1 : Int32)).toInt by omega) (show ((q_R δ (Ad ad 103) x1.toNatClampNeg) - (1 : Int32)).toInt ≤ 2000 by omega)
  have u22 := kp_N kp_r (show q_I d13 = q_I δ by rw [e14]; rfl)
  have v23 : q_V d13 = q_V δ := ((show q_V d13 = q_V δ by rw [e14]; rfl)).trans rfl
  have v24 := kr_s L (by decide) (kr_r (ad := ad)) e14
  refine ok_bind (k_X12_place L hN (a0 := a0) (x1 := x1) (x2 := x2) k_a0 (show 0 ≤ (x1).toInt by first | with_reducible assumption | omega) (show (x1).toInt ≤ 3 by first | with_reducible assumption | omega) i15) (fun r25 hr26 => ?_)
  obtain ⟨i27, p28, p29⟩ := hr26
  try rw [i27]
  have f30 := ti_b r25.1
  have f31 : (q_R d13 (Ad ad 103) (x1).toNatClampNeg).toInt = ((q_R δ (Ad ad 103) x1.toNatClampNeg) - (1 : Int32)).toInt := congrArg Int32.toInt (show q_R d13 (Ad ad 103) (x1).toNatClampNeg = ((q_R δ (Ad ad 103) x1.toNatClampNeg) - (1 : Int32)) by rw [e14, qR_sR, if_pos ⟨rfl, rfl⟩])
  have f32 := rb_103 L i15 (x1).toNatClampNeg
  first | (have q36 := te_mulc (c := 2000) (n := 2000) rfl x1 (by omega) (by omega); obtain ⟨f37, f38, f39⟩ := q36) | (obtain ⟨q36, f37, f38, f39⟩ := ti_mulc (c := 2000) (n := 2000) rfl x1)
  refine ok_biv (fun vx33 e34 => ?_)
  first | (have q40 := te_add ((2000 : Int32) * x1) r25.1 (by omega) (by omega); rw [← e34] at q40; obtain ⟨f41, f42, f43⟩ := q40) | (obtain ⟨q40, f41, f42, f43⟩ : ∃ q : Int, vx33.toInt = ((2000 : Int32) * x1).toInt + r25.1.toInt + 4294967296 * q ∧ -2147483648 ≤ vx33.toInt ∧ vx33.toInt ≤ 2147483647 := by rw [e34]; exact ti_add ((2000 : Int32) * x1) r25.1)
  refine ok_mono (kl_X12_leaves_23 L hN   k_a0 _ vx33 d13 i15 (show 0 ≤ (x1).toInt by first | with_reducible assumption | omega) (show (x1).toInt ≤ 3 by first | with_reducible assumption | omega) (show 2000 * (x1).toInt ≤ (vx33).toInt by first | with_reducible assumption | omega) (show (vx33).toInt ≤ 2000 * (x1).toInt + 2000 by first | with_reducible assumption | omega) (show (q_R d13 (Ad ad 103) (x1).toNatClampNeg).toInt ≤ 1999 by first | with_reducible assumption | omega) (show 2000 * (x1).toInt + 2000 - (vx33).toInt < _ by omega)) (fun r44 hr45 => ?_)
  obtain ⟨i46, ⟨u48, u49, u50⟩, p47⟩ := hr45
  have u51 := kp_t u22 u48
  have v52 : q_V r44 = q_V δ := (u49).trans v23
  have v53 := kr_t v24 u50
  have f54 := rb_103 L i46 (x1).toNatClampNeg
  exact ⟨by first | with_reducible assumption | assumption, ⟨kp_w (by decide) u51, v52, kr_w (by decide) v53⟩, by first | with_reducible assumption | omega⟩
set_option maxHeartbeats 4000000 in
theorem k_X12_notesDown {ad : List Nat} {h : hp} (L : Lay TLx ad h) {δ0 : dp} {N : Nat} (hN : 10000000 ≤ N) {a0 : Nat} {x1 : Int32} {x2 : Int32} {x3 : Int32} (k_a0 : q_K h.1 a0 = 12) {δ : dp} (z0 : 0 ≤ (x1).toInt) (z1 : (x1).toInt ≤ 3) (z2 : (q_R δ (Ad ad 106) (x1).toNatClampNeg).toInt < 1000) (I : RI ad h.1 δ0 δ) : ok (D_X12_notesDown N h.1 a0 x1 x2 x3 δ) (fun r => RI ad h.1 δ0 r ∧ (kp [] δ r ∧ q_V r = q_V δ ∧ kr ad [104, 105, 106] δ r) ∧ (q_R r (Ad ad 106) (x1).toNatClampNeg).toInt = (q_R δ (Ad ad 106) (x1).toNatClampNeg).toInt + 1) := by
  unfold D_X12_notesDown
  have f1 := ti_b x1
  have t2 := ti_tn x1
  have f3 := rb_106 L I (x1).toNatClampNeg
  obtain ⟨b4, o5, k6, n7, w8⟩ := gO_12_15 L k_a0
  obtain rfl := gS_12_15 L k_a0 o5
  refine ok_at o5 ?_
  obtain ⟨b9, o10, k11, n12⟩ := gO_12_17 L k_a0
  obtain rfl := gS_12_17 L k_a0 o10
  refine ok_at o10 ?_
  have t13 := ti_tn x1
  refine ok_gd (fun hc14 => ?_) ?_
  · rcases hc14 with hc14 | hc14
    · have c15 : x1.toInt < (0 : Int) := o_lt hc14
      omega
    · omega
  first | (have q17 := te_mulc (c := 1000) (n := 1000) rfl x1 (by omega) (by omega); obtain ⟨f18, f19, f20⟩ := q17) | (obtain ⟨q17, f18, f19, f20⟩ := ti_mulc (c := 1000) (n := 1000) rfl x1)
  have f21 := rb_106 L I x1.toNatClampNeg
  first | (have q23 := te_add ((1000 : Int32) * x1) (q_R δ (Ad ad 106) x1.toNatClampNeg) (by omega) (by omega); obtain ⟨f24, f25, f26⟩ := q23) | (obtain ⟨q23, f24, f25, f26⟩ := ti_add ((1000 : Int32) * x1) (q_R δ (Ad ad 106) x1.toNatClampNeg))
  have t27 := ti_tn (((1000 : Int32) * x1) + (q_R δ (Ad ad 106) x1.toNatClampNeg))
  refine ok_gd (fun hc28 => ?_) ?_
  · rcases hc28 with hc28 | hc28
    · have c29 : (((1000 : Int32) * x1) + (q_R δ (Ad ad 106) x1.toNatClampNeg)).toInt < (0 : Int) := o_lt hc28
      omega
    · omega
  refine ok_bdv (fun d30 e31 => ?_)
  have i32 : RI ad h.1 δ0 d30 := by rw [e31]; exact RI.sR L I w8
  have u33 := kp_N kp_r (show q_I d30 = q_I δ by rw [e31]; rfl)
  have v34 : q_V d30 = q_V δ := ((show q_V d30 = q_V δ by rw [e31]; rfl)).trans rfl
  have v35 := kr_s L (by decide) (kr_r (ad := ad)) e31
  obtain ⟨b36, o37, k38, n39, w40⟩ := gO_12_16 L k_a0
  obtain rfl := gS_12_16 L k_a0 o37
  refine ok_at o37 ?_
  refine ok_at o10 ?_
  refine ok_gd (fun hc41 => ?_) ?_
  · rcases hc41 with hc41 | hc41
    · have c42 : x1.toInt < (0 : Int) := o_lt hc41
      omega
    · omega
  have f43 : (q_R d30 (Ad ad 106) x1.toNatClampNeg).toInt = (q_R δ (Ad ad 106) x1.toNatClampNeg).toInt := congrArg Int32.toInt (show q_R d30 (Ad ad 106) x1.toNatClampNeg = _ by rw [e31, rR_o (ad_ne L (by decide) (by decide) (by decide))])
  have f44 := rb_106 L i32 x1.toNatClampNeg
  first | (have q46 := te_add ((1000 : Int32) * x1) (q_R d30 (Ad ad 106) x1.toNatClampNeg) (by omega) (by omega); obtain ⟨f47, f48, f49⟩ := q46) | (obtain ⟨q46, f47, f48, f49⟩ := ti_add ((1000 : Int32) * x1) (q_R d30 (Ad ad 106) x1.toNatClampNeg))
  have t50 := ti_tn (((1000 : Int32) * x1) + (q_R d30 (Ad ad 106) x1.toNatClampNeg))
  refine ok_gd (fun hc51 => ?_) ?_
  · rcases hc51 with hc51 | hc51
    · have c52 : (((1000 : Int32) * x1) + (q_R d30 (Ad ad 106) x1.toNatClampNeg)).toInt < (0 : Int) := o_lt hc51
      omega
    · omega
  refine ok_bdv (fun d53 e54 => ?_)
  have i55 : RI ad h.1 δ0 d53 := by rw [e54]; exact RI.sR L i32 w40
  have u56 := kp_N u33 (show q_I d53 = q_I d30 by rw [e54]; rfl)
  have v57 : q_V d53 = q_V δ := ((show q_V d53 = q_V d30 by rw [e54]; rfl)).trans v34
  have v58 := kr_s L (by decide) v35 e54
  refine ok_at o10 ?_
  refine ok_gd (fun hc59 => ?_) ?_
  · rcases hc59 with hc59 | hc59
    · have c60 : x1.toInt < (0 : Int) := o_lt hc59
      omega
    · omega
  refine ok_gd (fun hc61 => ?_) ?_
  · rcases hc61 with hc61 | hc61
    · have c62 : x1.toInt < (0 : Int) := o_lt hc61
      omega
    · omega
  have f66 : (q_R d53 (Ad ad 106) x1.toNatClampNeg).toInt = (q_R d30 (Ad ad 106) x1.toNatClampNeg).toInt := congrArg Int32.toInt (show q_R d53 (Ad ad 106) x1.toNatClampNeg = _ by rw [e54, rR_o (ad_ne L (by decide) (by decide) (by decide))])
  have f67 := rb_106 L i55 x1.toNatClampNeg
  first | (have q69 := te_addc (c := 1) (n := 1) rfl (q_R d53 (Ad ad 106) x1.toNatClampNeg) (by omega) (by omega); obtain ⟨f70, f71, f72⟩ := q69) | (obtain ⟨q69, f70, f71, f72⟩ := ti_addc (c := 1) (n := 1) rfl (q_R d53 (Ad ad 106) x1.toNatClampNeg))
  refine ok_bdv (fun d63 e64 => ?_)
  have i65 : RI ad h.1 δ0 d63 := by rw [e64]; exact cr_106 L i55 (show 0 ≤ ((q_R d53 (Ad ad 106) x1.toNatClampNeg) + (1 : Int32)).toInt by omega) (show ((q_R d53 (Ad ad 106) x1.toNatClampNeg) + (1 : Int32)).toInt ≤ 1000 by omega)
  have u73 := kp_N u56 (show q_I d63 = q_I d53 by rw [e64]; rfl)
  have v74 : q_V d63 = q_V δ := ((show q_V d63 = q_V d53 by rw [e64]; rfl)).trans v57
  have v75 := kr_s L (by decide) v58 e64
  have f76 : (q_R d63 (Ad ad 106) (x1).toNatClampNeg).toInt = ((q_R d53 (Ad ad 106) x1.toNatClampNeg) + (1 : Int32)).toInt := congrArg Int32.toInt (show q_R d63 (Ad ad 106) (x1).toNatClampNeg = ((q_R d53 (Ad ad 106) x1.toNatClampNeg) + (1 : Int32)) by rw [e64, qR_sR, if_pos ⟨rfl, rfl⟩])
  have f77 := rb_106 L i65 (x1).toNatClampNeg
  exact ok_some (show RI ad h.1 δ0 d63 ∧ (kp [] δ d63 ∧ q_V d63 = q_V δ ∧ kr ad [104, 105, 106] δ d63) ∧ (q_R d63 (Ad ad 106) (x1).toNatClampNeg).toInt = (q_R δ (Ad ad 106) (x1).toNatClampNeg).toInt + 1 from ⟨i65, ⟨kp_w (by decide) u73, v74, kr_w (by decide) v75⟩, by first | with_reducible assumption | omega⟩)
set_option maxHeartbeats 4000000 in
theorem k_X12_isHouse {ad : List Nat} {h : hp} (L : Lay TLx ad h) {δ0 : dp} {N : Nat} (hN : 10000000 ≤ N) {a0 : Nat} {x1 : Int32} {x2 : Int32} (k_a0 : q_K h.1 a0 = 12) {δ : dp} (z0 : (x2).toInt ≠ 0) (I : RI ad h.1 δ0 δ) : ok (D_X12_isHouse N h.1 a0 x1 x2 δ) (fun r => RI ad h.1 δ0 r.2 ∧ (kp [(12, 0)] δ r.2 ∧ q_V r.2 = q_V δ ∧ kr ad [100] δ r.2) ∧ bo (r.1) ∧ ((r.1).toInt = 1 → 0 ≤ (x1).toInt ∧ (x1).toInt ≤ 3)) := by
  unfold D_X12_isHouse
  have f1 := ti_b x2
  refine ok_bind (k_X12_within L hN (x0 := x1) (x1 := (0 : Int32)) (x2 := (3 : Int32))  I) (fun r2 hr3 => ?_)
  obtain ⟨i4, p5, p6, p7⟩ := hr3
  try rw [i4]
  have f8 := bo_l p5
  have f9 := ti_b r2.1
  have f10 := ti_b x1
  replace p6 : ((r2.1).toInt = 1 → (0 : Int) ≤ (x1).toInt ∧ (x1).toInt ≤ (3 : Int)) := p6
  replace p7 : ((r2.1).toInt = 0 → (x1).toInt < (0 : Int) ∨ (3 : Int) < (x1).toInt) := p7
  refine ok_bind (k_X12_may L hN (a0 := a0) (x1 := r2.1) (x2 := x2) (x3 := (0 : Int32)) k_a0 (show (x2).toInt ≠ 0 by first | with_reducible assumption | omega) (show 0 ≤ (0 : Int) by first | with_reducible assumption | omega) (show (0 : Int) ≤ 2 by first | with_reducible assumption | omega) I) (fun r11 hr12 => ?_)
  obtain ⟨i13, ⟨u17, u18, u19⟩, p14, p15, p16⟩ := hr12
  have u20 := kp_t kp_r u17
  have v21 : q_V r11.2 = q_V δ := (u18).trans rfl
  have v22 := kr_t (kr_r (ad := ad)) u19
  have f23 := bo_l p14
  have f24 := ti_b r11.1
  have f25 := ti_b (q_I δ 12 0 a0)
  refine ok_gp (show bo r11.1 by first | assumption | exact bo_0 | exact bo_1 | exact bo_i (by omega) (by omega)) ?_
  exact ok_some (show RI ad h.1 δ0 r11.2 ∧ (kp [(12, 0)] δ r11.2 ∧ q_V r11.2 = q_V δ ∧ kr ad [100] δ r11.2) ∧ bo (r11.1) ∧ ((r11.1).toInt = 1 → 0 ≤ (x1).toInt ∧ (x1).toInt ≤ 3) from ⟨i13, ⟨kp_w (by decide) u20, v21, kr_w (by decide) v22⟩, by first | assumption | exact bo_0 | exact bo_1 | exact bo_i (by omega) (by omega), by first | with_reducible assumption | omega⟩)
set_option maxHeartbeats 4000000 in
theorem k_X12_all {ad : List Nat} {h : hp} (L : Lay TLx ad h) {δ0 : dp} {N : Nat} (hN : 10000000 ≤ N) {a0 : Nat} (k_a0 : q_K h.1 a0 = 12) {δ : dp} (I : RI ad h.1 δ0 δ) : ok (D_X12_all N h.1 a0 δ) (fun r => r.2 = δ ∧ 4 ≤ (r.1).toInt ∧ (r.1).toInt ≤ 65536 ∧ ((q_I δ 12 10 a0).toInt ≤ 6 → (r.1).toInt ≤ 64) ∧ ((q_I δ 12 10 a0).toInt ≤ 4 → (r.1).toInt ≤ 16)) := by
  unfold D_X12_all
  have f1 := cb_12_10 I k_a0
  have f2 := sh_b (q_I δ 12 10 a0)
  have f3 := ti_b ((1 : Int32) <<< ((q_I δ 12 10 a0) &&& 31))
  exact ok_some (show δ = δ ∧ 4 ≤ (((1 : Int32) <<< ((q_I δ 12 10 a0) &&& 31))).toInt ∧ (((1 : Int32) <<< ((q_I δ 12 10 a0) &&& 31))).toInt ≤ 65536 ∧ ((q_I δ 12 10 a0).toInt ≤ 6 → (((1 : Int32) <<< ((q_I δ 12 10 a0) &&& 31))).toInt ≤ 64) ∧ ((q_I δ 12 10 a0).toInt ≤ 4 → (((1 : Int32) <<< ((q_I δ 12 10 a0) &&& 31))).toInt ≤ 16) from ⟨rfl, by first | with_reducible assumption | omega, by first | with_reducible assumption | omega, by first | with_reducible assumption | omega, by first | with_reducible assumption | omega⟩)
set_option maxHeartbeats 4000000 in
theorem k_X12_isNumber {ad : List Nat} {h : hp} (L : Lay TLx ad h) {δ0 : dp} {N : Nat} (hN : 10000000 ≤ N) {a0 : Nat} {x1 : Int32} (k_a0 : q_K h.1 a0 = 12) {δ : dp} (I : RI ad h.1 δ0 δ) : ok (D_X12_isNumber N h.1 a0 x1 δ) (fun r => r.2 = δ ∧ bo (r.1) ∧ ((r.1).toInt = 1 → 0 ≤ (x1).toInt ∧ (x1).toInt ≤ 65535)) := by
  unfold D_X12_isNumber
  refine ok_bind (k_X12_all L hN (a0 := a0) k_a0 I) (fun r1 hr2 => ?_)
  obtain ⟨i3, p4, p5, p6, p7⟩ := hr2
  try rw [i3]
  have f8 := ti_b r1.1
  have f9 := cb_12_10 I k_a0
  refine ok_bind (k_X12_within L hN (x0 := x1) (x1 := (0 : Int32)) (x2 := (r1.1 - (1 : Int32)))  I) (fun r10 hr11 => ?_)
  obtain ⟨i12, p13, p14, p15⟩ := hr11
  try rw [i12]
  have f16 := bo_l p13
  have f17 := ti_b r10.1
  have f18 := ti_b x1
  first | (have q20 := te_subc (c := 1) (n := 1) rfl r1.1 (by omega) (by omega); obtain ⟨f21, f22, f23⟩ := q20) | (obtain ⟨q20, f21, f22, f23⟩ := ti_subc (c := 1) (n := 1) rfl r1.1)
  replace p14 : ((r10.1).toInt = 1 → (0 : Int) ≤ (x1).toInt ∧ (x1).toInt ≤ ((r1.1 - (1 : Int32))).toInt) := p14
  replace p15 : ((r10.1).toInt = 0 → (x1).toInt < (0 : Int) ∨ ((r1.1 - (1 : Int32))).toInt < (x1).toInt) := p15
  refine ok_gp (show bo r10.1 by first | assumption | exact bo_0 | exact bo_1 | exact bo_i (by omega) (by omega)) ?_
  exact ok_some (show δ = δ ∧ bo (r10.1) ∧ ((r10.1).toInt = 1 → 0 ≤ (x1).toInt ∧ (x1).toInt ≤ 65535) from ⟨rfl, by first | assumption | exact bo_0 | exact bo_1 | exact bo_i (by omega) (by omega), by first | with_reducible assumption | omega⟩)
set_option maxHeartbeats 4000000 in
theorem k_X12_put {ad : List Nat} {h : hp} (L : Lay TLx ad h) {δ0 : dp} {N : Nat} (hN : 10000000 ≤ N) {a0 : Nat} {x1 : Int32} {x2 : Int32} (k_a0 : q_K h.1 a0 = 12) {δ : dp} (I : RI ad h.1 δ0 δ) : ok (D_X12_put N h.1 a0 x1 x2 δ) (fun r => RI ad h.1 δ0 r.2 ∧ (kp [(12, 0)] δ r.2 ∧ q_V r.2 = q_V δ ∧ kr ad [100, 102, 103, 104, 105, 106] δ r.2)) := by
  unfold D_X12_put
  refine ok_bdv (fun d1 e2 => ?_)
  have i3 : RI ad h.1 δ0 d1 := by rw [e2]; exact cs_12_0 L I
  have u4 := kp_I kp_r e2
  have v5 : q_V d1 = q_V δ := ((show q_V d1 = q_V δ by rw [e2]; rfl)).trans rfl
  have v6 := kr_N (kr_r (ad := ad)) (show q_R d1 = q_R δ by rw [e2]; rfl)
  refine ok_bind (k_X12_isHouse L hN (a0 := a0) (x1 := x1) (x2 := (1 : Int32)) k_a0 (show (1 : Int) ≠ 0 by first | with_reducible assumption | omega) i3) (fun r7 hr8 => ?_)
  obtain ⟨i9, ⟨u12, u13, u14⟩, p10, p11⟩ := hr8
  have u15 := kp_t u4 u12
  have v16 : q_V r7.2 = q_V δ := (u13).trans v5
  have v17 := kr_t v6 u14
  have f18 := bo_l p10
  have f19 := ti_b r7.1
  have f20 := ti_b x1
  refine ok_ite (fun h21 => ?_) (fun h21 => ?_)
  · have c22 : r7.1.toInt = (0 : Int) := o_eq h21
    unfold J_X12_put_28
    exact ok_some (show RI ad h.1 δ0 r7.2 ∧ (kp [(12, 0)] δ r7.2 ∧ q_V r7.2 = q_V δ ∧ kr ad [100, 102, 103, 104, 105, 106] δ r7.2) from ⟨i9, ⟨kp_w (by decide) u15, v16, kr_w (by decide) v17⟩⟩)
  · have c23 : r7.1.toInt ≠ (0 : Int) := o_ne h21
    refine ok_bind (k_X12_isNumber L hN (a0 := a0) (x1 := x2) k_a0 i9) (fun r24 hr25 => ?_)
    obtain ⟨i26, p27, p28⟩ := hr25
    try rw [i26]
    have f29 := bo_l p27
    have f30 := ti_b r24.1
    have f31 := ti_b x2
    refine ok_bind (k_X12_may L hN (a0 := a0) (x1 := r24.1) (x2 := (2 : Int32)) (x3 := (2 : Int32)) k_a0 (show (2 : Int) ≠ 0 by first | with_reducible assumption | omega) (show 0 ≤ (2 : Int) by first | with_reducible assumption | omega) (show (2 : Int) ≤ 2 by first | with_reducible assumption | omega) i9) (fun r32 hr33 => ?_)
    obtain ⟨i34, ⟨u38, u39, u40⟩, p35, p36, p37⟩ := hr33
    have u41 := kp_t u15 u38
    have v42 : q_V r32.2 = q_V δ := (u39).trans v16
    have v43 := kr_t v17 u40
    have f44 := bo_l p35
    have f45 := ti_b r32.1
    have f46 := ti_b (q_I r7.2 12 0 a0)
    refine ok_ite (fun h47 => ?_) (fun h47 => ?_)
    · have c48 : r32.1.toInt = (0 : Int) := o_eq h47
      unfold J_X12_put_28
      exact ok_some (show RI ad h.1 δ0 r32.2 ∧ (kp [(12, 0)] δ r32.2 ∧ q_V r32.2 = q_V δ ∧ kr ad [100, 102, 103, 104, 105, 106] δ r32.2) from ⟨i34, ⟨kp_w (by decide) u41, v42, kr_w (by decide) v43⟩⟩)
    · have c49 : r32.1.toInt ≠ (0 : Int) := o_ne h47
      refine ok_bind (k_X12_isThere L hN (a0 := a0) (x1 := x1) (x2 := x2) k_a0 (show 0 ≤ (x1).toInt by first | with_reducible assumption | omega) (show (x1).toInt ≤ 3 by first | with_reducible assumption | omega) i34) (fun r50 hr51 => ?_)
      obtain ⟨i52, p53, p54⟩ := hr51
      try rw [i52]
      have f55 := bo_l p53
      have f56 := ti_b r50.1
      have t57 := ti_tn x1
      have f58 : (q_R r32.2 (Ad ad 103) (x1).toNatClampNeg).toInt = (q_R r7.2 (Ad ad 103) (x1).toNatClampNeg).toInt := congrArg Int32.toInt (congrFun (u40 103 (by decide) (by decide) (by decide)) _)
      have f59 : (q_R r7.2 (Ad ad 103) (x1).toNatClampNeg).toInt = (q_R d1 (Ad ad 103) (x1).toNatClampNeg).toInt := congrArg Int32.toInt (congrFun (u14 103 (by decide) (by decide) (by decide)) _)
      have f60 : (q_R d1 (Ad ad 103) (x1).toNatClampNeg).toInt = (q_R δ (Ad ad 103) (x1).toNatClampNeg).toInt := congrArg Int32.toInt (show q_R d1 (Ad ad 103) (x1).toNatClampNeg = _ by rw [e2]; rfl)
      have f61 := rb_103 L I (x1).toNatClampNeg
      have f62 := rb_103 L i3 (x1).toNatClampNeg
      have f63 := rb_103 L i9 (x1).toNatClampNeg
      have f64 := rb_103 L i34 (x1).toNatClampNeg
      refine ok_ite (fun h65 => ?_) (fun h65 => ?_)
      · have c66 : r50.1.toInt = (0 : Int) := o_eq h65
        obtain ⟨b67, o68, k69, n70⟩ := gO_12_14 L k_a0
        obtain rfl := gS_12_14 L k_a0 o68
        refine ok_at o68 ?_
        have t71 := ti_tn x1
        refine ok_gd (fun hc72 => ?_) ?_
        · rcases hc72 with hc72 | hc72
          · have c73 : x1.toInt < (0 : Int) := o_lt hc72
            omega
          · omega
        have f74 : (q_R r32.2 (Ad ad 103) x1.toNatClampNeg).toInt = (q_R r7.2 (Ad ad 103) x1.toNatClampNeg).toInt := congrArg Int32.toInt (congrFun (u40 103 (by decide) (by decide) (by decide)) _)
        have f75 : (q_R r7.2 (Ad ad 103) x1.toNatClampNeg).toInt = (q_R d1 (Ad ad 103) x1.toNatClampNeg).toInt := congrArg Int32.toInt (congrFun (u14 103 (by decide) (by decide) (by decide)) _)
        have f76 : (q_R d1 (Ad ad 103) x1.toNatClampNeg).toInt = (q_R δ (Ad ad 103) x1.toNatClampNeg).toInt := congrArg Int32.toInt (show q_R d1 (Ad ad 103) x1.toNatClampNeg = _ by rw [e2]; rfl)
        have f77 := rb_103 L I x1.toNatClampNeg
        have f78 := rb_103 L i3 x1.toNatClampNeg
        have f79 := rb_103 L i9 x1.toNatClampNeg
        have f80 := rb_103 L i34 x1.toNatClampNeg
        refine ok_ite (fun h81 => ?_) (fun h81 => ?_)
        · have c82 : (q_R r32.2 (Ad ad 103) x1.toNatClampNeg).toInt = (2000 : Int) := o_eq h81
          exact ok_some (show RI ad h.1 δ0 r32.2 ∧ (kp [(12, 0)] δ r32.2 ∧ q_V r32.2 = q_V δ ∧ kr ad [100, 102, 103, 104, 105, 106] δ r32.2) from ⟨i34, ⟨kp_w (by decide) u41, v42, kr_w (by decide) v43⟩⟩)
        · have c83 : (q_R r32.2 (Ad ad 103) x1.toNatClampNeg).toInt ≠ (2000 : Int) := o_ne h81
          obtain ⟨b84, o85, k86, n87⟩ := gO_12_17 L k_a0
          obtain rfl := gS_12_17 L k_a0 o85
          refine ok_at o85 ?_
          refine ok_gd (fun hc88 => ?_) ?_
          · rcases hc88 with hc88 | hc88
            · have c89 : x1.toInt < (0 : Int) := o_lt hc88
              omega
            · omega
          have f90 : (q_R r32.2 (Ad ad 106) x1.toNatClampNeg).toInt = (q_R r7.2 (Ad ad 106) x1.toNatClampNeg).toInt := congrArg Int32.toInt (congrFun (u40 106 (by decide) (by decide) (by decide)) _)
          have f91 : (q_R r7.2 (Ad ad 106) x1.toNatClampNeg).toInt = (q_R d1 (Ad ad 106) x1.toNatClampNeg).toInt := congrArg Int32.toInt (congrFun (u14 106 (by decide) (by decide) (by decide)) _)
          have f92 : (q_R d1 (Ad ad 106) x1.toNatClampNeg).toInt = (q_R δ (Ad ad 106) x1.toNatClampNeg).toInt := congrArg Int32.toInt (show q_R d1 (Ad ad 106) x1.toNatClampNeg = _ by rw [e2]; rfl)
          have f93 := rb_106 L I x1.toNatClampNeg
          have f94 := rb_106 L i3 x1.toNatClampNeg
          have f95 := rb_106 L i9 x1.toNatClampNeg
          have f96 := rb_106 L i34 x1.toNatClampNeg
          refine ok_ite (fun h97 => ?_) (fun h97 => ?_)
          · have c98 : (q_R r32.2 (Ad ad 106) x1.toNatClampNeg).toInt = (1000 : Int) := o_eq h97
            exact ok_some (show RI ad h.1 δ0 r32.2 ∧ (kp [(12, 0)] δ r32.2 ∧ q_V r32.2 = q_V δ ∧ kr ad [100, 102, 103, 104, 105, 106] δ r32.2) from ⟨i34, ⟨kp_w (by decide) u41, v42, kr_w (by decide) v43⟩⟩)
          · have c99 : (q_R r32.2 (Ad ad 106) x1.toNatClampNeg).toInt ≠ (1000 : Int) := o_ne h97
            refine ok_bind (k_X12_comes L hN (a0 := a0) (x1 := x1) (x2 := x2) k_a0 (show 0 ≤ (x1).toInt by first | with_reducible assumption | omega) (show (x1).toInt ≤ 3 by first | with_reducible assumption | omega) (show (q_R r32.2 (Ad ad 103) (x1).toNatClampNeg).toInt < 2000 by first | with_reducible assumption | omega) i34) (fun r100 hr101 => ?_)
            obtain ⟨i102, ⟨u104, u105, u106⟩, p103⟩ := hr101
            have u107 := kp_t u41 u104
            have v108 : q_V r100 = q_V δ := (u105).trans v42
            have v109 := kr_t v43 u106
            have f110 := rb_103 L i102 (x1).toNatClampNeg
            have f113 : (q_R r100 (Ad ad 106) (x1).toNatClampNeg).toInt = (q_R r32.2 (Ad ad 106) (x1).toNatClampNeg).toInt := congrArg Int32.toInt (congrFun (u106 106 (by decide) (by decide) (by decide)) _)
            have f114 : (q_R r32.2 (Ad ad 106) (x1).toNatClampNeg).toInt = (q_R r7.2 (Ad ad 106) (x1).toNatClampNeg).toInt := congrArg Int32.toInt (congrFun (u40 106 (by decide) (by decide) (by decide)) _)
            have f115 : (q_R r7.2 (Ad ad 106) (x1).toNatClampNeg).toInt = (q_R d1 (Ad ad 106) (x1).toNatClampNeg).toInt := congrArg Int32.toInt (congrFun (u14 106 (by decide) (by decide) (by decide)) _)
            have f116 : (q_R d1 (Ad ad 106) (x1).toNatClampNeg).toInt = (q_R δ (Ad ad 106) (x1).toNatClampNeg).toInt := congrArg Int32.toInt (show q_R d1 (Ad ad 106) (x1).toNatClampNeg = _ by rw [e2]; rfl)
            have f117 := rb_106 L I (x1).toNatClampNeg
            have f118 := rb_106 L i3 (x1).toNatClampNeg
            have f119 := rb_106 L i9 (x1).toNatClampNeg
            have f120 := rb_106 L i34 (x1).toNatClampNeg
            have f121 := rb_106 L i102 (x1).toNatClampNeg
            refine ok_bind (k_X12_notesDown L hN (a0 := a0) (x1 := x1) (x2 := x2) (x3 := (1 : Int32)) k_a0 (show 0 ≤ (x1).toInt by first | with_reducible assumption | omega) (show (x1).toInt ≤ 3 by first | with_reducible assumption | omega) (show (q_R r100 (Ad ad 106) (x1).toNatClampNeg).toInt < 1000 by first | with_reducible assumption | omega) i102) (fun r111 hr112 => ?_)
            obtain ⟨i122, ⟨u124, u125, u126⟩, p123⟩ := hr112
            have u127 := kp_t u107 u124
            have v128 : q_V r111 = q_V δ := (u125).trans v108
            have v129 := kr_t v109 u126
            have f130 := rb_106 L i122 (x1).toNatClampNeg
            exact ok_some (show RI ad h.1 δ0 r111 ∧ (kp [(12, 0)] δ r111 ∧ q_V r111 = q_V δ ∧ kr ad [100, 102, 103, 104, 105, 106] δ r111) from ⟨i122, ⟨kp_w (by decide) u127, v128, kr_w (by decide) v129⟩⟩)
      · have c131 : r50.1.toInt ≠ (0 : Int) := o_ne h65
        exact ok_some (show RI ad h.1 δ0 r32.2 ∧ (kp [(12, 0)] δ r32.2 ∧ q_V r32.2 = q_V δ ∧ kr ad [100, 102, 103, 104, 105, 106] δ r32.2) from ⟨i34, ⟨kp_w (by decide) u41, v42, kr_w (by decide) v43⟩⟩)
set_option maxHeartbeats 4000000 in
theorem k_X12_drop {ad : List Nat} {h : hp} (L : Lay TLx ad h) {δ0 : dp} {N : Nat} (hN : 10000000 ≤ N) {a0 : Nat} {x1 : Int32} {x2 : Int32} (k_a0 : q_K h.1 a0 = 12) {δ : dp} (I : RI ad h.1 δ0 δ) : ok (D_X12_drop N h.1 a0 x1 x2 δ) (fun r => RI ad h.1 δ0 r.2 ∧ (kp [(12, 0)] δ r.2 ∧ q_V r.2 = q_V δ ∧ kr ad [100, 102, 103, 104, 105, 106] δ r.2)) := by
  unfold D_X12_drop
  refine ok_bdv (fun d1 e2 => ?_)
  have i3 : RI ad h.1 δ0 d1 := by rw [e2]; exact cs_12_0 L I
  have u4 := kp_I kp_r e2
  have v5 : q_V d1 = q_V δ := ((show q_V d1 = q_V δ by rw [e2]; rfl)).trans rfl
  have v6 := kr_N (kr_r (ad := ad)) (show q_R d1 = q_R δ by rw [e2]; rfl)
  refine ok_bind (k_X12_isHouse L hN (a0 := a0) (x1 := x1) (x2 := (1 : Int32)) k_a0 (show (1 : Int) ≠ 0 by first | with_reducible assumption | omega) i3) (fun r7 hr8 => ?_)
  obtain ⟨i9, ⟨u12, u13, u14⟩, p10, p11⟩ := hr8
  have u15 := kp_t u4 u12
  have v16 : q_V r7.2 = q_V δ := (u13).trans v5
  have v17 := kr_t v6 u14
  have f18 := bo_l p10
  have f19 := ti_b r7.1
  have f20 := ti_b x1
  refine ok_ite (fun h21 => ?_) (fun h21 => ?_)
  · have c22 : r7.1.toInt = (0 : Int) := o_eq h21
    unfold J_X12_drop_28
    exact ok_some (show RI ad h.1 δ0 r7.2 ∧ (kp [(12, 0)] δ r7.2 ∧ q_V r7.2 = q_V δ ∧ kr ad [100, 102, 103, 104, 105, 106] δ r7.2) from ⟨i9, ⟨kp_w (by decide) u15, v16, kr_w (by decide) v17⟩⟩)
  · have c23 : r7.1.toInt ≠ (0 : Int) := o_ne h21
    refine ok_bind (k_X12_isNumber L hN (a0 := a0) (x1 := x2) k_a0 i9) (fun r24 hr25 => ?_)
    obtain ⟨i26, p27, p28⟩ := hr25
    try rw [i26]
    have f29 := bo_l p27
    have f30 := ti_b r24.1
    have f31 := ti_b x2
    refine ok_bind (k_X12_may L hN (a0 := a0) (x1 := r24.1) (x2 := (2 : Int32)) (x3 := (2 : Int32)) k_a0 (show (2 : Int) ≠ 0 by first | with_reducible assumption | omega) (show 0 ≤ (2 : Int) by first | with_reducible assumption | omega) (show (2 : Int) ≤ 2 by first | with_reducible assumption | omega) i9) (fun r32 hr33 => ?_)
    obtain ⟨i34, ⟨u38, u39, u40⟩, p35, p36, p37⟩ := hr33
    have u41 := kp_t u15 u38
    have v42 : q_V r32.2 = q_V δ := (u39).trans v16
    have v43 := kr_t v17 u40
    have f44 := bo_l p35
    have f45 := ti_b r32.1
    have f46 := ti_b (q_I r7.2 12 0 a0)
    refine ok_ite (fun h47 => ?_) (fun h47 => ?_)
    · have c48 : r32.1.toInt = (0 : Int) := o_eq h47
      unfold J_X12_drop_28
      exact ok_some (show RI ad h.1 δ0 r32.2 ∧ (kp [(12, 0)] δ r32.2 ∧ q_V r32.2 = q_V δ ∧ kr ad [100, 102, 103, 104, 105, 106] δ r32.2) from ⟨i34, ⟨kp_w (by decide) u41, v42, kr_w (by decide) v43⟩⟩)
    · have c49 : r32.1.toInt ≠ (0 : Int) := o_ne h47
      refine ok_bind (k_X12_isThere L hN (a0 := a0) (x1 := x1) (x2 := x2) k_a0 (show 0 ≤ (x1).toInt by first | with_reducible assumption | omega) (show (x1).toInt ≤ 3 by first | with_reducible assumption | omega) i34) (fun r50 hr51 => ?_)
      obtain ⟨i52, p53, p54⟩ := hr51
      try rw [i52]
      have f55 := bo_l p53
      have f56 := ti_b r50.1
      have t57 := ti_tn x1
      have f58 : (q_R r32.2 (Ad ad 103) (x1).toNatClampNeg).toInt = (q_R r7.2 (Ad ad 103) (x1).toNatClampNeg).toInt := congrArg Int32.toInt (congrFun (u40 103 (by decide) (by decide) (by decide)) _)
      have f59 : (q_R r7.2 (Ad ad 103) (x1).toNatClampNeg).toInt = (q_R d1 (Ad ad 103) (x1).toNatClampNeg).toInt := congrArg Int32.toInt (congrFun (u14 103 (by decide) (by decide) (by decide)) _)
      have f60 : (q_R d1 (Ad ad 103) (x1).toNatClampNeg).toInt = (q_R δ (Ad ad 103) (x1).toNatClampNeg).toInt := congrArg Int32.toInt (show q_R d1 (Ad ad 103) (x1).toNatClampNeg = _ by rw [e2]; rfl)
      have f61 := rb_103 L I (x1).toNatClampNeg
      have f62 := rb_103 L i3 (x1).toNatClampNeg
      have f63 := rb_103 L i9 (x1).toNatClampNeg
      have f64 := rb_103 L i34 (x1).toNatClampNeg
      refine ok_ite (fun h65 => ?_) (fun h65 => ?_)
      · have c66 : r50.1.toInt = (0 : Int) := o_eq h65
        exact ok_some (show RI ad h.1 δ0 r32.2 ∧ (kp [(12, 0)] δ r32.2 ∧ q_V r32.2 = q_V δ ∧ kr ad [100, 102, 103, 104, 105, 106] δ r32.2) from ⟨i34, ⟨kp_w (by decide) u41, v42, kr_w (by decide) v43⟩⟩)
      · have c67 : r50.1.toInt ≠ (0 : Int) := o_ne h65
        obtain ⟨b68, o69, k70, n71⟩ := gO_12_17 L k_a0
        obtain rfl := gS_12_17 L k_a0 o69
        refine ok_at o69 ?_
        have t72 := ti_tn x1
        refine ok_gd (fun hc73 => ?_) ?_
        · rcases hc73 with hc73 | hc73
          · have c74 : x1.toInt < (0 : Int) := o_lt hc73
            omega
          · omega
        have f75 : (q_R r32.2 (Ad ad 106) x1.toNatClampNeg).toInt = (q_R r7.2 (Ad ad 106) x1.toNatClampNeg).toInt := congrArg Int32.toInt (congrFun (u40 106 (by decide) (by decide) (by decide)) _)
        have f76 : (q_R r7.2 (Ad ad 106) x1.toNatClampNeg).toInt = (q_R d1 (Ad ad 106) x1.toNatClampNeg).toInt := congrArg Int32.toInt (congrFun (u14 106 (by decide) (by decide) (by decide)) _)
        have f77 : (q_R d1 (Ad ad 106) x1.toNatClampNeg).toInt = (q_R δ (Ad ad 106) x1.toNatClampNeg).toInt := congrArg Int32.toInt (show q_R d1 (Ad ad 106) x1.toNatClampNeg = _ by rw [e2]; rfl)
        have f78 := rb_106 L I x1.toNatClampNeg
        have f79 := rb_106 L i3 x1.toNatClampNeg
        have f80 := rb_106 L i9 x1.toNatClampNeg
        have f81 := rb_106 L i34 x1.toNatClampNeg
        refine ok_ite (fun h82 => ?_) (fun h82 => ?_)
        · have c83 : (q_R r32.2 (Ad ad 106) x1.toNatClampNeg).toInt = (1000 : Int) := o_eq h82
          exact ok_some (show RI ad h.1 δ0 r32.2 ∧ (kp [(12, 0)] δ r32.2 ∧ q_V r32.2 = q_V δ ∧ kr ad [100, 102, 103, 104, 105, 106] δ r32.2) from ⟨i34, ⟨kp_w (by decide) u41, v42, kr_w (by decide) v43⟩⟩)
        · have c84 : (q_R r32.2 (Ad ad 106) x1.toNatClampNeg).toInt ≠ (1000 : Int) := o_ne h82
          refine ok_bind (k_X12_leaves L hN (a0 := a0) (x1 := x1) (x2 := x2) k_a0 (show 0 ≤ (x1).toInt by first | with_reducible assumption | omega) (show (x1).toInt ≤ 3 by first | with_reducible assumption | omega) (show -999 ≤ (q_R r32.2 (Ad ad 103) (x1).toNatClampNeg).toInt by first | with_reducible assumption | omega) i34) (fun r85 hr86 => ?_)
          obtain ⟨i87, ⟨u89, u90, u91⟩, p88⟩ := hr86
          have u92 := kp_t u41 u89
          have v93 : q_V r85 = q_V δ := (u90).trans v42
          have v94 := kr_t v43 u91
          have f95 := rb_103 L i87 (x1).toNatClampNeg
          have f98 : (q_R r85 (Ad ad 106) (x1).toNatClampNeg).toInt = (q_R r32.2 (Ad ad 106) (x1).toNatClampNeg).toInt := congrArg Int32.toInt (congrFun (u91 106 (by decide) (by decide) (by decide)) _)
          have f99 : (q_R r32.2 (Ad ad 106) (x1).toNatClampNeg).toInt = (q_R r7.2 (Ad ad 106) (x1).toNatClampNeg).toInt := congrArg Int32.toInt (congrFun (u40 106 (by decide) (by decide) (by decide)) _)
          have f100 : (q_R r7.2 (Ad ad 106) (x1).toNatClampNeg).toInt = (q_R d1 (Ad ad 106) (x1).toNatClampNeg).toInt := congrArg Int32.toInt (congrFun (u14 106 (by decide) (by decide) (by decide)) _)
          have f101 : (q_R d1 (Ad ad 106) (x1).toNatClampNeg).toInt = (q_R δ (Ad ad 106) (x1).toNatClampNeg).toInt := congrArg Int32.toInt (show q_R d1 (Ad ad 106) (x1).toNatClampNeg = _ by rw [e2]; rfl)
          have f102 := rb_106 L I (x1).toNatClampNeg
          have f103 := rb_106 L i3 (x1).toNatClampNeg
          have f104 := rb_106 L i9 (x1).toNatClampNeg
          have f105 := rb_106 L i34 (x1).toNatClampNeg
          have f106 := rb_106 L i87 (x1).toNatClampNeg
          refine ok_bind (k_X12_notesDown L hN (a0 := a0) (x1 := x1) (x2 := x2) (x3 := (0 : Int32)) k_a0 (show 0 ≤ (x1).toInt by first | with_reducible assumption | omega) (show (x1).toInt ≤ 3 by first | with_reducible assumption | omega) (show (q_R r85 (Ad ad 106) (x1).toNatClampNeg).toInt < 1000 by first | with_reducible assumption | omega) i87) (fun r96 hr97 => ?_)
          obtain ⟨i107, ⟨u109, u110, u111⟩, p108⟩ := hr97
          have u112 := kp_t u92 u109
          have v113 : q_V r96 = q_V δ := (u110).trans v93
          have v114 := kr_t v94 u111
          have f115 := rb_106 L i107 (x1).toNatClampNeg
          exact ok_some (show RI ad h.1 δ0 r96 ∧ (kp [(12, 0)] δ r96 ∧ q_V r96 = q_V δ ∧ kr ad [100, 102, 103, 104, 105, 106] δ r96) from ⟨i107, ⟨kp_w (by decide) u112, v113, kr_w (by decide) v114⟩⟩)
set_option maxHeartbeats 4000000 in
theorem k_X12_has {ad : List Nat} {h : hp} (L : Lay TLx ad h) {δ0 : dp} {N : Nat} (hN : 10000000 ≤ N) {a0 : Nat} {x1 : Int32} {x2 : Int32} (k_a0 : q_K h.1 a0 = 12) {δ : dp} (I : RI ad h.1 δ0 δ) : ok (D_X12_has N h.1 a0 x1 x2 δ) (fun r => RI ad h.1 δ0 r.2 ∧ (kp [(12, 0)] δ r.2 ∧ q_V r.2 = q_V δ ∧ kr ad [100] δ r.2)) := by
  unfold D_X12_has
  refine ok_bdv (fun d1 e2 => ?_)
  have i3 : RI ad h.1 δ0 d1 := by rw [e2]; exact cs_12_0 L I
  have u4 := kp_I kp_r e2
  have v5 : q_V d1 = q_V δ := ((show q_V d1 = q_V δ by rw [e2]; rfl)).trans rfl
  have v6 := kr_N (kr_r (ad := ad)) (show q_R d1 = q_R δ by rw [e2]; rfl)
  refine ok_bind (k_X12_isHouse L hN (a0 := a0) (x1 := x1) (x2 := (1 : Int32)) k_a0 (show (1 : Int) ≠ 0 by first | with_reducible assumption | omega) i3) (fun r7 hr8 => ?_)
  obtain ⟨i9, ⟨u12, u13, u14⟩, p10, p11⟩ := hr8
  have u15 := kp_t u4 u12
  have v16 : q_V r7.2 = q_V δ := (u13).trans v5
  have v17 := kr_t v6 u14
  have f18 := bo_l p10
  have f19 := ti_b r7.1
  have f20 := ti_b x1
  refine ok_ite (fun h21 => ?_) (fun h21 => ?_)
  · have c22 : r7.1.toInt = (0 : Int) := o_eq h21
    unfold J_X12_has_28
    refine ok_gp (by decide) ?_
    exact ok_some (show RI ad h.1 δ0 r7.2 ∧ (kp [(12, 0)] δ r7.2 ∧ q_V r7.2 = q_V δ ∧ kr ad [100] δ r7.2) from ⟨i9, ⟨kp_w (by decide) u15, v16, kr_w (by decide) v17⟩⟩)
  · have c23 : r7.1.toInt ≠ (0 : Int) := o_ne h21
    refine ok_bind (k_X12_isNumber L hN (a0 := a0) (x1 := x2) k_a0 i9) (fun r24 hr25 => ?_)
    obtain ⟨i26, p27, p28⟩ := hr25
    try rw [i26]
    have f29 := bo_l p27
    have f30 := ti_b r24.1
    have f31 := ti_b x2
    refine ok_bind (k_X12_may L hN (a0 := a0) (x1 := r24.1) (x2 := (2 : Int32)) (x3 := (2 : Int32)) k_a0 (show (2 : Int) ≠ 0 by first | with_reducible assumption | omega) (show 0 ≤ (2 : Int) by first | with_reducible assumption | omega) (show (2 : Int) ≤ 2 by first | with_reducible assumption | omega) i9) (fun r32 hr33 => ?_)
    obtain ⟨i34, ⟨u38, u39, u40⟩, p35, p36, p37⟩ := hr33
    have u41 := kp_t u15 u38
    have v42 : q_V r32.2 = q_V δ := (u39).trans v16
    have v43 := kr_t v17 u40
    have f44 := bo_l p35
    have f45 := ti_b r32.1
    have f46 := ti_b (q_I r7.2 12 0 a0)
    refine ok_ite (fun h47 => ?_) (fun h47 => ?_)
    · have c48 : r32.1.toInt = (0 : Int) := o_eq h47
      unfold J_X12_has_28
      refine ok_gp (by decide) ?_
      exact ok_some (show RI ad h.1 δ0 r32.2 ∧ (kp [(12, 0)] δ r32.2 ∧ q_V r32.2 = q_V δ ∧ kr ad [100] δ r32.2) from ⟨i34, ⟨kp_w (by decide) u41, v42, kr_w (by decide) v43⟩⟩)
    · have c49 : r32.1.toInt ≠ (0 : Int) := o_ne h47
      refine ok_bind (k_X12_isThere L hN (a0 := a0) (x1 := x1) (x2 := x2) k_a0 (show 0 ≤ (x1).toInt by first | with_reducible assumption | omega) (show (x1).toInt ≤ 3 by first | with_reducible assumption | omega) i34) (fun r50 hr51 => ?_)
      obtain ⟨i52, p53, p54⟩ := hr51
      try rw [i52]
      have f55 := bo_l p53
      have f56 := ti_b r50.1
      have t57 := ti_tn x1
      have f58 : (q_R r32.2 (Ad ad 103) (x1).toNatClampNeg).toInt = (q_R r7.2 (Ad ad 103) (x1).toNatClampNeg).toInt := congrArg Int32.toInt (congrFun (u40 103 (by decide) (by decide) (by decide)) _)
      have f59 : (q_R r7.2 (Ad ad 103) (x1).toNatClampNeg).toInt = (q_R d1 (Ad ad 103) (x1).toNatClampNeg).toInt := congrArg Int32.toInt (congrFun (u14 103 (by decide) (by decide) (by decide)) _)
      have f60 : (q_R d1 (Ad ad 103) (x1).toNatClampNeg).toInt = (q_R δ (Ad ad 103) (x1).toNatClampNeg).toInt := congrArg Int32.toInt (show q_R d1 (Ad ad 103) (x1).toNatClampNeg = _ by rw [e2]; rfl)
      have f61 := rb_103 L I (x1).toNatClampNeg
      have f62 := rb_103 L i3 (x1).toNatClampNeg
      have f63 := rb_103 L i9 (x1).toNatClampNeg
      have f64 := rb_103 L i34 (x1).toNatClampNeg
      refine ok_gp (show bo r50.1 by first | assumption | exact bo_0 | exact bo_1 | exact bo_i (by omega) (by omega)) ?_
      exact ok_some (show RI ad h.1 δ0 r32.2 ∧ (kp [(12, 0)] δ r32.2 ∧ q_V r32.2 = q_V δ ∧ kr ad [100] δ r32.2) from ⟨i34, ⟨kp_w (by decide) u41, v42, kr_w (by decide) v43⟩⟩)
set_option maxHeartbeats 4000000 in
theorem k_X12_numberAt {ad : List Nat} {h : hp} (L : Lay TLx ad h) {δ0 : dp} {N : Nat} (hN : 10000000 ≤ N) {a0 : Nat} {x1 : Int32} {x2 : Int32} (k_a0 : q_K h.1 a0 = 12) {δ : dp} (z0 : 0 ≤ (x1).toInt) (z1 : (x1).toInt ≤ 3) (I : RI ad h.1 δ0 δ) : ok (D_X12_numberAt N h.1 a0 x1 x2 δ) (fun r => r.2 = δ) := by
  unfold D_X12_numberAt
  have f1 := ti_b x1
  obtain ⟨b2, o3, k4, n5⟩ := gO_12_14 L k_a0
  obtain rfl := gS_12_14 L k_a0 o3
  refine ok_at o3 ?_
  have t6 := ti_tn x1
  refine ok_gd (fun hc7 => ?_) ?_
  · rcases hc7 with hc7 | hc7
    · have c8 : x1.toInt < (0 : Int) := o_lt hc7
      omega
    · omega
  refine ok_bind (k_X12_within L hN (x0 := x2) (x1 := (0 : Int32)) (x2 := ((q_R δ (Ad ad 103) x1.toNatClampNeg) - (1 : Int32)))  I) (fun r9 hr10 => ?_)
  obtain ⟨i11, p12, p13, p14⟩ := hr10
  try rw [i11]
  have f15 := bo_l p12
  have f16 := ti_b r9.1
  have f17 := ti_b x2
  have f18 := rb_103 L I x1.toNatClampNeg
  first | (have q20 := te_subc (c := 1) (n := 1) rfl (q_R δ (Ad ad 103) x1.toNatClampNeg) (by omega) (by omega); obtain ⟨f21, f22, f23⟩ := q20) | (obtain ⟨q20, f21, f22, f23⟩ := ti_subc (c := 1) (n := 1) rfl (q_R δ (Ad ad 103) x1.toNatClampNeg))
  replace p13 : ((r9.1).toInt = 1 → (0 : Int) ≤ (x2).toInt ∧ (x2).toInt ≤ (((q_R δ (Ad ad 103) x1.toNatClampNeg) - (1 : Int32))).toInt) := p13
  replace p14 : ((r9.1).toInt = 0 → (x2).toInt < (0 : Int) ∨ (((q_R δ (Ad ad 103) x1.toNatClampNeg) - (1 : Int32))).toInt < (x2).toInt) := p14
  refine ok_ite (fun h24 => ?_) (fun h24 => ?_)
  · have c25 : r9.1.toInt = (0 : Int) := o_eq h24
    unfold J_X12_numberAt_32
    exact ok_some (show δ = δ from rfl)
  · have c26 : r9.1.toInt ≠ (0 : Int) := o_ne h24
    obtain ⟨b27, o28, k29, n30, w31⟩ := gO_12_13 L k_a0
    obtain rfl := gS_12_13 L k_a0 o28
    refine ok_at o28 ?_
    first | (have q33 := te_mulc (c := 2000) (n := 2000) rfl x1 (by omega) (by omega); obtain ⟨f34, f35, f36⟩ := q33) | (obtain ⟨q33, f34, f35, f36⟩ := ti_mulc (c := 2000) (n := 2000) rfl x1)
    first | (have q38 := te_add ((2000 : Int32) * x1) x2 (by omega) (by omega); obtain ⟨f39, f40, f41⟩ := q38) | (obtain ⟨q38, f39, f40, f41⟩ := ti_add ((2000 : Int32) * x1) x2)
    have t42 := ti_tn (((2000 : Int32) * x1) + x2)
    refine ok_gd (fun hc43 => ?_) ?_
    · rcases hc43 with hc43 | hc43
      · have c44 : (((2000 : Int32) * x1) + x2).toInt < (0 : Int) := o_lt hc43
        omega
      · omega
    unfold J_X12_numberAt_32
    exact ok_some (show δ = δ from rfl)
set_option maxHeartbeats 4000000 in
theorem k_X12_of_ {ad : List Nat} {h : hp} (L : Lay TLx ad h) {δ0 : dp} {N : Nat} (hN : 10000000 ≤ N) {a0 : Nat} {x1 : Int32} {x2 : Int32} (k_a0 : q_K h.1 a0 = 12) {δ : dp} (I : RI ad h.1 δ0 δ) : ok (D_X12_of_ N h.1 a0 x1 x2 δ) (fun r => RI ad h.1 δ0 r.2 ∧ (kp [(12, 0)] δ r.2 ∧ q_V r.2 = q_V δ ∧ kr ad [100] δ r.2)) := by
  unfold D_X12_of_
  refine ok_bdv (fun d1 e2 => ?_)
  have i3 : RI ad h.1 δ0 d1 := by rw [e2]; exact cs_12_0 L I
  have u4 := kp_I kp_r e2
  have v5 : q_V d1 = q_V δ := ((show q_V d1 = q_V δ by rw [e2]; rfl)).trans rfl
  have v6 := kr_N (kr_r (ad := ad)) (show q_R d1 = q_R δ by rw [e2]; rfl)
  refine ok_bind (k_X12_isHouse L hN (a0 := a0) (x1 := x1) (x2 := (1 : Int32)) k_a0 (show (1 : Int) ≠ 0 by first | with_reducible assumption | omega) i3) (fun r7 hr8 => ?_)
  obtain ⟨i9, ⟨u12, u13, u14⟩, p10, p11⟩ := hr8
  have u15 := kp_t u4 u12
  have v16 : q_V r7.2 = q_V δ := (u13).trans v5
  have v17 := kr_t v6 u14
  have f18 := bo_l p10
  have f19 := ti_b r7.1
  have f20 := ti_b x1
  refine ok_ite (fun h21 => ?_) (fun h21 => ?_)
  · have c22 : r7.1.toInt = (0 : Int) := o_eq h21
    unfold J_X12_of__29
    exact ok_some (show RI ad h.1 δ0 r7.2 ∧ (kp [(12, 0)] δ r7.2 ∧ q_V r7.2 = q_V δ ∧ kr ad [100] δ r7.2) from ⟨i9, ⟨kp_w (by decide) u15, v16, kr_w (by decide) v17⟩⟩)
  · have c23 : r7.1.toInt ≠ (0 : Int) := o_ne h21
    refine ok_bind (k_X12_within L hN (x0 := x2) (x1 := (0 : Int32)) (x2 := (3 : Int32))  i9) (fun r24 hr25 => ?_)
    obtain ⟨i26, p27, p28, p29⟩ := hr25
    try rw [i26]
    have f30 := bo_l p27
    have f31 := ti_b r24.1
    have f32 := ti_b x2
    replace p28 : ((r24.1).toInt = 1 → (0 : Int) ≤ (x2).toInt ∧ (x2).toInt ≤ (3 : Int)) := p28
    replace p29 : ((r24.1).toInt = 0 → (x2).toInt < (0 : Int) ∨ (3 : Int) < (x2).toInt) := p29
    refine ok_bind (k_X12_may L hN (a0 := a0) (x1 := r24.1) (x2 := (2 : Int32)) (x3 := (2 : Int32)) k_a0 (show (2 : Int) ≠ 0 by first | with_reducible assumption | omega) (show 0 ≤ (2 : Int) by first | with_reducible assumption | omega) (show (2 : Int) ≤ 2 by first | with_reducible assumption | omega) i9) (fun r33 hr34 => ?_)
    obtain ⟨i35, ⟨u39, u40, u41⟩, p36, p37, p38⟩ := hr34
    have u42 := kp_t u15 u39
    have v43 : q_V r33.2 = q_V δ := (u40).trans v16
    have v44 := kr_t v17 u41
    have f45 := bo_l p36
    have f46 := ti_b r33.1
    have f47 := ti_b (q_I r7.2 12 0 a0)
    refine ok_ite (fun h48 => ?_) (fun h48 => ?_)
    · have c49 : r33.1.toInt = (0 : Int) := o_eq h48
      unfold J_X12_of__29
      exact ok_some (show RI ad h.1 δ0 r33.2 ∧ (kp [(12, 0)] δ r33.2 ∧ q_V r33.2 = q_V δ ∧ kr ad [100] δ r33.2) from ⟨i35, ⟨kp_w (by decide) u42, v43, kr_w (by decide) v44⟩⟩)
    · have c50 : r33.1.toInt ≠ (0 : Int) := o_ne h48
      refine ok_ite (fun h51 => ?_) (fun h51 => ?_)
      · have c52 : x2.toInt = (0 : Int) := o_eq h51
        obtain ⟨b53, o54, k55, n56⟩ := gO_12_14 L k_a0
        obtain rfl := gS_12_14 L k_a0 o54
        refine ok_at o54 ?_
        have t57 := ti_tn x1
        refine ok_gd (fun hc58 => ?_) ?_
        · rcases hc58 with hc58 | hc58
          · have c59 : x1.toInt < (0 : Int) := o_lt hc58
            omega
          · omega
        unfold J_X12_of__85
        exact ok_some (show RI ad h.1 δ0 r33.2 ∧ (kp [(12, 0)] δ r33.2 ∧ q_V r33.2 = q_V δ ∧ kr ad [100] δ r33.2) from ⟨i35, ⟨kp_w (by decide) u42, v43, kr_w (by decide) v44⟩⟩)
      · have c60 : x2.toInt ≠ (0 : Int) := o_ne h51
        refine ok_ite (fun h61 => ?_) (fun h61 => ?_)
        · have c62 : x2.toInt = (1 : Int) := o_eq h61
          refine ok_bind (k_X12_numberAt L hN (a0 := a0) (x1 := x1) (x2 := (0 : Int32)) k_a0 (show 0 ≤ (x1).toInt by first | with_reducible assumption | omega) (show (x1).toInt ≤ 3 by first | with_reducible assumption | omega) i35) (fun r63 hr64 => ?_)
          have i65 := hr64
          try rw [i65]
          have f66 := ti_b r63.1
          unfold J_X12_of__85
          exact ok_some (show RI ad h.1 δ0 r33.2 ∧ (kp [(12, 0)] δ r33.2 ∧ q_V r33.2 = q_V δ ∧ kr ad [100] δ r33.2) from ⟨i35, ⟨kp_w (by decide) u42, v43, kr_w (by decide) v44⟩⟩)
        · have c67 : x2.toInt ≠ (1 : Int) := o_ne h61
          refine ok_ite (fun h68 => ?_) (fun h68 => ?_)
          · have c69 : x2.toInt = (2 : Int) := o_eq h68
            obtain ⟨b70, o71, k72, n73⟩ := gO_12_14 L k_a0
            obtain rfl := gS_12_14 L k_a0 o71
            refine ok_at o71 ?_
            have t74 := ti_tn x1
            refine ok_gd (fun hc75 => ?_) ?_
            · rcases hc75 with hc75 | hc75
              · have c76 : x1.toInt < (0 : Int) := o_lt hc75
                omega
              · omega
            refine ok_bind (k_X12_numberAt L hN (a0 := a0) (x1 := x1) (x2 := ((q_R r33.2 (Ad ad 103) x1.toNatClampNeg) - (1 : Int32))) k_a0 (show 0 ≤ (x1).toInt by first | with_reducible assumption | omega) (show (x1).toInt ≤ 3 by first | with_reducible assumption | omega) i35) (fun r77 hr78 => ?_)
            have i79 := hr78
            try rw [i79]
            have f80 := ti_b r77.1
            unfold J_X12_of__85
            exact ok_some (show RI ad h.1 δ0 r33.2 ∧ (kp [(12, 0)] δ r33.2 ∧ q_V r33.2 = q_V δ ∧ kr ad [100] δ r33.2) from ⟨i35, ⟨kp_w (by decide) u42, v43, kr_w (by decide) v44⟩⟩)
          · have c81 : x2.toInt ≠ (2 : Int) := o_ne h68
            obtain ⟨b82, o83, k84, n85⟩ := gO_12_17 L k_a0
            obtain rfl := gS_12_17 L k_a0 o83
            refine ok_at o83 ?_
            have t86 := ti_tn x1
            refine ok_gd (fun hc87 => ?_) ?_
            · rcases hc87 with hc87 | hc87
              · have c88 : x1.toInt < (0 : Int) := o_lt hc87
                omega
              · omega
            unfold J_X12_of__85
            exact ok_some (show RI ad h.1 δ0 r33.2 ∧ (kp [(12, 0)] δ r33.2 ∧ q_V r33.2 = q_V δ ∧ kr ad [100] δ r33.2) from ⟨i35, ⟨kp_w (by decide) u42, v43, kr_w (by decide) v44⟩⟩)
set_option maxHeartbeats 4000000 in
theorem k_X12_answer {ad : List Nat} {h : hp} (L : Lay TLx ad h) {δ0 : dp} {N : Nat} (hN : 10000000 ≤ N) {a0 : Nat} {x1 : Int32} {x2 : Int32} {x3 : Int32} (k_a0 : q_K h.1 a0 = 12) {δ : dp} (z0 : 0 ≤ (x1).toInt) (z1 : (x1).toInt ≤ 3) (I : RI ad h.1 δ0 δ) : ok (D_X12_answer N h.1 a0 x1 x2 x3 δ) (fun r => r.2 = δ) := by
  unfold D_X12_answer
  have f1 := ti_b x1
  have f2 := ti_b x2
  refine ok_ite (fun h3 => ?_) (fun h3 => ?_)
  · have c4 : x2.toInt = (3 : Int) := o_eq h3
    refine ok_bind (k_X12_place L hN (a0 := a0) (x1 := x1) (x2 := (x3 + (1 : Int32))) k_a0 (show 0 ≤ (x1).toInt by first | with_reducible assumption | omega) (show (x1).toInt ≤ 3 by first | with_reducible assumption | omega) I) (fun r5 hr6 => ?_)
    obtain ⟨i7, p8, p9⟩ := hr6
    try rw [i7]
    have f10 := ti_b r5.1
    have t11 := ti_tn x1
    have f12 := rb_103 L I (x1).toNatClampNeg
    refine ok_bind (k_X12_numberAt L hN (a0 := a0) (x1 := x1) (x2 := r5.1) k_a0 (show 0 ≤ (x1).toInt by first | with_reducible assumption | omega) (show (x1).toInt ≤ 3 by first | with_reducible assumption | omega) I) (fun r13 hr14 => ?_)
    have i15 := hr14
    try rw [i15]
    have f16 := ti_b r13.1
    exact ok_some (show δ = δ from rfl)
  · have c17 : x2.toInt ≠ (3 : Int) := o_ne h3
    refine ok_ite (fun h18 => ?_) (fun h18 => ?_)
    · have c19 : x2.toInt = (4 : Int) := o_eq h18
      refine ok_bind (k_X12_place L hN (a0 := a0) (x1 := x1) (x2 := x3) k_a0 (show 0 ≤ (x1).toInt by first | with_reducible assumption | omega) (show (x1).toInt ≤ 3 by first | with_reducible assumption | omega) I) (fun r20 hr21 => ?_)
      obtain ⟨i22, p23, p24⟩ := hr21
      try rw [i22]
      have f25 := ti_b r20.1
      have t26 := ti_tn x1
      have f27 := rb_103 L I (x1).toNatClampNeg
      refine ok_bind (k_X12_numberAt L hN (a0 := a0) (x1 := x1) (x2 := (r20.1 - (1 : Int32))) k_a0 (show 0 ≤ (x1).toInt by first | with_reducible assumption | omega) (show (x1).toInt ≤ 3 by first | with_reducible assumption | omega) I) (fun r28 hr29 => ?_)
      have i30 := hr29
      try rw [i30]
      have f31 := ti_b r28.1
      exact ok_some (show δ = δ from rfl)
    · have c32 : x2.toInt ≠ (4 : Int) := o_ne h18
      refine ok_bind (k_X12_isThere L hN (a0 := a0) (x1 := x1) (x2 := x3) k_a0 (show 0 ≤ (x1).toInt by first | with_reducible assumption | omega) (show (x1).toInt ≤ 3 by first | with_reducible assumption | omega) I) (fun r33 hr34 => ?_)
      obtain ⟨i35, p36, p37⟩ := hr34
      try rw [i35]
      have f38 := bo_l p36
      have f39 := ti_b r33.1
      have t40 := ti_tn x1
      have f41 := rb_103 L I (x1).toNatClampNeg
      refine ok_ite (fun h42 => ?_) (fun h42 => ?_)
      · have c43 : r33.1.toInt = (0 : Int) := o_eq h42
        unfold J_X12_answer_52
        exact ok_some (show δ = δ from rfl)
      · have c44 : r33.1.toInt ≠ (0 : Int) := o_ne h42
        unfold J_X12_answer_52
        exact ok_some (show δ = δ from rfl)
set_option maxHeartbeats 4000000 in
theorem k_X12_mayAsk {ad : List Nat} {h : hp} (L : Lay TLx ad h) {δ0 : dp} {N : Nat} (hN : 10000000 ≤ N) {a0 : Nat} {x1 : Int32} {x2 : Int32} (k_a0 : q_K h.1 a0 = 12) {δ : dp} (I : RI ad h.1 δ0 δ) : ok (D_X12_mayAsk N h.1 a0 x1 x2 δ) (fun r => r.2 = δ ∧ bo (r.1) ∧ ((r.1).toInt = 1 → -1 ≤ (x2).toInt ∧ (x2).toInt ≤ 65536)) := by
  unfold D_X12_mayAsk
  have f1 := ti_b x1
  refine ok_ite (fun h2 => ?_) (fun h2 => ?_)
  · have c3 : x1.toInt = (3 : Int) := o_eq h2
    refine ok_bind (k_X12_all L hN (a0 := a0) k_a0 I) (fun r4 hr5 => ?_)
    obtain ⟨i6, p7, p8, p9, p10⟩ := hr5
    try rw [i6]
    have f11 := ti_b r4.1
    have f12 := cb_12_10 I k_a0
    refine ok_bind (k_X12_within L hN (x0 := x2) (x1 := (-1 : Int32)) (x2 := (r4.1 - (1 : Int32)))  I) (fun r13 hr14 => ?_)
    obtain ⟨i15, p16, p17, p18⟩ := hr14
    try rw [i15]
    have f19 := bo_l p16
    have f20 := ti_b r13.1
    have f21 := ti_b x2
    first | (have q23 := te_subc (c := 1) (n := 1) rfl r4.1 (by omega) (by omega); obtain ⟨f24, f25, f26⟩ := q23) | (obtain ⟨q23, f24, f25, f26⟩ := ti_subc (c := 1) (n := 1) rfl r4.1)
    replace p17 : ((r13.1).toInt = 1 → (-1 : Int) ≤ (x2).toInt ∧ (x2).toInt ≤ ((r4.1 - (1 : Int32))).toInt) := p17
    replace p18 : ((r13.1).toInt = 0 → (x2).toInt < (-1 : Int) ∨ ((r4.1 - (1 : Int32))).toInt < (x2).toInt) := p18
    unfold J_X12_mayAsk_41
    refine ok_gp (show bo r13.1 by first | assumption | exact bo_0 | exact bo_1 | exact bo_i (by omega) (by omega)) ?_
    exact ok_some (show δ = δ ∧ bo (r13.1) ∧ ((r13.1).toInt = 1 → -1 ≤ (x2).toInt ∧ (x2).toInt ≤ 65536) from ⟨rfl, by first | assumption | exact bo_0 | exact bo_1 | exact bo_i (by omega) (by omega), by first | with_reducible assumption | omega⟩)
  · have c27 : x1.toInt ≠ (3 : Int) := o_ne h2
    refine ok_ite (fun h28 => ?_) (fun h28 => ?_)
    · have c29 : x1.toInt = (4 : Int) := o_eq h28
      refine ok_bind (k_X12_all L hN (a0 := a0) k_a0 I) (fun r30 hr31 => ?_)
      obtain ⟨i32, p33, p34, p35, p36⟩ := hr31
      try rw [i32]
      have f37 := ti_b r30.1
      have f38 := cb_12_10 I k_a0
      refine ok_bind (k_X12_within L hN (x0 := x2) (x1 := (0 : Int32)) (x2 := r30.1)  I) (fun r39 hr40 => ?_)
      obtain ⟨i41, p42, p43, p44⟩ := hr40
      try rw [i41]
      have f45 := bo_l p42
      have f46 := ti_b r39.1
      have f47 := ti_b x2
      replace p43 : ((r39.1).toInt = 1 → (0 : Int) ≤ (x2).toInt ∧ (x2).toInt ≤ (r30.1).toInt) := p43
      replace p44 : ((r39.1).toInt = 0 → (x2).toInt < (0 : Int) ∨ (r30.1).toInt < (x2).toInt) := p44
      unfold J_X12_mayAsk_41
      refine ok_gp (show bo r39.1 by first | assumption | exact bo_0 | exact bo_1 | exact bo_i (by omega) (by omega)) ?_
      exact ok_some (show δ = δ ∧ bo (r39.1) ∧ ((r39.1).toInt = 1 → -1 ≤ (x2).toInt ∧ (x2).toInt ≤ 65536) from ⟨rfl, by first | assumption | exact bo_0 | exact bo_1 | exact bo_i (by omega) (by omega), by first | with_reducible assumption | omega⟩)
    · have c48 : x1.toInt ≠ (4 : Int) := o_ne h28
      refine ok_bind (k_X12_isNumber L hN (a0 := a0) (x1 := x2) k_a0 I) (fun r49 hr50 => ?_)
      obtain ⟨i51, p52, p53⟩ := hr50
      try rw [i51]
      have f54 := bo_l p52
      have f55 := ti_b r49.1
      have f56 := ti_b x2
      unfold J_X12_mayAsk_41
      refine ok_gp (show bo r49.1 by first | assumption | exact bo_0 | exact bo_1 | exact bo_i (by omega) (by omega)) ?_
      exact ok_some (show δ = δ ∧ bo (r49.1) ∧ ((r49.1).toInt = 1 → -1 ≤ (x2).toInt ∧ (x2).toInt ≤ 65536) from ⟨rfl, by first | assumption | exact bo_0 | exact bo_1 | exact bo_i (by omega) (by omega), by first | with_reducible assumption | omega⟩)
set_option maxHeartbeats 4000000 in
theorem k_X12_next {ad : List Nat} {h : hp} (L : Lay TLx ad h) {δ0 : dp} {N : Nat} (hN : 10000000 ≤ N) {a0 : Nat} {x1 : Int32} {x2 : Int32} (k_a0 : q_K h.1 a0 = 12) {δ : dp} (I : RI ad h.1 δ0 δ) : ok (D_X12_next N h.1 a0 x1 x2 δ) (fun r => RI ad h.1 δ0 r.2 ∧ (kp [(12, 0)] δ r.2 ∧ q_V r.2 = q_V δ ∧ kr ad [100] δ r.2)) := by
  unfold D_X12_next
  refine ok_bdv (fun d1 e2 => ?_)
  have i3 : RI ad h.1 δ0 d1 := by rw [e2]; exact cs_12_0 L I
  have u4 := kp_I kp_r e2
  have v5 : q_V d1 = q_V δ := ((show q_V d1 = q_V δ by rw [e2]; rfl)).trans rfl
  have v6 := kr_N (kr_r (ad := ad)) (show q_R d1 = q_R δ by rw [e2]; rfl)
  refine ok_bind (k_X12_isHouse L hN (a0 := a0) (x1 := x1) (x2 := (1 : Int32)) k_a0 (show (1 : Int) ≠ 0 by first | with_reducible assumption | omega) i3) (fun r7 hr8 => ?_)
  obtain ⟨i9, ⟨u12, u13, u14⟩, p10, p11⟩ := hr8
  have u15 := kp_t u4 u12
  have v16 : q_V r7.2 = q_V δ := (u13).trans v5
  have v17 := kr_t v6 u14
  have f18 := bo_l p10
  have f19 := ti_b r7.1
  have f20 := ti_b x1
  refine ok_ite (fun h21 => ?_) (fun h21 => ?_)
  · have c22 : r7.1.toInt = (0 : Int) := o_eq h21
    unfold J_X12_next_29
    exact ok_some (show RI ad h.1 δ0 r7.2 ∧ (kp [(12, 0)] δ r7.2 ∧ q_V r7.2 = q_V δ ∧ kr ad [100] δ r7.2) from ⟨i9, ⟨kp_w (by decide) u15, v16, kr_w (by decide) v17⟩⟩)
  · have c23 : r7.1.toInt ≠ (0 : Int) := o_ne h21
    refine ok_bind (k_X12_mayAsk L hN (a0 := a0) (x1 := (3 : Int32)) (x2 := x2) k_a0 i9) (fun r24 hr25 => ?_)
    obtain ⟨i26, p27, p28⟩ := hr25
    try rw [i26]
    have f29 := bo_l p27
    have f30 := ti_b r24.1
    have f31 := ti_b x2
    refine ok_bind (k_X12_may L hN (a0 := a0) (x1 := r24.1) (x2 := (2 : Int32)) (x3 := (2 : Int32)) k_a0 (show (2 : Int) ≠ 0 by first | with_reducible assumption | omega) (show 0 ≤ (2 : Int) by first | with_reducible assumption | omega) (show (2 : Int) ≤ 2 by first | with_reducible assumption | omega) i9) (fun r32 hr33 => ?_)
    obtain ⟨i34, ⟨u38, u39, u40⟩, p35, p36, p37⟩ := hr33
    have u41 := kp_t u15 u38
    have v42 : q_V r32.2 = q_V δ := (u39).trans v16
    have v43 := kr_t v17 u40
    have f44 := bo_l p35
    have f45 := ti_b r32.1
    have f46 := ti_b (q_I r7.2 12 0 a0)
    refine ok_ite (fun h47 => ?_) (fun h47 => ?_)
    · have c48 : r32.1.toInt = (0 : Int) := o_eq h47
      unfold J_X12_next_29
      exact ok_some (show RI ad h.1 δ0 r32.2 ∧ (kp [(12, 0)] δ r32.2 ∧ q_V r32.2 = q_V δ ∧ kr ad [100] δ r32.2) from ⟨i34, ⟨kp_w (by decide) u41, v42, kr_w (by decide) v43⟩⟩)
    · have c49 : r32.1.toInt ≠ (0 : Int) := o_ne h47
      refine ok_bind (k_X12_answer L hN (a0 := a0) (x1 := x1) (x2 := (3 : Int32)) (x3 := x2) k_a0 (show 0 ≤ (x1).toInt by first | with_reducible assumption | omega) (show (x1).toInt ≤ 3 by first | with_reducible assumption | omega) i34) (fun r50 hr51 => ?_)
      have i52 := hr51
      try rw [i52]
      have f53 := ti_b r50.1
      exact ok_some (show RI ad h.1 δ0 r32.2 ∧ (kp [(12, 0)] δ r32.2 ∧ q_V r32.2 = q_V δ ∧ kr ad [100] δ r32.2) from ⟨i34, ⟨kp_w (by decide) u41, v42, kr_w (by decide) v43⟩⟩)
set_option maxHeartbeats 4000000 in
theorem k_X12_before {ad : List Nat} {h : hp} (L : Lay TLx ad h) {δ0 : dp} {N : Nat} (hN : 10000000 ≤ N) {a0 : Nat} {x1 : Int32} {x2 : Int32} (k_a0 : q_K h.1 a0 = 12) {δ : dp} (I : RI ad h.1 δ0 δ) : ok (D_X12_before N h.1 a0 x1 x2 δ) (fun r => RI ad h.1 δ0 r.2 ∧ (kp [(12, 0)] δ r.2 ∧ q_V r.2 = q_V δ ∧ kr ad [100] δ r.2)) := by
  unfold D_X12_before
  refine ok_bdv (fun d1 e2 => ?_)
  have i3 : RI ad h.1 δ0 d1 := by rw [e2]; exact cs_12_0 L I
  have u4 := kp_I kp_r e2
  have v5 : q_V d1 = q_V δ := ((show q_V d1 = q_V δ by rw [e2]; rfl)).trans rfl
  have v6 := kr_N (kr_r (ad := ad)) (show q_R d1 = q_R δ by rw [e2]; rfl)
  refine ok_bind (k_X12_isHouse L hN (a0 := a0) (x1 := x1) (x2 := (1 : Int32)) k_a0 (show (1 : Int) ≠ 0 by first | with_reducible assumption | omega) i3) (fun r7 hr8 => ?_)
  obtain ⟨i9, ⟨u12, u13, u14⟩, p10, p11⟩ := hr8
  have u15 := kp_t u4 u12
  have v16 : q_V r7.2 = q_V δ := (u13).trans v5
  have v17 := kr_t v6 u14
  have f18 := bo_l p10
  have f19 := ti_b r7.1
  have f20 := ti_b x1
  refine ok_ite (fun h21 => ?_) (fun h21 => ?_)
  · have c22 : r7.1.toInt = (0 : Int) := o_eq h21
    unfold J_X12_before_29
    exact ok_some (show RI ad h.1 δ0 r7.2 ∧ (kp [(12, 0)] δ r7.2 ∧ q_V r7.2 = q_V δ ∧ kr ad [100] δ r7.2) from ⟨i9, ⟨kp_w (by decide) u15, v16, kr_w (by decide) v17⟩⟩)
  · have c23 : r7.1.toInt ≠ (0 : Int) := o_ne h21
    refine ok_bind (k_X12_mayAsk L hN (a0 := a0) (x1 := (4 : Int32)) (x2 := x2) k_a0 i9) (fun r24 hr25 => ?_)
    obtain ⟨i26, p27, p28⟩ := hr25
    try rw [i26]
    have f29 := bo_l p27
    have f30 := ti_b r24.1
    have f31 := ti_b x2
    refine ok_bind (k_X12_may L hN (a0 := a0) (x1 := r24.1) (x2 := (2 : Int32)) (x3 := (2 : Int32)) k_a0 (show (2 : Int) ≠ 0 by first | with_reducible assumption | omega) (show 0 ≤ (2 : Int) by first | with_reducible assumption | omega) (show (2 : Int) ≤ 2 by first | with_reducible assumption | omega) i9) (fun r32 hr33 => ?_)
    obtain ⟨i34, ⟨u38, u39, u40⟩, p35, p36, p37⟩ := hr33
    have u41 := kp_t u15 u38
    have v42 : q_V r32.2 = q_V δ := (u39).trans v16
    have v43 := kr_t v17 u40
    have f44 := bo_l p35
    have f45 := ti_b r32.1
    have f46 := ti_b (q_I r7.2 12 0 a0)
    refine ok_ite (fun h47 => ?_) (fun h47 => ?_)
    · have c48 : r32.1.toInt = (0 : Int) := o_eq h47
      unfold J_X12_before_29
      exact ok_some (show RI ad h.1 δ0 r32.2 ∧ (kp [(12, 0)] δ r32.2 ∧ q_V r32.2 = q_V δ ∧ kr ad [100] δ r32.2) from ⟨i34, ⟨kp_w (by decide) u41, v42, kr_w (by decide) v43⟩⟩)
    · have c49 : r32.1.toInt ≠ (0 : Int) := o_ne h47
      refine ok_bind (k_X12_answer L hN (a0 := a0) (x1 := x1) (x2 := (4 : Int32)) (x3 := x2) k_a0 (show 0 ≤ (x1).toInt by first | with_reducible assumption | omega) (show (x1).toInt ≤ 3 by first | with_reducible assumption | omega) i34) (fun r50 hr51 => ?_)
      have i52 := hr51
      try rw [i52]
      have f53 := ti_b r50.1
      exact ok_some (show RI ad h.1 δ0 r32.2 ∧ (kp [(12, 0)] δ r32.2 ∧ q_V r32.2 = q_V δ ∧ kr ad [100] δ r32.2) from ⟨i34, ⟨kp_w (by decide) u41, v42, kr_w (by decide) v43⟩⟩)
set_option maxHeartbeats 4000000 in
theorem k_X12_kth {ad : List Nat} {h : hp} (L : Lay TLx ad h) {δ0 : dp} {N : Nat} (hN : 10000000 ≤ N) {a0 : Nat} {x1 : Int32} {x2 : Int32} (k_a0 : q_K h.1 a0 = 12) {δ : dp} (I : RI ad h.1 δ0 δ) : ok (D_X12_kth N h.1 a0 x1 x2 δ) (fun r => RI ad h.1 δ0 r.2 ∧ (kp [(12, 0)] δ r.2 ∧ q_V r.2 = q_V δ ∧ kr ad [100] δ r.2)) := by
  unfold D_X12_kth
  refine ok_bdv (fun d1 e2 => ?_)
  have i3 : RI ad h.1 δ0 d1 := by rw [e2]; exact cs_12_0 L I
  have u4 := kp_I kp_r e2
  have v5 : q_V d1 = q_V δ := ((show q_V d1 = q_V δ by rw [e2]; rfl)).trans rfl
  have v6 := kr_N (kr_r (ad := ad)) (show q_R d1 = q_R δ by rw [e2]; rfl)
  refine ok_bind (k_X12_isHouse L hN (a0 := a0) (x1 := x1) (x2 := (1 : Int32)) k_a0 (show (1 : Int) ≠ 0 by first | with_reducible assumption | omega) i3) (fun r7 hr8 => ?_)
  obtain ⟨i9, ⟨u12, u13, u14⟩, p10, p11⟩ := hr8
  have u15 := kp_t u4 u12
  have v16 : q_V r7.2 = q_V δ := (u13).trans v5
  have v17 := kr_t v6 u14
  have f18 := bo_l p10
  have f19 := ti_b r7.1
  have f20 := ti_b x1
  refine ok_ite (fun h21 => ?_) (fun h21 => ?_)
  · have c22 : r7.1.toInt = (0 : Int) := o_eq h21
    exact ok_some (show RI ad h.1 δ0 r7.2 ∧ (kp [(12, 0)] δ r7.2 ∧ q_V r7.2 = q_V δ ∧ kr ad [100] δ r7.2) from ⟨i9, ⟨kp_w (by decide) u15, v16, kr_w (by decide) v17⟩⟩)
  · have c23 : r7.1.toInt ≠ (0 : Int) := o_ne h21
    refine ok_bind (k_X12_numberAt L hN (a0 := a0) (x1 := x1) (x2 := x2) k_a0 (show 0 ≤ (x1).toInt by first | with_reducible assumption | omega) (show (x1).toInt ≤ 3 by first | with_reducible assumption | omega) i9) (fun r24 hr25 => ?_)
    have i26 := hr25
    try rw [i26]
    have f27 := ti_b r24.1
    exact ok_some (show RI ad h.1 δ0 r7.2 ∧ (kp [(12, 0)] δ r7.2 ∧ q_V r7.2 = q_V δ ∧ kr ad [100] δ r7.2) from ⟨i9, ⟨kp_w (by decide) u15, v16, kr_w (by decide) v17⟩⟩)
set_option maxHeartbeats 4000000 in
theorem k_X12_between {ad : List Nat} {h : hp} (L : Lay TLx ad h) {δ0 : dp} {N : Nat} (hN : 10000000 ≤ N) {a0 : Nat} {x1 : Int32} {x2 : Int32} {x3 : Int32} (k_a0 : q_K h.1 a0 = 12) {δ : dp} (I : RI ad h.1 δ0 δ) : ok (D_X12_between N h.1 a0 x1 x2 x3 δ) (fun r => RI ad h.1 δ0 r.2 ∧ (kp [(12, 0)] δ r.2 ∧ q_V r.2 = q_V δ ∧ kr ad [100] δ r.2)) := by
  unfold D_X12_between
  refine ok_bdv (fun d1 e2 => ?_)
  have i3 : RI ad h.1 δ0 d1 := by rw [e2]; exact cs_12_0 L I
  have u4 := kp_I kp_r e2
  have v5 : q_V d1 = q_V δ := ((show q_V d1 = q_V δ by rw [e2]; rfl)).trans rfl
  have v6 := kr_N (kr_r (ad := ad)) (show q_R d1 = q_R δ by rw [e2]; rfl)
  refine ok_bind (k_X12_isHouse L hN (a0 := a0) (x1 := x1) (x2 := (1 : Int32)) k_a0 (show (1 : Int) ≠ 0 by first | with_reducible assumption | omega) i3) (fun r7 hr8 => ?_)
  obtain ⟨i9, ⟨u12, u13, u14⟩, p10, p11⟩ := hr8
  have u15 := kp_t u4 u12
  have v16 : q_V r7.2 = q_V δ := (u13).trans v5
  have v17 := kr_t v6 u14
  have f18 := bo_l p10
  have f19 := ti_b r7.1
  have f20 := ti_b x1
  refine ok_ite (fun h21 => ?_) (fun h21 => ?_)
  · have c22 : r7.1.toInt = (0 : Int) := o_eq h21
    unfold J_X12_between_44
    exact ok_some (show RI ad h.1 δ0 r7.2 ∧ (kp [(12, 0)] δ r7.2 ∧ q_V r7.2 = q_V δ ∧ kr ad [100] δ r7.2) from ⟨i9, ⟨kp_w (by decide) u15, v16, kr_w (by decide) v17⟩⟩)
  · have c23 : r7.1.toInt ≠ (0 : Int) := o_ne h21
    refine ok_bind (k_X12_isNumber L hN (a0 := a0) (x1 := x2) k_a0 i9) (fun r24 hr25 => ?_)
    obtain ⟨i26, p27, p28⟩ := hr25
    try rw [i26]
    have f29 := bo_l p27
    have f30 := ti_b r24.1
    have f31 := ti_b x2
    refine ok_ite (fun h32 => ?_) (fun h32 => ?_)
    · have c33 : r24.1.toInt = (0 : Int) := o_eq h32
      unfold J_X12_between_35
      unfold J_X12_between_36
      refine ok_bind (k_X12_may L hN (a0 := a0) (x1 := (0 : Int32)) (x2 := (2 : Int32)) (x3 := (2 : Int32)) k_a0 (show (2 : Int) ≠ 0 by first | with_reducible assumption | omega) (show 0 ≤ (2 : Int) by first | with_reducible assumption | omega) (show (2 : Int) ≤ 2 by first | with_reducible assumption | omega) i9) (fun r34 hr35 => ?_)
      obtain ⟨i36, ⟨u40, u41, u42⟩, p37, p38, p39⟩ := hr35
      have u43 := kp_t u15 u40
      have v44 : q_V r34.2 = q_V δ := (u41).trans v16
      have v45 := kr_t v17 u42
      have f46 := bo_l p37
      have f47 := ti_b r34.1
      replace p38 : ((r34.1).toInt = 1 → (0 : Int) ≠ 0) := p38
      have f48 := ti_b (q_I r7.2 12 0 a0)
      replace p39 : ((q_I r7.2 12 0 a0).toInt = 0 → (r34.1).toInt = 0 → (0 : Int) = 0) := p39
      refine ok_ite (fun h49 => ?_) (fun h49 => ?_)
      · have c50 : r34.1.toInt = (0 : Int) := o_eq h49
        unfold J_X12_between_44
        exact ok_some (show RI ad h.1 δ0 r34.2 ∧ (kp [(12, 0)] δ r34.2 ∧ q_V r34.2 = q_V δ ∧ kr ad [100] δ r34.2) from ⟨i36, ⟨kp_w (by decide) u43, v44, kr_w (by decide) v45⟩⟩)
      · have c51 : r34.1.toInt ≠ (0 : Int) := o_ne h49
        have f52 := ti_b x3
        refine ok_ite (fun h53 => ?_) (fun h53 => ?_)
        · have c54 : x2.toInt ≤ x3.toInt := o_le h53
          refine ok_bind (k_X12_place L hN (a0 := a0) (x1 := x1) (x2 := (x3 + (1 : Int32))) k_a0 (show 0 ≤ (x1).toInt by first | with_reducible assumption | omega) (show (x1).toInt ≤ 3 by first | with_reducible assumption | omega) i36) (fun r55 hr56 => ?_)
          obtain ⟨i57, p58, p59⟩ := hr56
          try rw [i57]
          have f60 := ti_b r55.1
          have t61 := ti_tn x1
          have f62 : (q_R r34.2 (Ad ad 103) (x1).toNatClampNeg).toInt = (q_R r7.2 (Ad ad 103) (x1).toNatClampNeg).toInt := congrArg Int32.toInt (congrFun (u42 103 (by decide) (by decide) (by decide)) _)
          have f63 : (q_R r7.2 (Ad ad 103) (x1).toNatClampNeg).toInt = (q_R d1 (Ad ad 103) (x1).toNatClampNeg).toInt := congrArg Int32.toInt (congrFun (u14 103 (by decide) (by decide) (by decide)) _)
          have f64 : (q_R d1 (Ad ad 103) (x1).toNatClampNeg).toInt = (q_R δ (Ad ad 103) (x1).toNatClampNeg).toInt := congrArg Int32.toInt (show q_R d1 (Ad ad 103) (x1).toNatClampNeg = _ by rw [e2]; rfl)
          have f65 := rb_103 L I (x1).toNatClampNeg
          have f66 := rb_103 L i3 (x1).toNatClampNeg
          have f67 := rb_103 L i9 (x1).toNatClampNeg
          have f68 := rb_103 L i36 (x1).toNatClampNeg
          refine ok_bind (k_X12_place L hN (a0 := a0) (x1 := x1) (x2 := x2) k_a0 (show 0 ≤ (x1).toInt by first | with_reducible assumption | omega) (show (x1).toInt ≤ 3 by first | with_reducible assumption | omega) i36) (fun r69 hr70 => ?_)
          obtain ⟨i71, p72, p73⟩ := hr70
          try rw [i71]
          have f74 := ti_b r69.1
          unfold J_X12_between_70
          exact ok_some (show RI ad h.1 δ0 r34.2 ∧ (kp [(12, 0)] δ r34.2 ∧ q_V r34.2 = q_V δ ∧ kr ad [100] δ r34.2) from ⟨i36, ⟨kp_w (by decide) u43, v44, kr_w (by decide) v45⟩⟩)
        · have c75 : x3.toInt < x2.toInt := o_nle h53
          unfold J_X12_between_70
          exact ok_some (show RI ad h.1 δ0 r34.2 ∧ (kp [(12, 0)] δ r34.2 ∧ q_V r34.2 = q_V δ ∧ kr ad [100] δ r34.2) from ⟨i36, ⟨kp_w (by decide) u43, v44, kr_w (by decide) v45⟩⟩)
    · have c76 : r24.1.toInt ≠ (0 : Int) := o_ne h32
      refine ok_bind (k_X12_isNumber L hN (a0 := a0) (x1 := x3) k_a0 i9) (fun r77 hr78 => ?_)
      obtain ⟨i79, p80, p81⟩ := hr78
      try rw [i79]
      have f82 := bo_l p80
      have f83 := ti_b r77.1
      have f84 := ti_b x3
      refine ok_ite (fun h85 => ?_) (fun h85 => ?_)
      · have c86 : r77.1.toInt = (0 : Int) := o_eq h85
        unfold J_X12_between_35
        unfold J_X12_between_36
        refine ok_bind (k_X12_may L hN (a0 := a0) (x1 := (0 : Int32)) (x2 := (2 : Int32)) (x3 := (2 : Int32)) k_a0 (show (2 : Int) ≠ 0 by first | with_reducible assumption | omega) (show 0 ≤ (2 : Int) by first | with_reducible assumption | omega) (show (2 : Int) ≤ 2 by first | with_reducible assumption | omega) i9) (fun r87 hr88 => ?_)
        obtain ⟨i89, ⟨u93, u94, u95⟩, p90, p91, p92⟩ := hr88
        have u96 := kp_t u15 u93
        have v97 : q_V r87.2 = q_V δ := (u94).trans v16
        have v98 := kr_t v17 u95
        have f99 := bo_l p90
        have f100 := ti_b r87.1
        replace p91 : ((r87.1).toInt = 1 → (0 : Int) ≠ 0) := p91
        have f101 := ti_b (q_I r7.2 12 0 a0)
        replace p92 : ((q_I r7.2 12 0 a0).toInt = 0 → (r87.1).toInt = 0 → (0 : Int) = 0) := p92
        refine ok_ite (fun h102 => ?_) (fun h102 => ?_)
        · have c103 : r87.1.toInt = (0 : Int) := o_eq h102
          unfold J_X12_between_44
          exact ok_some (show RI ad h.1 δ0 r87.2 ∧ (kp [(12, 0)] δ r87.2 ∧ q_V r87.2 = q_V δ ∧ kr ad [100] δ r87.2) from ⟨i89, ⟨kp_w (by decide) u96, v97, kr_w (by decide) v98⟩⟩)
        · have c104 : r87.1.toInt ≠ (0 : Int) := o_ne h102
          refine ok_ite (fun h105 => ?_) (fun h105 => ?_)
          · have c106 : x2.toInt ≤ x3.toInt := o_le h105
            refine ok_bind (k_X12_place L hN (a0 := a0) (x1 := x1) (x2 := (x3 + (1 : Int32))) k_a0 (show 0 ≤ (x1).toInt by first | with_reducible assumption | omega) (show (x1).toInt ≤ 3 by first | with_reducible assumption | omega) i89) (fun r107 hr108 => ?_)
            obtain ⟨i109, p110, p111⟩ := hr108
            try rw [i109]
            have f112 := ti_b r107.1
            have t113 := ti_tn x1
            have f114 : (q_R r87.2 (Ad ad 103) (x1).toNatClampNeg).toInt = (q_R r7.2 (Ad ad 103) (x1).toNatClampNeg).toInt := congrArg Int32.toInt (congrFun (u95 103 (by decide) (by decide) (by decide)) _)
            have f115 : (q_R r7.2 (Ad ad 103) (x1).toNatClampNeg).toInt = (q_R d1 (Ad ad 103) (x1).toNatClampNeg).toInt := congrArg Int32.toInt (congrFun (u14 103 (by decide) (by decide) (by decide)) _)
            have f116 : (q_R d1 (Ad ad 103) (x1).toNatClampNeg).toInt = (q_R δ (Ad ad 103) (x1).toNatClampNeg).toInt := congrArg Int32.toInt (show q_R d1 (Ad ad 103) (x1).toNatClampNeg = _ by rw [e2]; rfl)
            have f117 := rb_103 L I (x1).toNatClampNeg
            have f118 := rb_103 L i3 (x1).toNatClampNeg
            have f119 := rb_103 L i9 (x1).toNatClampNeg
            have f120 := rb_103 L i89 (x1).toNatClampNeg
            refine ok_bind (k_X12_place L hN (a0 := a0) (x1 := x1) (x2 := x2) k_a0 (show 0 ≤ (x1).toInt by first | with_reducible assumption | omega) (show (x1).toInt ≤ 3 by first | with_reducible assumption | omega) i89) (fun r121 hr122 => ?_)
            obtain ⟨i123, p124, p125⟩ := hr122
            try rw [i123]
            have f126 := ti_b r121.1
            unfold J_X12_between_70
            exact ok_some (show RI ad h.1 δ0 r87.2 ∧ (kp [(12, 0)] δ r87.2 ∧ q_V r87.2 = q_V δ ∧ kr ad [100] δ r87.2) from ⟨i89, ⟨kp_w (by decide) u96, v97, kr_w (by decide) v98⟩⟩)
          · have c127 : x3.toInt < x2.toInt := o_nle h105
            unfold J_X12_between_70
            exact ok_some (show RI ad h.1 δ0 r87.2 ∧ (kp [(12, 0)] δ r87.2 ∧ q_V r87.2 = q_V δ ∧ kr ad [100] δ r87.2) from ⟨i89, ⟨kp_w (by decide) u96, v97, kr_w (by decide) v98⟩⟩)
      · have c128 : r77.1.toInt ≠ (0 : Int) := o_ne h85
        unfold J_X12_between_36
        refine ok_bind (k_X12_may L hN (a0 := a0) (x1 := (1 : Int32)) (x2 := (2 : Int32)) (x3 := (2 : Int32)) k_a0 (show (2 : Int) ≠ 0 by first | with_reducible assumption | omega) (show 0 ≤ (2 : Int) by first | with_reducible assumption | omega) (show (2 : Int) ≤ 2 by first | with_reducible assumption | omega) i9) (fun r129 hr130 => ?_)
        obtain ⟨i131, ⟨u135, u136, u137⟩, p132, p133, p134⟩ := hr130
        have u138 := kp_t u15 u135
        have v139 : q_V r129.2 = q_V δ := (u136).trans v16
        have v140 := kr_t v17 u137
        have f141 := bo_l p132
        have f142 := ti_b r129.1
        replace p133 : ((r129.1).toInt = 1 → (1 : Int) ≠ 0) := p133
        have f143 := ti_b (q_I r7.2 12 0 a0)
        replace p134 : ((q_I r7.2 12 0 a0).toInt = 0 → (r129.1).toInt = 0 → (1 : Int) = 0) := p134
        refine ok_ite (fun h144 => ?_) (fun h144 => ?_)
        · have c145 : r129.1.toInt = (0 : Int) := o_eq h144
          unfold J_X12_between_44
          exact ok_some (show RI ad h.1 δ0 r129.2 ∧ (kp [(12, 0)] δ r129.2 ∧ q_V r129.2 = q_V δ ∧ kr ad [100] δ r129.2) from ⟨i131, ⟨kp_w (by decide) u138, v139, kr_w (by decide) v140⟩⟩)
        · have c146 : r129.1.toInt ≠ (0 : Int) := o_ne h144
          refine ok_ite (fun h147 => ?_) (fun h147 => ?_)
          · have c148 : x2.toInt ≤ x3.toInt := o_le h147
            refine ok_bind (k_X12_place L hN (a0 := a0) (x1 := x1) (x2 := (x3 + (1 : Int32))) k_a0 (show 0 ≤ (x1).toInt by first | with_reducible assumption | omega) (show (x1).toInt ≤ 3 by first | with_reducible assumption | omega) i131) (fun r149 hr150 => ?_)
            obtain ⟨i151, p152, p153⟩ := hr150
            try rw [i151]
            have f154 := ti_b r149.1
            have t155 := ti_tn x1
            have f156 : (q_R r129.2 (Ad ad 103) (x1).toNatClampNeg).toInt = (q_R r7.2 (Ad ad 103) (x1).toNatClampNeg).toInt := congrArg Int32.toInt (congrFun (u137 103 (by decide) (by decide) (by decide)) _)
            have f157 : (q_R r7.2 (Ad ad 103) (x1).toNatClampNeg).toInt = (q_R d1 (Ad ad 103) (x1).toNatClampNeg).toInt := congrArg Int32.toInt (congrFun (u14 103 (by decide) (by decide) (by decide)) _)
            have f158 : (q_R d1 (Ad ad 103) (x1).toNatClampNeg).toInt = (q_R δ (Ad ad 103) (x1).toNatClampNeg).toInt := congrArg Int32.toInt (show q_R d1 (Ad ad 103) (x1).toNatClampNeg = _ by rw [e2]; rfl)
            have f159 := rb_103 L I (x1).toNatClampNeg
            have f160 := rb_103 L i3 (x1).toNatClampNeg
            have f161 := rb_103 L i9 (x1).toNatClampNeg
            have f162 := rb_103 L i131 (x1).toNatClampNeg
            refine ok_bind (k_X12_place L hN (a0 := a0) (x1 := x1) (x2 := x2) k_a0 (show 0 ≤ (x1).toInt by first | with_reducible assumption | omega) (show (x1).toInt ≤ 3 by first | with_reducible assumption | omega) i131) (fun r163 hr164 => ?_)
            obtain ⟨i165, p166, p167⟩ := hr164
            try rw [i165]
            have f168 := ti_b r163.1
            unfold J_X12_between_70
            exact ok_some (show RI ad h.1 δ0 r129.2 ∧ (kp [(12, 0)] δ r129.2 ∧ q_V r129.2 = q_V δ ∧ kr ad [100] δ r129.2) from ⟨i131, ⟨kp_w (by decide) u138, v139, kr_w (by decide) v140⟩⟩)
          · have c169 : x3.toInt < x2.toInt := o_nle h147
            unfold J_X12_between_70
            exact ok_some (show RI ad h.1 δ0 r129.2 ∧ (kp [(12, 0)] δ r129.2 ∧ q_V r129.2 = q_V δ ∧ kr ad [100] δ r129.2) from ⟨i131, ⟨kp_w (by decide) u138, v139, kr_w (by decide) v140⟩⟩)
set_option maxHeartbeats 4000000 in
theorem k_X12_isTime {ad : List Nat} {h : hp} (L : Lay TLx ad h) {δ0 : dp} {N : Nat} (hN : 10000000 ≤ N) {a0 : Nat} {x1 : Int32} {x2 : Int32} (k_a0 : q_K h.1 a0 = 12) {δ : dp} (z0 : 0 ≤ (x1).toInt) (z1 : (x1).toInt ≤ 3) (I : RI ad h.1 δ0 δ) : ok (D_X12_isTime N h.1 a0 x1 x2 δ) (fun r => r.2 = δ ∧ bo (r.1) ∧ ((r.1).toInt = 1 → 0 ≤ (x2).toInt ∧ (x2).toInt ≤ (q_R δ (Ad ad 106) (x1).toNatClampNeg).toInt)) := by
  unfold D_X12_isTime
  have f1 := ti_b x1
  obtain ⟨b2, o3, k4, n5⟩ := gO_12_17 L k_a0
  obtain rfl := gS_12_17 L k_a0 o3
  refine ok_at o3 ?_
  have t6 := ti_tn x1
  refine ok_gd (fun hc7 => ?_) ?_
  · rcases hc7 with hc7 | hc7
    · have c8 : x1.toInt < (0 : Int) := o_lt hc7
      omega
    · omega
  refine ok_bind (k_X12_within L hN (x0 := x2) (x1 := (0 : Int32)) (x2 := (q_R δ (Ad ad 106) x1.toNatClampNeg))  I) (fun r9 hr10 => ?_)
  obtain ⟨i11, p12, p13, p14⟩ := hr10
  try rw [i11]
  have f15 := bo_l p12
  have f16 := ti_b r9.1
  have f17 := ti_b x2
  have f18 := rb_106 L I x1.toNatClampNeg
  replace p13 : ((r9.1).toInt = 1 → (0 : Int) ≤ (x2).toInt ∧ (x2).toInt ≤ ((q_R δ (Ad ad 106) x1.toNatClampNeg)).toInt) := p13
  replace p14 : ((r9.1).toInt = 0 → (x2).toInt < (0 : Int) ∨ ((q_R δ (Ad ad 106) x1.toNatClampNeg)).toInt < (x2).toInt) := p14
  refine ok_gp (show bo r9.1 by first | assumption | exact bo_0 | exact bo_1 | exact bo_i (by omega) (by omega)) ?_
  have t19 := ti_tn x1
  have f20 := rb_106 L I (x1).toNatClampNeg
  exact ok_some (show δ = δ ∧ bo (r9.1) ∧ ((r9.1).toInt = 1 → 0 ≤ (x2).toInt ∧ (x2).toInt ≤ (q_R δ (Ad ad 106) (x1).toNatClampNeg).toInt) from ⟨rfl, by first | assumption | exact bo_0 | exact bo_1 | exact bo_i (by omega) (by omega), by first | with_reducible assumption | omega⟩)
set_option maxHeartbeats 4000000 in
theorem kl_X12_since_57 {ad : List Nat} {h : hp} (L : Lay TLx ad h) {δ0 : dp} {N : Nat} (hN : 10000000 ≤ N) {a0 : Nat} {x1 : Int32} {x2 : Int32} {x3 : Int32} (k_a0 : q_K h.1 a0 = 12) : ∀ (n : Nat) (x4v : Int32) (δ : dp), RI ad h.1 δ0 δ → 0 ≤ (x1).toInt → (x1).toInt ≤ 3 → -1 ≤ (x4v).toInt → (x4v).toInt < 1000 → (x4v).toInt + 1 < (n : Int) → ok (L_X12_since_57 N h.1 a0 x1 x2 x3 n x4v δ) (fun r => RI ad h.1 δ0 r.2 ∧ (kp [(12, 0)] δ r.2 ∧ q_V r.2 = q_V δ ∧ kr ad [100] δ r.2)) := by
  intro n
  induction n with
  | zero =>
    intro x4v δ I j0 j1 j2 j3 hm
    have f1 := ti_b x1
    have f2 := ti_b x4v
    exfalso; omega
  | succ n ih =>
    intro x4v δ I j0 j1 j2 j3 hm
    unfold L_X12_since_57
    have f1 := ti_b x1
    have f2 := ti_b x4v
    refine ok_ite (fun h3 => ?_) (fun h3 => ?_)
    · have c4 : x4v.toInt < (0 : Int) := o_lt h3
      exact ok_some (show RI ad h.1 δ0 δ ∧ (kp [(12, 0)] δ δ ∧ q_V δ = q_V δ ∧ kr ad [100] δ δ) from ⟨I, ⟨kp_w (by decide) kp_r, rfl, kr_w (by decide) (kr_r (ad := ad))⟩⟩)
    · have c5 : (0 : Int) ≤ x4v.toInt := o_nlt h3
      obtain ⟨b6, o7, k8, n9, w10⟩ := gO_12_15 L k_a0
      obtain rfl := gS_12_15 L k_a0 o7
      refine ok_at o7 ?_
      first | (have q12 := te_mulc (c := 1000) (n := 1000) rfl x1 (by omega) (by omega); obtain ⟨f13, f14, f15⟩ := q12) | (obtain ⟨q12, f13, f14, f15⟩ := ti_mulc (c := 1000) (n := 1000) rfl x1)
      first | (have q17 := te_add ((1000 : Int32) * x1) x4v (by omega) (by omega); obtain ⟨f18, f19, f20⟩ := q17) | (obtain ⟨q17, f18, f19, f20⟩ := ti_add ((1000 : Int32) * x1) x4v)
      have t21 := ti_tn (((1000 : Int32) * x1) + x4v)
      refine ok_gd (fun hc22 => ?_) ?_
      · rcases hc22 with hc22 | hc22
        · have c23 : (((1000 : Int32) * x1) + x4v).toInt < (0 : Int) := o_lt hc22
          omega
        · omega
      have f24 := ti_b (q_R δ (Ad ad 104) (((1000 : Int32) * x1) + x4v).toNatClampNeg)
      have f25 := ti_b x2
      refine ok_ite (fun h26 => ?_) (fun h26 => ?_)
      · have c27 : (q_R δ (Ad ad 104) (((1000 : Int32) * x1) + x4v).toNatClampNeg).toInt = x2.toInt := o_eq h26
        obtain ⟨b28, o29, k30, n31, w32⟩ := gO_12_16 L k_a0
        obtain rfl := gS_12_16 L k_a0 o29
        refine ok_at o29 ?_
        refine ok_gd (fun hc33 => ?_) ?_
        · rcases hc33 with hc33 | hc33
          · have c34 : (((1000 : Int32) * x1) + x4v).toInt < (0 : Int) := o_lt hc33
            omega
          · omega
        have f35 := ti_b (q_R δ (Ad ad 105) (((1000 : Int32) * x1) + x4v).toNatClampNeg)
        have f36 := ti_b x3
        first | (have q38 := te_csub (c := 1) (n := 1) rfl x3 (by omega) (by omega); obtain ⟨f39, f40, f41⟩ := q38) | (obtain ⟨q38, f39, f40, f41⟩ := ti_csub (c := 1) (n := 1) rfl x3)
        refine ok_ite (fun h42 => ?_) (fun h42 => ?_)
        · have c43 : (q_R δ (Ad ad 105) (((1000 : Int32) * x1) + x4v).toNatClampNeg).toInt = ((1 : Int32) - x3).toInt := o_eq h42
          exact ok_some (show RI ad h.1 δ0 δ ∧ (kp [(12, 0)] δ δ ∧ q_V δ = q_V δ ∧ kr ad [100] δ δ) from ⟨I, ⟨kp_w (by decide) kp_r, rfl, kr_w (by decide) (kr_r (ad := ad))⟩⟩)
        · have c44 : (q_R δ (Ad ad 105) (((1000 : Int32) * x1) + x4v).toNatClampNeg).toInt ≠ ((1 : Int32) - x3).toInt := o_ne h42
          unfold J_X12_since_103
          refine ok_biv (fun vx45 e46 => ?_)
          first | (have q47 := te_addc (c := -1) (n := -1) (by decide) x4v (by omega) (by omega); rw [← e46] at q47; obtain ⟨f48, f49, f50⟩ := q47) | (obtain ⟨q47, f48, f49, f50⟩ : ∃ q : Int, vx45.toInt = x4v.toInt + (-1 : Int) + 4294967296 * q ∧ -2147483648 ≤ vx45.toInt ∧ vx45.toInt ≤ 2147483647 := by rw [e46]; exact ti_addc (c := -1) (n := -1) (by decide) x4v)
          refine ok_mono (ih vx45 δ I (show 0 ≤ (x1).toInt by first | with_reducible assumption | omega) (show (x1).toInt ≤ 3 by first | with_reducible assumption | omega) (show -1 ≤ (vx45).toInt by first | with_reducible assumption | omega) (show (vx45).toInt < 1000 by first | with_reducible assumption | omega) (show (vx45).toInt + 1 < _ by omega)) (fun r51 hr52 => ?_)
          obtain ⟨i53, ⟨u54, u55, u56⟩⟩ := hr52
          have u57 := kp_t kp_r u54
          have v58 : q_V r51.2 = q_V δ := (u55).trans rfl
          have v59 := kr_t (kr_r (ad := ad)) u56
          have f60 := ti_b r51.1
          exact ⟨by first | with_reducible assumption | assumption, ⟨kp_w (by decide) u57, v58, kr_w (by decide) v59⟩⟩
      · have c61 : (q_R δ (Ad ad 104) (((1000 : Int32) * x1) + x4v).toNatClampNeg).toInt ≠ x2.toInt := o_ne h26
        unfold J_X12_since_103
        refine ok_biv (fun vx62 e63 => ?_)
        first | (have q64 := te_addc (c := -1) (n := -1) (by decide) x4v (by omega) (by omega); rw [← e63] at q64; obtain ⟨f65, f66, f67⟩ := q64) | (obtain ⟨q64, f65, f66, f67⟩ : ∃ q : Int, vx62.toInt = x4v.toInt + (-1 : Int) + 4294967296 * q ∧ -2147483648 ≤ vx62.toInt ∧ vx62.toInt ≤ 2147483647 := by rw [e63]; exact ti_addc (c := -1) (n := -1) (by decide) x4v)
        refine ok_mono (ih vx62 δ I (show 0 ≤ (x1).toInt by first | with_reducible assumption | omega) (show (x1).toInt ≤ 3 by first | with_reducible assumption | omega) (show -1 ≤ (vx62).toInt by first | with_reducible assumption | omega) (show (vx62).toInt < 1000 by first | with_reducible assumption | omega) (show (vx62).toInt + 1 < _ by omega)) (fun r68 hr69 => ?_)
        obtain ⟨i70, ⟨u71, u72, u73⟩⟩ := hr69
        have u74 := kp_t kp_r u71
        have v75 : q_V r68.2 = q_V δ := (u72).trans rfl
        have v76 := kr_t (kr_r (ad := ad)) u73
        have f77 := ti_b r68.1
        exact ⟨by first | with_reducible assumption | assumption, ⟨kp_w (by decide) u74, v75, kr_w (by decide) v76⟩⟩
set_option maxHeartbeats 4000000 in
theorem k_X12_since {ad : List Nat} {h : hp} (L : Lay TLx ad h) {δ0 : dp} {N : Nat} (hN : 10000000 ≤ N) {a0 : Nat} {x1 : Int32} {x2 : Int32} {x3 : Int32} (k_a0 : q_K h.1 a0 = 12) {δ : dp} (I : RI ad h.1 δ0 δ) : ok (D_X12_since N h.1 a0 x1 x2 x3 δ) (fun r => RI ad h.1 δ0 r.2 ∧ (kp [(12, 0)] δ r.2 ∧ q_V r.2 = q_V δ ∧ kr ad [100] δ r.2)) := by
  unfold D_X12_since
  refine ok_bdv (fun d1 e2 => ?_)
  have i3 : RI ad h.1 δ0 d1 := by rw [e2]; exact cs_12_0 L I
  have u4 := kp_I kp_r e2
  have v5 : q_V d1 = q_V δ := ((show q_V d1 = q_V δ by rw [e2]; rfl)).trans rfl
  have v6 := kr_N (kr_r (ad := ad)) (show q_R d1 = q_R δ by rw [e2]; rfl)
  refine ok_bind (k_X12_isHouse L hN (a0 := a0) (x1 := x1) (x2 := (1 : Int32)) k_a0 (show (1 : Int) ≠ 0 by first | with_reducible assumption | omega) i3) (fun r7 hr8 => ?_)
  obtain ⟨i9, ⟨u12, u13, u14⟩, p10, p11⟩ := hr8
  have u15 := kp_t u4 u12
  have v16 : q_V r7.2 = q_V δ := (u13).trans v5
  have v17 := kr_t v6 u14
  have f18 := bo_l p10
  have f19 := ti_b r7.1
  have f20 := ti_b x1
  refine ok_ite (fun h21 => ?_) (fun h21 => ?_)
  · have c22 : r7.1.toInt = (0 : Int) := o_eq h21
    unfold J_X12_since_45
    exact ok_some (show RI ad h.1 δ0 r7.2 ∧ (kp [(12, 0)] δ r7.2 ∧ q_V r7.2 = q_V δ ∧ kr ad [100] δ r7.2) from ⟨i9, ⟨kp_w (by decide) u15, v16, kr_w (by decide) v17⟩⟩)
  · have c23 : r7.1.toInt ≠ (0 : Int) := o_ne h21
    refine ok_bind (k_X12_isNumber L hN (a0 := a0) (x1 := x2) k_a0 i9) (fun r24 hr25 => ?_)
    obtain ⟨i26, p27, p28⟩ := hr25
    try rw [i26]
    have f29 := bo_l p27
    have f30 := ti_b r24.1
    have f31 := ti_b x2
    refine ok_ite (fun h32 => ?_) (fun h32 => ?_)
    · have c33 : r24.1.toInt = (0 : Int) := o_eq h32
      unfold J_X12_since_36
      unfold J_X12_since_37
      refine ok_bind (k_X12_may L hN (a0 := a0) (x1 := (0 : Int32)) (x2 := (2 : Int32)) (x3 := (2 : Int32)) k_a0 (show (2 : Int) ≠ 0 by first | with_reducible assumption | omega) (show 0 ≤ (2 : Int) by first | with_reducible assumption | omega) (show (2 : Int) ≤ 2 by first | with_reducible assumption | omega) i9) (fun r34 hr35 => ?_)
      obtain ⟨i36, ⟨u40, u41, u42⟩, p37, p38, p39⟩ := hr35
      have u43 := kp_t u15 u40
      have v44 : q_V r34.2 = q_V δ := (u41).trans v16
      have v45 := kr_t v17 u42
      have f46 := bo_l p37
      have f47 := ti_b r34.1
      replace p38 : ((r34.1).toInt = 1 → (0 : Int) ≠ 0) := p38
      have f48 := ti_b (q_I r7.2 12 0 a0)
      replace p39 : ((q_I r7.2 12 0 a0).toInt = 0 → (r34.1).toInt = 0 → (0 : Int) = 0) := p39
      refine ok_ite (fun h49 => ?_) (fun h49 => ?_)
      · have c50 : r34.1.toInt = (0 : Int) := o_eq h49
        unfold J_X12_since_45
        exact ok_some (show RI ad h.1 δ0 r34.2 ∧ (kp [(12, 0)] δ r34.2 ∧ q_V r34.2 = q_V δ ∧ kr ad [100] δ r34.2) from ⟨i36, ⟨kp_w (by decide) u43, v44, kr_w (by decide) v45⟩⟩)
      · have c51 : r34.1.toInt ≠ (0 : Int) := o_ne h49
        obtain ⟨b52, o53, k54, n55⟩ := gO_12_17 L k_a0
        obtain rfl := gS_12_17 L k_a0 o53
        refine ok_at o53 ?_
        have t56 := ti_tn x1
        refine ok_gd (fun hc57 => ?_) ?_
        · rcases hc57 with hc57 | hc57
          · have c58 : x1.toInt < (0 : Int) := o_lt hc57
            omega
          · omega
        have f61 : (q_R r34.2 (Ad ad 106) x1.toNatClampNeg).toInt = (q_R r7.2 (Ad ad 106) x1.toNatClampNeg).toInt := congrArg Int32.toInt (congrFun (u42 106 (by decide) (by decide) (by decide)) _)
        have f62 : (q_R r7.2 (Ad ad 106) x1.toNatClampNeg).toInt = (q_R d1 (Ad ad 106) x1.toNatClampNeg).toInt := congrArg Int32.toInt (congrFun (u14 106 (by decide) (by decide) (by decide)) _)
        have f63 : (q_R d1 (Ad ad 106) x1.toNatClampNeg).toInt = (q_R δ (Ad ad 106) x1.toNatClampNeg).toInt := congrArg Int32.toInt (show q_R d1 (Ad ad 106) x1.toNatClampNeg = _ by rw [e2]; rfl)
        have f64 := rb_106 L I x1.toNatClampNeg
        have f65 := rb_106 L i3 x1.toNatClampNeg
        have f66 := rb_106 L i9 x1.toNatClampNeg
        have f67 := rb_106 L i36 x1.toNatClampNeg
        refine ok_biv (fun vx59 e60 => ?_)
        first | (have q68 := te_subc (c := 1) (n := 1) rfl (q_R r34.2 (Ad ad 106) x1.toNatClampNeg) (by omega) (by omega); rw [← e60] at q68; obtain ⟨f69, f70, f71⟩ := q68) | (obtain ⟨q68, f69, f70, f71⟩ : ∃ q : Int, vx59.toInt = (q_R r34.2 (Ad ad 106) x1.toNatClampNeg).toInt - (1 : Int) + 4294967296 * q ∧ -2147483648 ≤ vx59.toInt ∧ vx59.toInt ≤ 2147483647 := by rw [e60]; exact ti_subc (c := 1) (n := 1) rfl (q_R r34.2 (Ad ad 106) x1.toNatClampNeg))
        refine ok_mono (kl_X12_since_57 L hN   k_a0 _ vx59 r34.2 i36 (show 0 ≤ (x1).toInt by first | with_reducible assumption | omega) (show (x1).toInt ≤ 3 by first | with_reducible assumption | omega) (show -1 ≤ (vx59).toInt by first | with_reducible assumption | omega) (show (vx59).toInt < 1000 by first | with_reducible assumption | omega) (show (vx59).toInt + 1 < _ by omega)) (fun r72 hr73 => ?_)
        obtain ⟨i74, ⟨u75, u76, u77⟩⟩ := hr73
        have u78 := kp_t u43 u75
        have v79 : q_V r72.2 = q_V δ := (u76).trans v44
        have v80 := kr_t v45 u77
        have f81 := ti_b r72.1
        exact ⟨by first | with_reducible assumption | assumption, ⟨kp_w (by decide) u78, v79, kr_w (by decide) v80⟩⟩
    · have c82 : r24.1.toInt ≠ (0 : Int) := o_ne h32
      refine ok_bind (k_X12_within L hN (x0 := x3) (x1 := (0 : Int32)) (x2 := (1 : Int32))  i9) (fun r83 hr84 => ?_)
      obtain ⟨i85, p86, p87, p88⟩ := hr84
      try rw [i85]
      have f89 := bo_l p86
      have f90 := ti_b r83.1
      have f91 := ti_b x3
      replace p87 : ((r83.1).toInt = 1 → (0 : Int) ≤ (x3).toInt ∧ (x3).toInt ≤ (1 : Int)) := p87
      replace p88 : ((r83.1).toInt = 0 → (x3).toInt < (0 : Int) ∨ (1 : Int) < (x3).toInt) := p88
      refine ok_ite (fun h92 => ?_) (fun h92 => ?_)
      · have c93 : r83.1.toInt = (0 : Int) := o_eq h92
        unfold J_X12_since_36
        unfold J_X12_since_37
        refine ok_bind (k_X12_may L hN (a0 := a0) (x1 := (0 : Int32)) (x2 := (2 : Int32)) (x3 := (2 : Int32)) k_a0 (show (2 : Int) ≠ 0 by first | with_reducible assumption | omega) (show 0 ≤ (2 : Int) by first | with_reducible assumption | omega) (show (2 : Int) ≤ 2 by first | with_reducible assumption | omega) i9) (fun r94 hr95 => ?_)
        obtain ⟨i96, ⟨u100, u101, u102⟩, p97, p98, p99⟩ := hr95
        have u103 := kp_t u15 u100
        have v104 : q_V r94.2 = q_V δ := (u101).trans v16
        have v105 := kr_t v17 u102
        have f106 := bo_l p97
        have f107 := ti_b r94.1
        replace p98 : ((r94.1).toInt = 1 → (0 : Int) ≠ 0) := p98
        have f108 := ti_b (q_I r7.2 12 0 a0)
        replace p99 : ((q_I r7.2 12 0 a0).toInt = 0 → (r94.1).toInt = 0 → (0 : Int) = 0) := p99
        refine ok_ite (fun h109 => ?_) (fun h109 => ?_)
        · have c110 : r94.1.toInt = (0 : Int) := o_eq h109
          unfold J_X12_since_45
          exact ok_some (show RI ad h.1 δ0 r94.2 ∧ (kp [(12, 0)] δ r94.2 ∧ q_V r94.2 = q_V δ ∧ kr ad [100] δ r94.2) from ⟨i96, ⟨kp_w (by decide) u103, v104, kr_w (by decide) v105⟩⟩)
        · have c111 : r94.1.toInt ≠ (0 : Int) := o_ne h109
          obtain ⟨b112, o113, k114, n115⟩ := gO_12_17 L k_a0
          obtain rfl := gS_12_17 L k_a0 o113
          refine ok_at o113 ?_
          have t116 := ti_tn x1
          refine ok_gd (fun hc117 => ?_) ?_
          · rcases hc117 with hc117 | hc117
            · have c118 : x1.toInt < (0 : Int) := o_lt hc117
              omega
            · omega
          have f121 : (q_R r94.2 (Ad ad 106) x1.toNatClampNeg).toInt = (q_R r7.2 (Ad ad 106) x1.toNatClampNeg).toInt := congrArg Int32.toInt (congrFun (u102 106 (by decide) (by decide) (by decide)) _)
          have f122 : (q_R r7.2 (Ad ad 106) x1.toNatClampNeg).toInt = (q_R d1 (Ad ad 106) x1.toNatClampNeg).toInt := congrArg Int32.toInt (congrFun (u14 106 (by decide) (by decide) (by decide)) _)
          have f123 : (q_R d1 (Ad ad 106) x1.toNatClampNeg).toInt = (q_R δ (Ad ad 106) x1.toNatClampNeg).toInt := congrArg Int32.toInt (show q_R d1 (Ad ad 106) x1.toNatClampNeg = _ by rw [e2]; rfl)
          have f124 := rb_106 L I x1.toNatClampNeg
          have f125 := rb_106 L i3 x1.toNatClampNeg
          have f126 := rb_106 L i9 x1.toNatClampNeg
          have f127 := rb_106 L i96 x1.toNatClampNeg
          refine ok_biv (fun vx119 e120 => ?_)
          first | (have q128 := te_subc (c := 1) (n := 1) rfl (q_R r94.2 (Ad ad 106) x1.toNatClampNeg) (by omega) (by omega); rw [← e120] at q128; obtain ⟨f129, f130, f131⟩ := q128) | (obtain ⟨q128, f129, f130, f131⟩ : ∃ q : Int, vx119.toInt = (q_R r94.2 (Ad ad 106) x1.toNatClampNeg).toInt - (1 : Int) + 4294967296 * q ∧ -2147483648 ≤ vx119.toInt ∧ vx119.toInt ≤ 2147483647 := by rw [e120]; exact ti_subc (c := 1) (n := 1) rfl (q_R r94.2 (Ad ad 106) x1.toNatClampNeg))
          refine ok_mono (kl_X12_since_57 L hN   k_a0 _ vx119 r94.2 i96 (show 0 ≤ (x1).toInt by first | with_reducible assumption | omega) (show (x1).toInt ≤ 3 by first | with_reducible assumption | omega) (show -1 ≤ (vx119).toInt by first | with_reducible assumption | omega) (show (vx119).toInt < 1000 by first | with_reducible assumption | omega) (show (vx119).toInt + 1 < _ by omega)) (fun r132 hr133 => ?_)
          obtain ⟨i134, ⟨u135, u136, u137⟩⟩ := hr133
          have u138 := kp_t u103 u135
          have v139 : q_V r132.2 = q_V δ := (u136).trans v104
          have v140 := kr_t v105 u137
          have f141 := ti_b r132.1
          exact ⟨by first | with_reducible assumption | assumption, ⟨kp_w (by decide) u138, v139, kr_w (by decide) v140⟩⟩
      · have c142 : r83.1.toInt ≠ (0 : Int) := o_ne h92
        unfold J_X12_since_37
        refine ok_bind (k_X12_may L hN (a0 := a0) (x1 := (1 : Int32)) (x2 := (2 : Int32)) (x3 := (2 : Int32)) k_a0 (show (2 : Int) ≠ 0 by first | with_reducible assumption | omega) (show 0 ≤ (2 : Int) by first | with_reducible assumption | omega) (show (2 : Int) ≤ 2 by first | with_reducible assumption | omega) i9) (fun r143 hr144 => ?_)
        obtain ⟨i145, ⟨u149, u150, u151⟩, p146, p147, p148⟩ := hr144
        have u152 := kp_t u15 u149
        have v153 : q_V r143.2 = q_V δ := (u150).trans v16
        have v154 := kr_t v17 u151
        have f155 := bo_l p146
        have f156 := ti_b r143.1
        replace p147 : ((r143.1).toInt = 1 → (1 : Int) ≠ 0) := p147
        have f157 := ti_b (q_I r7.2 12 0 a0)
        replace p148 : ((q_I r7.2 12 0 a0).toInt = 0 → (r143.1).toInt = 0 → (1 : Int) = 0) := p148
        refine ok_ite (fun h158 => ?_) (fun h158 => ?_)
        · have c159 : r143.1.toInt = (0 : Int) := o_eq h158
          unfold J_X12_since_45
          exact ok_some (show RI ad h.1 δ0 r143.2 ∧ (kp [(12, 0)] δ r143.2 ∧ q_V r143.2 = q_V δ ∧ kr ad [100] δ r143.2) from ⟨i145, ⟨kp_w (by decide) u152, v153, kr_w (by decide) v154⟩⟩)
        · have c160 : r143.1.toInt ≠ (0 : Int) := o_ne h158
          obtain ⟨b161, o162, k163, n164⟩ := gO_12_17 L k_a0
          obtain rfl := gS_12_17 L k_a0 o162
          refine ok_at o162 ?_
          have t165 := ti_tn x1
          refine ok_gd (fun hc166 => ?_) ?_
          · rcases hc166 with hc166 | hc166
            · have c167 : x1.toInt < (0 : Int) := o_lt hc166
              omega
            · omega
          have f170 : (q_R r143.2 (Ad ad 106) x1.toNatClampNeg).toInt = (q_R r7.2 (Ad ad 106) x1.toNatClampNeg).toInt := congrArg Int32.toInt (congrFun (u151 106 (by decide) (by decide) (by decide)) _)
          have f171 : (q_R r7.2 (Ad ad 106) x1.toNatClampNeg).toInt = (q_R d1 (Ad ad 106) x1.toNatClampNeg).toInt := congrArg Int32.toInt (congrFun (u14 106 (by decide) (by decide) (by decide)) _)
          have f172 : (q_R d1 (Ad ad 106) x1.toNatClampNeg).toInt = (q_R δ (Ad ad 106) x1.toNatClampNeg).toInt := congrArg Int32.toInt (show q_R d1 (Ad ad 106) x1.toNatClampNeg = _ by rw [e2]; rfl)
          have f173 := rb_106 L I x1.toNatClampNeg
          have f174 := rb_106 L i3 x1.toNatClampNeg
          have f175 := rb_106 L i9 x1.toNatClampNeg
          have f176 := rb_106 L i145 x1.toNatClampNeg
          refine ok_biv (fun vx168 e169 => ?_)
          first | (have q177 := te_subc (c := 1) (n := 1) rfl (q_R r143.2 (Ad ad 106) x1.toNatClampNeg) (by omega) (by omega); rw [← e169] at q177; obtain ⟨f178, f179, f180⟩ := q177) | (obtain ⟨q177, f178, f179, f180⟩ : ∃ q : Int, vx168.toInt = (q_R r143.2 (Ad ad 106) x1.toNatClampNeg).toInt - (1 : Int) + 4294967296 * q ∧ -2147483648 ≤ vx168.toInt ∧ vx168.toInt ≤ 2147483647 := by rw [e169]; exact ti_subc (c := 1) (n := 1) rfl (q_R r143.2 (Ad ad 106) x1.toNatClampNeg))
          refine ok_mono (kl_X12_since_57 L hN   k_a0 _ vx168 r143.2 i145 (show 0 ≤ (x1).toInt by first | with_reducible assumption | omega) (show (x1).toInt ≤ 3 by first | with_reducible assumption | omega) (show -1 ≤ (vx168).toInt by first | with_reducible assumption | omega) (show (vx168).toInt < 1000 by first | with_reducible assumption | omega) (show (vx168).toInt + 1 < _ by omega)) (fun r181 hr182 => ?_)
          obtain ⟨i183, ⟨u184, u185, u186⟩⟩ := hr182
          have u187 := kp_t u152 u184
          have v188 : q_V r181.2 = q_V δ := (u185).trans v153
          have v189 := kr_t v154 u186
          have f190 := ti_b r181.1
          exact ⟨by first | with_reducible assumption | assumption, ⟨kp_w (by decide) u187, v188, kr_w (by decide) v189⟩⟩
set_option maxHeartbeats 4000000 in
theorem kl_X12_gap_39 {ad : List Nat} {h : hp} (L : Lay TLx ad h) {δ0 : dp} {N : Nat} (hN : 10000000 ≤ N) {a0 : Nat} {x1 : Int32} {x2 : Int32} (k_a0 : q_K h.1 a0 = 12) : ∀ (n : Nat) (x3v : Int32) (x4v : Int32) (x5v : Int32) (δ : dp), RI ad h.1 δ0 δ → 0 ≤ (x1).toInt → (x1).toInt ≤ 3 → 1 ≤ (x5v).toInt → (x5v).toInt ≤ 2001 → 2001 - (x5v).toInt < (n : Int) → ok (L_X12_gap_39 N h.1 a0 x1 x2 n x3v x4v x5v δ) (fun r => RI ad h.1 δ0 r.2 ∧ (kp [(12, 0)] δ r.2 ∧ q_V r.2 = q_V δ ∧ kr ad [100] δ r.2)) := by
  intro n
  induction n with
  | zero =>
    intro x3v x4v x5v δ I j0 j1 j2 j3 hm
    have f1 := ti_b x1
    have f2 := ti_b x5v
    exfalso; omega
  | succ n ih =>
    intro x3v x4v x5v δ I j0 j1 j2 j3 hm
    unfold L_X12_gap_39
    have f1 := ti_b x1
    have f2 := ti_b x5v
    obtain ⟨b3, o4, k5, n6⟩ := gO_12_14 L k_a0
    obtain rfl := gS_12_14 L k_a0 o4
    refine ok_at o4 ?_
    have t7 := ti_tn x1
    refine ok_gd (fun hc8 => ?_) ?_
    · rcases hc8 with hc8 | hc8
      · have c9 : x1.toInt < (0 : Int) := o_lt hc8
        omega
      · omega
    have f10 := rb_103 L I x1.toNatClampNeg
    refine ok_ite (fun h11 => ?_) (fun h11 => ?_)
    · have c12 : (q_R δ (Ad ad 103) x1.toNatClampNeg).toInt ≤ x5v.toInt := o_le h11
      have f13 := ti_b x2
      refine ok_ite (fun h14 => ?_) (fun h14 => ?_)
      · have c15 : x2.toInt = (0 : Int) := o_eq h14
        unfold J_X12_gap_108
        exact ok_some (show RI ad h.1 δ0 δ ∧ (kp [(12, 0)] δ δ ∧ q_V δ = q_V δ ∧ kr ad [100] δ δ) from ⟨I, ⟨kp_w (by decide) kp_r, rfl, kr_w (by decide) (kr_r (ad := ad))⟩⟩)
      · have c16 : x2.toInt ≠ (0 : Int) := o_ne h14
        unfold J_X12_gap_108
        exact ok_some (show RI ad h.1 δ0 δ ∧ (kp [(12, 0)] δ δ ∧ q_V δ = q_V δ ∧ kr ad [100] δ δ) from ⟨I, ⟨kp_w (by decide) kp_r, rfl, kr_w (by decide) (kr_r (ad := ad))⟩⟩)
    · have c17 : x5v.toInt < (q_R δ (Ad ad 103) x1.toNatClampNeg).toInt := o_nle h11
      refine ok_bind (k_X12_numberAt L hN (a0 := a0) (x1 := x1) (x2 := x5v) k_a0 (show 0 ≤ (x1).toInt by first | with_reducible assumption | omega) (show (x1).toInt ≤ 3 by first | with_reducible assumption | omega) I) (fun r18 hr19 => ?_)
      have i20 := hr19
      try rw [i20]
      have f21 := ti_b r18.1
      refine ok_bind (k_X12_numberAt L hN (a0 := a0) (x1 := x1) (x2 := (x5v - (1 : Int32))) k_a0 (show 0 ≤ (x1).toInt by first | with_reducible assumption | omega) (show (x1).toInt ≤ 3 by first | with_reducible assumption | omega) I) (fun r22 hr23 => ?_)
      have i24 := hr23
      try rw [i24]
      have f25 := ti_b r22.1
      refine ok_biv (fun vx26 e27 => ?_)
      first | (have q28 := te_sub r18.1 r22.1 (by omega) (by omega); rw [← e27] at q28; obtain ⟨f29, f30, f31⟩ := q28) | (obtain ⟨q28, f29, f30, f31⟩ : ∃ q : Int, vx26.toInt = r18.1.toInt - r22.1.toInt + 4294967296 * q ∧ -2147483648 ≤ vx26.toInt ∧ vx26.toInt ≤ 2147483647 := by rw [e27]; exact ti_sub r18.1 r22.1)
      have f32 := ti_b x3v
      refine ok_ite (fun h33 => ?_) (fun h33 => ?_)
      · have c34 : x3v.toInt < vx26.toInt := o_lt h33
        refine ok_bind (k_X12_numberAt L hN (a0 := a0) (x1 := x1) (x2 := (x5v - (1 : Int32))) k_a0 (show 0 ≤ (x1).toInt by first | with_reducible assumption | omega) (show (x1).toInt ≤ 3 by first | with_reducible assumption | omega) I) (fun r35 hr36 => ?_)
        have i37 := hr36
        try rw [i37]
        have f38 := ti_b r35.1
        unfold J_X12_gap_92
        refine ok_biv (fun vx39 e40 => ?_)
        first | (have q41 := te_addc (c := 1) (n := 1) rfl x5v (by omega) (by omega); rw [← e40] at q41; obtain ⟨f42, f43, f44⟩ := q41) | (obtain ⟨q41, f42, f43, f44⟩ : ∃ q : Int, vx39.toInt = x5v.toInt + (1 : Int) + 4294967296 * q ∧ -2147483648 ≤ vx39.toInt ∧ vx39.toInt ≤ 2147483647 := by rw [e40]; exact ti_addc (c := 1) (n := 1) rfl x5v)
        refine ok_mono (ih vx26 r35.1 vx39 δ I (show 0 ≤ (x1).toInt by first | with_reducible assumption | omega) (show (x1).toInt ≤ 3 by first | with_reducible assumption | omega) (show 1 ≤ (vx39).toInt by first | with_reducible assumption | omega) (show (vx39).toInt ≤ 2001 by first | with_reducible assumption | omega) (show 2001 - (vx39).toInt < _ by omega)) (fun r45 hr46 => ?_)
        obtain ⟨i47, ⟨u48, u49, u50⟩⟩ := hr46
        have u51 := kp_t kp_r u48
        have v52 : q_V r45.2 = q_V δ := (u49).trans rfl
        have v53 := kr_t (kr_r (ad := ad)) u50
        have f54 := ti_b r45.1
        exact ⟨by first | with_reducible assumption | assumption, ⟨kp_w (by decide) u51, v52, kr_w (by decide) v53⟩⟩
      · have c55 : vx26.toInt ≤ x3v.toInt := o_nlt h33
        unfold J_X12_gap_92
        refine ok_biv (fun vx56 e57 => ?_)
        first | (have q58 := te_addc (c := 1) (n := 1) rfl x5v (by omega) (by omega); rw [← e57] at q58; obtain ⟨f59, f60, f61⟩ := q58) | (obtain ⟨q58, f59, f60, f61⟩ : ∃ q : Int, vx56.toInt = x5v.toInt + (1 : Int) + 4294967296 * q ∧ -2147483648 ≤ vx56.toInt ∧ vx56.toInt ≤ 2147483647 := by rw [e57]; exact ti_addc (c := 1) (n := 1) rfl x5v)
        refine ok_mono (ih x3v x4v vx56 δ I (show 0 ≤ (x1).toInt by first | with_reducible assumption | omega) (show (x1).toInt ≤ 3 by first | with_reducible assumption | omega) (show 1 ≤ (vx56).toInt by first | with_reducible assumption | omega) (show (vx56).toInt ≤ 2001 by first | with_reducible assumption | omega) (show 2001 - (vx56).toInt < _ by omega)) (fun r62 hr63 => ?_)
        obtain ⟨i64, ⟨u65, u66, u67⟩⟩ := hr63
        have u68 := kp_t kp_r u65
        have v69 : q_V r62.2 = q_V δ := (u66).trans rfl
        have v70 := kr_t (kr_r (ad := ad)) u67
        have f71 := ti_b r62.1
        exact ⟨by first | with_reducible assumption | assumption, ⟨kp_w (by decide) u68, v69, kr_w (by decide) v70⟩⟩
set_option maxHeartbeats 4000000 in
theorem k_X12_gap {ad : List Nat} {h : hp} (L : Lay TLx ad h) {δ0 : dp} {N : Nat} (hN : 10000000 ≤ N) {a0 : Nat} {x1 : Int32} {x2 : Int32} (k_a0 : q_K h.1 a0 = 12) {δ : dp} (I : RI ad h.1 δ0 δ) : ok (D_X12_gap N h.1 a0 x1 x2 δ) (fun r => RI ad h.1 δ0 r.2 ∧ (kp [(12, 0)] δ r.2 ∧ q_V r.2 = q_V δ ∧ kr ad [100] δ r.2)) := by
  unfold D_X12_gap
  refine ok_bdv (fun d1 e2 => ?_)
  have i3 : RI ad h.1 δ0 d1 := by rw [e2]; exact cs_12_0 L I
  have u4 := kp_I kp_r e2
  have v5 : q_V d1 = q_V δ := ((show q_V d1 = q_V δ by rw [e2]; rfl)).trans rfl
  have v6 := kr_N (kr_r (ad := ad)) (show q_R d1 = q_R δ by rw [e2]; rfl)
  refine ok_bind (k_X12_isHouse L hN (a0 := a0) (x1 := x1) (x2 := (1 : Int32)) k_a0 (show (1 : Int) ≠ 0 by first | with_reducible assumption | omega) i3) (fun r7 hr8 => ?_)
  obtain ⟨i9, ⟨u12, u13, u14⟩, p10, p11⟩ := hr8
  have u15 := kp_t u4 u12
  have v16 : q_V r7.2 = q_V δ := (u13).trans v5
  have v17 := kr_t v6 u14
  have f18 := bo_l p10
  have f19 := ti_b r7.1
  have f20 := ti_b x1
  refine ok_ite (fun h21 => ?_) (fun h21 => ?_)
  · have c22 : r7.1.toInt = (0 : Int) := o_eq h21
    unfold J_X12_gap_29
    exact ok_some (show RI ad h.1 δ0 r7.2 ∧ (kp [(12, 0)] δ r7.2 ∧ q_V r7.2 = q_V δ ∧ kr ad [100] δ r7.2) from ⟨i9, ⟨kp_w (by decide) u15, v16, kr_w (by decide) v17⟩⟩)
  · have c23 : r7.1.toInt ≠ (0 : Int) := o_ne h21
    refine ok_bind (k_X12_within L hN (x0 := x2) (x1 := (0 : Int32)) (x2 := (1 : Int32))  i9) (fun r24 hr25 => ?_)
    obtain ⟨i26, p27, p28, p29⟩ := hr25
    try rw [i26]
    have f30 := bo_l p27
    have f31 := ti_b r24.1
    have f32 := ti_b x2
    replace p28 : ((r24.1).toInt = 1 → (0 : Int) ≤ (x2).toInt ∧ (x2).toInt ≤ (1 : Int)) := p28
    replace p29 : ((r24.1).toInt = 0 → (x2).toInt < (0 : Int) ∨ (1 : Int) < (x2).toInt) := p29
    refine ok_bind (k_X12_may L hN (a0 := a0) (x1 := r24.1) (x2 := (2 : Int32)) (x3 := (2 : Int32)) k_a0 (show (2 : Int) ≠ 0 by first | with_reducible assumption | omega) (show 0 ≤ (2 : Int) by first | with_reducible assumption | omega) (show (2 : Int) ≤ 2 by first | with_reducible assumption | omega) i9) (fun r33 hr34 => ?_)
    obtain ⟨i35, ⟨u39, u40, u41⟩, p36, p37, p38⟩ := hr34
    have u42 := kp_t u15 u39
    have v43 : q_V r33.2 = q_V δ := (u40).trans v16
    have v44 := kr_t v17 u41
    have f45 := bo_l p36
    have f46 := ti_b r33.1
    have f47 := ti_b (q_I r7.2 12 0 a0)
    refine ok_ite (fun h48 => ?_) (fun h48 => ?_)
    · have c49 : r33.1.toInt = (0 : Int) := o_eq h48
      unfold J_X12_gap_29
      exact ok_some (show RI ad h.1 δ0 r33.2 ∧ (kp [(12, 0)] δ r33.2 ∧ q_V r33.2 = q_V δ ∧ kr ad [100] δ r33.2) from ⟨i35, ⟨kp_w (by decide) u42, v43, kr_w (by decide) v44⟩⟩)
    · have c50 : r33.1.toInt ≠ (0 : Int) := o_ne h48
      refine ok_mono (kl_X12_gap_39 L hN   k_a0 _ (-1 : Int32) (-1 : Int32) (1 : Int32) r33.2 i35 (show 0 ≤ (x1).toInt by first | with_reducible assumption | omega) (show (x1).toInt ≤ 3 by first | with_reducible assumption | omega) (show 1 ≤ (1 : Int) by first | with_reducible assumption | omega) (show (1 : Int) ≤ 2001 by first | with_reducible assumption | omega) (show 2001 - (1 : Int) < _ by omega)) (fun r51 hr52 => ?_)
      obtain ⟨i53, ⟨u54, u55, u56⟩⟩ := hr52
      have u57 := kp_t u42 u54
      have v58 : q_V r51.2 = q_V δ := (u55).trans v43
      have v59 := kr_t v44 u56
      have f60 := ti_b r51.1
      exact ⟨by first | with_reducible assumption | assumption, ⟨kp_w (by decide) u57, v58, kr_w (by decide) v59⟩⟩
set_option maxHeartbeats 4000000 in
theorem kl_X12_keeps_2 {ad : List Nat} {h : hp} (L : Lay TLx ad h) {δ0 : dp} {N : Nat} (hN : 10000000 ≤ N) {a0 : Nat} {x1 : Int32} (k_a0 : q_K h.1 a0 = 12) : ∀ (n : Nat) (x2v : Int32) (δ : dp), RI ad h.1 δ0 δ → 0 ≤ (x1).toInt → (x1).toInt ≤ 3 → 0 ≤ (x2v).toInt → (x2v).toInt ≤ 2000 → 2000 - (x2v).toInt < (n : Int) → ok (L_X12_keeps_2 N h.1 a0 x1 n x2v δ) (fun r => RI ad h.1 δ0 r ∧ (kp [(12, 47)] δ r ∧ q_V r = q_V δ ∧ kr ad [124] δ r) ∧ (q_I r 12 47 a0).toInt = (q_R δ (Ad ad 103) (x1).toNatClampNeg).toInt) := by
  intro n
  induction n with
  | zero =>
    intro x2v δ I j0 j1 j2 j3 hm
    have f1 := ti_b x1
    have f2 := ti_b x2v
    exfalso; omega
  | succ n ih =>
    intro x2v δ I j0 j1 j2 j3 hm
    unfold L_X12_keeps_2
    have f1 := ti_b x1
    have f2 := ti_b x2v
    obtain ⟨b3, o4, k5, n6⟩ := gO_12_14 L k_a0
    obtain rfl := gS_12_14 L k_a0 o4
    refine ok_at o4 ?_
    have t7 := ti_tn x1
    refine ok_gd (fun hc8 => ?_) ?_
    · rcases hc8 with hc8 | hc8
      · have c9 : x1.toInt < (0 : Int) := o_lt hc8
        omega
      · omega
    have f10 := rb_103 L I x1.toNatClampNeg
    refine ok_ite (fun h11 => ?_) (fun h11 => ?_)
    · have c12 : (q_R δ (Ad ad 103) x1.toNatClampNeg).toInt ≤ x2v.toInt := o_le h11
      refine ok_at o4 ?_
      refine ok_gd (fun hc13 => ?_) ?_
      · rcases hc13 with hc13 | hc13
        · have c14 : x1.toInt < (0 : Int) := o_lt hc13
          omega
        · omega
      refine ok_bdv (fun d15 e16 => ?_)
      have i17 : RI ad h.1 δ0 d15 := by rw [e16]; exact cs_12_47 L I k_a0 (show -1000 ≤ (q_R δ (Ad ad 103) x1.toNatClampNeg).toInt by omega) (show (q_R δ (Ad ad 103) x1.toNatClampNeg).toInt ≤ 2000 by omega)
      have u18 := kp_I kp_r e16
      have v19 : q_V d15 = q_V δ := ((show q_V d15 = q_V δ by rw [e16]; rfl)).trans rfl
      have v20 := kr_N (kr_r (ad := ad)) (show q_R d15 = q_R δ by rw [e16]; rfl)
      have f21 := cb_12_47 i17 k_a0
      have f22 : (q_I d15 12 47 a0).toInt = (q_R δ (Ad ad 103) x1.toNatClampNeg).toInt := congrArg Int32.toInt (show q_I d15 12 47 a0 = (q_R δ (Ad ad 103) x1.toNatClampNeg) by rw [e16]; exact rI_s)
      have t23 := ti_tn x1
      have f24 := rb_103 L I (x1).toNatClampNeg
      exact ok_some (show RI ad h.1 δ0 d15 ∧ (kp [(12, 47)] δ d15 ∧ q_V d15 = q_V δ ∧ kr ad [124] δ d15) ∧ (q_I d15 12 47 a0).toInt = (q_R δ (Ad ad 103) (x1).toNatClampNeg).toInt from ⟨i17, ⟨kp_w (by decide) u18, v19, kr_w (by decide) v20⟩, by first | with_reducible assumption | omega⟩)
    · have c25 : x2v.toInt < (q_R δ (Ad ad 103) x1.toNatClampNeg).toInt := o_nle h11
      obtain ⟨b26, o27, k28, n29, w30⟩ := gO_12_46 L k_a0
      obtain rfl := gS_12_46 L k_a0 o27
      refine ok_at o27 ?_
      obtain ⟨b31, o32, k33, n34, w35⟩ := gO_12_13 L k_a0
      obtain rfl := gS_12_13 L k_a0 o32
      refine ok_at o32 ?_
      first | (have q37 := te_mulc (c := 2000) (n := 2000) rfl x1 (by omega) (by omega); obtain ⟨f38, f39, f40⟩ := q37) | (obtain ⟨q37, f38, f39, f40⟩ := ti_mulc (c := 2000) (n := 2000) rfl x1)
      first | (have q42 := te_add ((2000 : Int32) * x1) x2v (by omega) (by omega); obtain ⟨f43, f44, f45⟩ := q42) | (obtain ⟨q42, f43, f44, f45⟩ := ti_add ((2000 : Int32) * x1) x2v)
      have t46 := ti_tn (((2000 : Int32) * x1) + x2v)
      refine ok_gd (fun hc47 => ?_) ?_
      · rcases hc47 with hc47 | hc47
        · have c48 : (((2000 : Int32) * x1) + x2v).toInt < (0 : Int) := o_lt hc47
          omega
        · omega
      have t49 := ti_tn x2v
      refine ok_gd (fun hc50 => ?_) ?_
      · rcases hc50 with hc50 | hc50
        · have c51 : x2v.toInt < (0 : Int) := o_lt hc50
          omega
        · omega
      refine ok_bdv (fun d52 e53 => ?_)
      have i54 : RI ad h.1 δ0 d52 := by rw [e53]; exact RI.sR L I w30
      have u55 := kp_N kp_r (show q_I d52 = q_I δ by rw [e53]; rfl)
      have v56 : q_V d52 = q_V δ := ((show q_V d52 = q_V δ by rw [e53]; rfl)).trans rfl
      have v57 := kr_s L (by decide) (kr_r (ad := ad)) e53
      refine ok_biv (fun vx58 e59 => ?_)
      first | (have q60 := te_addc (c := 1) (n := 1) rfl x2v (by omega) (by omega); rw [← e59] at q60; obtain ⟨f61, f62, f63⟩ := q60) | (obtain ⟨q60, f61, f62, f63⟩ : ∃ q : Int, vx58.toInt = x2v.toInt + (1 : Int) + 4294967296 * q ∧ -2147483648 ≤ vx58.toInt ∧ vx58.toInt ≤ 2147483647 := by rw [e59]; exact ti_addc (c := 1) (n := 1) rfl x2v)
      refine ok_mono (ih vx58 d52 i54 (show 0 ≤ (x1).toInt by first | with_reducible assumption | omega) (show (x1).toInt ≤ 3 by first | with_reducible assumption | omega) (show 0 ≤ (vx58).toInt by first | with_reducible assumption | omega) (show (vx58).toInt ≤ 2000 by first | with_reducible assumption | omega) (show 2000 - (vx58).toInt < _ by omega)) (fun r64 hr65 => ?_)
      obtain ⟨i66, ⟨u68, u69, u70⟩, p67⟩ := hr65
      have u71 := kp_t u55 u68
      have v72 : q_V r64 = q_V δ := (u69).trans v56
      have v73 := kr_t v57 u70
      have f74 := cb_12_47 i66 k_a0
      have t75 := ti_tn x1
      have f76 : (q_R d52 (Ad ad 103) (x1).toNatClampNeg).toInt = (q_R δ (Ad ad 103) (x1).toNatClampNeg).toInt := congrArg Int32.toInt (show q_R d52 (Ad ad 103) (x1).toNatClampNeg = _ by rw [e53, rR_o (ad_ne L (by decide) (by decide) (by decide))])
      have f77 := rb_103 L I (x1).toNatClampNeg
      have f78 := rb_103 L i54 (x1).toNatClampNeg
      exact ⟨by first | with_reducible assumption | assumption, ⟨kp_w (by decide) u71, v72, kr_w (by decide) v73⟩, by first | with_reducible assumption | omega⟩
set_option maxHeartbeats 4000000 in
theorem k_X12_keeps {ad : List Nat} {h : hp} (L : Lay TLx ad h) {δ0 : dp} {N : Nat} (hN : 10000000 ≤ N) {a0 : Nat} {x1 : Int32} (k_a0 : q_K h.1 a0 = 12) {δ : dp} (z0 : 0 ≤ (x1).toInt) (z1 : (x1).toInt ≤ 3) (I : RI ad h.1 δ0 δ) : ok (D_X12_keeps N h.1 a0 x1 δ) (fun r => RI ad h.1 δ0 r ∧ (kp [(12, 47)] δ r ∧ q_V r = q_V δ ∧ kr ad [124] δ r) ∧ (q_I r 12 47 a0).toInt = (q_R δ (Ad ad 103) (x1).toNatClampNeg).toInt) := by
  unfold D_X12_keeps
  have f1 := ti_b x1
  refine ok_mono (kl_X12_keeps_2 L hN   k_a0 _ (0 : Int32) δ I (show 0 ≤ (x1).toInt by first | with_reducible assumption | omega) (show (x1).toInt ≤ 3 by first | with_reducible assumption | omega) (show 0 ≤ (0 : Int) by first | with_reducible assumption | omega) (show (0 : Int) ≤ 2000 by first | with_reducible assumption | omega) (show 2000 - (0 : Int) < _ by omega)) (fun r2 hr3 => ?_)
  obtain ⟨i4, ⟨u6, u7, u8⟩, p5⟩ := hr3
  have u9 := kp_t kp_r u6
  have v10 : q_V r2 = q_V δ := (u7).trans rfl
  have v11 := kr_t (kr_r (ad := ad)) u8
  have f12 := cb_12_47 i4 k_a0
  have t13 := ti_tn x1
  have f14 := rb_103 L I (x1).toNatClampNeg
  exact ⟨by first | with_reducible assumption | assumption, ⟨kp_w (by decide) u9, v10, kr_w (by decide) v11⟩, by first | with_reducible assumption | omega⟩
set_option maxHeartbeats 4000000 in
theorem kl_X12_comesBack_2 {ad : List Nat} {h : hp} (L : Lay TLx ad h) {δ0 : dp} {N : Nat} (hN : 10000000 ≤ N) {a0 : Nat} {x1 : Int32} (k_a0 : q_K h.1 a0 = 12) : ∀ (n : Nat) (x2v : Int32) (δ : dp), RI ad h.1 δ0 δ → 0 ≤ (x1).toInt → (x1).toInt ≤ 3 → 0 ≤ (x2v).toInt → (x2v).toInt ≤ 2000 → 2000 - (x2v).toInt < (n : Int) → ok (L_X12_comesBack_2 N h.1 a0 x1 n x2v δ) (fun r => RI ad h.1 δ0 r ∧ (kp [] δ r ∧ q_V r = q_V δ ∧ kr ad [102, 103] δ r)) := by
  intro n
  induction n with
  | zero =>
    intro x2v δ I j0 j1 j2 j3 hm
    have f1 := ti_b x1
    have f2 := ti_b x2v
    exfalso; omega
  | succ n ih =>
    intro x2v δ I j0 j1 j2 j3 hm
    unfold L_X12_comesBack_2
    have f1 := ti_b x1
    have f2 := ti_b x2v
    have f3 := cb_12_47 I k_a0
    refine ok_ite (fun h4 => ?_) (fun h4 => ?_)
    · have c5 : (q_I δ 12 47 a0).toInt ≤ x2v.toInt := o_le h4
      obtain ⟨b6, o7, k8, n9⟩ := gO_12_14 L k_a0
      obtain rfl := gS_12_14 L k_a0 o7
      refine ok_at o7 ?_
      have t10 := ti_tn x1
      refine ok_gd (fun hc11 => ?_) ?_
      · rcases hc11 with hc11 | hc11
        · have c12 : x1.toInt < (0 : Int) := o_lt hc11
          omega
        · omega
      refine ok_bdv (fun d13 e14 => ?_)
      have i15 : RI ad h.1 δ0 d13 := by rw [e14]; exact cr_103 L I (show -1000 ≤ (q_I δ 12 47 a0).toInt by omega) (show (q_I δ 12 47 a0).toInt ≤ 2000 by omega)
      have u16 := kp_N kp_r (show q_I d13 = q_I δ by rw [e14]; rfl)
      have v17 : q_V d13 = q_V δ := ((show q_V d13 = q_V δ by rw [e14]; rfl)).trans rfl
      have v18 := kr_s L (by decide) (kr_r (ad := ad)) e14
      exact ok_some (show RI ad h.1 δ0 d13 ∧ (kp [] δ d13 ∧ q_V d13 = q_V δ ∧ kr ad [102, 103] δ d13) from ⟨i15, ⟨kp_w (by decide) u16, v17, kr_w (by decide) v18⟩⟩)
    · have c19 : x2v.toInt < (q_I δ 12 47 a0).toInt := o_nle h4
      obtain ⟨b20, o21, k22, n23, w24⟩ := gO_12_13 L k_a0
      obtain rfl := gS_12_13 L k_a0 o21
      refine ok_at o21 ?_
      obtain ⟨b25, o26, k27, n28, w29⟩ := gO_12_46 L k_a0
      obtain rfl := gS_12_46 L k_a0 o26
      refine ok_at o26 ?_
      have t30 := ti_tn x2v
      refine ok_gd (fun hc31 => ?_) ?_
      · rcases hc31 with hc31 | hc31
        · have c32 : x2v.toInt < (0 : Int) := o_lt hc31
          omega
        · omega
      first | (have q34 := te_mulc (c := 2000) (n := 2000) rfl x1 (by omega) (by omega); obtain ⟨f35, f36, f37⟩ := q34) | (obtain ⟨q34, f35, f36, f37⟩ := ti_mulc (c := 2000) (n := 2000) rfl x1)
      first | (have q39 := te_add ((2000 : Int32) * x1) x2v (by omega) (by omega); obtain ⟨f40, f41, f42⟩ := q39) | (obtain ⟨q39, f40, f41, f42⟩ := ti_add ((2000 : Int32) * x1) x2v)
      have t43 := ti_tn (((2000 : Int32) * x1) + x2v)
      refine ok_gd (fun hc44 => ?_) ?_
      · rcases hc44 with hc44 | hc44
        · have c45 : (((2000 : Int32) * x1) + x2v).toInt < (0 : Int) := o_lt hc44
          omega
        · omega
      refine ok_bdv (fun d46 e47 => ?_)
      have i48 : RI ad h.1 δ0 d46 := by rw [e47]; exact RI.sR L I w24
      have u49 := kp_N kp_r (show q_I d46 = q_I δ by rw [e47]; rfl)
      have v50 : q_V d46 = q_V δ := ((show q_V d46 = q_V δ by rw [e47]; rfl)).trans rfl
      have v51 := kr_s L (by decide) (kr_r (ad := ad)) e47
      refine ok_biv (fun vx52 e53 => ?_)
      first | (have q54 := te_addc (c := 1) (n := 1) rfl x2v (by omega) (by omega); rw [← e53] at q54; obtain ⟨f55, f56, f57⟩ := q54) | (obtain ⟨q54, f55, f56, f57⟩ : ∃ q : Int, vx52.toInt = x2v.toInt + (1 : Int) + 4294967296 * q ∧ -2147483648 ≤ vx52.toInt ∧ vx52.toInt ≤ 2147483647 := by rw [e53]; exact ti_addc (c := 1) (n := 1) rfl x2v)
      refine ok_mono (ih vx52 d46 i48 (show 0 ≤ (x1).toInt by first | with_reducible assumption | omega) (show (x1).toInt ≤ 3 by first | with_reducible assumption | omega) (show 0 ≤ (vx52).toInt by first | with_reducible assumption | omega) (show (vx52).toInt ≤ 2000 by first | with_reducible assumption | omega) (show 2000 - (vx52).toInt < _ by omega)) (fun r58 hr59 => ?_)
      obtain ⟨i60, ⟨u61, u62, u63⟩⟩ := hr59
      have u64 := kp_t u49 u61
      have v65 : q_V r58 = q_V δ := (u62).trans v50
      have v66 := kr_t v51 u63
      exact ⟨by first | with_reducible assumption | assumption, ⟨kp_w (by decide) u64, v65, kr_w (by decide) v66⟩⟩
set_option maxHeartbeats 4000000 in
theorem k_X12_comesBack {ad : List Nat} {h : hp} (L : Lay TLx ad h) {δ0 : dp} {N : Nat} (hN : 10000000 ≤ N) {a0 : Nat} {x1 : Int32} (k_a0 : q_K h.1 a0 = 12) {δ : dp} (z0 : 0 ≤ (x1).toInt) (z1 : (x1).toInt ≤ 3) (I : RI ad h.1 δ0 δ) : ok (D_X12_comesBack N h.1 a0 x1 δ) (fun r => RI ad h.1 δ0 r ∧ (kp [] δ r ∧ q_V r = q_V δ ∧ kr ad [102, 103] δ r)) := by
  unfold D_X12_comesBack
  have f1 := ti_b x1
  refine ok_mono (kl_X12_comesBack_2 L hN   k_a0 _ (0 : Int32) δ I (show 0 ≤ (x1).toInt by first | with_reducible assumption | omega) (show (x1).toInt ≤ 3 by first | with_reducible assumption | omega) (show 0 ≤ (0 : Int) by first | with_reducible assumption | omega) (show (0 : Int) ≤ 2000 by first | with_reducible assumption | omega) (show 2000 - (0 : Int) < _ by omega)) (fun r2 hr3 => ?_)
  obtain ⟨i4, ⟨u5, u6, u7⟩⟩ := hr3
  have u8 := kp_t kp_r u5
  have v9 : q_V r2 = q_V δ := (u6).trans rfl
  have v10 := kr_t (kr_r (ad := ad)) u7
  exact ⟨by first | with_reducible assumption | assumption, ⟨kp_w (by decide) u8, v9, kr_w (by decide) v10⟩⟩
set_option maxHeartbeats 4000000 in
theorem k_X12_changes {ad : List Nat} {h : hp} (L : Lay TLx ad h) {δ0 : dp} {N : Nat} (hN : 10000000 ≤ N) {a0 : Nat} {x1 : Int32} {x2 : Int32} (k_a0 : q_K h.1 a0 = 12) {δ : dp} (z0 : 0 ≤ (x1).toInt) (z1 : (x1).toInt ≤ 3) (z2 : 0 ≤ (x2).toInt) (z3 : (x2).toInt < 1000) (z4 : -999 ≤ (q_R δ (Ad ad 103) (x1).toNatClampNeg).toInt) (z5 : (q_R δ (Ad ad 103) (x1).toNatClampNeg).toInt < 2000) (I : RI ad h.1 δ0 δ) : ok (D_X12_changes N h.1 a0 x1 x2 δ) (fun r => RI ad h.1 δ0 r ∧ (kp [] δ r ∧ q_V r = q_V δ ∧ kr ad [102, 103] δ r) ∧ (q_R δ (Ad ad 103) (x1).toNatClampNeg).toInt - 1 ≤ (q_R r (Ad ad 103) (x1).toNatClampNeg).toInt ∧ (q_R r (Ad ad 103) (x1).toNatClampNeg).toInt ≤ (q_R δ (Ad ad 103) (x1).toNatClampNeg).toInt + 1) := by
  unfold D_X12_changes
  have f1 := ti_b x1
  have f2 := ti_b x2
  have t3 := ti_tn x1
  have f4 := rb_103 L I (x1).toNatClampNeg
  obtain ⟨b5, o6, k7, n8, w9⟩ := gO_12_15 L k_a0
  obtain rfl := gS_12_15 L k_a0 o6
  refine ok_at o6 ?_
  first | (have q11 := te_mulc (c := 1000) (n := 1000) rfl x1 (by omega) (by omega); obtain ⟨f12, f13, f14⟩ := q11) | (obtain ⟨q11, f12, f13, f14⟩ := ti_mulc (c := 1000) (n := 1000) rfl x1)
  first | (have q16 := te_add ((1000 : Int32) * x1) x2 (by omega) (by omega); obtain ⟨f17, f18, f19⟩ := q16) | (obtain ⟨q16, f17, f18, f19⟩ := ti_add ((1000 : Int32) * x1) x2)
  have t20 := ti_tn (((1000 : Int32) * x1) + x2)
  refine ok_gd (fun hc21 => ?_) ?_
  · rcases hc21 with hc21 | hc21
    · have c22 : (((1000 : Int32) * x1) + x2).toInt < (0 : Int) := o_lt hc21
      omega
    · omega
  have f25 := ti_b (q_R δ (Ad ad 104) (((1000 : Int32) * x1) + x2).toNatClampNeg)
  refine ok_biv (fun vx23 e24 => ?_)
  have f26 : vx23.toInt = (q_R δ (Ad ad 104) (((1000 : Int32) * x1) + x2).toNatClampNeg).toInt := congrArg Int32.toInt e24
  obtain ⟨b27, o28, k29, n30, w31⟩ := gO_12_16 L k_a0
  obtain rfl := gS_12_16 L k_a0 o28
  refine ok_at o28 ?_
  refine ok_gd (fun hc32 => ?_) ?_
  · rcases hc32 with hc32 | hc32
    · have c33 : (((1000 : Int32) * x1) + x2).toInt < (0 : Int) := o_lt hc32
      omega
    · omega
  have f34 := ti_b (q_R δ (Ad ad 105) (((1000 : Int32) * x1) + x2).toNatClampNeg)
  refine ok_ite (fun h35 => ?_) (fun h35 => ?_)
  · have c36 : (q_R δ (Ad ad 105) (((1000 : Int32) * x1) + x2).toNatClampNeg).toInt = (1 : Int) := o_eq h35
    refine ok_bind (k_X12_comes L hN (a0 := a0) (x1 := x1) (x2 := vx23) k_a0 (show 0 ≤ (x1).toInt by first | with_reducible assumption | omega) (show (x1).toInt ≤ 3 by first | with_reducible assumption | omega) (show (q_R δ (Ad ad 103) (x1).toNatClampNeg).toInt < 2000 by first | with_reducible assumption | omega) I) (fun r37 hr38 => ?_)
    obtain ⟨i39, ⟨u41, u42, u43⟩, p40⟩ := hr38
    have u44 := kp_t kp_r u41
    have v45 : q_V r37 = q_V δ := (u42).trans rfl
    have v46 := kr_t (kr_r (ad := ad)) u43
    have f47 := rb_103 L i39 (x1).toNatClampNeg
    unfold J_X12_changes_44
    exact ok_some (show RI ad h.1 δ0 r37 ∧ (kp [] δ r37 ∧ q_V r37 = q_V δ ∧ kr ad [102, 103] δ r37) ∧ (q_R δ (Ad ad 103) (x1).toNatClampNeg).toInt - 1 ≤ (q_R r37 (Ad ad 103) (x1).toNatClampNeg).toInt ∧ (q_R r37 (Ad ad 103) (x1).toNatClampNeg).toInt ≤ (q_R δ (Ad ad 103) (x1).toNatClampNeg).toInt + 1 from ⟨i39, ⟨kp_w (by decide) u44, v45, kr_w (by decide) v46⟩, by first | with_reducible assumption | omega, by first | with_reducible assumption | omega⟩)
  · have c48 : (q_R δ (Ad ad 105) (((1000 : Int32) * x1) + x2).toNatClampNeg).toInt ≠ (1 : Int) := o_ne h35
    refine ok_bind (k_X12_leaves L hN (a0 := a0) (x1 := x1) (x2 := vx23) k_a0 (show 0 ≤ (x1).toInt by first | with_reducible assumption | omega) (show (x1).toInt ≤ 3 by first | with_reducible assumption | omega) (show -999 ≤ (q_R δ (Ad ad 103) (x1).toNatClampNeg).toInt by first | with_reducible assumption | omega) I) (fun r49 hr50 => ?_)
    obtain ⟨i51, ⟨u53, u54, u55⟩, p52⟩ := hr50
    have u56 := kp_t kp_r u53
    have v57 : q_V r49 = q_V δ := (u54).trans rfl
    have v58 := kr_t (kr_r (ad := ad)) u55
    have f59 := rb_103 L i51 (x1).toNatClampNeg
    unfold J_X12_changes_44
    exact ok_some (show RI ad h.1 δ0 r49 ∧ (kp [] δ r49 ∧ q_V r49 = q_V δ ∧ kr ad [102, 103] δ r49) ∧ (q_R δ (Ad ad 103) (x1).toNatClampNeg).toInt - 1 ≤ (q_R r49 (Ad ad 103) (x1).toNatClampNeg).toInt ∧ (q_R r49 (Ad ad 103) (x1).toNatClampNeg).toInt ≤ (q_R δ (Ad ad 103) (x1).toNatClampNeg).toInt + 1 from ⟨i51, ⟨kp_w (by decide) u56, v57, kr_w (by decide) v58⟩, by first | with_reducible assumption | omega, by first | with_reducible assumption | omega⟩)
set_option maxHeartbeats 4000000 in
theorem kl_X12_goesTo_14 {ad : List Nat} {h : hp} (L : Lay TLx ad h) {δ0 : dp} {N : Nat} (hN : 10000000 ≤ N) {a0 : Nat} {x1 : Int32} {x2 : Int32} (k_a0 : q_K h.1 a0 = 12) : ∀ (n : Nat) (x3v : Int32) (δ : dp), RI ad h.1 δ0 δ → 0 ≤ (x1).toInt → (x1).toInt ≤ 3 → 0 ≤ (x3v).toInt → (x3v).toInt ≤ (x2).toInt → (x2).toInt ≤ 1000 → -(x3v).toInt ≤ (q_R δ (Ad ad 103) (x1).toNatClampNeg).toInt → (q_R δ (Ad ad 103) (x1).toNatClampNeg).toInt ≤ (x3v).toInt → (x2).toInt - (x3v).toInt < (n : Int) → ok (L_X12_goesTo_14 N h.1 a0 x1 x2 n x3v δ) (fun r => RI ad h.1 δ0 r ∧ (kp [(12, 47)] δ r ∧ q_V r = q_V δ ∧ kr ad [102, 103, 124] δ r)) := by
  intro n
  induction n with
  | zero =>
    intro x3v δ I j0 j1 j2 j3 j4 j5 j6 hm
    have f1 := ti_b x1
    have f2 := ti_b x3v
    have f3 := ti_b x2
    have t4 := ti_tn x1
    have f5 := rb_103 L I (x1).toNatClampNeg
    exfalso; omega
  | succ n ih =>
    intro x3v δ I j0 j1 j2 j3 j4 j5 j6 hm
    unfold L_X12_goesTo_14
    have f1 := ti_b x1
    have f2 := ti_b x3v
    have f3 := ti_b x2
    have t4 := ti_tn x1
    have f5 := rb_103 L I (x1).toNatClampNeg
    refine ok_ite (fun h6 => ?_) (fun h6 => ?_)
    · have c7 : x2.toInt ≤ x3v.toInt := o_le h6
      exact ok_some (show RI ad h.1 δ0 δ ∧ (kp [(12, 47)] δ δ ∧ q_V δ = q_V δ ∧ kr ad [102, 103, 124] δ δ) from ⟨I, ⟨kp_w (by decide) kp_r, rfl, kr_w (by decide) (kr_r (ad := ad))⟩⟩)
    · have c8 : x3v.toInt < x2.toInt := o_nle h6
      refine ok_bind (k_X12_changes L hN (a0 := a0) (x1 := x1) (x2 := x3v) k_a0 (show 0 ≤ (x1).toInt by first | with_reducible assumption | omega) (show (x1).toInt ≤ 3 by first | with_reducible assumption | omega) (show 0 ≤ (x3v).toInt by first | with_reducible assumption | omega) (show (x3v).toInt < 1000 by first | with_reducible assumption | omega) (show -999 ≤ (q_R δ (Ad ad 103) (x1).toNatClampNeg).toInt by first | with_reducible assumption | omega) (show (q_R δ (Ad ad 103) (x1).toNatClampNeg).toInt < 2000 by first | with_reducible assumption | omega) I) (fun r9 hr10 => ?_)
      obtain ⟨i11, ⟨u14, u15, u16⟩, p12, p13⟩ := hr10
      have u17 := kp_t kp_r u14
      have v18 : q_V r9 = q_V δ := (u15).trans rfl
      have v19 := kr_t (kr_r (ad := ad)) u16
      have f20 := rb_103 L i11 (x1).toNatClampNeg
      refine ok_biv (fun vx21 e22 => ?_)
      first | (have q23 := te_addc (c := 1) (n := 1) rfl x3v (by omega) (by omega); rw [← e22] at q23; obtain ⟨f24, f25, f26⟩ := q23) | (obtain ⟨q23, f24, f25, f26⟩ : ∃ q : Int, vx21.toInt = x3v.toInt + (1 : Int) + 4294967296 * q ∧ -2147483648 ≤ vx21.toInt ∧ vx21.toInt ≤ 2147483647 := by rw [e22]; exact ti_addc (c := 1) (n := 1) rfl x3v)
      refine ok_mono (ih vx21 r9 i11 (show 0 ≤ (x1).toInt by first | with_reducible assumption | omega) (show (x1).toInt ≤ 3 by first | with_reducible assumption | omega) (show 0 ≤ (vx21).toInt by first | with_reducible assumption | omega) (show (vx21).toInt ≤ (x2).toInt by first | with_reducible assumption | omega) (show (x2).toInt ≤ 1000 by first | with_reducible assumption | omega) (show -(vx21).toInt ≤ (q_R r9 (Ad ad 103) (x1).toNatClampNeg).toInt by first | with_reducible assumption | omega) (show (q_R r9 (Ad ad 103) (x1).toNatClampNeg).toInt ≤ (vx21).toInt by first | with_reducible assumption | omega) (show (x2).toInt - (vx21).toInt < _ by omega)) (fun r27 hr28 => ?_)
      obtain ⟨i29, ⟨u30, u31, u32⟩⟩ := hr28
      have u33 := kp_t u17 u30
      have v34 : q_V r27 = q_V δ := (u31).trans v18
      have v35 := kr_t v19 u32
      exact ⟨by first | with_reducible assumption | assumption, ⟨kp_w (by decide) u33, v34, kr_w (by decide) v35⟩⟩
set_option maxHeartbeats 4000000 in
theorem k_X12_goesTo {ad : List Nat} {h : hp} (L : Lay TLx ad h) {δ0 : dp} {N : Nat} (hN : 10000000 ≤ N) {a0 : Nat} {x1 : Int32} {x2 : Int32} (k_a0 : q_K h.1 a0 = 12) {δ : dp} (z0 : 0 ≤ (x1).toInt) (z1 : (x1).toInt ≤ 3) (z2 : 0 ≤ (x2).toInt) (z3 : (x2).toInt ≤ 1000) (I : RI ad h.1 δ0 δ) : ok (D_X12_goesTo N h.1 a0 x1 x2 δ) (fun r => RI ad h.1 δ0 r ∧ (kp [(12, 47)] δ r ∧ q_V r = q_V δ ∧ kr ad [102, 103, 124] δ r)) := by
  unfold D_X12_goesTo
  have f1 := ti_b x1
  have f2 := ti_b x2
  refine ok_bind (k_X12_keeps L hN (a0 := a0) (x1 := x1) k_a0 (show 0 ≤ (x1).toInt by first | with_reducible assumption | omega) (show (x1).toInt ≤ 3 by first | with_reducible assumption | omega) I) (fun r3 hr4 => ?_)
  obtain ⟨i5, ⟨u7, u8, u9⟩, p6⟩ := hr4
  have u10 := kp_t kp_r u7
  have v11 : q_V r3 = q_V δ := (u8).trans rfl
  have v12 := kr_t (kr_r (ad := ad)) u9
  have f13 := cb_12_47 i5 k_a0
  have t14 := ti_tn x1
  have f15 := rb_103 L I (x1).toNatClampNeg
  obtain ⟨b16, o17, k18, n19⟩ := gO_12_14 L k_a0
  obtain rfl := gS_12_14 L k_a0 o17
  refine ok_at o17 ?_
  have t20 := ti_tn x1
  refine ok_gd (fun hc21 => ?_) ?_
  · rcases hc21 with hc21 | hc21
    · have c22 : x1.toInt < (0 : Int) := o_lt hc21
      omega
    · omega
  refine ok_bdv (fun d23 e24 => ?_)
  have i25 : RI ad h.1 δ0 d23 := by rw [e24]; exact cr_103 L i5 (show -1000 ≤ (0 : Int) by omega) (show (0 : Int) ≤ 2000 by omega)
  have u26 := kp_N u10 (show q_I d23 = q_I r3 by rw [e24]; rfl)
  have v27 : q_V d23 = q_V δ := ((show q_V d23 = q_V r3 by rw [e24]; rfl)).trans v11
  have v28 := kr_s L (by decide) v12 e24
  have f29 : (q_R d23 (Ad ad 103) (x1).toNatClampNeg).toInt = (0 : Int) := congrArg Int32.toInt (show q_R d23 (Ad ad 103) (x1).toNatClampNeg = (0 : Int32) by rw [e24, qR_sR, if_pos ⟨rfl, rfl⟩])
  have f30 := rb_103 L i25 (x1).toNatClampNeg
  refine ok_mono (kl_X12_goesTo_14 L hN   k_a0 _ (0 : Int32) d23 i25 (show 0 ≤ (x1).toInt by first | with_reducible assumption | omega) (show (x1).toInt ≤ 3 by first | with_reducible assumption | omega) (show 0 ≤ (0 : Int) by first | with_reducible assumption | omega) (show (0 : Int) ≤ (x2).toInt by first | with_reducible assumption | omega) (show (x2).toInt ≤ 1000 by first | with_reducible assumption | omega) (show -(0 : Int) ≤ (q_R d23 (Ad ad 103) (x1).toNatClampNeg).toInt by first | with_reducible assumption | omega) (show (q_R d23 (Ad ad 103) (x1).toNatClampNeg).toInt ≤ (0 : Int) by first | with_reducible assumption | omega) (show (x2).toInt - (0 : Int) < _ by omega)) (fun r31 hr32 => ?_)
  obtain ⟨i33, ⟨u34, u35, u36⟩⟩ := hr32
  have u37 := kp_t u26 u34
  have v38 : q_V r31 = q_V δ := (u35).trans v27
  have v39 := kr_t v28 u36
  exact ⟨by first | with_reducible assumption | assumption, ⟨kp_w (by decide) u37, v38, kr_w (by decide) v39⟩⟩
set_option maxHeartbeats 4000000 in
theorem k_X12_was {ad : List Nat} {h : hp} (L : Lay TLx ad h) {δ0 : dp} {N : Nat} (hN : 10000000 ≤ N) {a0 : Nat} {x1 : Int32} {x2 : Int32} {x3 : Int32} (k_a0 : q_K h.1 a0 = 12) {δ : dp} (I : RI ad h.1 δ0 δ) : ok (D_X12_was N h.1 a0 x1 x2 x3 δ) (fun r => RI ad h.1 δ0 r.2 ∧ (kp [(12, 0), (12, 47)] δ r.2 ∧ q_V r.2 = q_V δ ∧ kr ad [100, 102, 103, 124] δ r.2)) := by
  unfold D_X12_was
  refine ok_bdv (fun d1 e2 => ?_)
  have i3 : RI ad h.1 δ0 d1 := by rw [e2]; exact cs_12_0 L I
  have u4 := kp_I kp_r e2
  have v5 : q_V d1 = q_V δ := ((show q_V d1 = q_V δ by rw [e2]; rfl)).trans rfl
  have v6 := kr_N (kr_r (ad := ad)) (show q_R d1 = q_R δ by rw [e2]; rfl)
  refine ok_bind (k_X12_isHouse L hN (a0 := a0) (x1 := x1) (x2 := (1 : Int32)) k_a0 (show (1 : Int) ≠ 0 by first | with_reducible assumption | omega) i3) (fun r7 hr8 => ?_)
  obtain ⟨i9, ⟨u12, u13, u14⟩, p10, p11⟩ := hr8
  have u15 := kp_t u4 u12
  have v16 : q_V r7.2 = q_V δ := (u13).trans v5
  have v17 := kr_t v6 u14
  have f18 := bo_l p10
  have f19 := ti_b r7.1
  have f20 := ti_b x1
  refine ok_ite (fun h21 => ?_) (fun h21 => ?_)
  · have c22 : r7.1.toInt = (0 : Int) := o_eq h21
    unfold J_X12_was_46
    exact ok_some (show RI ad h.1 δ0 r7.2 ∧ (kp [(12, 0), (12, 47)] δ r7.2 ∧ q_V r7.2 = q_V δ ∧ kr ad [100, 102, 103, 124] δ r7.2) from ⟨i9, ⟨kp_w (by decide) u15, v16, kr_w (by decide) v17⟩⟩)
  · have c23 : r7.1.toInt ≠ (0 : Int) := o_ne h21
    refine ok_bind (k_X12_isTime L hN (a0 := a0) (x1 := x1) (x2 := x2) k_a0 (show 0 ≤ (x1).toInt by first | with_reducible assumption | omega) (show (x1).toInt ≤ 3 by first | with_reducible assumption | omega) i9) (fun r24 hr25 => ?_)
    obtain ⟨i26, p27, p28⟩ := hr25
    try rw [i26]
    have f29 := bo_l p27
    have f30 := ti_b r24.1
    have f31 := ti_b x2
    have t32 := ti_tn x1
    have f33 : (q_R r7.2 (Ad ad 106) (x1).toNatClampNeg).toInt = (q_R d1 (Ad ad 106) (x1).toNatClampNeg).toInt := congrArg Int32.toInt (congrFun (u14 106 (by decide) (by decide) (by decide)) _)
    have f34 : (q_R d1 (Ad ad 106) (x1).toNatClampNeg).toInt = (q_R δ (Ad ad 106) (x1).toNatClampNeg).toInt := congrArg Int32.toInt (show q_R d1 (Ad ad 106) (x1).toNatClampNeg = _ by rw [e2]; rfl)
    have f35 := rb_106 L I (x1).toNatClampNeg
    have f36 := rb_106 L i3 (x1).toNatClampNeg
    have f37 := rb_106 L i9 (x1).toNatClampNeg
    refine ok_ite (fun h38 => ?_) (fun h38 => ?_)
    · have c39 : r24.1.toInt = (0 : Int) := o_eq h38
      unfold J_X12_was_37
      unfold J_X12_was_38
      refine ok_bind (k_X12_may L hN (a0 := a0) (x1 := (0 : Int32)) (x2 := (2 : Int32)) (x3 := (2 : Int32)) k_a0 (show (2 : Int) ≠ 0 by first | with_reducible assumption | omega) (show 0 ≤ (2 : Int) by first | with_reducible assumption | omega) (show (2 : Int) ≤ 2 by first | with_reducible assumption | omega) i9) (fun r40 hr41 => ?_)
      obtain ⟨i42, ⟨u46, u47, u48⟩, p43, p44, p45⟩ := hr41
      have u49 := kp_t u15 u46
      have v50 : q_V r40.2 = q_V δ := (u47).trans v16
      have v51 := kr_t v17 u48
      have f52 := bo_l p43
      have f53 := ti_b r40.1
      replace p44 : ((r40.1).toInt = 1 → (0 : Int) ≠ 0) := p44
      have f54 := ti_b (q_I r7.2 12 0 a0)
      replace p45 : ((q_I r7.2 12 0 a0).toInt = 0 → (r40.1).toInt = 0 → (0 : Int) = 0) := p45
      refine ok_ite (fun h55 => ?_) (fun h55 => ?_)
      · have c56 : r40.1.toInt = (0 : Int) := o_eq h55
        unfold J_X12_was_46
        exact ok_some (show RI ad h.1 δ0 r40.2 ∧ (kp [(12, 0), (12, 47)] δ r40.2 ∧ q_V r40.2 = q_V δ ∧ kr ad [100, 102, 103, 124] δ r40.2) from ⟨i42, ⟨kp_w (by decide) u49, v50, kr_w (by decide) v51⟩⟩)
      · have c57 : r40.1.toInt ≠ (0 : Int) := o_ne h55
        refine ok_bind (k_X12_goesTo L hN (a0 := a0) (x1 := x1) (x2 := x2) k_a0 (show 0 ≤ (x1).toInt by first | with_reducible assumption | omega) (show (x1).toInt ≤ 3 by first | with_reducible assumption | omega) (show 0 ≤ (x2).toInt by first | with_reducible assumption | omega) (show (x2).toInt ≤ 1000 by first | with_reducible assumption | omega) i42) (fun r58 hr59 => ?_)
        obtain ⟨i60, ⟨u61, u62, u63⟩⟩ := hr59
        have u64 := kp_t u49 u61
        have v65 : q_V r58 = q_V δ := (u62).trans v50
        have v66 := kr_t v51 u63
        have f67 := ti_b x3
        refine ok_ite (fun h68 => ?_) (fun h68 => ?_)
        · have c69 : x3.toInt = (0 : Int) := o_eq h68
          obtain ⟨b70, o71, k72, n73⟩ := gO_12_14 L k_a0
          obtain rfl := gS_12_14 L k_a0 o71
          refine ok_at o71 ?_
          have t74 := ti_tn x1
          refine ok_gd (fun hc75 => ?_) ?_
          · rcases hc75 with hc75 | hc75
            · have c76 : x1.toInt < (0 : Int) := o_lt hc75
              omega
            · omega
          unfold J_X12_was_94
          refine ok_bind (k_X12_comesBack L hN (a0 := a0) (x1 := x1) k_a0 (show 0 ≤ (x1).toInt by first | with_reducible assumption | omega) (show (x1).toInt ≤ 3 by first | with_reducible assumption | omega) i60) (fun r77 hr78 => ?_)
          obtain ⟨i79, ⟨u80, u81, u82⟩⟩ := hr78
          have u83 := kp_t u64 u80
          have v84 : q_V r77 = q_V δ := (u81).trans v65
          have v85 := kr_t v66 u82
          exact ok_some (show RI ad h.1 δ0 r77 ∧ (kp [(12, 0), (12, 47)] δ r77 ∧ q_V r77 = q_V δ ∧ kr ad [100, 102, 103, 124] δ r77) from ⟨i79, ⟨kp_w (by decide) u83, v84, kr_w (by decide) v85⟩⟩)
        · have c86 : x3.toInt ≠ (0 : Int) := o_ne h68
          refine ok_ite (fun h87 => ?_) (fun h87 => ?_)
          · have c88 : x3.toInt = (1 : Int) := o_eq h87
            refine ok_bind (k_X12_numberAt L hN (a0 := a0) (x1 := x1) (x2 := (0 : Int32)) k_a0 (show 0 ≤ (x1).toInt by first | with_reducible assumption | omega) (show (x1).toInt ≤ 3 by first | with_reducible assumption | omega) i60) (fun r89 hr90 => ?_)
            have i91 := hr90
            try rw [i91]
            have f92 := ti_b r89.1
            unfold J_X12_was_94
            refine ok_bind (k_X12_comesBack L hN (a0 := a0) (x1 := x1) k_a0 (show 0 ≤ (x1).toInt by first | with_reducible assumption | omega) (show (x1).toInt ≤ 3 by first | with_reducible assumption | omega) i60) (fun r93 hr94 => ?_)
            obtain ⟨i95, ⟨u96, u97, u98⟩⟩ := hr94
            have u99 := kp_t u64 u96
            have v100 : q_V r93 = q_V δ := (u97).trans v65
            have v101 := kr_t v66 u98
            exact ok_some (show RI ad h.1 δ0 r93 ∧ (kp [(12, 0), (12, 47)] δ r93 ∧ q_V r93 = q_V δ ∧ kr ad [100, 102, 103, 124] δ r93) from ⟨i95, ⟨kp_w (by decide) u99, v100, kr_w (by decide) v101⟩⟩)
          · have c102 : x3.toInt ≠ (1 : Int) := o_ne h87
            obtain ⟨b103, o104, k105, n106⟩ := gO_12_14 L k_a0
            obtain rfl := gS_12_14 L k_a0 o104
            refine ok_at o104 ?_
            have t107 := ti_tn x1
            refine ok_gd (fun hc108 => ?_) ?_
            · rcases hc108 with hc108 | hc108
              · have c109 : x1.toInt < (0 : Int) := o_lt hc108
                omega
              · omega
            refine ok_bind (k_X12_numberAt L hN (a0 := a0) (x1 := x1) (x2 := ((q_R r58 (Ad ad 103) x1.toNatClampNeg) - (1 : Int32))) k_a0 (show 0 ≤ (x1).toInt by first | with_reducible assumption | omega) (show (x1).toInt ≤ 3 by first | with_reducible assumption | omega) i60) (fun r110 hr111 => ?_)
            have i112 := hr111
            try rw [i112]
            have f113 := ti_b r110.1
            unfold J_X12_was_94
            refine ok_bind (k_X12_comesBack L hN (a0 := a0) (x1 := x1) k_a0 (show 0 ≤ (x1).toInt by first | with_reducible assumption | omega) (show (x1).toInt ≤ 3 by first | with_reducible assumption | omega) i60) (fun r114 hr115 => ?_)
            obtain ⟨i116, ⟨u117, u118, u119⟩⟩ := hr115
            have u120 := kp_t u64 u117
            have v121 : q_V r114 = q_V δ := (u118).trans v65
            have v122 := kr_t v66 u119
            exact ok_some (show RI ad h.1 δ0 r114 ∧ (kp [(12, 0), (12, 47)] δ r114 ∧ q_V r114 = q_V δ ∧ kr ad [100, 102, 103, 124] δ r114) from ⟨i116, ⟨kp_w (by decide) u120, v121, kr_w (by decide) v122⟩⟩)
    · have c123 : r24.1.toInt ≠ (0 : Int) := o_ne h38
      refine ok_bind (k_X12_within L hN (x0 := x3) (x1 := (0 : Int32)) (x2 := (2 : Int32))  i9) (fun r124 hr125 => ?_)
      obtain ⟨i126, p127, p128, p129⟩ := hr125
      try rw [i126]
      have f130 := bo_l p127
      have f131 := ti_b r124.1
      have f132 := ti_b x3
      replace p128 : ((r124.1).toInt = 1 → (0 : Int) ≤ (x3).toInt ∧ (x3).toInt ≤ (2 : Int)) := p128
      replace p129 : ((r124.1).toInt = 0 → (x3).toInt < (0 : Int) ∨ (2 : Int) < (x3).toInt) := p129
      refine ok_ite (fun h133 => ?_) (fun h133 => ?_)
      · have c134 : r124.1.toInt = (0 : Int) := o_eq h133
        unfold J_X12_was_37
        unfold J_X12_was_38
        refine ok_bind (k_X12_may L hN (a0 := a0) (x1 := (0 : Int32)) (x2 := (2 : Int32)) (x3 := (2 : Int32)) k_a0 (show (2 : Int) ≠ 0 by first | with_reducible assumption | omega) (show 0 ≤ (2 : Int) by first | with_reducible assumption | omega) (show (2 : Int) ≤ 2 by first | with_reducible assumption | omega) i9) (fun r135 hr136 => ?_)
        obtain ⟨i137, ⟨u141, u142, u143⟩, p138, p139, p140⟩ := hr136
        have u144 := kp_t u15 u141
        have v145 : q_V r135.2 = q_V δ := (u142).trans v16
        have v146 := kr_t v17 u143
        have f147 := bo_l p138
        have f148 := ti_b r135.1
        replace p139 : ((r135.1).toInt = 1 → (0 : Int) ≠ 0) := p139
        have f149 := ti_b (q_I r7.2 12 0 a0)
        replace p140 : ((q_I r7.2 12 0 a0).toInt = 0 → (r135.1).toInt = 0 → (0 : Int) = 0) := p140
        refine ok_ite (fun h150 => ?_) (fun h150 => ?_)
        · have c151 : r135.1.toInt = (0 : Int) := o_eq h150
          unfold J_X12_was_46
          exact ok_some (show RI ad h.1 δ0 r135.2 ∧ (kp [(12, 0), (12, 47)] δ r135.2 ∧ q_V r135.2 = q_V δ ∧ kr ad [100, 102, 103, 124] δ r135.2) from ⟨i137, ⟨kp_w (by decide) u144, v145, kr_w (by decide) v146⟩⟩)
        · have c152 : r135.1.toInt ≠ (0 : Int) := o_ne h150
          refine ok_bind (k_X12_goesTo L hN (a0 := a0) (x1 := x1) (x2 := x2) k_a0 (show 0 ≤ (x1).toInt by first | with_reducible assumption | omega) (show (x1).toInt ≤ 3 by first | with_reducible assumption | omega) (show 0 ≤ (x2).toInt by first | with_reducible assumption | omega) (show (x2).toInt ≤ 1000 by first | with_reducible assumption | omega) i137) (fun r153 hr154 => ?_)
          obtain ⟨i155, ⟨u156, u157, u158⟩⟩ := hr154
          have u159 := kp_t u144 u156
          have v160 : q_V r153 = q_V δ := (u157).trans v145
          have v161 := kr_t v146 u158
          refine ok_ite (fun h162 => ?_) (fun h162 => ?_)
          · have c163 : x3.toInt = (0 : Int) := o_eq h162
            obtain ⟨b164, o165, k166, n167⟩ := gO_12_14 L k_a0
            obtain rfl := gS_12_14 L k_a0 o165
            refine ok_at o165 ?_
            have t168 := ti_tn x1
            refine ok_gd (fun hc169 => ?_) ?_
            · rcases hc169 with hc169 | hc169
              · have c170 : x1.toInt < (0 : Int) := o_lt hc169
                omega
              · omega
            unfold J_X12_was_94
            refine ok_bind (k_X12_comesBack L hN (a0 := a0) (x1 := x1) k_a0 (show 0 ≤ (x1).toInt by first | with_reducible assumption | omega) (show (x1).toInt ≤ 3 by first | with_reducible assumption | omega) i155) (fun r171 hr172 => ?_)
            obtain ⟨i173, ⟨u174, u175, u176⟩⟩ := hr172
            have u177 := kp_t u159 u174
            have v178 : q_V r171 = q_V δ := (u175).trans v160
            have v179 := kr_t v161 u176
            exact ok_some (show RI ad h.1 δ0 r171 ∧ (kp [(12, 0), (12, 47)] δ r171 ∧ q_V r171 = q_V δ ∧ kr ad [100, 102, 103, 124] δ r171) from ⟨i173, ⟨kp_w (by decide) u177, v178, kr_w (by decide) v179⟩⟩)
          · have c180 : x3.toInt ≠ (0 : Int) := o_ne h162
            refine ok_ite (fun h181 => ?_) (fun h181 => ?_)
            · have c182 : x3.toInt = (1 : Int) := o_eq h181
              refine ok_bind (k_X12_numberAt L hN (a0 := a0) (x1 := x1) (x2 := (0 : Int32)) k_a0 (show 0 ≤ (x1).toInt by first | with_reducible assumption | omega) (show (x1).toInt ≤ 3 by first | with_reducible assumption | omega) i155) (fun r183 hr184 => ?_)
              have i185 := hr184
              try rw [i185]
              have f186 := ti_b r183.1
              unfold J_X12_was_94
              refine ok_bind (k_X12_comesBack L hN (a0 := a0) (x1 := x1) k_a0 (show 0 ≤ (x1).toInt by first | with_reducible assumption | omega) (show (x1).toInt ≤ 3 by first | with_reducible assumption | omega) i155) (fun r187 hr188 => ?_)
              obtain ⟨i189, ⟨u190, u191, u192⟩⟩ := hr188
              have u193 := kp_t u159 u190
              have v194 : q_V r187 = q_V δ := (u191).trans v160
              have v195 := kr_t v161 u192
              exact ok_some (show RI ad h.1 δ0 r187 ∧ (kp [(12, 0), (12, 47)] δ r187 ∧ q_V r187 = q_V δ ∧ kr ad [100, 102, 103, 124] δ r187) from ⟨i189, ⟨kp_w (by decide) u193, v194, kr_w (by decide) v195⟩⟩)
            · have c196 : x3.toInt ≠ (1 : Int) := o_ne h181
              obtain ⟨b197, o198, k199, n200⟩ := gO_12_14 L k_a0
              obtain rfl := gS_12_14 L k_a0 o198
              refine ok_at o198 ?_
              have t201 := ti_tn x1
              refine ok_gd (fun hc202 => ?_) ?_
              · rcases hc202 with hc202 | hc202
                · have c203 : x1.toInt < (0 : Int) := o_lt hc202
                  omega
                · omega
              refine ok_bind (k_X12_numberAt L hN (a0 := a0) (x1 := x1) (x2 := ((q_R r153 (Ad ad 103) x1.toNatClampNeg) - (1 : Int32))) k_a0 (show 0 ≤ (x1).toInt by first | with_reducible assumption | omega) (show (x1).toInt ≤ 3 by first | with_reducible assumption | omega) i155) (fun r204 hr205 => ?_)
              have i206 := hr205
              try rw [i206]
              have f207 := ti_b r204.1
              unfold J_X12_was_94
              refine ok_bind (k_X12_comesBack L hN (a0 := a0) (x1 := x1) k_a0 (show 0 ≤ (x1).toInt by first | with_reducible assumption | omega) (show (x1).toInt ≤ 3 by first | with_reducible assumption | omega) i155) (fun r208 hr209 => ?_)
              obtain ⟨i210, ⟨u211, u212, u213⟩⟩ := hr209
              have u214 := kp_t u159 u211
              have v215 : q_V r208 = q_V δ := (u212).trans v160
              have v216 := kr_t v161 u213
              exact ok_some (show RI ad h.1 δ0 r208 ∧ (kp [(12, 0), (12, 47)] δ r208 ∧ q_V r208 = q_V δ ∧ kr ad [100, 102, 103, 124] δ r208) from ⟨i210, ⟨kp_w (by decide) u214, v215, kr_w (by decide) v216⟩⟩)
      · have c217 : r124.1.toInt ≠ (0 : Int) := o_ne h133
        unfold J_X12_was_38
        refine ok_bind (k_X12_may L hN (a0 := a0) (x1 := (1 : Int32)) (x2 := (2 : Int32)) (x3 := (2 : Int32)) k_a0 (show (2 : Int) ≠ 0 by first | with_reducible assumption | omega) (show 0 ≤ (2 : Int) by first | with_reducible assumption | omega) (show (2 : Int) ≤ 2 by first | with_reducible assumption | omega) i9) (fun r218 hr219 => ?_)
        obtain ⟨i220, ⟨u224, u225, u226⟩, p221, p222, p223⟩ := hr219
        have u227 := kp_t u15 u224
        have v228 : q_V r218.2 = q_V δ := (u225).trans v16
        have v229 := kr_t v17 u226
        have f230 := bo_l p221
        have f231 := ti_b r218.1
        replace p222 : ((r218.1).toInt = 1 → (1 : Int) ≠ 0) := p222
        have f232 := ti_b (q_I r7.2 12 0 a0)
        replace p223 : ((q_I r7.2 12 0 a0).toInt = 0 → (r218.1).toInt = 0 → (1 : Int) = 0) := p223
        refine ok_ite (fun h233 => ?_) (fun h233 => ?_)
        · have c234 : r218.1.toInt = (0 : Int) := o_eq h233
          unfold J_X12_was_46
          exact ok_some (show RI ad h.1 δ0 r218.2 ∧ (kp [(12, 0), (12, 47)] δ r218.2 ∧ q_V r218.2 = q_V δ ∧ kr ad [100, 102, 103, 124] δ r218.2) from ⟨i220, ⟨kp_w (by decide) u227, v228, kr_w (by decide) v229⟩⟩)
        · have c235 : r218.1.toInt ≠ (0 : Int) := o_ne h233
          refine ok_bind (k_X12_goesTo L hN (a0 := a0) (x1 := x1) (x2 := x2) k_a0 (show 0 ≤ (x1).toInt by first | with_reducible assumption | omega) (show (x1).toInt ≤ 3 by first | with_reducible assumption | omega) (show 0 ≤ (x2).toInt by first | with_reducible assumption | omega) (show (x2).toInt ≤ 1000 by first | with_reducible assumption | omega) i220) (fun r236 hr237 => ?_)
          obtain ⟨i238, ⟨u239, u240, u241⟩⟩ := hr237
          have u242 := kp_t u227 u239
          have v243 : q_V r236 = q_V δ := (u240).trans v228
          have v244 := kr_t v229 u241
          refine ok_ite (fun h245 => ?_) (fun h245 => ?_)
          · have c246 : x3.toInt = (0 : Int) := o_eq h245
            obtain ⟨b247, o248, k249, n250⟩ := gO_12_14 L k_a0
            obtain rfl := gS_12_14 L k_a0 o248
            refine ok_at o248 ?_
            have t251 := ti_tn x1
            refine ok_gd (fun hc252 => ?_) ?_
            · rcases hc252 with hc252 | hc252
              · have c253 : x1.toInt < (0 : Int) := o_lt hc252
                omega
              · omega
            unfold J_X12_was_94
            refine ok_bind (k_X12_comesBack L hN (a0 := a0) (x1 := x1) k_a0 (show 0 ≤ (x1).toInt by first | with_reducible assumption | omega) (show (x1).toInt ≤ 3 by first | with_reducible assumption | omega) i238) (fun r254 hr255 => ?_)
            obtain ⟨i256, ⟨u257, u258, u259⟩⟩ := hr255
            have u260 := kp_t u242 u257
            have v261 : q_V r254 = q_V δ := (u258).trans v243
            have v262 := kr_t v244 u259
            exact ok_some (show RI ad h.1 δ0 r254 ∧ (kp [(12, 0), (12, 47)] δ r254 ∧ q_V r254 = q_V δ ∧ kr ad [100, 102, 103, 124] δ r254) from ⟨i256, ⟨kp_w (by decide) u260, v261, kr_w (by decide) v262⟩⟩)
          · have c263 : x3.toInt ≠ (0 : Int) := o_ne h245
            refine ok_ite (fun h264 => ?_) (fun h264 => ?_)
            · have c265 : x3.toInt = (1 : Int) := o_eq h264
              refine ok_bind (k_X12_numberAt L hN (a0 := a0) (x1 := x1) (x2 := (0 : Int32)) k_a0 (show 0 ≤ (x1).toInt by first | with_reducible assumption | omega) (show (x1).toInt ≤ 3 by first | with_reducible assumption | omega) i238) (fun r266 hr267 => ?_)
              have i268 := hr267
              try rw [i268]
              have f269 := ti_b r266.1
              unfold J_X12_was_94
              refine ok_bind (k_X12_comesBack L hN (a0 := a0) (x1 := x1) k_a0 (show 0 ≤ (x1).toInt by first | with_reducible assumption | omega) (show (x1).toInt ≤ 3 by first | with_reducible assumption | omega) i238) (fun r270 hr271 => ?_)
              obtain ⟨i272, ⟨u273, u274, u275⟩⟩ := hr271
              have u276 := kp_t u242 u273
              have v277 : q_V r270 = q_V δ := (u274).trans v243
              have v278 := kr_t v244 u275
              exact ok_some (show RI ad h.1 δ0 r270 ∧ (kp [(12, 0), (12, 47)] δ r270 ∧ q_V r270 = q_V δ ∧ kr ad [100, 102, 103, 124] δ r270) from ⟨i272, ⟨kp_w (by decide) u276, v277, kr_w (by decide) v278⟩⟩)
            · have c279 : x3.toInt ≠ (1 : Int) := o_ne h264
              obtain ⟨b280, o281, k282, n283⟩ := gO_12_14 L k_a0
              obtain rfl := gS_12_14 L k_a0 o281
              refine ok_at o281 ?_
              have t284 := ti_tn x1
              refine ok_gd (fun hc285 => ?_) ?_
              · rcases hc285 with hc285 | hc285
                · have c286 : x1.toInt < (0 : Int) := o_lt hc285
                  omega
                · omega
              refine ok_bind (k_X12_numberAt L hN (a0 := a0) (x1 := x1) (x2 := ((q_R r236 (Ad ad 103) x1.toNatClampNeg) - (1 : Int32))) k_a0 (show 0 ≤ (x1).toInt by first | with_reducible assumption | omega) (show (x1).toInt ≤ 3 by first | with_reducible assumption | omega) i238) (fun r287 hr288 => ?_)
              have i289 := hr288
              try rw [i289]
              have f290 := ti_b r287.1
              unfold J_X12_was_94
              refine ok_bind (k_X12_comesBack L hN (a0 := a0) (x1 := x1) k_a0 (show 0 ≤ (x1).toInt by first | with_reducible assumption | omega) (show (x1).toInt ≤ 3 by first | with_reducible assumption | omega) i238) (fun r291 hr292 => ?_)
              obtain ⟨i293, ⟨u294, u295, u296⟩⟩ := hr292
              have u297 := kp_t u242 u294
              have v298 : q_V r291 = q_V δ := (u295).trans v243
              have v299 := kr_t v244 u296
              exact ok_some (show RI ad h.1 δ0 r291 ∧ (kp [(12, 0), (12, 47)] δ r291 ∧ q_V r291 = q_V δ ∧ kr ad [100, 102, 103, 124] δ r291) from ⟨i293, ⟨kp_w (by decide) u297, v298, kr_w (by decide) v299⟩⟩)
set_option maxHeartbeats 4000000 in
theorem k_X12_asked {ad : List Nat} {h : hp} (L : Lay TLx ad h) {δ0 : dp} {N : Nat} (hN : 10000000 ≤ N) {a0 : Nat} {x1 : Int32} {x2 : Int32} {x3 : Int32} {x4 : Int32} (k_a0 : q_K h.1 a0 = 12) {δ : dp} (I : RI ad h.1 δ0 δ) : ok (D_X12_asked N h.1 a0 x1 x2 x3 x4 δ) (fun r => RI ad h.1 δ0 r.2 ∧ (kp [(12, 0), (12, 47)] δ r.2 ∧ q_V r.2 = q_V δ ∧ kr ad [100, 102, 103, 124] δ r.2)) := by
  unfold D_X12_asked
  refine ok_bdv (fun d1 e2 => ?_)
  have i3 : RI ad h.1 δ0 d1 := by rw [e2]; exact cs_12_0 L I
  have u4 := kp_I kp_r e2
  have v5 : q_V d1 = q_V δ := ((show q_V d1 = q_V δ by rw [e2]; rfl)).trans rfl
  have v6 := kr_N (kr_r (ad := ad)) (show q_R d1 = q_R δ by rw [e2]; rfl)
  refine ok_bind (k_X12_isHouse L hN (a0 := a0) (x1 := x1) (x2 := (1 : Int32)) k_a0 (show (1 : Int) ≠ 0 by first | with_reducible assumption | omega) i3) (fun r7 hr8 => ?_)
  obtain ⟨i9, ⟨u12, u13, u14⟩, p10, p11⟩ := hr8
  have u15 := kp_t u4 u12
  have v16 : q_V r7.2 = q_V δ := (u13).trans v5
  have v17 := kr_t v6 u14
  have f18 := bo_l p10
  have f19 := ti_b r7.1
  have f20 := ti_b x1
  refine ok_ite (fun h21 => ?_) (fun h21 => ?_)
  · have c22 : r7.1.toInt = (0 : Int) := o_eq h21
    unfold J_X12_asked_56
    exact ok_some (show RI ad h.1 δ0 r7.2 ∧ (kp [(12, 0), (12, 47)] δ r7.2 ∧ q_V r7.2 = q_V δ ∧ kr ad [100, 102, 103, 124] δ r7.2) from ⟨i9, ⟨kp_w (by decide) u15, v16, kr_w (by decide) v17⟩⟩)
  · have c23 : r7.1.toInt ≠ (0 : Int) := o_ne h21
    refine ok_bind (k_X12_isTime L hN (a0 := a0) (x1 := x1) (x2 := x2) k_a0 (show 0 ≤ (x1).toInt by first | with_reducible assumption | omega) (show (x1).toInt ≤ 3 by first | with_reducible assumption | omega) i9) (fun r24 hr25 => ?_)
    obtain ⟨i26, p27, p28⟩ := hr25
    try rw [i26]
    have f29 := bo_l p27
    have f30 := ti_b r24.1
    have f31 := ti_b x2
    have t32 := ti_tn x1
    have f33 : (q_R r7.2 (Ad ad 106) (x1).toNatClampNeg).toInt = (q_R d1 (Ad ad 106) (x1).toNatClampNeg).toInt := congrArg Int32.toInt (congrFun (u14 106 (by decide) (by decide) (by decide)) _)
    have f34 : (q_R d1 (Ad ad 106) (x1).toNatClampNeg).toInt = (q_R δ (Ad ad 106) (x1).toNatClampNeg).toInt := congrArg Int32.toInt (show q_R d1 (Ad ad 106) (x1).toNatClampNeg = _ by rw [e2]; rfl)
    have f35 := rb_106 L I (x1).toNatClampNeg
    have f36 := rb_106 L i3 (x1).toNatClampNeg
    have f37 := rb_106 L i9 (x1).toNatClampNeg
    refine ok_ite (fun h38 => ?_) (fun h38 => ?_)
    · have c39 : r24.1.toInt = (0 : Int) := o_eq h38
      unfold J_X12_asked_47
      unfold J_X12_asked_48
      refine ok_bind (k_X12_may L hN (a0 := a0) (x1 := (0 : Int32)) (x2 := (2 : Int32)) (x3 := (2 : Int32)) k_a0 (show (2 : Int) ≠ 0 by first | with_reducible assumption | omega) (show 0 ≤ (2 : Int) by first | with_reducible assumption | omega) (show (2 : Int) ≤ 2 by first | with_reducible assumption | omega) i9) (fun r40 hr41 => ?_)
      obtain ⟨i42, ⟨u46, u47, u48⟩, p43, p44, p45⟩ := hr41
      have u49 := kp_t u15 u46
      have v50 : q_V r40.2 = q_V δ := (u47).trans v16
      have v51 := kr_t v17 u48
      have f52 := bo_l p43
      have f53 := ti_b r40.1
      replace p44 : ((r40.1).toInt = 1 → (0 : Int) ≠ 0) := p44
      have f54 := ti_b (q_I r7.2 12 0 a0)
      replace p45 : ((q_I r7.2 12 0 a0).toInt = 0 → (r40.1).toInt = 0 → (0 : Int) = 0) := p45
      refine ok_ite (fun h55 => ?_) (fun h55 => ?_)
      · have c56 : r40.1.toInt = (0 : Int) := o_eq h55
        unfold J_X12_asked_56
        exact ok_some (show RI ad h.1 δ0 r40.2 ∧ (kp [(12, 0), (12, 47)] δ r40.2 ∧ q_V r40.2 = q_V δ ∧ kr ad [100, 102, 103, 124] δ r40.2) from ⟨i42, ⟨kp_w (by decide) u49, v50, kr_w (by decide) v51⟩⟩)
      · have c57 : r40.1.toInt ≠ (0 : Int) := o_ne h55
        refine ok_bind (k_X12_goesTo L hN (a0 := a0) (x1 := x1) (x2 := x2) k_a0 (show 0 ≤ (x1).toInt by first | with_reducible assumption | omega) (show (x1).toInt ≤ 3 by first | with_reducible assumption | omega) (show 0 ≤ (x2).toInt by first | with_reducible assumption | omega) (show (x2).toInt ≤ 1000 by first | with_reducible assumption | omega) i42) (fun r58 hr59 => ?_)
        obtain ⟨i60, ⟨u61, u62, u63⟩⟩ := hr59
        have u64 := kp_t u49 u61
        have v65 : q_V r58 = q_V δ := (u62).trans v50
        have v66 := kr_t v51 u63
        refine ok_bind (k_X12_answer L hN (a0 := a0) (x1 := x1) (x2 := x3) (x3 := x4) k_a0 (show 0 ≤ (x1).toInt by first | with_reducible assumption | omega) (show (x1).toInt ≤ 3 by first | with_reducible assumption | omega) i60) (fun r67 hr68 => ?_)
        have i69 := hr68
        try rw [i69]
        have f70 := ti_b r67.1
        refine ok_bind (k_X12_comesBack L hN (a0 := a0) (x1 := x1) k_a0 (show 0 ≤ (x1).toInt by first | with_reducible assumption | omega) (show (x1).toInt ≤ 3 by first | with_reducible assumption | omega) i60) (fun r71 hr72 => ?_)
        obtain ⟨i73, ⟨u74, u75, u76⟩⟩ := hr72
        have u77 := kp_t u64 u74
        have v78 : q_V r71 = q_V δ := (u75).trans v65
        have v79 := kr_t v66 u76
        exact ok_some (show RI ad h.1 δ0 r71 ∧ (kp [(12, 0), (12, 47)] δ r71 ∧ q_V r71 = q_V δ ∧ kr ad [100, 102, 103, 124] δ r71) from ⟨i73, ⟨kp_w (by decide) u77, v78, kr_w (by decide) v79⟩⟩)
    · have c80 : r24.1.toInt ≠ (0 : Int) := o_ne h38
      refine ok_bind (k_X12_within L hN (x0 := x3) (x1 := (2 : Int32)) (x2 := (4 : Int32))  i9) (fun r81 hr82 => ?_)
      obtain ⟨i83, p84, p85, p86⟩ := hr82
      try rw [i83]
      have f87 := bo_l p84
      have f88 := ti_b r81.1
      have f89 := ti_b x3
      replace p85 : ((r81.1).toInt = 1 → (2 : Int) ≤ (x3).toInt ∧ (x3).toInt ≤ (4 : Int)) := p85
      replace p86 : ((r81.1).toInt = 0 → (x3).toInt < (2 : Int) ∨ (4 : Int) < (x3).toInt) := p86
      refine ok_ite (fun h90 => ?_) (fun h90 => ?_)
      · have c91 : r81.1.toInt = (0 : Int) := o_eq h90
        unfold J_X12_asked_47
        unfold J_X12_asked_48
        refine ok_bind (k_X12_may L hN (a0 := a0) (x1 := (0 : Int32)) (x2 := (2 : Int32)) (x3 := (2 : Int32)) k_a0 (show (2 : Int) ≠ 0 by first | with_reducible assumption | omega) (show 0 ≤ (2 : Int) by first | with_reducible assumption | omega) (show (2 : Int) ≤ 2 by first | with_reducible assumption | omega) i9) (fun r92 hr93 => ?_)
        obtain ⟨i94, ⟨u98, u99, u100⟩, p95, p96, p97⟩ := hr93
        have u101 := kp_t u15 u98
        have v102 : q_V r92.2 = q_V δ := (u99).trans v16
        have v103 := kr_t v17 u100
        have f104 := bo_l p95
        have f105 := ti_b r92.1
        replace p96 : ((r92.1).toInt = 1 → (0 : Int) ≠ 0) := p96
        have f106 := ti_b (q_I r7.2 12 0 a0)
        replace p97 : ((q_I r7.2 12 0 a0).toInt = 0 → (r92.1).toInt = 0 → (0 : Int) = 0) := p97
        refine ok_ite (fun h107 => ?_) (fun h107 => ?_)
        · have c108 : r92.1.toInt = (0 : Int) := o_eq h107
          unfold J_X12_asked_56
          exact ok_some (show RI ad h.1 δ0 r92.2 ∧ (kp [(12, 0), (12, 47)] δ r92.2 ∧ q_V r92.2 = q_V δ ∧ kr ad [100, 102, 103, 124] δ r92.2) from ⟨i94, ⟨kp_w (by decide) u101, v102, kr_w (by decide) v103⟩⟩)
        · have c109 : r92.1.toInt ≠ (0 : Int) := o_ne h107
          refine ok_bind (k_X12_goesTo L hN (a0 := a0) (x1 := x1) (x2 := x2) k_a0 (show 0 ≤ (x1).toInt by first | with_reducible assumption | omega) (show (x1).toInt ≤ 3 by first | with_reducible assumption | omega) (show 0 ≤ (x2).toInt by first | with_reducible assumption | omega) (show (x2).toInt ≤ 1000 by first | with_reducible assumption | omega) i94) (fun r110 hr111 => ?_)
          obtain ⟨i112, ⟨u113, u114, u115⟩⟩ := hr111
          have u116 := kp_t u101 u113
          have v117 : q_V r110 = q_V δ := (u114).trans v102
          have v118 := kr_t v103 u115
          refine ok_bind (k_X12_answer L hN (a0 := a0) (x1 := x1) (x2 := x3) (x3 := x4) k_a0 (show 0 ≤ (x1).toInt by first | with_reducible assumption | omega) (show (x1).toInt ≤ 3 by first | with_reducible assumption | omega) i112) (fun r119 hr120 => ?_)
          have i121 := hr120
          try rw [i121]
          have f122 := ti_b r119.1
          refine ok_bind (k_X12_comesBack L hN (a0 := a0) (x1 := x1) k_a0 (show 0 ≤ (x1).toInt by first | with_reducible assumption | omega) (show (x1).toInt ≤ 3 by first | with_reducible assumption | omega) i112) (fun r123 hr124 => ?_)
          obtain ⟨i125, ⟨u126, u127, u128⟩⟩ := hr124
          have u129 := kp_t u116 u126
          have v130 : q_V r123 = q_V δ := (u127).trans v117
          have v131 := kr_t v118 u128
          exact ok_some (show RI ad h.1 δ0 r123 ∧ (kp [(12, 0), (12, 47)] δ r123 ∧ q_V r123 = q_V δ ∧ kr ad [100, 102, 103, 124] δ r123) from ⟨i125, ⟨kp_w (by decide) u129, v130, kr_w (by decide) v131⟩⟩)
      · have c132 : r81.1.toInt ≠ (0 : Int) := o_ne h90
        refine ok_bind (k_X12_mayAsk L hN (a0 := a0) (x1 := x3) (x2 := x4) k_a0 i9) (fun r133 hr134 => ?_)
        obtain ⟨i135, p136, p137⟩ := hr134
        try rw [i135]
        have f138 := bo_l p136
        have f139 := ti_b r133.1
        have f140 := ti_b x4
        refine ok_ite (fun h141 => ?_) (fun h141 => ?_)
        · have c142 : r133.1.toInt = (0 : Int) := o_eq h141
          unfold J_X12_asked_47
          unfold J_X12_asked_48
          refine ok_bind (k_X12_may L hN (a0 := a0) (x1 := (0 : Int32)) (x2 := (2 : Int32)) (x3 := (2 : Int32)) k_a0 (show (2 : Int) ≠ 0 by first | with_reducible assumption | omega) (show 0 ≤ (2 : Int) by first | with_reducible assumption | omega) (show (2 : Int) ≤ 2 by first | with_reducible assumption | omega) i9) (fun r143 hr144 => ?_)
          obtain ⟨i145, ⟨u149, u150, u151⟩, p146, p147, p148⟩ := hr144
          have u152 := kp_t u15 u149
          have v153 : q_V r143.2 = q_V δ := (u150).trans v16
          have v154 := kr_t v17 u151
          have f155 := bo_l p146
          have f156 := ti_b r143.1
          replace p147 : ((r143.1).toInt = 1 → (0 : Int) ≠ 0) := p147
          have f157 := ti_b (q_I r7.2 12 0 a0)
          replace p148 : ((q_I r7.2 12 0 a0).toInt = 0 → (r143.1).toInt = 0 → (0 : Int) = 0) := p148
          refine ok_ite (fun h158 => ?_) (fun h158 => ?_)
          · have c159 : r143.1.toInt = (0 : Int) := o_eq h158
            unfold J_X12_asked_56
            exact ok_some (show RI ad h.1 δ0 r143.2 ∧ (kp [(12, 0), (12, 47)] δ r143.2 ∧ q_V r143.2 = q_V δ ∧ kr ad [100, 102, 103, 124] δ r143.2) from ⟨i145, ⟨kp_w (by decide) u152, v153, kr_w (by decide) v154⟩⟩)
          · have c160 : r143.1.toInt ≠ (0 : Int) := o_ne h158
            refine ok_bind (k_X12_goesTo L hN (a0 := a0) (x1 := x1) (x2 := x2) k_a0 (show 0 ≤ (x1).toInt by first | with_reducible assumption | omega) (show (x1).toInt ≤ 3 by first | with_reducible assumption | omega) (show 0 ≤ (x2).toInt by first | with_reducible assumption | omega) (show (x2).toInt ≤ 1000 by first | with_reducible assumption | omega) i145) (fun r161 hr162 => ?_)
            obtain ⟨i163, ⟨u164, u165, u166⟩⟩ := hr162
            have u167 := kp_t u152 u164
            have v168 : q_V r161 = q_V δ := (u165).trans v153
            have v169 := kr_t v154 u166
            refine ok_bind (k_X12_answer L hN (a0 := a0) (x1 := x1) (x2 := x3) (x3 := x4) k_a0 (show 0 ≤ (x1).toInt by first | with_reducible assumption | omega) (show (x1).toInt ≤ 3 by first | with_reducible assumption | omega) i163) (fun r170 hr171 => ?_)
            have i172 := hr171
            try rw [i172]
            have f173 := ti_b r170.1
            refine ok_bind (k_X12_comesBack L hN (a0 := a0) (x1 := x1) k_a0 (show 0 ≤ (x1).toInt by first | with_reducible assumption | omega) (show (x1).toInt ≤ 3 by first | with_reducible assumption | omega) i163) (fun r174 hr175 => ?_)
            obtain ⟨i176, ⟨u177, u178, u179⟩⟩ := hr175
            have u180 := kp_t u167 u177
            have v181 : q_V r174 = q_V δ := (u178).trans v168
            have v182 := kr_t v169 u179
            exact ok_some (show RI ad h.1 δ0 r174 ∧ (kp [(12, 0), (12, 47)] δ r174 ∧ q_V r174 = q_V δ ∧ kr ad [100, 102, 103, 124] δ r174) from ⟨i176, ⟨kp_w (by decide) u180, v181, kr_w (by decide) v182⟩⟩)
        · have c183 : r133.1.toInt ≠ (0 : Int) := o_ne h141
          unfold J_X12_asked_48
          refine ok_bind (k_X12_may L hN (a0 := a0) (x1 := (1 : Int32)) (x2 := (2 : Int32)) (x3 := (2 : Int32)) k_a0 (show (2 : Int) ≠ 0 by first | with_reducible assumption | omega) (show 0 ≤ (2 : Int) by first | with_reducible assumption | omega) (show (2 : Int) ≤ 2 by first | with_reducible assumption | omega) i9) (fun r184 hr185 => ?_)
          obtain ⟨i186, ⟨u190, u191, u192⟩, p187, p188, p189⟩ := hr185
          have u193 := kp_t u15 u190
          have v194 : q_V r184.2 = q_V δ := (u191).trans v16
          have v195 := kr_t v17 u192
          have f196 := bo_l p187
          have f197 := ti_b r184.1
          replace p188 : ((r184.1).toInt = 1 → (1 : Int) ≠ 0) := p188
          have f198 := ti_b (q_I r7.2 12 0 a0)
          replace p189 : ((q_I r7.2 12 0 a0).toInt = 0 → (r184.1).toInt = 0 → (1 : Int) = 0) := p189
          refine ok_ite (fun h199 => ?_) (fun h199 => ?_)
          · have c200 : r184.1.toInt = (0 : Int) := o_eq h199
            unfold J_X12_asked_56
            exact ok_some (show RI ad h.1 δ0 r184.2 ∧ (kp [(12, 0), (12, 47)] δ r184.2 ∧ q_V r184.2 = q_V δ ∧ kr ad [100, 102, 103, 124] δ r184.2) from ⟨i186, ⟨kp_w (by decide) u193, v194, kr_w (by decide) v195⟩⟩)
          · have c201 : r184.1.toInt ≠ (0 : Int) := o_ne h199
            refine ok_bind (k_X12_goesTo L hN (a0 := a0) (x1 := x1) (x2 := x2) k_a0 (show 0 ≤ (x1).toInt by first | with_reducible assumption | omega) (show (x1).toInt ≤ 3 by first | with_reducible assumption | omega) (show 0 ≤ (x2).toInt by first | with_reducible assumption | omega) (show (x2).toInt ≤ 1000 by first | with_reducible assumption | omega) i186) (fun r202 hr203 => ?_)
            obtain ⟨i204, ⟨u205, u206, u207⟩⟩ := hr203
            have u208 := kp_t u193 u205
            have v209 : q_V r202 = q_V δ := (u206).trans v194
            have v210 := kr_t v195 u207
            refine ok_bind (k_X12_answer L hN (a0 := a0) (x1 := x1) (x2 := x3) (x3 := x4) k_a0 (show 0 ≤ (x1).toInt by first | with_reducible assumption | omega) (show (x1).toInt ≤ 3 by first | with_reducible assumption | omega) i204) (fun r211 hr212 => ?_)
            have i213 := hr212
            try rw [i213]
            have f214 := ti_b r211.1
            refine ok_bind (k_X12_comesBack L hN (a0 := a0) (x1 := x1) k_a0 (show 0 ≤ (x1).toInt by first | with_reducible assumption | omega) (show (x1).toInt ≤ 3 by first | with_reducible assumption | omega) i204) (fun r215 hr216 => ?_)
            obtain ⟨i217, ⟨u218, u219, u220⟩⟩ := hr216
            have u221 := kp_t u208 u218
            have v222 : q_V r215 = q_V δ := (u219).trans v209
            have v223 := kr_t v210 u220
            exact ok_some (show RI ad h.1 δ0 r215 ∧ (kp [(12, 0), (12, 47)] δ r215 ∧ q_V r215 = q_V δ ∧ kr ad [100, 102, 103, 124] δ r215) from ⟨i217, ⟨kp_w (by decide) u221, v222, kr_w (by decide) v223⟩⟩)
set_option maxHeartbeats 4000000 in
theorem k_X12_isThief {ad : List Nat} {h : hp} (L : Lay TLx ad h) {δ0 : dp} {N : Nat} (hN : 10000000 ≤ N) {a0 : Nat} {x1 : Int32} (k_a0 : q_K h.1 a0 = 12) {δ : dp} (I : RI ad h.1 δ0 δ) : ok (D_X12_isThief N h.1 a0 x1 δ) (fun r => RI ad h.1 δ0 r.2 ∧ (kp [(12, 0)] δ r.2 ∧ q_V r.2 = q_V δ ∧ kr ad [100] δ r.2) ∧ bo (r.1) ∧ ((r.1).toInt = 1 → 0 ≤ (x1).toInt ∧ (x1).toInt < (q_I δ 12 24 a0).toInt)) := by
  unfold D_X12_isThief
  refine ok_bind (k_X12_within L hN (x0 := x1) (x1 := (0 : Int32)) (x2 := ((q_I δ 12 24 a0) - (1 : Int32)))  I) (fun r1 hr2 => ?_)
  obtain ⟨i3, p4, p5, p6⟩ := hr2
  try rw [i3]
  have f7 := bo_l p4
  have f8 := ti_b r1.1
  have f9 := ti_b x1
  have f10 := cb_12_24 I k_a0
  first | (have q12 := te_subc (c := 1) (n := 1) rfl (q_I δ 12 24 a0) (by omega) (by omega); obtain ⟨f13, f14, f15⟩ := q12) | (obtain ⟨q12, f13, f14, f15⟩ := ti_subc (c := 1) (n := 1) rfl (q_I δ 12 24 a0))
  replace p5 : ((r1.1).toInt = 1 → (0 : Int) ≤ (x1).toInt ∧ (x1).toInt ≤ (((q_I δ 12 24 a0) - (1 : Int32))).toInt) := p5
  replace p6 : ((r1.1).toInt = 0 → (x1).toInt < (0 : Int) ∨ (((q_I δ 12 24 a0) - (1 : Int32))).toInt < (x1).toInt) := p6
  refine ok_bind (k_X12_may L hN (a0 := a0) (x1 := r1.1) (x2 := (2 : Int32)) (x3 := (1 : Int32)) k_a0 (show (2 : Int) ≠ 0 by first | with_reducible assumption | omega) (show 0 ≤ (1 : Int) by first | with_reducible assumption | omega) (show (1 : Int) ≤ 2 by first | with_reducible assumption | omega) I) (fun r16 hr17 => ?_)
  obtain ⟨i18, ⟨u22, u23, u24⟩, p19, p20, p21⟩ := hr17
  have u25 := kp_t kp_r u22
  have v26 : q_V r16.2 = q_V δ := (u23).trans rfl
  have v27 := kr_t (kr_r (ad := ad)) u24
  have f28 := bo_l p19
  have f29 := ti_b r16.1
  have f30 := ti_b (q_I δ 12 0 a0)
  refine ok_gp (show bo r16.1 by first | assumption | exact bo_0 | exact bo_1 | exact bo_i (by omega) (by omega)) ?_
  exact ok_some (show RI ad h.1 δ0 r16.2 ∧ (kp [(12, 0)] δ r16.2 ∧ q_V r16.2 = q_V δ ∧ kr ad [100] δ r16.2) ∧ bo (r16.1) ∧ ((r16.1).toInt = 1 → 0 ≤ (x1).toInt ∧ (x1).toInt < (q_I δ 12 24 a0).toInt) from ⟨i18, ⟨kp_w (by decide) u25, v26, kr_w (by decide) v27⟩, by first | assumption | exact bo_0 | exact bo_1 | exact bo_i (by omega) (by omega), by first | with_reducible assumption | omega⟩)
set_option maxHeartbeats 4000000 in
theorem kl_X12_image_110 {ad : List Nat} {h : hp} (L : Lay TLx ad h) {δ0 : dp} {N : Nat} (hN : 10000000 ≤ N) {a0 : Nat} (k_a0 : q_K h.1 a0 = 12) : ∀ (n : Nat) (x1v : Int32) (δ : dp), RI ad h.1 δ0 δ → 0 ≤ (x1v).toInt → (x1v).toInt ≤ 4 → (q_I δ 12 18 a0).toInt < 3 → 4 - (x1v).toInt < (n : Int) → ok (L_X12_image_110 N h.1 a0 n x1v δ) (fun r => RI ad h.1 δ0 r.2 ∧ (kp [(12, 0), (12, 18)] δ r.2 ∧ q_V r.2 = q_V δ ∧ kr ad [107, 108, 109, 110, 111] δ r.2) ∧ (r.1).toInt = (q_I δ 12 18 a0).toInt + 1 ∧ (q_I r.2 12 18 a0).toInt = (q_I δ 12 18 a0).toInt + 1) := by
  intro n
  induction n with
  | zero =>
    intro x1v δ I j0 j1 j2 hm
    have f1 := ti_b x1v
    have f2 := cb_12_18 I k_a0
    exfalso; omega
  | succ n ih =>
    intro x1v δ I j0 j1 j2 hm
    unfold L_X12_image_110
    have f1 := ti_b x1v
    have f2 := cb_12_18 I k_a0
    refine ok_ite (fun h3 => ?_) (fun h3 => ?_)
    · have c4 : (4 : Int) ≤ x1v.toInt := o_le h3
      first | (have q9 := te_addc (c := 1) (n := 1) rfl (q_I δ 12 18 a0) (by omega) (by omega); obtain ⟨f10, f11, f12⟩ := q9) | (obtain ⟨q9, f10, f11, f12⟩ := ti_addc (c := 1) (n := 1) rfl (q_I δ 12 18 a0))
      refine ok_bdv (fun d5 e6 => ?_)
      have i7 : RI ad h.1 δ0 d5 := by rw [e6]; exact cs_12_18 L I k_a0 (show 0 ≤ ((q_I δ 12 18 a0) + (1 : Int32)).toInt by omega) (show ((q_I δ 12 18 a0) + (1 : Int32)).toInt ≤ 3 by omega)
      have u13 := kp_I kp_r e6
      have v14 : q_V d5 = q_V δ := ((show q_V d5 = q_V δ by rw [e6]; rfl)).trans rfl
      have v15 := kr_N (kr_r (ad := ad)) (show q_R d5 = q_R δ by rw [e6]; rfl)
      have f16 := cb_12_18 i7 k_a0
      have f17 : (q_I d5 12 18 a0).toInt = ((q_I δ 12 18 a0) + (1 : Int32)).toInt := congrArg Int32.toInt (show q_I d5 12 18 a0 = ((q_I δ 12 18 a0) + (1 : Int32)) by rw [e6]; exact rI_s)
      exact ok_some (show RI ad h.1 δ0 d5 ∧ (kp [(12, 0), (12, 18)] δ d5 ∧ q_V d5 = q_V δ ∧ kr ad [107, 108, 109, 110, 111] δ d5) ∧ ((q_I d5 12 18 a0)).toInt = (q_I δ 12 18 a0).toInt + 1 ∧ (q_I d5 12 18 a0).toInt = (q_I δ 12 18 a0).toInt + 1 from ⟨i7, ⟨kp_w (by decide) u13, v14, kr_w (by decide) v15⟩, by first | with_reducible assumption | omega, by first | with_reducible assumption | omega⟩)
    · have c18 : x1v.toInt < (4 : Int) := o_nle h3
      obtain ⟨b19, o20, k21, n22⟩ := gO_12_20 L k_a0
      obtain rfl := gS_12_20 L k_a0 o20
      refine ok_at o20 ?_
      obtain ⟨b23, o24, k25, n26⟩ := gO_12_14 L k_a0
      obtain rfl := gS_12_14 L k_a0 o24
      refine ok_at o24 ?_
      have t27 := ti_tn x1v
      refine ok_gd (fun hc28 => ?_) ?_
      · rcases hc28 with hc28 | hc28
        · have c29 : x1v.toInt < (0 : Int) := o_lt hc28
          omega
        · omega
      first | (have q31 := te_mulc (c := 4) (n := 4) rfl (q_I δ 12 18 a0) (by omega) (by omega); obtain ⟨f32, f33, f34⟩ := q31) | (obtain ⟨q31, f32, f33, f34⟩ := ti_mulc (c := 4) (n := 4) rfl (q_I δ 12 18 a0))
      first | (have q36 := te_add ((4 : Int32) * (q_I δ 12 18 a0)) x1v (by omega) (by omega); obtain ⟨f37, f38, f39⟩ := q36) | (obtain ⟨q36, f37, f38, f39⟩ := ti_add ((4 : Int32) * (q_I δ 12 18 a0)) x1v)
      have t40 := ti_tn (((4 : Int32) * (q_I δ 12 18 a0)) + x1v)
      refine ok_gd (fun hc41 => ?_) ?_
      · rcases hc41 with hc41 | hc41
        · have c42 : (((4 : Int32) * (q_I δ 12 18 a0)) + x1v).toInt < (0 : Int) := o_lt hc41
          omega
        · omega
      have f46 := rb_103 L I x1v.toNatClampNeg
      refine ok_bdv (fun d43 e44 => ?_)
      have i45 : RI ad h.1 δ0 d43 := by rw [e44]; exact cr_108 L I (show -1000 ≤ (q_R δ (Ad ad 103) x1v.toNatClampNeg).toInt by omega) (show (q_R δ (Ad ad 103) x1v.toNatClampNeg).toInt ≤ 2000 by omega)
      have u47 := kp_N kp_r (show q_I d43 = q_I δ by rw [e44]; rfl)
      have v48 : q_V d43 = q_V δ := ((show q_V d43 = q_V δ by rw [e44]; rfl)).trans rfl
      have v49 := kr_s L (by decide) (kr_r (ad := ad)) e44
      obtain ⟨b50, o51, k52, n53⟩ := gO_12_23 L k_a0
      obtain rfl := gS_12_23 L k_a0 o51
      refine ok_at o51 ?_
      obtain ⟨b54, o55, k56, n57⟩ := gO_12_17 L k_a0
      obtain rfl := gS_12_17 L k_a0 o55
      refine ok_at o55 ?_
      refine ok_gd (fun hc58 => ?_) ?_
      · rcases hc58 with hc58 | hc58
        · have c59 : x1v.toInt < (0 : Int) := o_lt hc58
          omega
        · omega
      have f61 : (q_I d43 12 18 a0).toInt = (q_I δ 12 18 a0).toInt := congrArg Int32.toInt (by rw [e44]; rfl)
      first | (have q62 := te_mulc (c := 4) (n := 4) rfl (q_I d43 12 18 a0) (by omega) (by omega); obtain ⟨f63, f64, f65⟩ := q62) | (obtain ⟨q62, f63, f64, f65⟩ := ti_mulc (c := 4) (n := 4) rfl (q_I d43 12 18 a0))
      first | (have q67 := te_add ((4 : Int32) * (q_I d43 12 18 a0)) x1v (by omega) (by omega); obtain ⟨f68, f69, f70⟩ := q67) | (obtain ⟨q67, f68, f69, f70⟩ := ti_add ((4 : Int32) * (q_I d43 12 18 a0)) x1v)
      have t71 := ti_tn (((4 : Int32) * (q_I d43 12 18 a0)) + x1v)
      refine ok_gd (fun hc72 => ?_) ?_
      · rcases hc72 with hc72 | hc72
        · have c73 : (((4 : Int32) * (q_I d43 12 18 a0)) + x1v).toInt < (0 : Int) := o_lt hc72
          omega
        · omega
      have f77 : (q_R d43 (Ad ad 106) x1v.toNatClampNeg).toInt = (q_R δ (Ad ad 106) x1v.toNatClampNeg).toInt := congrArg Int32.toInt (show q_R d43 (Ad ad 106) x1v.toNatClampNeg = _ by rw [e44, rR_o (ad_ne L (by decide) (by decide) (by decide))])
      have f78 := rb_106 L I x1v.toNatClampNeg
      have f79 := rb_106 L i45 x1v.toNatClampNeg
      refine ok_bdv (fun d74 e75 => ?_)
      have i76 : RI ad h.1 δ0 d74 := by rw [e75]; exact cr_111 L i45 (show 0 ≤ (q_R d43 (Ad ad 106) x1v.toNatClampNeg).toInt by omega) (show (q_R d43 (Ad ad 106) x1v.toNatClampNeg).toInt ≤ 1000 by omega)
      have u80 := kp_N u47 (show q_I d74 = q_I d43 by rw [e75]; rfl)
      have v81 : q_V d74 = q_V δ := ((show q_V d74 = q_V d43 by rw [e75]; rfl)).trans v48
      have v82 := kr_s L (by decide) v49 e75
      refine ok_biv (fun vx83 e84 => ?_)
      first | (have q85 := te_addc (c := 1) (n := 1) rfl x1v (by omega) (by omega); rw [← e84] at q85; obtain ⟨f86, f87, f88⟩ := q85) | (obtain ⟨q85, f86, f87, f88⟩ : ∃ q : Int, vx83.toInt = x1v.toInt + (1 : Int) + 4294967296 * q ∧ -2147483648 ≤ vx83.toInt ∧ vx83.toInt ≤ 2147483647 := by rw [e84]; exact ti_addc (c := 1) (n := 1) rfl x1v)
      have f89 : (q_I d74 12 18 a0).toInt = (q_I d43 12 18 a0).toInt := congrArg Int32.toInt (by rw [e75]; rfl)
      refine ok_mono (ih vx83 d74 i76 (show 0 ≤ (vx83).toInt by first | with_reducible assumption | omega) (show (vx83).toInt ≤ 4 by first | with_reducible assumption | omega) (show (q_I d74 12 18 a0).toInt < 3 by first | with_reducible assumption | omega) (show 4 - (vx83).toInt < _ by omega)) (fun r90 hr91 => ?_)
      obtain ⟨i92, ⟨u95, u96, u97⟩, p93, p94⟩ := hr91
      have u98 := kp_t u80 u95
      have v99 : q_V r90.2 = q_V δ := (u96).trans v81
      have v100 := kr_t v82 u97
      have f101 := ti_b r90.1
      have f102 := cb_12_18 i92 k_a0
      exact ⟨by first | with_reducible assumption | assumption, ⟨kp_w (by decide) u98, v99, kr_w (by decide) v100⟩, by first | with_reducible assumption | omega, by first | with_reducible assumption | omega⟩
set_option maxHeartbeats 4000000 in
theorem kl_X12_image_53 {ad : List Nat} {h : hp} (L : Lay TLx ad h) {δ0 : dp} {N : Nat} (hN : 10000000 ≤ N) {a0 : Nat} (k_a0 : q_K h.1 a0 = 12) : ∀ (n : Nat) (x1v : Int32) (δ : dp), RI ad h.1 δ0 δ → 0 ≤ (x1v).toInt → (x1v).toInt ≤ 4000 → (q_I δ 12 18 a0).toInt < 3 → 4000 - (x1v).toInt < (n : Int) → ok (L_X12_image_53 N h.1 a0 n x1v δ) (fun r => RI ad h.1 δ0 r.2 ∧ (kp [(12, 0), (12, 18)] δ r.2 ∧ q_V r.2 = q_V δ ∧ kr ad [107, 108, 109, 110, 111] δ r.2) ∧ (r.1).toInt = (q_I δ 12 18 a0).toInt + 1 ∧ (q_I r.2 12 18 a0).toInt = (q_I δ 12 18 a0).toInt + 1) := by
  intro n
  induction n with
  | zero =>
    intro x1v δ I j0 j1 j2 hm
    have f1 := ti_b x1v
    have f2 := cb_12_18 I k_a0
    exfalso; omega
  | succ n ih =>
    intro x1v δ I j0 j1 j2 hm
    unfold L_X12_image_53
    have f1 := ti_b x1v
    have f2 := cb_12_18 I k_a0
    refine ok_ite (fun h3 => ?_) (fun h3 => ?_)
    · have c4 : (4000 : Int) ≤ x1v.toInt := o_le h3
      refine ok_mono (kl_X12_image_110 L hN   k_a0 _ (0 : Int32) δ I (show 0 ≤ (0 : Int) by first | with_reducible assumption | omega) (show (0 : Int) ≤ 4 by first | with_reducible assumption | omega) (show (q_I δ 12 18 a0).toInt < 3 by first | with_reducible assumption | omega) (show 4 - (0 : Int) < _ by omega)) (fun r5 hr6 => ?_)
      obtain ⟨i7, ⟨u10, u11, u12⟩, p8, p9⟩ := hr6
      have u13 := kp_t kp_r u10
      have v14 : q_V r5.2 = q_V δ := (u11).trans rfl
      have v15 := kr_t (kr_r (ad := ad)) u12
      have f16 := ti_b r5.1
      have f17 := cb_12_18 i7 k_a0
      exact ⟨by first | with_reducible assumption | assumption, ⟨kp_w (by decide) u13, v14, kr_w (by decide) v15⟩, by first | with_reducible assumption | omega, by first | with_reducible assumption | omega⟩
    · have c18 : x1v.toInt < (4000 : Int) := o_nle h3
      obtain ⟨b19, o20, k21, n22, w23⟩ := gO_12_21 L k_a0
      obtain rfl := gS_12_21 L k_a0 o20
      refine ok_at o20 ?_
      obtain ⟨b24, o25, k26, n27, w28⟩ := gO_12_15 L k_a0
      obtain rfl := gS_12_15 L k_a0 o25
      refine ok_at o25 ?_
      have t29 := ti_tn x1v
      refine ok_gd (fun hc30 => ?_) ?_
      · rcases hc30 with hc30 | hc30
        · have c31 : x1v.toInt < (0 : Int) := o_lt hc30
          omega
        · omega
      first | (have q33 := te_mulc (c := 4000) (n := 4000) rfl (q_I δ 12 18 a0) (by omega) (by omega); obtain ⟨f34, f35, f36⟩ := q33) | (obtain ⟨q33, f34, f35, f36⟩ := ti_mulc (c := 4000) (n := 4000) rfl (q_I δ 12 18 a0))
      first | (have q38 := te_add ((4000 : Int32) * (q_I δ 12 18 a0)) x1v (by omega) (by omega); obtain ⟨f39, f40, f41⟩ := q38) | (obtain ⟨q38, f39, f40, f41⟩ := ti_add ((4000 : Int32) * (q_I δ 12 18 a0)) x1v)
      have t42 := ti_tn (((4000 : Int32) * (q_I δ 12 18 a0)) + x1v)
      refine ok_gd (fun hc43 => ?_) ?_
      · rcases hc43 with hc43 | hc43
        · have c44 : (((4000 : Int32) * (q_I δ 12 18 a0)) + x1v).toInt < (0 : Int) := o_lt hc43
          omega
        · omega
      refine ok_bdv (fun d45 e46 => ?_)
      have i47 : RI ad h.1 δ0 d45 := by rw [e46]; exact RI.sR L I w23
      have u48 := kp_N kp_r (show q_I d45 = q_I δ by rw [e46]; rfl)
      have v49 : q_V d45 = q_V δ := ((show q_V d45 = q_V δ by rw [e46]; rfl)).trans rfl
      have v50 := kr_s L (by decide) (kr_r (ad := ad)) e46
      obtain ⟨b51, o52, k53, n54, w55⟩ := gO_12_22 L k_a0
      obtain rfl := gS_12_22 L k_a0 o52
      refine ok_at o52 ?_
      obtain ⟨b56, o57, k58, n59, w60⟩ := gO_12_16 L k_a0
      obtain rfl := gS_12_16 L k_a0 o57
      refine ok_at o57 ?_
      refine ok_gd (fun hc61 => ?_) ?_
      · rcases hc61 with hc61 | hc61
        · have c62 : x1v.toInt < (0 : Int) := o_lt hc61
          omega
        · omega
      have f64 : (q_I d45 12 18 a0).toInt = (q_I δ 12 18 a0).toInt := congrArg Int32.toInt (by rw [e46]; rfl)
      first | (have q65 := te_mulc (c := 4000) (n := 4000) rfl (q_I d45 12 18 a0) (by omega) (by omega); obtain ⟨f66, f67, f68⟩ := q65) | (obtain ⟨q65, f66, f67, f68⟩ := ti_mulc (c := 4000) (n := 4000) rfl (q_I d45 12 18 a0))
      first | (have q70 := te_add ((4000 : Int32) * (q_I d45 12 18 a0)) x1v (by omega) (by omega); obtain ⟨f71, f72, f73⟩ := q70) | (obtain ⟨q70, f71, f72, f73⟩ := ti_add ((4000 : Int32) * (q_I d45 12 18 a0)) x1v)
      have t74 := ti_tn (((4000 : Int32) * (q_I d45 12 18 a0)) + x1v)
      refine ok_gd (fun hc75 => ?_) ?_
      · rcases hc75 with hc75 | hc75
        · have c76 : (((4000 : Int32) * (q_I d45 12 18 a0)) + x1v).toInt < (0 : Int) := o_lt hc75
          omega
        · omega
      refine ok_bdv (fun d77 e78 => ?_)
      have i79 : RI ad h.1 δ0 d77 := by rw [e78]; exact RI.sR L i47 w55
      have u80 := kp_N u48 (show q_I d77 = q_I d45 by rw [e78]; rfl)
      have v81 : q_V d77 = q_V δ := ((show q_V d77 = q_V d45 by rw [e78]; rfl)).trans v49
      have v82 := kr_s L (by decide) v50 e78
      refine ok_biv (fun vx83 e84 => ?_)
      first | (have q85 := te_addc (c := 1) (n := 1) rfl x1v (by omega) (by omega); rw [← e84] at q85; obtain ⟨f86, f87, f88⟩ := q85) | (obtain ⟨q85, f86, f87, f88⟩ : ∃ q : Int, vx83.toInt = x1v.toInt + (1 : Int) + 4294967296 * q ∧ -2147483648 ≤ vx83.toInt ∧ vx83.toInt ≤ 2147483647 := by rw [e84]; exact ti_addc (c := 1) (n := 1) rfl x1v)
      have f89 : (q_I d77 12 18 a0).toInt = (q_I d45 12 18 a0).toInt := congrArg Int32.toInt (by rw [e78]; rfl)
      refine ok_mono (ih vx83 d77 i79 (show 0 ≤ (vx83).toInt by first | with_reducible assumption | omega) (show (vx83).toInt ≤ 4000 by first | with_reducible assumption | omega) (show (q_I d77 12 18 a0).toInt < 3 by first | with_reducible assumption | omega) (show 4000 - (vx83).toInt < _ by omega)) (fun r90 hr91 => ?_)
      obtain ⟨i92, ⟨u95, u96, u97⟩, p93, p94⟩ := hr91
      have u98 := kp_t u80 u95
      have v99 : q_V r90.2 = q_V δ := (u96).trans v81
      have v100 := kr_t v82 u97
      have f101 := ti_b r90.1
      have f102 := cb_12_18 i92 k_a0
      exact ⟨by first | with_reducible assumption | assumption, ⟨kp_w (by decide) u98, v99, kr_w (by decide) v100⟩, by first | with_reducible assumption | omega, by first | with_reducible assumption | omega⟩
set_option maxHeartbeats 4000000 in
theorem kl_X12_image_17 {ad : List Nat} {h : hp} (L : Lay TLx ad h) {δ0 : dp} {N : Nat} (hN : 10000000 ≤ N) {a0 : Nat} (k_a0 : q_K h.1 a0 = 12) : ∀ (n : Nat) (x1v : Int32) (δ : dp), RI ad h.1 δ0 δ → 0 ≤ (x1v).toInt → (x1v).toInt ≤ 8000 → (q_I δ 12 18 a0).toInt < 3 → 8000 - (x1v).toInt < (n : Int) → ok (L_X12_image_17 N h.1 a0 n x1v δ) (fun r => RI ad h.1 δ0 r.2 ∧ (kp [(12, 0), (12, 18)] δ r.2 ∧ q_V r.2 = q_V δ ∧ kr ad [107, 108, 109, 110, 111] δ r.2) ∧ (r.1).toInt = (q_I δ 12 18 a0).toInt + 1 ∧ (q_I r.2 12 18 a0).toInt = (q_I δ 12 18 a0).toInt + 1) := by
  intro n
  induction n with
  | zero =>
    intro x1v δ I j0 j1 j2 hm
    have f1 := ti_b x1v
    have f2 := cb_12_18 I k_a0
    exfalso; omega
  | succ n ih =>
    intro x1v δ I j0 j1 j2 hm
    unfold L_X12_image_17
    have f1 := ti_b x1v
    have f2 := cb_12_18 I k_a0
    refine ok_ite (fun h3 => ?_) (fun h3 => ?_)
    · have c4 : (8000 : Int) ≤ x1v.toInt := o_le h3
      refine ok_mono (kl_X12_image_53 L hN   k_a0 _ (0 : Int32) δ I (show 0 ≤ (0 : Int) by first | with_reducible assumption | omega) (show (0 : Int) ≤ 4000 by first | with_reducible assumption | omega) (show (q_I δ 12 18 a0).toInt < 3 by first | with_reducible assumption | omega) (show 4000 - (0 : Int) < _ by omega)) (fun r5 hr6 => ?_)
      obtain ⟨i7, ⟨u10, u11, u12⟩, p8, p9⟩ := hr6
      have u13 := kp_t kp_r u10
      have v14 : q_V r5.2 = q_V δ := (u11).trans rfl
      have v15 := kr_t (kr_r (ad := ad)) u12
      have f16 := ti_b r5.1
      have f17 := cb_12_18 i7 k_a0
      exact ⟨by first | with_reducible assumption | assumption, ⟨kp_w (by decide) u13, v14, kr_w (by decide) v15⟩, by first | with_reducible assumption | omega, by first | with_reducible assumption | omega⟩
    · have c18 : x1v.toInt < (8000 : Int) := o_nle h3
      obtain ⟨b19, o20, k21, n22, w23⟩ := gO_12_19 L k_a0
      obtain rfl := gS_12_19 L k_a0 o20
      refine ok_at o20 ?_
      obtain ⟨b24, o25, k26, n27, w28⟩ := gO_12_13 L k_a0
      obtain rfl := gS_12_13 L k_a0 o25
      refine ok_at o25 ?_
      have t29 := ti_tn x1v
      refine ok_gd (fun hc30 => ?_) ?_
      · rcases hc30 with hc30 | hc30
        · have c31 : x1v.toInt < (0 : Int) := o_lt hc30
          omega
        · omega
      first | (have q33 := te_mulc (c := 8000) (n := 8000) rfl (q_I δ 12 18 a0) (by omega) (by omega); obtain ⟨f34, f35, f36⟩ := q33) | (obtain ⟨q33, f34, f35, f36⟩ := ti_mulc (c := 8000) (n := 8000) rfl (q_I δ 12 18 a0))
      first | (have q38 := te_add ((8000 : Int32) * (q_I δ 12 18 a0)) x1v (by omega) (by omega); obtain ⟨f39, f40, f41⟩ := q38) | (obtain ⟨q38, f39, f40, f41⟩ := ti_add ((8000 : Int32) * (q_I δ 12 18 a0)) x1v)
      have t42 := ti_tn (((8000 : Int32) * (q_I δ 12 18 a0)) + x1v)
      refine ok_gd (fun hc43 => ?_) ?_
      · rcases hc43 with hc43 | hc43
        · have c44 : (((8000 : Int32) * (q_I δ 12 18 a0)) + x1v).toInt < (0 : Int) := o_lt hc43
          omega
        · omega
      refine ok_bdv (fun d45 e46 => ?_)
      have i47 : RI ad h.1 δ0 d45 := by rw [e46]; exact RI.sR L I w23
      have u48 := kp_N kp_r (show q_I d45 = q_I δ by rw [e46]; rfl)
      have v49 : q_V d45 = q_V δ := ((show q_V d45 = q_V δ by rw [e46]; rfl)).trans rfl
      have v50 := kr_s L (by decide) (kr_r (ad := ad)) e46
      refine ok_biv (fun vx51 e52 => ?_)
      first | (have q53 := te_addc (c := 1) (n := 1) rfl x1v (by omega) (by omega); rw [← e52] at q53; obtain ⟨f54, f55, f56⟩ := q53) | (obtain ⟨q53, f54, f55, f56⟩ : ∃ q : Int, vx51.toInt = x1v.toInt + (1 : Int) + 4294967296 * q ∧ -2147483648 ≤ vx51.toInt ∧ vx51.toInt ≤ 2147483647 := by rw [e52]; exact ti_addc (c := 1) (n := 1) rfl x1v)
      have f57 : (q_I d45 12 18 a0).toInt = (q_I δ 12 18 a0).toInt := congrArg Int32.toInt (by rw [e46]; rfl)
      refine ok_mono (ih vx51 d45 i47 (show 0 ≤ (vx51).toInt by first | with_reducible assumption | omega) (show (vx51).toInt ≤ 8000 by first | with_reducible assumption | omega) (show (q_I d45 12 18 a0).toInt < 3 by first | with_reducible assumption | omega) (show 8000 - (vx51).toInt < _ by omega)) (fun r58 hr59 => ?_)
      obtain ⟨i60, ⟨u63, u64, u65⟩, p61, p62⟩ := hr59
      have u66 := kp_t u48 u63
      have v67 : q_V r58.2 = q_V δ := (u64).trans v49
      have v68 := kr_t v50 u65
      have f69 := ti_b r58.1
      have f70 := cb_12_18 i60 k_a0
      exact ⟨by first | with_reducible assumption | assumption, ⟨kp_w (by decide) u66, v67, kr_w (by decide) v68⟩, by first | with_reducible assumption | omega, by first | with_reducible assumption | omega⟩
set_option maxHeartbeats 4000000 in
theorem k_X12_image {ad : List Nat} {h : hp} (L : Lay TLx ad h) {δ0 : dp} {N : Nat} (hN : 10000000 ≤ N) {a0 : Nat} (k_a0 : q_K h.1 a0 = 12) {δ : dp} (I : RI ad h.1 δ0 δ) : ok (D_X12_image N h.1 a0 δ) (fun r => RI ad h.1 δ0 r.2 ∧ (kp [(12, 0), (12, 18)] δ r.2 ∧ q_V r.2 = q_V δ ∧ kr ad [107, 108, 109, 110, 111] δ r.2) ∧ ((q_I δ 12 18 a0).toInt < 3 → (r.1).toInt = (q_I δ 12 18 a0).toInt + 1 ∧ (q_I r.2 12 18 a0).toInt = (q_I δ 12 18 a0).toInt + 1) ∧ (3 ≤ (q_I δ 12 18 a0).toInt → (r.1).toInt = -1 ∧ (q_I r.2 12 18 a0).toInt = (q_I δ 12 18 a0).toInt)) := by
  unfold D_X12_image
  refine ok_bdv (fun d1 e2 => ?_)
  have i3 : RI ad h.1 δ0 d1 := by rw [e2]; exact cs_12_0 L I
  have u4 := kp_I kp_r e2
  have v5 : q_V d1 = q_V δ := ((show q_V d1 = q_V δ by rw [e2]; rfl)).trans rfl
  have v6 := kr_N (kr_r (ad := ad)) (show q_R d1 = q_R δ by rw [e2]; rfl)
  have f7 : (q_I d1 12 18 a0).toInt = (q_I δ 12 18 a0).toInt := congrArg Int32.toInt (by rw [e2]; exact rI_o (by decide))
  have f8 := cb_12_18 I k_a0
  refine ok_ite (fun h9 => ?_) (fun h9 => ?_)
  · have c10 : (q_I d1 12 18 a0).toInt = (3 : Int) := o_eq h9
    exact ok_some (show RI ad h.1 δ0 d1 ∧ (kp [(12, 0), (12, 18)] δ d1 ∧ q_V d1 = q_V δ ∧ kr ad [107, 108, 109, 110, 111] δ d1) ∧ ((q_I δ 12 18 a0).toInt < 3 → (-1 : Int) = (q_I δ 12 18 a0).toInt + 1 ∧ (q_I d1 12 18 a0).toInt = (q_I δ 12 18 a0).toInt + 1) ∧ (3 ≤ (q_I δ 12 18 a0).toInt → (-1 : Int) = -1 ∧ (q_I d1 12 18 a0).toInt = (q_I δ 12 18 a0).toInt) from ⟨i3, ⟨kp_w (by decide) u4, v5, kr_w (by decide) v6⟩, by first | with_reducible assumption | omega, by first | with_reducible assumption | omega⟩)
  · have c11 : (q_I d1 12 18 a0).toInt ≠ (3 : Int) := o_ne h9
    refine ok_mono (kl_X12_image_17 L hN   k_a0 _ (0 : Int32) d1 i3 (show 0 ≤ (0 : Int) by first | with_reducible assumption | omega) (show (0 : Int) ≤ 8000 by first | with_reducible assumption | omega) (show (q_I d1 12 18 a0).toInt < 3 by first | with_reducible assumption | omega) (show 8000 - (0 : Int) < _ by omega)) (fun r12 hr13 => ?_)
    obtain ⟨i14, ⟨u17, u18, u19⟩, p15, p16⟩ := hr13
    have u20 := kp_t u4 u17
    have v21 : q_V r12.2 = q_V δ := (u18).trans v5
    have v22 := kr_t v6 u19
    have f23 := ti_b r12.1
    have f24 := cb_12_18 i14 k_a0
    exact ⟨by first | with_reducible assumption | assumption, ⟨kp_w (by decide) u20, v21, kr_w (by decide) v22⟩, by first | with_reducible assumption | omega, by first | with_reducible assumption | omega⟩
set_option maxHeartbeats 4000000 in
theorem kl_X12_restore_119 {ad : List Nat} {h : hp} (L : Lay TLx ad h) {δ0 : dp} {N : Nat} (hN : 10000000 ≤ N) {a0 : Nat} (k_a0 : q_K h.1 a0 = 12) : ∀ (n : Nat) (x1v : Int32) (δ : dp), RI ad h.1 δ0 δ → 0 ≤ (x1v).toInt → (x1v).toInt ≤ 4 → (q_I δ 12 18 a0).toInt < 3 → 4 - (x1v).toInt < (n : Int) → ok (L_X12_restore_119 N h.1 a0 n x1v δ) (fun r => RI ad h.1 δ0 r.2 ∧ (kp [(12, 0), (12, 18)] δ r.2 ∧ q_V r.2 = q_V δ ∧ kr ad [102, 103, 104, 105, 106] δ r.2) ∧ (r.1).toInt = (q_I δ 12 18 a0).toInt ∧ (q_I r.2 12 18 a0).toInt = (q_I δ 12 18 a0).toInt) := by
  intro n
  induction n with
  | zero =>
    intro x1v δ I j0 j1 j2 hm
    have f1 := ti_b x1v
    have f2 := cb_12_18 I k_a0
    exfalso; omega
  | succ n ih =>
    intro x1v δ I j0 j1 j2 hm
    unfold L_X12_restore_119
    have f1 := ti_b x1v
    have f2 := cb_12_18 I k_a0
    refine ok_ite (fun h3 => ?_) (fun h3 => ?_)
    · have c4 : (4 : Int) ≤ x1v.toInt := o_le h3
      exact ok_some (show RI ad h.1 δ0 δ ∧ (kp [(12, 0), (12, 18)] δ δ ∧ q_V δ = q_V δ ∧ kr ad [102, 103, 104, 105, 106] δ δ) ∧ ((q_I δ 12 18 a0)).toInt = (q_I δ 12 18 a0).toInt ∧ (q_I δ 12 18 a0).toInt = (q_I δ 12 18 a0).toInt from ⟨I, ⟨kp_w (by decide) kp_r, rfl, kr_w (by decide) (kr_r (ad := ad))⟩, by first | with_reducible assumption | omega, by first | with_reducible assumption | omega⟩)
    · have c5 : x1v.toInt < (4 : Int) := o_nle h3
      obtain ⟨b6, o7, k8, n9⟩ := gO_12_14 L k_a0
      obtain rfl := gS_12_14 L k_a0 o7
      refine ok_at o7 ?_
      obtain ⟨b10, o11, k12, n13⟩ := gO_12_20 L k_a0
      obtain rfl := gS_12_20 L k_a0 o11
      refine ok_at o11 ?_
      first | (have q15 := te_mulc (c := 4) (n := 4) rfl (q_I δ 12 18 a0) (by omega) (by omega); obtain ⟨f16, f17, f18⟩ := q15) | (obtain ⟨q15, f16, f17, f18⟩ := ti_mulc (c := 4) (n := 4) rfl (q_I δ 12 18 a0))
      first | (have q20 := te_add ((4 : Int32) * (q_I δ 12 18 a0)) x1v (by omega) (by omega); obtain ⟨f21, f22, f23⟩ := q20) | (obtain ⟨q20, f21, f22, f23⟩ := ti_add ((4 : Int32) * (q_I δ 12 18 a0)) x1v)
      have t24 := ti_tn (((4 : Int32) * (q_I δ 12 18 a0)) + x1v)
      refine ok_gd (fun hc25 => ?_) ?_
      · rcases hc25 with hc25 | hc25
        · have c26 : (((4 : Int32) * (q_I δ 12 18 a0)) + x1v).toInt < (0 : Int) := o_lt hc25
          omega
        · omega
      have t27 := ti_tn x1v
      refine ok_gd (fun hc28 => ?_) ?_
      · rcases hc28 with hc28 | hc28
        · have c29 : x1v.toInt < (0 : Int) := o_lt hc28
          omega
        · omega
      have f33 := rb_108 L I (((4 : Int32) * (q_I δ 12 18 a0)) + x1v).toNatClampNeg
      refine ok_bdv (fun d30 e31 => ?_)
      have i32 : RI ad h.1 δ0 d30 := by rw [e31]; exact cr_103 L I (show -1000 ≤ (q_R δ (Ad ad 108) (((4 : Int32) * (q_I δ 12 18 a0)) + x1v).toNatClampNeg).toInt by omega) (show (q_R δ (Ad ad 108) (((4 : Int32) * (q_I δ 12 18 a0)) + x1v).toNatClampNeg).toInt ≤ 2000 by omega)
      have u34 := kp_N kp_r (show q_I d30 = q_I δ by rw [e31]; rfl)
      have v35 : q_V d30 = q_V δ := ((show q_V d30 = q_V δ by rw [e31]; rfl)).trans rfl
      have v36 := kr_s L (by decide) (kr_r (ad := ad)) e31
      obtain ⟨b37, o38, k39, n40⟩ := gO_12_17 L k_a0
      obtain rfl := gS_12_17 L k_a0 o38
      refine ok_at o38 ?_
      obtain ⟨b41, o42, k43, n44⟩ := gO_12_23 L k_a0
      obtain rfl := gS_12_23 L k_a0 o42
      refine ok_at o42 ?_
      have f46 : (q_I d30 12 18 a0).toInt = (q_I δ 12 18 a0).toInt := congrArg Int32.toInt (by rw [e31]; rfl)
      first | (have q47 := te_mulc (c := 4) (n := 4) rfl (q_I d30 12 18 a0) (by omega) (by omega); obtain ⟨f48, f49, f50⟩ := q47) | (obtain ⟨q47, f48, f49, f50⟩ := ti_mulc (c := 4) (n := 4) rfl (q_I d30 12 18 a0))
      first | (have q52 := te_add ((4 : Int32) * (q_I d30 12 18 a0)) x1v (by omega) (by omega); obtain ⟨f53, f54, f55⟩ := q52) | (obtain ⟨q52, f53, f54, f55⟩ := ti_add ((4 : Int32) * (q_I d30 12 18 a0)) x1v)
      have t56 := ti_tn (((4 : Int32) * (q_I d30 12 18 a0)) + x1v)
      refine ok_gd (fun hc57 => ?_) ?_
      · rcases hc57 with hc57 | hc57
        · have c58 : (((4 : Int32) * (q_I d30 12 18 a0)) + x1v).toInt < (0 : Int) := o_lt hc57
          omega
        · omega
      refine ok_gd (fun hc59 => ?_) ?_
      · rcases hc59 with hc59 | hc59
        · have c60 : x1v.toInt < (0 : Int) := o_lt hc59
          omega
        · omega
      have f64 : (q_R d30 (Ad ad 111) (((4 : Int32) * (q_I d30 12 18 a0)) + x1v).toNatClampNeg).toInt = (q_R δ (Ad ad 111) (((4 : Int32) * (q_I d30 12 18 a0)) + x1v).toNatClampNeg).toInt := congrArg Int32.toInt (show q_R d30 (Ad ad 111) (((4 : Int32) * (q_I d30 12 18 a0)) + x1v).toNatClampNeg = _ by rw [e31, rR_o (ad_ne L (by decide) (by decide) (by decide))])
      have f65 := rb_111 L I (((4 : Int32) * (q_I d30 12 18 a0)) + x1v).toNatClampNeg
      have f66 := rb_111 L i32 (((4 : Int32) * (q_I d30 12 18 a0)) + x1v).toNatClampNeg
      refine ok_bdv (fun d61 e62 => ?_)
      have i63 : RI ad h.1 δ0 d61 := by rw [e62]; exact cr_106 L i32 (show 0 ≤ (q_R d30 (Ad ad 111) (((4 : Int32) * (q_I d30 12 18 a0)) + x1v).toNatClampNeg).toInt by omega) (show (q_R d30 (Ad ad 111) (((4 : Int32) * (q_I d30 12 18 a0)) + x1v).toNatClampNeg).toInt ≤ 1000 by omega)
      have u67 := kp_N u34 (show q_I d61 = q_I d30 by rw [e62]; rfl)
      have v68 : q_V d61 = q_V δ := ((show q_V d61 = q_V d30 by rw [e62]; rfl)).trans v35
      have v69 := kr_s L (by decide) v36 e62
      refine ok_biv (fun vx70 e71 => ?_)
      first | (have q72 := te_addc (c := 1) (n := 1) rfl x1v (by omega) (by omega); rw [← e71] at q72; obtain ⟨f73, f74, f75⟩ := q72) | (obtain ⟨q72, f73, f74, f75⟩ : ∃ q : Int, vx70.toInt = x1v.toInt + (1 : Int) + 4294967296 * q ∧ -2147483648 ≤ vx70.toInt ∧ vx70.toInt ≤ 2147483647 := by rw [e71]; exact ti_addc (c := 1) (n := 1) rfl x1v)
      have f76 : (q_I d61 12 18 a0).toInt = (q_I d30 12 18 a0).toInt := congrArg Int32.toInt (by rw [e62]; rfl)
      refine ok_mono (ih vx70 d61 i63 (show 0 ≤ (vx70).toInt by first | with_reducible assumption | omega) (show (vx70).toInt ≤ 4 by first | with_reducible assumption | omega) (show (q_I d61 12 18 a0).toInt < 3 by first | with_reducible assumption | omega) (show 4 - (vx70).toInt < _ by omega)) (fun r77 hr78 => ?_)
      obtain ⟨i79, ⟨u82, u83, u84⟩, p80, p81⟩ := hr78
      have u85 := kp_t u67 u82
      have v86 : q_V r77.2 = q_V δ := (u83).trans v68
      have v87 := kr_t v69 u84
      have f88 := ti_b r77.1
      have f89 := cb_12_18 i79 k_a0
      exact ⟨by first | with_reducible assumption | assumption, ⟨kp_w (by decide) u85, v86, kr_w (by decide) v87⟩, by first | with_reducible assumption | omega, by first | with_reducible assumption | omega⟩
set_option maxHeartbeats 4000000 in
theorem kl_X12_restore_62 {ad : List Nat} {h : hp} (L : Lay TLx ad h) {δ0 : dp} {N : Nat} (hN : 10000000 ≤ N) {a0 : Nat} (k_a0 : q_K h.1 a0 = 12) : ∀ (n : Nat) (x1v : Int32) (δ : dp), RI ad h.1 δ0 δ → 0 ≤ (x1v).toInt → (x1v).toInt ≤ 4000 → (q_I δ 12 18 a0).toInt < 3 → 4000 - (x1v).toInt < (n : Int) → ok (L_X12_restore_62 N h.1 a0 n x1v δ) (fun r => RI ad h.1 δ0 r.2 ∧ (kp [(12, 0), (12, 18)] δ r.2 ∧ q_V r.2 = q_V δ ∧ kr ad [102, 103, 104, 105, 106] δ r.2) ∧ (r.1).toInt = (q_I δ 12 18 a0).toInt ∧ (q_I r.2 12 18 a0).toInt = (q_I δ 12 18 a0).toInt) := by
  intro n
  induction n with
  | zero =>
    intro x1v δ I j0 j1 j2 hm
    have f1 := ti_b x1v
    have f2 := cb_12_18 I k_a0
    exfalso; omega
  | succ n ih =>
    intro x1v δ I j0 j1 j2 hm
    unfold L_X12_restore_62
    have f1 := ti_b x1v
    have f2 := cb_12_18 I k_a0
    refine ok_ite (fun h3 => ?_) (fun h3 => ?_)
    · have c4 : (4000 : Int) ≤ x1v.toInt := o_le h3
      refine ok_mono (kl_X12_restore_119 L hN   k_a0 _ (0 : Int32) δ I (show 0 ≤ (0 : Int) by first | with_reducible assumption | omega) (show (0 : Int) ≤ 4 by first | with_reducible assumption | omega) (show (q_I δ 12 18 a0).toInt < 3 by first | with_reducible assumption | omega) (show 4 - (0 : Int) < _ by omega)) (fun r5 hr6 => ?_)
      obtain ⟨i7, ⟨u10, u11, u12⟩, p8, p9⟩ := hr6
      have u13 := kp_t kp_r u10
      have v14 : q_V r5.2 = q_V δ := (u11).trans rfl
      have v15 := kr_t (kr_r (ad := ad)) u12
      have f16 := ti_b r5.1
      have f17 := cb_12_18 i7 k_a0
      exact ⟨by first | with_reducible assumption | assumption, ⟨kp_w (by decide) u13, v14, kr_w (by decide) v15⟩, by first | with_reducible assumption | omega, by first | with_reducible assumption | omega⟩
    · have c18 : x1v.toInt < (4000 : Int) := o_nle h3
      obtain ⟨b19, o20, k21, n22, w23⟩ := gO_12_15 L k_a0
      obtain rfl := gS_12_15 L k_a0 o20
      refine ok_at o20 ?_
      obtain ⟨b24, o25, k26, n27, w28⟩ := gO_12_21 L k_a0
      obtain rfl := gS_12_21 L k_a0 o25
      refine ok_at o25 ?_
      first | (have q30 := te_mulc (c := 4000) (n := 4000) rfl (q_I δ 12 18 a0) (by omega) (by omega); obtain ⟨f31, f32, f33⟩ := q30) | (obtain ⟨q30, f31, f32, f33⟩ := ti_mulc (c := 4000) (n := 4000) rfl (q_I δ 12 18 a0))
      first | (have q35 := te_add ((4000 : Int32) * (q_I δ 12 18 a0)) x1v (by omega) (by omega); obtain ⟨f36, f37, f38⟩ := q35) | (obtain ⟨q35, f36, f37, f38⟩ := ti_add ((4000 : Int32) * (q_I δ 12 18 a0)) x1v)
      have t39 := ti_tn (((4000 : Int32) * (q_I δ 12 18 a0)) + x1v)
      refine ok_gd (fun hc40 => ?_) ?_
      · rcases hc40 with hc40 | hc40
        · have c41 : (((4000 : Int32) * (q_I δ 12 18 a0)) + x1v).toInt < (0 : Int) := o_lt hc40
          omega
        · omega
      have t42 := ti_tn x1v
      refine ok_gd (fun hc43 => ?_) ?_
      · rcases hc43 with hc43 | hc43
        · have c44 : x1v.toInt < (0 : Int) := o_lt hc43
          omega
        · omega
      refine ok_bdv (fun d45 e46 => ?_)
      have i47 : RI ad h.1 δ0 d45 := by rw [e46]; exact RI.sR L I w23
      have u48 := kp_N kp_r (show q_I d45 = q_I δ by rw [e46]; rfl)
      have v49 : q_V d45 = q_V δ := ((show q_V d45 = q_V δ by rw [e46]; rfl)).trans rfl
      have v50 := kr_s L (by decide) (kr_r (ad := ad)) e46
      obtain ⟨b51, o52, k53, n54, w55⟩ := gO_12_16 L k_a0
      obtain rfl := gS_12_16 L k_a0 o52
      refine ok_at o52 ?_
      obtain ⟨b56, o57, k58, n59, w60⟩ := gO_12_22 L k_a0
      obtain rfl := gS_12_22 L k_a0 o57
      refine ok_at o57 ?_
      have f62 : (q_I d45 12 18 a0).toInt = (q_I δ 12 18 a0).toInt := congrArg Int32.toInt (by rw [e46]; rfl)
      first | (have q63 := te_mulc (c := 4000) (n := 4000) rfl (q_I d45 12 18 a0) (by omega) (by omega); obtain ⟨f64, f65, f66⟩ := q63) | (obtain ⟨q63, f64, f65, f66⟩ := ti_mulc (c := 4000) (n := 4000) rfl (q_I d45 12 18 a0))
      first | (have q68 := te_add ((4000 : Int32) * (q_I d45 12 18 a0)) x1v (by omega) (by omega); obtain ⟨f69, f70, f71⟩ := q68) | (obtain ⟨q68, f69, f70, f71⟩ := ti_add ((4000 : Int32) * (q_I d45 12 18 a0)) x1v)
      have t72 := ti_tn (((4000 : Int32) * (q_I d45 12 18 a0)) + x1v)
      refine ok_gd (fun hc73 => ?_) ?_
      · rcases hc73 with hc73 | hc73
        · have c74 : (((4000 : Int32) * (q_I d45 12 18 a0)) + x1v).toInt < (0 : Int) := o_lt hc73
          omega
        · omega
      refine ok_gd (fun hc75 => ?_) ?_
      · rcases hc75 with hc75 | hc75
        · have c76 : x1v.toInt < (0 : Int) := o_lt hc75
          omega
        · omega
      refine ok_bdv (fun d77 e78 => ?_)
      have i79 : RI ad h.1 δ0 d77 := by rw [e78]; exact RI.sR L i47 w55
      have u80 := kp_N u48 (show q_I d77 = q_I d45 by rw [e78]; rfl)
      have v81 : q_V d77 = q_V δ := ((show q_V d77 = q_V d45 by rw [e78]; rfl)).trans v49
      have v82 := kr_s L (by decide) v50 e78
      refine ok_biv (fun vx83 e84 => ?_)
      first | (have q85 := te_addc (c := 1) (n := 1) rfl x1v (by omega) (by omega); rw [← e84] at q85; obtain ⟨f86, f87, f88⟩ := q85) | (obtain ⟨q85, f86, f87, f88⟩ : ∃ q : Int, vx83.toInt = x1v.toInt + (1 : Int) + 4294967296 * q ∧ -2147483648 ≤ vx83.toInt ∧ vx83.toInt ≤ 2147483647 := by rw [e84]; exact ti_addc (c := 1) (n := 1) rfl x1v)
      have f89 : (q_I d77 12 18 a0).toInt = (q_I d45 12 18 a0).toInt := congrArg Int32.toInt (by rw [e78]; rfl)
      refine ok_mono (ih vx83 d77 i79 (show 0 ≤ (vx83).toInt by first | with_reducible assumption | omega) (show (vx83).toInt ≤ 4000 by first | with_reducible assumption | omega) (show (q_I d77 12 18 a0).toInt < 3 by first | with_reducible assumption | omega) (show 4000 - (vx83).toInt < _ by omega)) (fun r90 hr91 => ?_)
      obtain ⟨i92, ⟨u95, u96, u97⟩, p93, p94⟩ := hr91
      have u98 := kp_t u80 u95
      have v99 : q_V r90.2 = q_V δ := (u96).trans v81
      have v100 := kr_t v82 u97
      have f101 := ti_b r90.1
      have f102 := cb_12_18 i92 k_a0
      exact ⟨by first | with_reducible assumption | assumption, ⟨kp_w (by decide) u98, v99, kr_w (by decide) v100⟩, by first | with_reducible assumption | omega, by first | with_reducible assumption | omega⟩
set_option maxHeartbeats 4000000 in
theorem kl_X12_restore_26 {ad : List Nat} {h : hp} (L : Lay TLx ad h) {δ0 : dp} {N : Nat} (hN : 10000000 ≤ N) {a0 : Nat} (k_a0 : q_K h.1 a0 = 12) : ∀ (n : Nat) (x1v : Int32) (δ : dp), RI ad h.1 δ0 δ → 0 ≤ (x1v).toInt → (x1v).toInt ≤ 8000 → (q_I δ 12 18 a0).toInt < 3 → 8000 - (x1v).toInt < (n : Int) → ok (L_X12_restore_26 N h.1 a0 n x1v δ) (fun r => RI ad h.1 δ0 r.2 ∧ (kp [(12, 0), (12, 18)] δ r.2 ∧ q_V r.2 = q_V δ ∧ kr ad [102, 103, 104, 105, 106] δ r.2) ∧ (r.1).toInt = (q_I δ 12 18 a0).toInt ∧ (q_I r.2 12 18 a0).toInt = (q_I δ 12 18 a0).toInt) := by
  intro n
  induction n with
  | zero =>
    intro x1v δ I j0 j1 j2 hm
    have f1 := ti_b x1v
    have f2 := cb_12_18 I k_a0
    exfalso; omega
  | succ n ih =>
    intro x1v δ I j0 j1 j2 hm
    unfold L_X12_restore_26
    have f1 := ti_b x1v
    have f2 := cb_12_18 I k_a0
    refine ok_ite (fun h3 => ?_) (fun h3 => ?_)
    · have c4 : (8000 : Int) ≤ x1v.toInt := o_le h3
      refine ok_mono (kl_X12_restore_62 L hN   k_a0 _ (0 : Int32) δ I (show 0 ≤ (0 : Int) by first | with_reducible assumption | omega) (show (0 : Int) ≤ 4000 by first | with_reducible assumption | omega) (show (q_I δ 12 18 a0).toInt < 3 by first | with_reducible assumption | omega) (show 4000 - (0 : Int) < _ by omega)) (fun r5 hr6 => ?_)
      obtain ⟨i7, ⟨u10, u11, u12⟩, p8, p9⟩ := hr6
      have u13 := kp_t kp_r u10
      have v14 : q_V r5.2 = q_V δ := (u11).trans rfl
      have v15 := kr_t (kr_r (ad := ad)) u12
      have f16 := ti_b r5.1
      have f17 := cb_12_18 i7 k_a0
      exact ⟨by first | with_reducible assumption | assumption, ⟨kp_w (by decide) u13, v14, kr_w (by decide) v15⟩, by first | with_reducible assumption | omega, by first | with_reducible assumption | omega⟩
    · have c18 : x1v.toInt < (8000 : Int) := o_nle h3
      obtain ⟨b19, o20, k21, n22, w23⟩ := gO_12_13 L k_a0
      obtain rfl := gS_12_13 L k_a0 o20
      refine ok_at o20 ?_
      obtain ⟨b24, o25, k26, n27, w28⟩ := gO_12_19 L k_a0
      obtain rfl := gS_12_19 L k_a0 o25
      refine ok_at o25 ?_
      first | (have q30 := te_mulc (c := 8000) (n := 8000) rfl (q_I δ 12 18 a0) (by omega) (by omega); obtain ⟨f31, f32, f33⟩ := q30) | (obtain ⟨q30, f31, f32, f33⟩ := ti_mulc (c := 8000) (n := 8000) rfl (q_I δ 12 18 a0))
      first | (have q35 := te_add ((8000 : Int32) * (q_I δ 12 18 a0)) x1v (by omega) (by omega); obtain ⟨f36, f37, f38⟩ := q35) | (obtain ⟨q35, f36, f37, f38⟩ := ti_add ((8000 : Int32) * (q_I δ 12 18 a0)) x1v)
      have t39 := ti_tn (((8000 : Int32) * (q_I δ 12 18 a0)) + x1v)
      refine ok_gd (fun hc40 => ?_) ?_
      · rcases hc40 with hc40 | hc40
        · have c41 : (((8000 : Int32) * (q_I δ 12 18 a0)) + x1v).toInt < (0 : Int) := o_lt hc40
          omega
        · omega
      have t42 := ti_tn x1v
      refine ok_gd (fun hc43 => ?_) ?_
      · rcases hc43 with hc43 | hc43
        · have c44 : x1v.toInt < (0 : Int) := o_lt hc43
          omega
        · omega
      refine ok_bdv (fun d45 e46 => ?_)
      have i47 : RI ad h.1 δ0 d45 := by rw [e46]; exact RI.sR L I w23
      have u48 := kp_N kp_r (show q_I d45 = q_I δ by rw [e46]; rfl)
      have v49 : q_V d45 = q_V δ := ((show q_V d45 = q_V δ by rw [e46]; rfl)).trans rfl
      have v50 := kr_s L (by decide) (kr_r (ad := ad)) e46
      refine ok_biv (fun vx51 e52 => ?_)
      first | (have q53 := te_addc (c := 1) (n := 1) rfl x1v (by omega) (by omega); rw [← e52] at q53; obtain ⟨f54, f55, f56⟩ := q53) | (obtain ⟨q53, f54, f55, f56⟩ : ∃ q : Int, vx51.toInt = x1v.toInt + (1 : Int) + 4294967296 * q ∧ -2147483648 ≤ vx51.toInt ∧ vx51.toInt ≤ 2147483647 := by rw [e52]; exact ti_addc (c := 1) (n := 1) rfl x1v)
      have f57 : (q_I d45 12 18 a0).toInt = (q_I δ 12 18 a0).toInt := congrArg Int32.toInt (by rw [e46]; rfl)
      refine ok_mono (ih vx51 d45 i47 (show 0 ≤ (vx51).toInt by first | with_reducible assumption | omega) (show (vx51).toInt ≤ 8000 by first | with_reducible assumption | omega) (show (q_I d45 12 18 a0).toInt < 3 by first | with_reducible assumption | omega) (show 8000 - (vx51).toInt < _ by omega)) (fun r58 hr59 => ?_)
      obtain ⟨i60, ⟨u63, u64, u65⟩, p61, p62⟩ := hr59
      have u66 := kp_t u48 u63
      have v67 : q_V r58.2 = q_V δ := (u64).trans v49
      have v68 := kr_t v50 u65
      have f69 := ti_b r58.1
      have f70 := cb_12_18 i60 k_a0
      exact ⟨by first | with_reducible assumption | assumption, ⟨kp_w (by decide) u66, v67, kr_w (by decide) v68⟩, by first | with_reducible assumption | omega, by first | with_reducible assumption | omega⟩
set_option maxHeartbeats 4000000 in
theorem k_X12_restore {ad : List Nat} {h : hp} (L : Lay TLx ad h) {δ0 : dp} {N : Nat} (hN : 10000000 ≤ N) {a0 : Nat} (k_a0 : q_K h.1 a0 = 12) {δ : dp} (I : RI ad h.1 δ0 δ) : ok (D_X12_restore N h.1 a0 δ) (fun r => RI ad h.1 δ0 r.2 ∧ (kp [(12, 0), (12, 18)] δ r.2 ∧ q_V r.2 = q_V δ ∧ kr ad [102, 103, 104, 105, 106] δ r.2) ∧ (0 < (q_I δ 12 18 a0).toInt → (r.1).toInt = (q_I δ 12 18 a0).toInt - 1 ∧ (q_I r.2 12 18 a0).toInt = (q_I δ 12 18 a0).toInt - 1) ∧ ((q_I δ 12 18 a0).toInt ≤ 0 → (r.1).toInt = -1 ∧ (q_I r.2 12 18 a0).toInt = (q_I δ 12 18 a0).toInt)) := by
  unfold D_X12_restore
  refine ok_bdv (fun d1 e2 => ?_)
  have i3 : RI ad h.1 δ0 d1 := by rw [e2]; exact cs_12_0 L I
  have u4 := kp_I kp_r e2
  have v5 : q_V d1 = q_V δ := ((show q_V d1 = q_V δ by rw [e2]; rfl)).trans rfl
  have v6 := kr_N (kr_r (ad := ad)) (show q_R d1 = q_R δ by rw [e2]; rfl)
  have f7 : (q_I d1 12 18 a0).toInt = (q_I δ 12 18 a0).toInt := congrArg Int32.toInt (by rw [e2]; exact rI_o (by decide))
  have f8 := cb_12_18 I k_a0
  refine ok_ite (fun h9 => ?_) (fun h9 => ?_)
  · have c10 : (q_I d1 12 18 a0).toInt = (0 : Int) := o_eq h9
    exact ok_some (show RI ad h.1 δ0 d1 ∧ (kp [(12, 0), (12, 18)] δ d1 ∧ q_V d1 = q_V δ ∧ kr ad [102, 103, 104, 105, 106] δ d1) ∧ (0 < (q_I δ 12 18 a0).toInt → (-1 : Int) = (q_I δ 12 18 a0).toInt - 1 ∧ (q_I d1 12 18 a0).toInt = (q_I δ 12 18 a0).toInt - 1) ∧ ((q_I δ 12 18 a0).toInt ≤ 0 → (-1 : Int) = -1 ∧ (q_I d1 12 18 a0).toInt = (q_I δ 12 18 a0).toInt) from ⟨i3, ⟨kp_w (by decide) u4, v5, kr_w (by decide) v6⟩, by first | with_reducible assumption | omega, by first | with_reducible assumption | omega⟩)
  · have c11 : (q_I d1 12 18 a0).toInt ≠ (0 : Int) := o_ne h9
    first | (have q16 := te_subc (c := 1) (n := 1) rfl (q_I d1 12 18 a0) (by omega) (by omega); obtain ⟨f17, f18, f19⟩ := q16) | (obtain ⟨q16, f17, f18, f19⟩ := ti_subc (c := 1) (n := 1) rfl (q_I d1 12 18 a0))
    refine ok_bdv (fun d12 e13 => ?_)
    have i14 : RI ad h.1 δ0 d12 := by rw [e13]; exact cs_12_18 L i3 k_a0 (show 0 ≤ ((q_I d1 12 18 a0) - (1 : Int32)).toInt by omega) (show ((q_I d1 12 18 a0) - (1 : Int32)).toInt ≤ 3 by omega)
    have u20 := kp_I u4 e13
    have v21 : q_V d12 = q_V δ := ((show q_V d12 = q_V d1 by rw [e13]; rfl)).trans v5
    have v22 := kr_N v6 (show q_R d12 = q_R d1 by rw [e13]; rfl)
    have f23 := cb_12_18 i14 k_a0
    have f24 : (q_I d12 12 18 a0).toInt = ((q_I d1 12 18 a0) - (1 : Int32)).toInt := congrArg Int32.toInt (show q_I d12 12 18 a0 = ((q_I d1 12 18 a0) - (1 : Int32)) by rw [e13]; exact rI_s)
    refine ok_mono (kl_X12_restore_26 L hN   k_a0 _ (0 : Int32) d12 i14 (show 0 ≤ (0 : Int) by first | with_reducible assumption | omega) (show (0 : Int) ≤ 8000 by first | with_reducible assumption | omega) (show (q_I d12 12 18 a0).toInt < 3 by first | with_reducible assumption | omega) (show 8000 - (0 : Int) < _ by omega)) (fun r25 hr26 => ?_)
    obtain ⟨i27, ⟨u30, u31, u32⟩, p28, p29⟩ := hr26
    have u33 := kp_t u20 u30
    have v34 : q_V r25.2 = q_V δ := (u31).trans v21
    have v35 := kr_t v22 u32
    have f36 := ti_b r25.1
    have f37 := cb_12_18 i27 k_a0
    exact ⟨by first | with_reducible assumption | assumption, ⟨kp_w (by decide) u33, v34, kr_w (by decide) v35⟩, by first | with_reducible assumption | omega, by first | with_reducible assumption | omega⟩
set_option maxHeartbeats 4000000 in
theorem k_X12_status {ad : List Nat} {h : hp} (L : Lay TLx ad h) {δ0 : dp} {N : Nat} (hN : 10000000 ≤ N) {a0 : Nat} {x1 : Int32} (k_a0 : q_K h.1 a0 = 12) {δ : dp} (I : RI ad h.1 δ0 δ) : ok (D_X12_status N h.1 a0 x1 δ) (fun r => RI ad h.1 δ0 r.2 ∧ (kp [(12, 0)] δ r.2 ∧ q_V r.2 = q_V δ ∧ q_R r.2 = q_R δ ∧ kr ad [] δ r.2)) := by
  unfold D_X12_status
  refine ok_bdv (fun d1 e2 => ?_)
  have i3 : RI ad h.1 δ0 d1 := by rw [e2]; exact cs_12_0 L I
  have u4 := kp_I kp_r e2
  have v5 : q_V d1 = q_V δ := ((show q_V d1 = q_V δ by rw [e2]; rfl)).trans rfl
  have v6 : q_R d1 = q_R δ := ((show q_R d1 = q_R δ by rw [e2]; rfl)).trans rfl
  have v7 := kr_N (kr_r (ad := ad)) (show q_R d1 = q_R δ by rw [e2]; rfl)
  refine ok_bind (k_X12_within L hN (x0 := x1) (x1 := (0 : Int32)) (x2 := (2 : Int32))  i3) (fun r8 hr9 => ?_)
  obtain ⟨i10, p11, p12, p13⟩ := hr9
  try rw [i10]
  have f14 := bo_l p11
  have f15 := ti_b r8.1
  have f16 := ti_b x1
  replace p12 : ((r8.1).toInt = 1 → (0 : Int) ≤ (x1).toInt ∧ (x1).toInt ≤ (2 : Int)) := p12
  replace p13 : ((r8.1).toInt = 0 → (x1).toInt < (0 : Int) ∨ (2 : Int) < (x1).toInt) := p13
  refine ok_ite (fun h17 => ?_) (fun h17 => ?_)
  · have c18 : r8.1.toInt = (0 : Int) := o_eq h17
    unfold J_X12_status_24
    exact ok_some (show RI ad h.1 δ0 d1 ∧ (kp [(12, 0)] δ d1 ∧ q_V d1 = q_V δ ∧ q_R d1 = q_R δ ∧ kr ad [] δ d1) from ⟨i3, ⟨kp_w (by decide) u4, v5, v6, kr_w (by decide) v7⟩⟩)
  · have c19 : r8.1.toInt ≠ (0 : Int) := o_ne h17
    obtain ⟨b20, o21, k22, n23, w24⟩ := gO_12_1 L k_a0
    obtain rfl := gS_12_1 L k_a0 o21
    refine ok_at o21 ?_
    have t25 := ti_tn x1
    refine ok_gd (fun hc26 => ?_) ?_
    · rcases hc26 with hc26 | hc26
      · have c27 : x1.toInt < (0 : Int) := o_lt hc26
        omega
      · omega
    unfold J_X12_status_24
    exact ok_some (show RI ad h.1 δ0 d1 ∧ (kp [(12, 0)] δ d1 ∧ q_V d1 = q_V δ ∧ q_R d1 = q_R δ ∧ kr ad [] δ d1) from ⟨i3, ⟨kp_w (by decide) u4, v5, v6, kr_w (by decide) v7⟩⟩)
set_option maxHeartbeats 4000000 in
theorem k_X12_count {ad : List Nat} {h : hp} (L : Lay TLx ad h) {δ0 : dp} {N : Nat} (hN : 10000000 ≤ N) {a0 : Nat} {x1 : Int32} (k_a0 : q_K h.1 a0 = 12) {δ : dp} (I : RI ad h.1 δ0 δ) : ok (D_X12_count N h.1 a0 x1 δ) (fun r => RI ad h.1 δ0 r.2 ∧ (kp [(12, 0)] δ r.2 ∧ q_V r.2 = q_V δ ∧ q_R r.2 = q_R δ ∧ kr ad [] δ r.2)) := by
  unfold D_X12_count
  refine ok_bdv (fun d1 e2 => ?_)
  have i3 : RI ad h.1 δ0 d1 := by rw [e2]; exact cs_12_0 L I
  have u4 := kp_I kp_r e2
  have v5 : q_V d1 = q_V δ := ((show q_V d1 = q_V δ by rw [e2]; rfl)).trans rfl
  have v6 : q_R d1 = q_R δ := ((show q_R d1 = q_R δ by rw [e2]; rfl)).trans rfl
  have v7 := kr_N (kr_r (ad := ad)) (show q_R d1 = q_R δ by rw [e2]; rfl)
  have f8 := ti_b x1
  refine ok_ite (fun h9 => ?_) (fun h9 => ?_)
  · have c10 : x1.toInt = (0 : Int) := o_eq h9
    unfold J_X12_count_64
    exact ok_some (show RI ad h.1 δ0 d1 ∧ (kp [(12, 0)] δ d1 ∧ q_V d1 = q_V δ ∧ q_R d1 = q_R δ ∧ kr ad [] δ d1) from ⟨i3, ⟨kp_w (by decide) u4, v5, v6, kr_w (by decide) v7⟩⟩)
  · have c11 : x1.toInt ≠ (0 : Int) := o_ne h9
    refine ok_ite (fun h12 => ?_) (fun h12 => ?_)
    · have c13 : x1.toInt = (1 : Int) := o_eq h12
      unfold J_X12_count_64
      exact ok_some (show RI ad h.1 δ0 d1 ∧ (kp [(12, 0)] δ d1 ∧ q_V d1 = q_V δ ∧ q_R d1 = q_R δ ∧ kr ad [] δ d1) from ⟨i3, ⟨kp_w (by decide) u4, v5, v6, kr_w (by decide) v7⟩⟩)
    · have c14 : x1.toInt ≠ (1 : Int) := o_ne h12
      refine ok_ite (fun h15 => ?_) (fun h15 => ?_)
      · have c16 : x1.toInt = (2 : Int) := o_eq h15
        obtain ⟨b17, o18, k19, n20⟩ := gO_12_14 L k_a0
        obtain rfl := gS_12_14 L k_a0 o18
        refine ok_at o18 ?_
        have t21 : (0 : Int32).toNatClampNeg = 0 := rfl
        refine ok_gd (fun hc22 => ?_) ?_
        · rcases hc22 with hc22 | hc22
          · have c23 : (0 : Int) < (0 : Int) := o_lt hc22
            omega
          · omega
        refine ok_at o18 ?_
        have t24 : (1 : Int32).toNatClampNeg = 1 := rfl
        refine ok_gd (fun hc25 => ?_) ?_
        · rcases hc25 with hc25 | hc25
          · have c26 : (1 : Int) < (0 : Int) := o_lt hc25
            omega
          · omega
        refine ok_at o18 ?_
        have t27 : (2 : Int32).toNatClampNeg = 2 := rfl
        refine ok_gd (fun hc28 => ?_) ?_
        · rcases hc28 with hc28 | hc28
          · have c29 : (2 : Int) < (0 : Int) := o_lt hc28
            omega
          · omega
        refine ok_at o18 ?_
        have t30 : (3 : Int32).toNatClampNeg = 3 := rfl
        refine ok_gd (fun hc31 => ?_) ?_
        · rcases hc31 with hc31 | hc31
          · have c32 : (3 : Int) < (0 : Int) := o_lt hc31
            omega
          · omega
        unfold J_X12_count_64
        exact ok_some (show RI ad h.1 δ0 d1 ∧ (kp [(12, 0)] δ d1 ∧ q_V d1 = q_V δ ∧ q_R d1 = q_R δ ∧ kr ad [] δ d1) from ⟨i3, ⟨kp_w (by decide) u4, v5, v6, kr_w (by decide) v7⟩⟩)
      · have c33 : x1.toInt ≠ (2 : Int) := o_ne h15
        unfold J_X12_count_64
        exact ok_some (show RI ad h.1 δ0 d1 ∧ (kp [(12, 0)] δ d1 ∧ q_V d1 = q_V δ ∧ q_R d1 = q_R δ ∧ kr ad [] δ d1) from ⟨i3, ⟨kp_w (by decide) u4, v5, v6, kr_w (by decide) v7⟩⟩)
