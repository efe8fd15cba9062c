/-! 55.kX3 (by gen_safe.py) -/
set_option maxHeartbeats 4000000 in
theorem kl_X3_firstFrom_7 {ad : List Nat} {h : hp} (L : Lay TLx ad h) {δ0 : dp} {N : Nat} (hN : 10000000 ≤ N) {a0 : Nat} {x1 : Int32} (k_a0 : q_K h.1 a0 = 3) : ∀ (n : Nat) (x2v : Int32) (x3v : Int32) (δ : dp), CI ad h.1 δ0 δ → 0 ≤ (x2v).toInt → (x2v).toInt ≤ (x3v).toInt → (x3v).toInt ≤ (q_I δ 3 1 a0).toInt → (x3v).toInt - (x2v).toInt < (n : Int) → ok (L_X3_firstFrom_7 N h.1 a0 x1 n x2v x3v δ) (fun r => r.2 = δ ∧ 0 ≤ (r.1).toInt ∧ (r.1).toInt ≤ (q_I δ 3 1 a0).toInt) := by
  intro n
  induction n with
  | zero =>
    intro x2v x3v δ I j0 j1 j2 hm
    have f1 := ti_b x2v
    have f2 := ti_b x3v
    obtain ⟨b3, o4, k5, ⟨n6, n7⟩, w8⟩ := gO_3_0 L k_a0
    have f9 := cb_3_1 I k_a0 o4
    exfalso; omega
  | succ n ih =>
    intro x2v x3v δ I j0 j1 j2 hm
    unfold L_X3_firstFrom_7
    have f1 := ti_b x2v
    have f2 := ti_b x3v
    obtain ⟨b3, o4, k5, ⟨n6, n7⟩, w8⟩ := gO_3_0 L k_a0
    have f9 := cb_3_1 I k_a0 o4
    refine ok_ite (fun h10 => ?_) (fun h10 => ?_)
    · have c11 : x3v.toInt ≤ x2v.toInt := o_le h10
      exact ok_some (show δ = δ ∧ 0 ≤ (x2v).toInt ∧ (x2v).toInt ≤ (q_I δ 3 1 a0).toInt from ⟨rfl, by first | assumption | omega, by first | assumption | omega⟩)
    · have c12 : x2v.toInt < x3v.toInt := o_nle h10
      first | (have q16 := te_add x2v x3v (by omega) (by omega); obtain ⟨f17, f18, f19⟩ := q16) | (obtain ⟨q16, f17, f18, f19⟩ := ti_add x2v x3v)
      have f20 := ti_div (c := 2) (n := 2) rfl (by decide) (x2v + x3v)
      have f21 := ti_b ((x2v + x3v) / (2 : Int32))
      refine ok_biv (fun vx13 e14 => ?_)
      have f22 : vx13.toInt = ((x2v + x3v) / (2 : Int32)).toInt := congrArg Int32.toInt e14
      refine ok_at o4 ?_
      have t23 := ti_tn vx13
      refine ok_gd (fun hc24 => ?_) ?_
      · rcases hc24 with hc24 | hc24
        · have c25 : vx13.toInt < (0 : Int) := o_lt hc24
          omega
        · omega
      have f26 := ti_b x1
      have f27 := ti_b (q_R δ b3 vx13.toNatClampNeg)
      refine ok_ite (fun h28 => ?_) (fun h28 => ?_)
      · have c29 : x1.toInt ≤ (q_R δ b3 vx13.toNatClampNeg).toInt := o_le h28
        unfold J_X3_firstFrom_41
        refine ok_mono (ih x2v vx13 δ I (show 0 ≤ (x2v).toInt by first | assumption | omega) (show (x2v).toInt ≤ (vx13).toInt by first | assumption | omega) (show (vx13).toInt ≤ (q_I δ 3 1 a0).toInt by first | assumption | omega) (show (vx13).toInt - (x2v).toInt < _ by omega)) (fun r30 hr31 => ?_)
        obtain ⟨i32, p33, p34⟩ := hr31
        have f35 := ti_b r30.1
        have f36 := ti_b r30.1
        exact ⟨by assumption, by first | assumption | omega, by first | assumption | omega⟩
      · have c37 : (q_R δ b3 vx13.toNatClampNeg).toInt < x1.toInt := o_nle h28
        refine ok_biv (fun vx38 e39 => ?_)
        first | (have q40 := te_addc (c := 1) (n := 1) rfl vx13 (by omega) (by omega); rw [← e39] at q40; obtain ⟨f41, f42, f43⟩ := q40) | (obtain ⟨q40, f41, f42, f43⟩ : ∃ q : Int, vx38.toInt = vx13.toInt + (1 : Int) + 4294967296 * q ∧ -2147483648 ≤ vx38.toInt ∧ vx38.toInt ≤ 2147483647 := by rw [e39]; exact ti_addc (c := 1) (n := 1) rfl vx13)
        unfold J_X3_firstFrom_41
        refine ok_mono (ih vx38 x3v δ I (show 0 ≤ (vx38).toInt by first | assumption | omega) (show (vx38).toInt ≤ (x3v).toInt by first | assumption | omega) (show (x3v).toInt ≤ (q_I δ 3 1 a0).toInt by first | assumption | omega) (show (x3v).toInt - (vx38).toInt < _ by omega)) (fun r44 hr45 => ?_)
        obtain ⟨i46, p47, p48⟩ := hr45
        have f49 := ti_b r44.1
        have f50 := ti_b r44.1
        exact ⟨by assumption, by first | assumption | omega, by first | assumption | omega⟩
set_option maxHeartbeats 4000000 in
theorem k_X3_firstFrom {ad : List Nat} {h : hp} (L : Lay TLx ad h) {δ0 : dp} {N : Nat} (hN : 10000000 ≤ N) {a0 : Nat} {x1 : Int32} (k_a0 : q_K h.1 a0 = 3) {δ : dp} (I : CI ad h.1 δ0 δ) : ok (D_X3_firstFrom N h.1 a0 x1 δ) (fun r => r.2 = δ ∧ 0 ≤ (r.1).toInt ∧ (r.1).toInt ≤ (q_I δ 3 1 a0).toInt) := by
  unfold D_X3_firstFrom
  obtain ⟨b3, o4, k5, ⟨n6, n7⟩, w8⟩ := gO_3_0 L k_a0
  have f9 := cb_3_1 I k_a0 o4
  refine ok_biv (fun vx1 e2 => ?_)
  have f10 : vx1.toInt = (q_I δ 3 1 a0).toInt := congrArg Int32.toInt e2
  refine ok_mono (kl_X3_firstFrom_7 L hN   k_a0 _ (0 : Int32) vx1 δ I (show 0 ≤ (0 : Int) by first | assumption | omega) (show (0 : Int) ≤ (vx1).toInt by first | assumption | omega) (show (vx1).toInt ≤ (q_I δ 3 1 a0).toInt by first | assumption | omega) (show (vx1).toInt - (0 : Int) < _ by omega)) (fun r11 hr12 => ?_)
  obtain ⟨i13, p14, p15⟩ := hr12
  have f16 := ti_b r11.1
  have f17 := ti_b r11.1
  exact ⟨by assumption, by first | assumption | omega, by first | assumption | omega⟩
set_option maxHeartbeats 4000000 in
theorem k_X3_at {ad : List Nat} {h : hp} (L : Lay TLx ad h) {δ0 : dp} {N : Nat} (hN : 10000000 ≤ N) {a0 : Nat} {x1 : Int32} (k_a0 : q_K h.1 a0 = 3) {δ : dp} (I : CI ad h.1 δ0 δ) : ok (D_X3_at N h.1 a0 x1 δ) (fun r => r.2 = δ) := by
  unfold D_X3_at
  have f1 := ti_b x1
  refine ok_ite (fun h2 => ?_) (fun h2 => ?_)
  · have c3 : x1.toInt < (0 : Int) := o_lt h2
    unfold J_X3_at_12
    unfold J_X3_at_22
    exact ok_some (show δ = δ from rfl)
  · have c4 : (0 : Int) ≤ x1.toInt := o_nlt h2
    obtain ⟨b5, o6, k7, ⟨n8, n9⟩, w10⟩ := gO_3_0 L k_a0
    have f11 := cb_3_1 I k_a0 o6
    refine ok_ite (fun h12 => ?_) (fun h12 => ?_)
    · have c13 : x1.toInt < (q_I δ 3 1 a0).toInt := o_lt h12
      refine ok_at o6 ?_
      have t14 := ti_tn x1
      refine ok_gd (fun hc15 => ?_) ?_
      · rcases hc15 with hc15 | hc15
        · have c16 : x1.toInt < (0 : Int) := o_lt hc15
          omega
        · omega
      unfold J_X3_at_22
      exact ok_some (show δ = δ from rfl)
    · have c17 : (q_I δ 3 1 a0).toInt ≤ x1.toInt := o_nlt h12
      unfold J_X3_at_12
      unfold J_X3_at_22
      exact ok_some (show δ = δ from rfl)
set_option maxHeartbeats 4000000 in
theorem k_X3_holds {ad : List Nat} {h : hp} (L : Lay TLx ad h) {δ0 : dp} {N : Nat} (hN : 10000000 ≤ N) {a0 : Nat} {x1 : Int32} (k_a0 : q_K h.1 a0 = 3) {δ : dp} (I : CI ad h.1 δ0 δ) : ok (D_X3_holds N h.1 a0 x1 δ) (fun r => r.2 = δ ∧ bo (r.1)) := by
  unfold D_X3_holds
  refine ok_bind (k_X3_firstFrom L hN (a0 := a0) (x1 := x1) k_a0 I) (fun r1 hr2 => ?_)
  obtain ⟨i3, p4, p5⟩ := hr2
  try rw [i3]
  have f6 := ti_b r1.1
  obtain ⟨b7, o8, k9, ⟨n10, n11⟩, w12⟩ := gO_3_0 L k_a0
  have f13 := cb_3_1 I k_a0 o8
  have f14 := ti_b r1.1
  refine ok_ite (fun h15 => ?_) (fun h15 => ?_)
  · have c16 : (q_I δ 3 1 a0).toInt ≤ r1.1.toInt := o_le h15
    unfold J_X3_holds_28
    unfold J_X3_holds_29
    refine ok_gp (by decide) ?_
    exact ok_some (show δ = δ ∧ bo ((0 : Int32)) from ⟨rfl, bo_0⟩)
  · have c17 : r1.1.toInt < (q_I δ 3 1 a0).toInt := o_nle h15
    refine ok_at o8 ?_
    have t18 := ti_tn r1.1
    refine ok_gd (fun hc19 => ?_) ?_
    · rcases hc19 with hc19 | hc19
      · have c20 : r1.1.toInt < (0 : Int) := o_lt hc19
        omega
      · omega
    have f21 := ti_b (q_R δ b7 r1.1.toNatClampNeg)
    have f22 := ti_b x1
    refine ok_ite (fun h23 => ?_) (fun h23 => ?_)
    · have c24 : (q_R δ b7 r1.1.toNatClampNeg).toInt = x1.toInt := o_eq h23
      unfold J_X3_holds_29
      refine ok_gp (by decide) ?_
      exact ok_some (show δ = δ ∧ bo ((1 : Int32)) from ⟨rfl, bo_1⟩)
    · have c25 : (q_R δ b7 r1.1.toNatClampNeg).toInt ≠ x1.toInt := o_ne h23
      unfold J_X3_holds_28
      unfold J_X3_holds_29
      refine ok_gp (by decide) ?_
      exact ok_some (show δ = δ ∧ bo ((0 : Int32)) from ⟨rfl, bo_0⟩)
set_option maxHeartbeats 4000000 in
theorem k_X3_above {ad : List Nat} {h : hp} (L : Lay TLx ad h) {δ0 : dp} {N : Nat} (hN : 10000000 ≤ N) {a0 : Nat} {x1 : Int32} (k_a0 : q_K h.1 a0 = 3) {δ : dp} (I : CI ad h.1 δ0 δ) : ok (D_X3_above N h.1 a0 x1 δ) (fun r => r.2 = δ) := by
  unfold D_X3_above
  refine ok_bind (k_X3_firstFrom L hN (a0 := a0) (x1 := (x1 + (1 : Int32))) k_a0 I) (fun r1 hr2 => ?_)
  obtain ⟨i3, p4, p5⟩ := hr2
  try rw [i3]
  have f6 := ti_b r1.1
  obtain ⟨b7, o8, k9, ⟨n10, n11⟩, w12⟩ := gO_3_0 L k_a0
  have f13 := cb_3_1 I k_a0 o8
  have f14 := ti_b r1.1
  refine ok_bind (k_X3_at L hN (a0 := a0) (x1 := r1.1) k_a0 I) (fun r15 hr16 => ?_)
  have i17 := hr16
  try rw [i17]
  have f18 := ti_b r15.1
  exact ok_some (show δ = δ from rfl)
set_option maxHeartbeats 4000000 in
theorem k_X3_below {ad : List Nat} {h : hp} (L : Lay TLx ad h) {δ0 : dp} {N : Nat} (hN : 10000000 ≤ N) {a0 : Nat} {x1 : Int32} (k_a0 : q_K h.1 a0 = 3) {δ : dp} (I : CI ad h.1 δ0 δ) : ok (D_X3_below N h.1 a0 x1 δ) (fun r => r.2 = δ) := by
  unfold D_X3_below
  refine ok_bind (k_X3_firstFrom L hN (a0 := a0) (x1 := x1) k_a0 I) (fun r1 hr2 => ?_)
  obtain ⟨i3, p4, p5⟩ := hr2
  try rw [i3]
  have f6 := ti_b r1.1
  obtain ⟨b7, o8, k9, ⟨n10, n11⟩, w12⟩ := gO_3_0 L k_a0
  have f13 := cb_3_1 I k_a0 o8
  have f14 := ti_b r1.1
  refine ok_bind (k_X3_at L hN (a0 := a0) (x1 := (r1.1 - (1 : Int32))) k_a0 I) (fun r15 hr16 => ?_)
  have i17 := hr16
  try rw [i17]
  have f18 := ti_b r15.1
  exact ok_some (show δ = δ from rfl)
set_option maxHeartbeats 4000000 in
theorem k_X3_tell {ad : List Nat} {h : hp} (L : Lay TLx ad h) {δ0 : dp} {N : Nat} (hN : 10000000 ≤ N) {a0 : Nat} {x1 : Int32} (k_a0 : q_K h.1 a0 = 3) {δ : dp} (I : CI ad h.1 δ0 δ) : ok (D_X3_tell N h.1 a0 x1 δ) (fun r => r.2 = δ) := by
  unfold D_X3_tell
  have f1 := ti_b x1
  refine ok_ite (fun h2 => ?_) (fun h2 => ?_)
  · have c3 : x1.toInt = (0 : Int) := o_eq h2
    unfold J_X3_tell_34
    exact ok_some (show δ = δ from rfl)
  · have c4 : x1.toInt ≠ (0 : Int) := o_ne h2
    refine ok_ite (fun h5 => ?_) (fun h5 => ?_)
    · have c6 : x1.toInt = (1 : Int) := o_eq h5
      refine ok_bind (k_X3_at L hN (a0 := a0) (x1 := (0 : Int32)) k_a0 I) (fun r7 hr8 => ?_)
      have i9 := hr8
      try rw [i9]
      have f10 := ti_b r7.1
      unfold J_X3_tell_34
      exact ok_some (show δ = δ from rfl)
    · have c11 : x1.toInt ≠ (1 : Int) := o_ne h5
      refine ok_bind (k_X3_at L hN (a0 := a0) (x1 := ((q_I δ 3 1 a0) - (1 : Int32))) k_a0 I) (fun r12 hr13 => ?_)
      have i14 := hr13
      try rw [i14]
      have f15 := ti_b r12.1
      unfold J_X3_tell_34
      exact ok_some (show δ = δ from rfl)
set_option maxHeartbeats 4000000 in
theorem k_X3_clear {ad : List Nat} {h : hp} (L : Lay TLx ad h) {δ0 : dp} {N : Nat} (hN : 10000000 ≤ N) {a0 : Nat} (k_a0 : q_K h.1 a0 = 3) {δ : dp} (I : CI ad h.1 δ0 δ) : ok (D_X3_clear N h.1 a0 δ) (fun r => CI ad h.1 δ0 r ∧ (kp [(3, 1)] δ r ∧ q_V r = q_V δ ∧ q_R r = q_R δ) ∧ (q_I r 3 1 a0).toInt = 0) := by
  unfold D_X3_clear
  obtain ⟨b4, o5, k6, ⟨n7, n8⟩, w9⟩ := gO_3_0 L k_a0
  refine ok_bdv (fun d1 e2 => ?_)
  have i3 : CI ad h.1 δ0 d1 := by rw [e2]; exact cs_3_1 L I o5 (show 0 ≤ (0 : Int) by omega) (show (0 : Int) ≤ (q_N h.1 b4 : Int) by omega)
  have u10 := kp_I kp_r e2
  have v11 : q_V d1 = q_V δ := ((show q_V d1 = q_V δ by rw [e2]; rfl)).trans rfl
  have v12 : q_R d1 = q_R δ := ((show q_R d1 = q_R δ by rw [e2]; rfl)).trans rfl
  have f13 := cb_3_1 i3 k_a0 o5
  have f14 : (q_I d1 3 1 a0).toInt = (0 : Int) := congrArg Int32.toInt (show q_I d1 3 1 a0 = (0 : Int32) by rw [e2]; exact rI_s)
  exact ok_some (show CI ad h.1 δ0 d1 ∧ (kp [(3, 1)] δ d1 ∧ q_V d1 = q_V δ ∧ q_R d1 = q_R δ) ∧ (q_I d1 3 1 a0).toInt = 0 from ⟨i3, ⟨kp_w (by decide) u10, v11, v12⟩, by first | assumption | omega⟩)
set_option maxHeartbeats 4000000 in
theorem k_X3_add {ad : List Nat} {h : hp} (L : Lay TLx ad h) {δ0 : dp} {N : Nat} (hN : 10000000 ≤ N) {a0 : Nat} {x1 : Int32} (k_a0 : q_K h.1 a0 = 3) {δ : dp} (I : CI ad h.1 δ0 δ) : ok (D_X3_add N h.1 a0 x1 δ) (fun r => CI ad h.1 δ0 r.2 ∧ (kp [(3, 1)] δ r.2 ∧ q_V r.2 = q_V δ) ∧ bo (r.1)) := by
  unfold D_X3_add
  refine ok_bind (k_X3_firstFrom L hN (a0 := a0) (x1 := x1) k_a0 I) (fun r1 hr2 => ?_)
  obtain ⟨i3, p4, p5⟩ := hr2
  try rw [i3]
  have f6 := ti_b r1.1
  obtain ⟨b7, o8, k9, ⟨n10, n11⟩, w12⟩ := gO_3_0 L k_a0
  have f13 := cb_3_1 I k_a0 o8
  have f14 := ti_b r1.1
  refine ok_ite (fun h15 => ?_) (fun h15 => ?_)
  · have c16 : (q_I δ 3 1 a0).toInt ≤ r1.1.toInt := o_le h15
    unfold J_X3_add_24
    refine ok_at o8 ?_
    have f17 := n_ti (q_N h.1 b7) (by omega)
    refine ok_ite (fun h18 => ?_) (fun h18 => ?_)
    · have c19 : (q_I δ 3 1 a0).toInt < (Int32.ofNat (q_N h.1 b7)).toInt := o_lt h18
      refine ok_at o8 ?_
      refine ok_at o8 ?_
      first | (have q21 := te_addc (c := 1) (n := 1) rfl r1.1 (by omega) (by omega); obtain ⟨f22, f23, f24⟩ := q21) | (obtain ⟨q21, f22, f23, f24⟩ := ti_addc (c := 1) (n := 1) rfl r1.1)
      first | (have q26 := te_sub (q_I δ 3 1 a0) r1.1 (by omega) (by omega); obtain ⟨f27, f28, f29⟩ := q26) | (obtain ⟨q26, f27, f28, f29⟩ := ti_sub (q_I δ 3 1 a0) r1.1)
      have t30 := ti_tn r1.1
      have t31 := ti_tn ((q_I δ 3 1 a0) - r1.1)
      have t32 := ti_tn (r1.1 + (1 : Int32))
      refine ok_gd (fun hc33 => ?_) ?_
      · rcases hc33 with hc33 | hc33 | hc33 | hc33 | hc33
        · have c34 : r1.1.toInt < (0 : Int) := o_lt hc33
          omega
        · have c35 : (r1.1 + (1 : Int32)).toInt < (0 : Int) := o_lt hc33
          omega
        · have c36 : ((q_I δ 3 1 a0) - r1.1).toInt < (0 : Int) := o_lt hc33
          omega
        · omega
        · omega
      refine ok_bdv (fun d37 e38 => ?_)
      have i39 : CI ad h.1 δ0 d37 := by rw [e38]; exact CI.sC L I w12
      have u40 := kp_N kp_r (show q_I d37 = q_I δ by rw [e38]; rfl)
      have v41 : q_V d37 = q_V δ := ((show q_V d37 = q_V δ by rw [e38]; rfl)).trans rfl
      refine ok_at o8 ?_
      refine ok_gd (fun hc42 => ?_) ?_
      · rcases hc42 with hc42 | hc42
        · have c43 : r1.1.toInt < (0 : Int) := o_lt hc42
          omega
        · omega
      refine ok_bdv (fun d44 e45 => ?_)
      have i46 : CI ad h.1 δ0 d44 := by rw [e45]; exact CI.sR L i39 w12
      have u47 := kp_N u40 (show q_I d44 = q_I d37 by rw [e45]; rfl)
      have v48 : q_V d44 = q_V δ := ((show q_V d44 = q_V d37 by rw [e45]; rfl)).trans v41
      have f52 := cb_3_1 i46 k_a0 o8
      have f53 : (q_I d44 3 1 a0).toInt = (q_I d37 3 1 a0).toInt := congrArg Int32.toInt (by rw [e45]; rfl)
      have f54 := cb_3_1 i39 k_a0 o8
      have f55 : (q_I d37 3 1 a0).toInt = (q_I δ 3 1 a0).toInt := congrArg Int32.toInt (by rw [e38]; rfl)
      first | (have q57 := te_addc (c := 1) (n := 1) rfl (q_I d44 3 1 a0) (by omega) (by omega); obtain ⟨f58, f59, f60⟩ := q57) | (obtain ⟨q57, f58, f59, f60⟩ := ti_addc (c := 1) (n := 1) rfl (q_I d44 3 1 a0))
      refine ok_bdv (fun d49 e50 => ?_)
      have i51 : CI ad h.1 δ0 d49 := by rw [e50]; exact cs_3_1 L i46 o8 (show 0 ≤ ((q_I d44 3 1 a0) + (1 : Int32)).toInt by omega) (show ((q_I d44 3 1 a0) + (1 : Int32)).toInt ≤ (q_N h.1 b7 : Int) by omega)
      have u61 := kp_I u47 e50
      have v62 : q_V d49 = q_V δ := ((show q_V d49 = q_V d44 by rw [e50]; rfl)).trans v48
      refine ok_gp (by decide) ?_
      exact ok_some (show CI ad h.1 δ0 d49 ∧ (kp [(3, 1)] δ d49 ∧ q_V d49 = q_V δ) ∧ bo ((1 : Int32)) from ⟨i51, ⟨kp_w (by decide) u61, v62⟩, bo_1⟩)
    · have c63 : (Int32.ofNat (q_N h.1 b7)).toInt ≤ (q_I δ 3 1 a0).toInt := o_nlt h18
      unfold J_X3_add_36
      refine ok_gp (by decide) ?_
      exact ok_some (show CI ad h.1 δ0 δ ∧ (kp [(3, 1)] δ δ ∧ q_V δ = q_V δ) ∧ bo ((0 : Int32)) from ⟨I, ⟨kp_w (by decide) kp_r, rfl⟩, bo_0⟩)
  · have c64 : r1.1.toInt < (q_I δ 3 1 a0).toInt := o_nle h15
    refine ok_at o8 ?_
    have t65 := ti_tn r1.1
    refine ok_gd (fun hc66 => ?_) ?_
    · rcases hc66 with hc66 | hc66
      · have c67 : r1.1.toInt < (0 : Int) := o_lt hc66
        omega
      · omega
    have f68 := ti_b (q_R δ b7 r1.1.toNatClampNeg)
    have f69 := ti_b x1
    refine ok_ite (fun h70 => ?_) (fun h70 => ?_)
    · have c71 : (q_R δ b7 r1.1.toNatClampNeg).toInt = x1.toInt := o_eq h70
      unfold J_X3_add_36
      refine ok_gp (by decide) ?_
      exact ok_some (show CI ad h.1 δ0 δ ∧ (kp [(3, 1)] δ δ ∧ q_V δ = q_V δ) ∧ bo ((0 : Int32)) from ⟨I, ⟨kp_w (by decide) kp_r, rfl⟩, bo_0⟩)
    · have c72 : (q_R δ b7 r1.1.toNatClampNeg).toInt ≠ x1.toInt := o_ne h70
      unfold J_X3_add_24
      refine ok_at o8 ?_
      have f73 := n_ti (q_N h.1 b7) (by omega)
      refine ok_ite (fun h74 => ?_) (fun h74 => ?_)
      · have c75 : (q_I δ 3 1 a0).toInt < (Int32.ofNat (q_N h.1 b7)).toInt := o_lt h74
        refine ok_at o8 ?_
        refine ok_at o8 ?_
        first | (have q77 := te_addc (c := 1) (n := 1) rfl r1.1 (by omega) (by omega); obtain ⟨f78, f79, f80⟩ := q77) | (obtain ⟨q77, f78, f79, f80⟩ := ti_addc (c := 1) (n := 1) rfl r1.1)
        first | (have q82 := te_sub (q_I δ 3 1 a0) r1.1 (by omega) (by omega); obtain ⟨f83, f84, f85⟩ := q82) | (obtain ⟨q82, f83, f84, f85⟩ := ti_sub (q_I δ 3 1 a0) r1.1)
        have t86 := ti_tn ((q_I δ 3 1 a0) - r1.1)
        have t87 := ti_tn (r1.1 + (1 : Int32))
        refine ok_gd (fun hc88 => ?_) ?_
        · rcases hc88 with hc88 | hc88 | hc88 | hc88 | hc88
          · have c89 : r1.1.toInt < (0 : Int) := o_lt hc88
            omega
          · have c90 : (r1.1 + (1 : Int32)).toInt < (0 : Int) := o_lt hc88
            omega
          · have c91 : ((q_I δ 3 1 a0) - r1.1).toInt < (0 : Int) := o_lt hc88
            omega
          · omega
          · omega
        refine ok_bdv (fun d92 e93 => ?_)
        have i94 : CI ad h.1 δ0 d92 := by rw [e93]; exact CI.sC L I w12
        have u95 := kp_N kp_r (show q_I d92 = q_I δ by rw [e93]; rfl)
        have v96 : q_V d92 = q_V δ := ((show q_V d92 = q_V δ by rw [e93]; rfl)).trans rfl
        refine ok_at o8 ?_
        refine ok_gd (fun hc97 => ?_) ?_
        · rcases hc97 with hc97 | hc97
          · have c98 : r1.1.toInt < (0 : Int) := o_lt hc97
            omega
          · omega
        refine ok_bdv (fun d99 e100 => ?_)
        have i101 : CI ad h.1 δ0 d99 := by rw [e100]; exact CI.sR L i94 w12
        have u102 := kp_N u95 (show q_I d99 = q_I d92 by rw [e100]; rfl)
        have v103 : q_V d99 = q_V δ := ((show q_V d99 = q_V d92 by rw [e100]; rfl)).trans v96
        have f107 := cb_3_1 i101 k_a0 o8
        have f108 : (q_I d99 3 1 a0).toInt = (q_I d92 3 1 a0).toInt := congrArg Int32.toInt (by rw [e100]; rfl)
        have f109 := cb_3_1 i94 k_a0 o8
        have f110 : (q_I d92 3 1 a0).toInt = (q_I δ 3 1 a0).toInt := congrArg Int32.toInt (by rw [e93]; rfl)
        first | (have q112 := te_addc (c := 1) (n := 1) rfl (q_I d99 3 1 a0) (by omega) (by omega); obtain ⟨f113, f114, f115⟩ := q112) | (obtain ⟨q112, f113, f114, f115⟩ := ti_addc (c := 1) (n := 1) rfl (q_I d99 3 1 a0))
        refine ok_bdv (fun d104 e105 => ?_)
        have i106 : CI ad h.1 δ0 d104 := by rw [e105]; exact cs_3_1 L i101 o8 (show 0 ≤ ((q_I d99 3 1 a0) + (1 : Int32)).toInt by omega) (show ((q_I d99 3 1 a0) + (1 : Int32)).toInt ≤ (q_N h.1 b7 : Int) by omega)
        have u116 := kp_I u102 e105
        have v117 : q_V d104 = q_V δ := ((show q_V d104 = q_V d99 by rw [e105]; rfl)).trans v103
        refine ok_gp (by decide) ?_
        exact ok_some (show CI ad h.1 δ0 d104 ∧ (kp [(3, 1)] δ d104 ∧ q_V d104 = q_V δ) ∧ bo ((1 : Int32)) from ⟨i106, ⟨kp_w (by decide) u116, v117⟩, bo_1⟩)
      · have c118 : (Int32.ofNat (q_N h.1 b7)).toInt ≤ (q_I δ 3 1 a0).toInt := o_nlt h74
        unfold J_X3_add_36
        refine ok_gp (by decide) ?_
        exact ok_some (show CI ad h.1 δ0 δ ∧ (kp [(3, 1)] δ δ ∧ q_V δ = q_V δ) ∧ bo ((0 : Int32)) from ⟨I, ⟨kp_w (by decide) kp_r, rfl⟩, bo_0⟩)
set_option maxHeartbeats 4000000 in
theorem k_X3_remove {ad : List Nat} {h : hp} (L : Lay TLx ad h) {δ0 : dp} {N : Nat} (hN : 10000000 ≤ N) {a0 : Nat} {x1 : Int32} (k_a0 : q_K h.1 a0 = 3) {δ : dp} (I : CI ad h.1 δ0 δ) : ok (D_X3_remove N h.1 a0 x1 δ) (fun r => CI ad h.1 δ0 r.2 ∧ (kp [(3, 1)] δ r.2 ∧ q_V r.2 = q_V δ) ∧ bo (r.1)) := by
  unfold D_X3_remove
  refine ok_bind (k_X3_firstFrom L hN (a0 := a0) (x1 := x1) k_a0 I) (fun r1 hr2 => ?_)
  obtain ⟨i3, p4, p5⟩ := hr2
  try rw [i3]
  have f6 := ti_b r1.1
  obtain ⟨b7, o8, k9, ⟨n10, n11⟩, w12⟩ := gO_3_0 L k_a0
  have f13 := cb_3_1 I k_a0 o8
  have f14 := ti_b r1.1
  refine ok_ite (fun h15 => ?_) (fun h15 => ?_)
  · have c16 : (q_I δ 3 1 a0).toInt ≤ r1.1.toInt := o_le h15
    unfold J_X3_remove_24
    refine ok_gp (by decide) ?_
    exact ok_some (show CI ad h.1 δ0 δ ∧ (kp [(3, 1)] δ δ ∧ q_V δ = q_V δ) ∧ bo ((0 : Int32)) from ⟨I, ⟨kp_w (by decide) kp_r, rfl⟩, bo_0⟩)
  · have c17 : r1.1.toInt < (q_I δ 3 1 a0).toInt := o_nle h15
    refine ok_at o8 ?_
    have t18 := ti_tn r1.1
    refine ok_gd (fun hc19 => ?_) ?_
    · rcases hc19 with hc19 | hc19
      · have c20 : r1.1.toInt < (0 : Int) := o_lt hc19
        omega
      · omega
    have f21 := ti_b (q_R δ b7 r1.1.toNatClampNeg)
    have f22 := ti_b x1
    refine ok_ite (fun h23 => ?_) (fun h23 => ?_)
    · have c24 : (q_R δ b7 r1.1.toNatClampNeg).toInt = x1.toInt := o_eq h23
      first | (have q29 := te_subc (c := 1) (n := 1) rfl (q_I δ 3 1 a0) (by omega) (by omega); obtain ⟨f30, f31, f32⟩ := q29) | (obtain ⟨q29, f30, f31, f32⟩ := ti_subc (c := 1) (n := 1) rfl (q_I δ 3 1 a0))
      refine ok_bdv (fun d25 e26 => ?_)
      have i27 : CI ad h.1 δ0 d25 := by rw [e26]; exact cs_3_1 L I o8 (show 0 ≤ ((q_I δ 3 1 a0) - (1 : Int32)).toInt by omega) (show ((q_I δ 3 1 a0) - (1 : Int32)).toInt ≤ (q_N h.1 b7 : Int) by omega)
      have u33 := kp_I kp_r e26
      have v34 : q_V d25 = q_V δ := ((show q_V d25 = q_V δ by rw [e26]; rfl)).trans rfl
      refine ok_at o8 ?_
      refine ok_at o8 ?_
      first | (have q36 := te_addc (c := 1) (n := 1) rfl r1.1 (by omega) (by omega); obtain ⟨f37, f38, f39⟩ := q36) | (obtain ⟨q36, f37, f38, f39⟩ := ti_addc (c := 1) (n := 1) rfl r1.1)
      have f40 := cb_3_1 i27 k_a0 o8
      have f41 : (q_I d25 3 1 a0).toInt = ((q_I δ 3 1 a0) - (1 : Int32)).toInt := congrArg Int32.toInt (show q_I d25 3 1 a0 = ((q_I δ 3 1 a0) - (1 : Int32)) by rw [e26]; exact rI_s)
      first | (have q43 := te_sub (q_I d25 3 1 a0) r1.1 (by omega) (by omega); obtain ⟨f44, f45, f46⟩ := q43) | (obtain ⟨q43, f44, f45, f46⟩ := ti_sub (q_I d25 3 1 a0) r1.1)
      have t47 := ti_tn (r1.1 + (1 : Int32))
      have t48 := ti_tn ((q_I d25 3 1 a0) - r1.1)
      refine ok_gd (fun hc49 => ?_) ?_
      · rcases hc49 with hc49 | hc49 | hc49 | hc49 | hc49
        · have c50 : (r1.1 + (1 : Int32)).toInt < (0 : Int) := o_lt hc49
          omega
        · have c51 : r1.1.toInt < (0 : Int) := o_lt hc49
          omega
        · have c52 : ((q_I d25 3 1 a0) - r1.1).toInt < (0 : Int) := o_lt hc49
          omega
        · omega
        · omega
      refine ok_bdv (fun d53 e54 => ?_)
      have i55 : CI ad h.1 δ0 d53 := by rw [e54]; exact CI.sC L i27 w12
      have u56 := kp_N u33 (show q_I d53 = q_I d25 by rw [e54]; rfl)
      have v57 : q_V d53 = q_V δ := ((show q_V d53 = q_V d25 by rw [e54]; rfl)).trans v34
      refine ok_gp (by decide) ?_
      exact ok_some (show CI ad h.1 δ0 d53 ∧ (kp [(3, 1)] δ d53 ∧ q_V d53 = q_V δ) ∧ bo ((1 : Int32)) from ⟨i55, ⟨kp_w (by decide) u56, v57⟩, bo_1⟩)
    · have c58 : (q_R δ b7 r1.1.toNatClampNeg).toInt ≠ x1.toInt := o_ne h23
      unfold J_X3_remove_24
      refine ok_gp (by decide) ?_
      exact ok_some (show CI ad h.1 δ0 δ ∧ (kp [(3, 1)] δ δ ∧ q_V δ = q_V δ) ∧ bo ((0 : Int32)) from ⟨I, ⟨kp_w (by decide) kp_r, rfl⟩, bo_0⟩)
set_option maxHeartbeats 4000000 in
theorem k_X3_answer {ad : List Nat} {h : hp} (L : Lay TLx ad h) {δ0 : dp} {N : Nat} (hN : 10000000 ≤ N) {a0 : Nat} {x1 : Int32} {x2 : Int32} (k_a0 : q_K h.1 a0 = 3) {δ : dp} (I : CI ad h.1 δ0 δ) : ok (D_X3_answer N h.1 a0 x1 x2 δ) (fun r => CI ad h.1 δ0 r.2 ∧ (kp [(3, 1)] δ r.2 ∧ q_V r.2 = q_V δ)) := by
  unfold D_X3_answer
  have f1 := ti_b x1
  refine ok_ite (fun h2 => ?_) (fun h2 => ?_)
  · have c3 : x1.toInt = (3 : Int) := o_eq h2
    refine ok_bind (k_X3_above L hN (a0 := a0) (x1 := x2) k_a0 I) (fun r4 hr5 => ?_)
    have i6 := hr5
    try rw [i6]
    have f7 := ti_b r4.1
    exact ok_some (show CI ad h.1 δ0 δ ∧ (kp [(3, 1)] δ δ ∧ q_V δ = q_V δ) from ⟨I, ⟨kp_w (by decide) kp_r, rfl⟩⟩)
  · have c8 : x1.toInt ≠ (3 : Int) := o_ne h2
    refine ok_ite (fun h9 => ?_) (fun h9 => ?_)
    · have c10 : x1.toInt = (4 : Int) := o_eq h9
      refine ok_bind (k_X3_below L hN (a0 := a0) (x1 := x2) k_a0 I) (fun r11 hr12 => ?_)
      have i13 := hr12
      try rw [i13]
      have f14 := ti_b r11.1
      exact ok_some (show CI ad h.1 δ0 δ ∧ (kp [(3, 1)] δ δ ∧ q_V δ = q_V δ) from ⟨I, ⟨kp_w (by decide) kp_r, rfl⟩⟩)
    · have c15 : x1.toInt ≠ (4 : Int) := o_ne h9
      refine ok_ite (fun h16 => ?_) (fun h16 => ?_)
      · have c17 : x1.toInt = (0 : Int) := o_eq h16
        refine ok_bind (k_X3_add L hN (a0 := a0) (x1 := x2) k_a0 I) (fun r18 hr19 => ?_)
        obtain ⟨i20, ⟨u22, u23⟩, p21⟩ := hr19
        have u24 := kp_t kp_r u22
        have v25 : q_V r18.2 = q_V δ := (u23).trans rfl
        have f26 := bo_t p21
        have f27 := ti_b r18.1
        unfold J_X3_answer_52
        refine ok_ite (fun h28 => ?_) (fun h28 => ?_)
        · have c29 : r18.1.toInt = (0 : Int) := o_eq h28
          unfold J_X3_answer_62
          exact ok_some (show CI ad h.1 δ0 r18.2 ∧ (kp [(3, 1)] δ r18.2 ∧ q_V r18.2 = q_V δ) from ⟨i20, ⟨kp_w (by decide) u24, v25⟩⟩)
        · have c30 : r18.1.toInt ≠ (0 : Int) := o_ne h28
          unfold J_X3_answer_62
          exact ok_some (show CI ad h.1 δ0 r18.2 ∧ (kp [(3, 1)] δ r18.2 ∧ q_V r18.2 = q_V δ) from ⟨i20, ⟨kp_w (by decide) u24, v25⟩⟩)
      · have c31 : x1.toInt ≠ (0 : Int) := o_ne h16
        refine ok_ite (fun h32 => ?_) (fun h32 => ?_)
        · have c33 : x1.toInt = (1 : Int) := o_eq h32
          refine ok_bind (k_X3_remove L hN (a0 := a0) (x1 := x2) k_a0 I) (fun r34 hr35 => ?_)
          obtain ⟨i36, ⟨u38, u39⟩, p37⟩ := hr35
          have u40 := kp_t kp_r u38
          have v41 : q_V r34.2 = q_V δ := (u39).trans rfl
          have f42 := bo_t p37
          have f43 := ti_b r34.1
          unfold J_X3_answer_52
          refine ok_ite (fun h44 => ?_) (fun h44 => ?_)
          · have c45 : r34.1.toInt = (0 : Int) := o_eq h44
            unfold J_X3_answer_62
            exact ok_some (show CI ad h.1 δ0 r34.2 ∧ (kp [(3, 1)] δ r34.2 ∧ q_V r34.2 = q_V δ) from ⟨i36, ⟨kp_w (by decide) u40, v41⟩⟩)
          · have c46 : r34.1.toInt ≠ (0 : Int) := o_ne h44
            unfold J_X3_answer_62
            exact ok_some (show CI ad h.1 δ0 r34.2 ∧ (kp [(3, 1)] δ r34.2 ∧ q_V r34.2 = q_V δ) from ⟨i36, ⟨kp_w (by decide) u40, v41⟩⟩)
        · have c47 : x1.toInt ≠ (1 : Int) := o_ne h32
          refine ok_bind (k_X3_holds L hN (a0 := a0) (x1 := x2) k_a0 I) (fun r48 hr49 => ?_)
          obtain ⟨i50, p51⟩ := hr49
          try rw [i50]
          have f52 := bo_t p51
          have f53 := ti_b r48.1
          unfold J_X3_answer_52
          refine ok_ite (fun h54 => ?_) (fun h54 => ?_)
          · have c55 : r48.1.toInt = (0 : Int) := o_eq h54
            unfold J_X3_answer_62
            exact ok_some (show CI ad h.1 δ0 δ ∧ (kp [(3, 1)] δ δ ∧ q_V δ = q_V δ) from ⟨I, ⟨kp_w (by decide) kp_r, rfl⟩⟩)
          · have c56 : r48.1.toInt ≠ (0 : Int) := o_ne h54
            unfold J_X3_answer_62
            exact ok_some (show CI ad h.1 δ0 δ ∧ (kp [(3, 1)] δ δ ∧ q_V δ = q_V δ) from ⟨I, ⟨kp_w (by decide) kp_r, rfl⟩⟩)
set_option maxHeartbeats 4000000 in
theorem k_X3_wordOf {ad : List Nat} {h : hp} (L : Lay TLx ad h) {δ0 : dp} {N : Nat} (hN : 10000000 ≤ N) {x0 : Int32} {δ : dp} (I : CI ad h.1 δ0 δ) : ok (D_X3_wordOf N h.1 x0 δ) (fun r => r.2 = δ) := by
  unfold D_X3_wordOf
  exact ok_some (show δ = δ from rfl)
set_option maxHeartbeats 4000000 in
theorem k_X3_touchesInWords {ad : List Nat} {h : hp} (L : Lay TLx ad h) {δ0 : dp} {N : Nat} (hN : 10000000 ≤ N) {a0 : Nat} {x1 : Int32} {x2 : Int32} {x3 : Int32} (k_a0 : q_K h.1 a0 = 3) {δ : dp} (I : CI ad h.1 δ0 δ) : ok (D_X3_touchesInWords N h.1 a0 x1 x2 x3 δ) (fun r => r.2 = δ) := by
  unfold D_X3_touchesInWords
  have f3 := ti_b x3
  have f4 := sh_b x3
  have f5 := ti_b ((1 : Int32) <<< (x3 &&& 31))
  refine ok_biv (fun vx1 e2 => ?_)
  first | (have q6 := te_subc (c := 1) (n := 1) rfl ((1 : Int32) <<< (x3 &&& 31)) (by omega) (by omega); rw [← e2] at q6; obtain ⟨f7, f8, f9⟩ := q6) | (obtain ⟨q6, f7, f8, f9⟩ : ∃ q : Int, vx1.toInt = ((1 : Int32) <<< (x3 &&& 31)).toInt - (1 : Int) + 4294967296 * q ∧ -2147483648 ≤ vx1.toInt ∧ vx1.toInt ≤ 2147483647 := by rw [e2]; exact ti_subc (c := 1) (n := 1) rfl ((1 : Int32) <<< (x3 &&& 31)))
  have f10 := ti_b x1
  refine ok_ite (fun h11 => ?_) (fun h11 => ?_)
  · have c12 : x1.toInt = (3 : Int) := o_eq h11
    refine ok_bind (k_X3_above L hN (a0 := a0) (x1 := x2) k_a0 I) (fun r13 hr14 => ?_)
    have i15 := hr14
    try rw [i15]
    have f16 := ti_b r13.1
    have f17 := ti_b x2
    refine ok_ite (fun h18 => ?_) (fun h18 => ?_)
    · have c19 : x2.toInt < vx1.toInt := o_lt h18
      refine ok_ite (fun h20 => ?_) (fun h20 => ?_)
      · have c21 : r13.1.toInt = (-1 : Int) := o_eq h20
        unfold J_X3_touchesInWords_42
        refine ok_bind (k_X3_wordOf L hN (x0 := vx1)  I) (fun r22 hr23 => ?_)
        have i24 := hr23
        try rw [i24]
        have f25 := ti_b r22.1
        refine ok_bind (k_X3_wordOf L hN (x0 := (x2 + (1 : Int32)))  I) (fun r26 hr27 => ?_)
        have i28 := hr27
        try rw [i28]
        have f29 := ti_b r26.1
        unfold J_X3_touchesInWords_54
        exact ok_some (show δ = δ from rfl)
      · have c30 : r13.1.toInt ≠ (-1 : Int) := o_ne h20
        unfold J_X3_touchesInWords_42
        refine ok_bind (k_X3_wordOf L hN (x0 := r13.1)  I) (fun r31 hr32 => ?_)
        have i33 := hr32
        try rw [i33]
        have f34 := ti_b r31.1
        refine ok_bind (k_X3_wordOf L hN (x0 := (x2 + (1 : Int32)))  I) (fun r35 hr36 => ?_)
        have i37 := hr36
        try rw [i37]
        have f38 := ti_b r35.1
        unfold J_X3_touchesInWords_54
        exact ok_some (show δ = δ from rfl)
    · have c39 : vx1.toInt ≤ x2.toInt := o_nlt h18
      unfold J_X3_touchesInWords_54
      exact ok_some (show δ = δ from rfl)
  · have c40 : x1.toInt ≠ (3 : Int) := o_ne h11
    refine ok_ite (fun h41 => ?_) (fun h41 => ?_)
    · have c42 : x1.toInt = (4 : Int) := o_eq h41
      refine ok_bind (k_X3_below L hN (a0 := a0) (x1 := x2) k_a0 I) (fun r43 hr44 => ?_)
      have i45 := hr44
      try rw [i45]
      have f46 := ti_b r43.1
      have f47 := ti_b x2
      refine ok_ite (fun h48 => ?_) (fun h48 => ?_)
      · have c49 : (0 : Int) < x2.toInt := o_lt h48
        refine ok_bind (k_X3_wordOf L hN (x0 := (x2 - (1 : Int32)))  I) (fun r50 hr51 => ?_)
        have i52 := hr51
        try rw [i52]
        have f53 := ti_b r50.1
        refine ok_ite (fun h54 => ?_) (fun h54 => ?_)
        · have c55 : r43.1.toInt = (-1 : Int) := o_eq h54
          unfold J_X3_touchesInWords_93
          refine ok_bind (k_X3_wordOf L hN (x0 := (0 : Int32))  I) (fun r56 hr57 => ?_)
          have i58 := hr57
          try rw [i58]
          have f59 := ti_b r56.1
          unfold J_X3_touchesInWords_99
          exact ok_some (show δ = δ from rfl)
        · have c60 : r43.1.toInt ≠ (-1 : Int) := o_ne h54
          unfold J_X3_touchesInWords_93
          refine ok_bind (k_X3_wordOf L hN (x0 := r43.1)  I) (fun r61 hr62 => ?_)
          have i63 := hr62
          try rw [i63]
          have f64 := ti_b r61.1
          unfold J_X3_touchesInWords_99
          exact ok_some (show δ = δ from rfl)
      · have c65 : x2.toInt ≤ (0 : Int) := o_nlt h48
        unfold J_X3_touchesInWords_99
        exact ok_some (show δ = δ from rfl)
    · have c66 : x1.toInt ≠ (4 : Int) := o_ne h41
      exact ok_some (show δ = δ from rfl)
set_option maxHeartbeats 4000000 in
theorem kl_X3_touchesInRow_25 {ad : List Nat} {h : hp} (L : Lay TLx ad h) {δ0 : dp} {N : Nat} (hN : 10000000 ≤ N) {a0 : Nat} {x1 : Int32} {x2 : Int32} (k_a0 : q_K h.1 a0 = 3) : ∀ (n : Nat) (x3v : Int32) (x4v : Int32) (x5v : Int32) (x6v : Int32) (δ : dp), CI ad h.1 δ0 δ → 0 ≤ (x5v).toInt → (x5v).toInt ≤ (x6v).toInt → (x6v).toInt ≤ (q_I δ 3 1 a0).toInt → (x6v).toInt - (x5v).toInt < (n : Int) → ok (L_X3_touchesInRow_25 N h.1 a0 x1 x2 n x3v x4v x5v x6v δ) (fun r => r.2 = δ) := by
  intro n
  induction n with
  | zero =>
    intro x3v x4v x5v x6v δ I j0 j1 j2 hm
    have f1 := ti_b x5v
    have f2 := ti_b x6v
    obtain ⟨b3, o4, k5, ⟨n6, n7⟩, w8⟩ := gO_3_0 L k_a0
    have f9 := cb_3_1 I k_a0 o4
    exfalso; omega
  | succ n ih =>
    intro x3v x4v x5v x6v δ I j0 j1 j2 hm
    unfold L_X3_touchesInRow_25
    have f1 := ti_b x5v
    have f2 := ti_b x6v
    obtain ⟨b3, o4, k5, ⟨n6, n7⟩, w8⟩ := gO_3_0 L k_a0
    have f9 := cb_3_1 I k_a0 o4
    refine ok_ite (fun h10 => ?_) (fun h10 => ?_)
    · have c11 : x6v.toInt ≤ x5v.toInt := o_le h10
      refine ok_ite (fun h12 => ?_) (fun h12 => ?_)
      · have c13 : (q_I δ 3 1 a0).toInt ≤ x5v.toInt := o_le h12
        unfold J_X3_touchesInRow_95
        unfold J_X3_touchesInRow_96
        have f14 := ti_b x1
        refine ok_ite (fun h15 => ?_) (fun h15 => ?_)
        · have c16 : x1.toInt = (4 : Int) := o_eq h15
          refine ok_ite (fun h17 => ?_) (fun h17 => ?_)
          · have c18 : x5v.toInt ≤ (0 : Int) := o_le h17
            unfold J_X3_touchesInRow_123
            refine ok_ite (fun h19 => ?_) (fun h19 => ?_)
            · have c20 : x1.toInt = (0 : Int) := o_eq h19
              refine ok_ite (fun h21 => ?_) (fun h21 => ?_)
              · have c22 : (0 : Int) = (0 : Int) := o_eq h21
                have f25 := ti_b x4v
                first | (have q27 := te_sub (q_I δ 3 1 a0) x5v (by omega) (by omega); obtain ⟨f28, f29, f30⟩ := q27) | (obtain ⟨q27, f28, f29, f30⟩ := ti_sub (q_I δ 3 1 a0) x5v)
                first | (have q32 := te_addc (c := 1) (n := 1) rfl ((q_I δ 3 1 a0) - x5v) (by omega) (by omega); obtain ⟨f33, f34, f35⟩ := q32) | (obtain ⟨q32, f33, f34, f35⟩ := ti_addc (c := 1) (n := 1) rfl ((q_I δ 3 1 a0) - x5v))
                refine ok_biv (fun vx23 e24 => ?_)
                first | (have q36 := te_add x4v (((q_I δ 3 1 a0) - x5v) + (1 : Int32)) (by omega) (by omega); rw [← e24] at q36; obtain ⟨f37, f38, f39⟩ := q36) | (obtain ⟨q36, f37, f38, f39⟩ : ∃ q : Int, vx23.toInt = x4v.toInt + (((q_I δ 3 1 a0) - x5v) + (1 : Int32)).toInt + 4294967296 * q ∧ -2147483648 ≤ vx23.toInt ∧ vx23.toInt ≤ 2147483647 := by rw [e24]; exact ti_add x4v (((q_I δ 3 1 a0) - x5v) + (1 : Int32)))
                unfold J_X3_touchesInRow_146
                refine ok_ite (fun h40 => ?_) (fun h40 => ?_)
                · have c41 : x1.toInt = (1 : Int) := o_eq h40
                  refine ok_ite (fun h42 => ?_) (fun h42 => ?_)
                  · have c43 : (0 : Int) = (0 : Int) := o_eq h42
                    unfold J_X3_touchesInRow_170
                    exact ok_some (show δ = δ from rfl)
                  · have c44 : (0 : Int) ≠ (0 : Int) := o_ne h42
                    first | (have q48 := te_subc (c := 1) (n := 1) rfl ((q_I δ 3 1 a0) - x5v) (by omega) (by omega); obtain ⟨f49, f50, f51⟩ := q48) | (obtain ⟨q48, f49, f50, f51⟩ := ti_subc (c := 1) (n := 1) rfl ((q_I δ 3 1 a0) - x5v))
                    refine ok_biv (fun vx45 e46 => ?_)
                    first | (have q52 := te_add vx23 (((q_I δ 3 1 a0) - x5v) - (1 : Int32)) (by omega) (by omega); rw [← e46] at q52; obtain ⟨f53, f54, f55⟩ := q52) | (obtain ⟨q52, f53, f54, f55⟩ : ∃ q : Int, vx45.toInt = vx23.toInt + (((q_I δ 3 1 a0) - x5v) - (1 : Int32)).toInt + 4294967296 * q ∧ -2147483648 ≤ vx45.toInt ∧ vx45.toInt ≤ 2147483647 := by rw [e46]; exact ti_add vx23 (((q_I δ 3 1 a0) - x5v) - (1 : Int32)))
                    unfold J_X3_touchesInRow_170
                    exact ok_some (show δ = δ from rfl)
                · have c56 : x1.toInt ≠ (1 : Int) := o_ne h40
                  unfold J_X3_touchesInRow_170
                  exact ok_some (show δ = δ from rfl)
              · have c57 : (0 : Int) ≠ (0 : Int) := o_ne h21
                unfold J_X3_touchesInRow_146
                refine ok_ite (fun h58 => ?_) (fun h58 => ?_)
                · have c59 : x1.toInt = (1 : Int) := o_eq h58
                  refine ok_ite (fun h60 => ?_) (fun h60 => ?_)
                  · have c61 : (0 : Int) = (0 : Int) := o_eq h60
                    unfold J_X3_touchesInRow_170
                    exact ok_some (show δ = δ from rfl)
                  · have c62 : (0 : Int) ≠ (0 : Int) := o_ne h60
                    have f65 := ti_b x4v
                    first | (have q67 := te_sub (q_I δ 3 1 a0) x5v (by omega) (by omega); obtain ⟨f68, f69, f70⟩ := q67) | (obtain ⟨q67, f68, f69, f70⟩ := ti_sub (q_I δ 3 1 a0) x5v)
                    first | (have q72 := te_subc (c := 1) (n := 1) rfl ((q_I δ 3 1 a0) - x5v) (by omega) (by omega); obtain ⟨f73, f74, f75⟩ := q72) | (obtain ⟨q72, f73, f74, f75⟩ := ti_subc (c := 1) (n := 1) rfl ((q_I δ 3 1 a0) - x5v))
                    refine ok_biv (fun vx63 e64 => ?_)
                    first | (have q76 := te_add x4v (((q_I δ 3 1 a0) - x5v) - (1 : Int32)) (by omega) (by omega); rw [← e64] at q76; obtain ⟨f77, f78, f79⟩ := q76) | (obtain ⟨q76, f77, f78, f79⟩ : ∃ q : Int, vx63.toInt = x4v.toInt + (((q_I δ 3 1 a0) - x5v) - (1 : Int32)).toInt + 4294967296 * q ∧ -2147483648 ≤ vx63.toInt ∧ vx63.toInt ≤ 2147483647 := by rw [e64]; exact ti_add x4v (((q_I δ 3 1 a0) - x5v) - (1 : Int32)))
                    unfold J_X3_touchesInRow_170
                    exact ok_some (show δ = δ from rfl)
                · have c80 : x1.toInt ≠ (1 : Int) := o_ne h58
                  unfold J_X3_touchesInRow_170
                  exact ok_some (show δ = δ from rfl)
            · have c81 : x1.toInt ≠ (0 : Int) := o_ne h19
              unfold J_X3_touchesInRow_146
              refine ok_ite (fun h82 => ?_) (fun h82 => ?_)
              · have c83 : x1.toInt = (1 : Int) := o_eq h82
                refine ok_ite (fun h84 => ?_) (fun h84 => ?_)
                · have c85 : (0 : Int) = (0 : Int) := o_eq h84
                  unfold J_X3_touchesInRow_170
                  exact ok_some (show δ = δ from rfl)
                · have c86 : (0 : Int) ≠ (0 : Int) := o_ne h84
                  have f89 := ti_b x4v
                  first | (have q91 := te_sub (q_I δ 3 1 a0) x5v (by omega) (by omega); obtain ⟨f92, f93, f94⟩ := q91) | (obtain ⟨q91, f92, f93, f94⟩ := ti_sub (q_I δ 3 1 a0) x5v)
                  first | (have q96 := te_subc (c := 1) (n := 1) rfl ((q_I δ 3 1 a0) - x5v) (by omega) (by omega); obtain ⟨f97, f98, f99⟩ := q96) | (obtain ⟨q96, f97, f98, f99⟩ := ti_subc (c := 1) (n := 1) rfl ((q_I δ 3 1 a0) - x5v))
                  refine ok_biv (fun vx87 e88 => ?_)
                  first | (have q100 := te_add x4v (((q_I δ 3 1 a0) - x5v) - (1 : Int32)) (by omega) (by omega); rw [← e88] at q100; obtain ⟨f101, f102, f103⟩ := q100) | (obtain ⟨q100, f101, f102, f103⟩ : ∃ q : Int, vx87.toInt = x4v.toInt + (((q_I δ 3 1 a0) - x5v) - (1 : Int32)).toInt + 4294967296 * q ∧ -2147483648 ≤ vx87.toInt ∧ vx87.toInt ≤ 2147483647 := by rw [e88]; exact ti_add x4v (((q_I δ 3 1 a0) - x5v) - (1 : Int32)))
                  unfold J_X3_touchesInRow_170
                  exact ok_some (show δ = δ from rfl)
              · have c104 : x1.toInt ≠ (1 : Int) := o_ne h82
                unfold J_X3_touchesInRow_170
                exact ok_some (show δ = δ from rfl)
          · have c105 : (0 : Int) < x5v.toInt := o_nle h17
            unfold J_X3_touchesInRow_120
            have f108 := ti_b x4v
            refine ok_biv (fun vx106 e107 => ?_)
            first | (have q109 := te_addc (c := 1) (n := 1) rfl x4v (by omega) (by omega); rw [← e107] at q109; obtain ⟨f110, f111, f112⟩ := q109) | (obtain ⟨q109, f110, f111, f112⟩ : ∃ q : Int, vx106.toInt = x4v.toInt + (1 : Int) + 4294967296 * q ∧ -2147483648 ≤ vx106.toInt ∧ vx106.toInt ≤ 2147483647 := by rw [e107]; exact ti_addc (c := 1) (n := 1) rfl x4v)
            unfold J_X3_touchesInRow_123
            refine ok_ite (fun h113 => ?_) (fun h113 => ?_)
            · have c114 : x1.toInt = (0 : Int) := o_eq h113
              refine ok_ite (fun h115 => ?_) (fun h115 => ?_)
              · have c116 : (0 : Int) = (0 : Int) := o_eq h115
                first | (have q120 := te_sub (q_I δ 3 1 a0) x5v (by omega) (by omega); obtain ⟨f121, f122, f123⟩ := q120) | (obtain ⟨q120, f121, f122, f123⟩ := ti_sub (q_I δ 3 1 a0) x5v)
                first | (have q125 := te_addc (c := 1) (n := 1) rfl ((q_I δ 3 1 a0) - x5v) (by omega) (by omega); obtain ⟨f126, f127, f128⟩ := q125) | (obtain ⟨q125, f126, f127, f128⟩ := ti_addc (c := 1) (n := 1) rfl ((q_I δ 3 1 a0) - x5v))
                refine ok_biv (fun vx117 e118 => ?_)
                first | (have q129 := te_add vx106 (((q_I δ 3 1 a0) - x5v) + (1 : Int32)) (by omega) (by omega); rw [← e118] at q129; obtain ⟨f130, f131, f132⟩ := q129) | (obtain ⟨q129, f130, f131, f132⟩ : ∃ q : Int, vx117.toInt = vx106.toInt + (((q_I δ 3 1 a0) - x5v) + (1 : Int32)).toInt + 4294967296 * q ∧ -2147483648 ≤ vx117.toInt ∧ vx117.toInt ≤ 2147483647 := by rw [e118]; exact ti_add vx106 (((q_I δ 3 1 a0) - x5v) + (1 : Int32)))
                unfold J_X3_touchesInRow_146
                refine ok_ite (fun h133 => ?_) (fun h133 => ?_)
                · have c134 : x1.toInt = (1 : Int) := o_eq h133
                  refine ok_ite (fun h135 => ?_) (fun h135 => ?_)
                  · have c136 : (0 : Int) = (0 : Int) := o_eq h135
                    unfold J_X3_touchesInRow_170
                    exact ok_some (show δ = δ from rfl)
                  · have c137 : (0 : Int) ≠ (0 : Int) := o_ne h135
                    first | (have q141 := te_subc (c := 1) (n := 1) rfl ((q_I δ 3 1 a0) - x5v) (by omega) (by omega); obtain ⟨f142, f143, f144⟩ := q141) | (obtain ⟨q141, f142, f143, f144⟩ := ti_subc (c := 1) (n := 1) rfl ((q_I δ 3 1 a0) - x5v))
                    refine ok_biv (fun vx138 e139 => ?_)
                    first | (have q145 := te_add vx117 (((q_I δ 3 1 a0) - x5v) - (1 : Int32)) (by omega) (by omega); rw [← e139] at q145; obtain ⟨f146, f147, f148⟩ := q145) | (obtain ⟨q145, f146, f147, f148⟩ : ∃ q : Int, vx138.toInt = vx117.toInt + (((q_I δ 3 1 a0) - x5v) - (1 : Int32)).toInt + 4294967296 * q ∧ -2147483648 ≤ vx138.toInt ∧ vx138.toInt ≤ 2147483647 := by rw [e139]; exact ti_add vx117 (((q_I δ 3 1 a0) - x5v) - (1 : Int32)))
                    unfold J_X3_touchesInRow_170
                    exact ok_some (show δ = δ from rfl)
                · have c149 : x1.toInt ≠ (1 : Int) := o_ne h133
                  unfold J_X3_touchesInRow_170
                  exact ok_some (show δ = δ from rfl)
              · have c150 : (0 : Int) ≠ (0 : Int) := o_ne h115
                unfold J_X3_touchesInRow_146
                refine ok_ite (fun h151 => ?_) (fun h151 => ?_)
                · have c152 : x1.toInt = (1 : Int) := o_eq h151
                  refine ok_ite (fun h153 => ?_) (fun h153 => ?_)
                  · have c154 : (0 : Int) = (0 : Int) := o_eq h153
                    unfold J_X3_touchesInRow_170
                    exact ok_some (show δ = δ from rfl)
                  · have c155 : (0 : Int) ≠ (0 : Int) := o_ne h153
                    first | (have q159 := te_sub (q_I δ 3 1 a0) x5v (by omega) (by omega); obtain ⟨f160, f161, f162⟩ := q159) | (obtain ⟨q159, f160, f161, f162⟩ := ti_sub (q_I δ 3 1 a0) x5v)
                    first | (have q164 := te_subc (c := 1) (n := 1) rfl ((q_I δ 3 1 a0) - x5v) (by omega) (by omega); obtain ⟨f165, f166, f167⟩ := q164) | (obtain ⟨q164, f165, f166, f167⟩ := ti_subc (c := 1) (n := 1) rfl ((q_I δ 3 1 a0) - x5v))
                    refine ok_biv (fun vx156 e157 => ?_)
                    first | (have q168 := te_add vx106 (((q_I δ 3 1 a0) - x5v) - (1 : Int32)) (by omega) (by omega); rw [← e157] at q168; obtain ⟨f169, f170, f171⟩ := q168) | (obtain ⟨q168, f169, f170, f171⟩ : ∃ q : Int, vx156.toInt = vx106.toInt + (((q_I δ 3 1 a0) - x5v) - (1 : Int32)).toInt + 4294967296 * q ∧ -2147483648 ≤ vx156.toInt ∧ vx156.toInt ≤ 2147483647 := by rw [e157]; exact ti_add vx106 (((q_I δ 3 1 a0) - x5v) - (1 : Int32)))
                    unfold J_X3_touchesInRow_170
                    exact ok_some (show δ = δ from rfl)
                · have c172 : x1.toInt ≠ (1 : Int) := o_ne h151
                  unfold J_X3_touchesInRow_170
                  exact ok_some (show δ = δ from rfl)
            · have c173 : x1.toInt ≠ (0 : Int) := o_ne h113
              unfold J_X3_touchesInRow_146
              refine ok_ite (fun h174 => ?_) (fun h174 => ?_)
              · have c175 : x1.toInt = (1 : Int) := o_eq h174
                refine ok_ite (fun h176 => ?_) (fun h176 => ?_)
                · have c177 : (0 : Int) = (0 : Int) := o_eq h176
                  unfold J_X3_touchesInRow_170
                  exact ok_some (show δ = δ from rfl)
                · have c178 : (0 : Int) ≠ (0 : Int) := o_ne h176
                  first | (have q182 := te_sub (q_I δ 3 1 a0) x5v (by omega) (by omega); obtain ⟨f183, f184, f185⟩ := q182) | (obtain ⟨q182, f183, f184, f185⟩ := ti_sub (q_I δ 3 1 a0) x5v)
                  first | (have q187 := te_subc (c := 1) (n := 1) rfl ((q_I δ 3 1 a0) - x5v) (by omega) (by omega); obtain ⟨f188, f189, f190⟩ := q187) | (obtain ⟨q187, f188, f189, f190⟩ := ti_subc (c := 1) (n := 1) rfl ((q_I δ 3 1 a0) - x5v))
                  refine ok_biv (fun vx179 e180 => ?_)
                  first | (have q191 := te_add vx106 (((q_I δ 3 1 a0) - x5v) - (1 : Int32)) (by omega) (by omega); rw [← e180] at q191; obtain ⟨f192, f193, f194⟩ := q191) | (obtain ⟨q191, f192, f193, f194⟩ : ∃ q : Int, vx179.toInt = vx106.toInt + (((q_I δ 3 1 a0) - x5v) - (1 : Int32)).toInt + 4294967296 * q ∧ -2147483648 ≤ vx179.toInt ∧ vx179.toInt ≤ 2147483647 := by rw [e180]; exact ti_add vx106 (((q_I δ 3 1 a0) - x5v) - (1 : Int32)))
                  unfold J_X3_touchesInRow_170
                  exact ok_some (show δ = δ from rfl)
              · have c195 : x1.toInt ≠ (1 : Int) := o_ne h174
                unfold J_X3_touchesInRow_170
                exact ok_some (show δ = δ from rfl)
        · have c196 : x1.toInt ≠ (4 : Int) := o_ne h15
          refine ok_ite (fun h197 => ?_) (fun h197 => ?_)
          · have c198 : (q_I δ 3 1 a0).toInt ≤ x5v.toInt := o_le h197
            unfold J_X3_touchesInRow_123
            refine ok_ite (fun h199 => ?_) (fun h199 => ?_)
            · have c200 : x1.toInt = (0 : Int) := o_eq h199
              refine ok_ite (fun h201 => ?_) (fun h201 => ?_)
              · have c202 : (0 : Int) = (0 : Int) := o_eq h201
                have f205 := ti_b x4v
                first | (have q207 := te_sub (q_I δ 3 1 a0) x5v (by omega) (by omega); obtain ⟨f208, f209, f210⟩ := q207) | (obtain ⟨q207, f208, f209, f210⟩ := ti_sub (q_I δ 3 1 a0) x5v)
                first | (have q212 := te_addc (c := 1) (n := 1) rfl ((q_I δ 3 1 a0) - x5v) (by omega) (by omega); obtain ⟨f213, f214, f215⟩ := q212) | (obtain ⟨q212, f213, f214, f215⟩ := ti_addc (c := 1) (n := 1) rfl ((q_I δ 3 1 a0) - x5v))
                refine ok_biv (fun vx203 e204 => ?_)
                first | (have q216 := te_add x4v (((q_I δ 3 1 a0) - x5v) + (1 : Int32)) (by omega) (by omega); rw [← e204] at q216; obtain ⟨f217, f218, f219⟩ := q216) | (obtain ⟨q216, f217, f218, f219⟩ : ∃ q : Int, vx203.toInt = x4v.toInt + (((q_I δ 3 1 a0) - x5v) + (1 : Int32)).toInt + 4294967296 * q ∧ -2147483648 ≤ vx203.toInt ∧ vx203.toInt ≤ 2147483647 := by rw [e204]; exact ti_add x4v (((q_I δ 3 1 a0) - x5v) + (1 : Int32)))
                unfold J_X3_touchesInRow_146
                refine ok_ite (fun h220 => ?_) (fun h220 => ?_)
                · have c221 : x1.toInt = (1 : Int) := o_eq h220
                  refine ok_ite (fun h222 => ?_) (fun h222 => ?_)
                  · have c223 : (0 : Int) = (0 : Int) := o_eq h222
                    unfold J_X3_touchesInRow_170
                    exact ok_some (show δ = δ from rfl)
                  · have c224 : (0 : Int) ≠ (0 : Int) := o_ne h222
                    first | (have q228 := te_subc (c := 1) (n := 1) rfl ((q_I δ 3 1 a0) - x5v) (by omega) (by omega); obtain ⟨f229, f230, f231⟩ := q228) | (obtain ⟨q228, f229, f230, f231⟩ := ti_subc (c := 1) (n := 1) rfl ((q_I δ 3 1 a0) - x5v))
                    refine ok_biv (fun vx225 e226 => ?_)
                    first | (have q232 := te_add vx203 (((q_I δ 3 1 a0) - x5v) - (1 : Int32)) (by omega) (by omega); rw [← e226] at q232; obtain ⟨f233, f234, f235⟩ := q232) | (obtain ⟨q232, f233, f234, f235⟩ : ∃ q : Int, vx225.toInt = vx203.toInt + (((q_I δ 3 1 a0) - x5v) - (1 : Int32)).toInt + 4294967296 * q ∧ -2147483648 ≤ vx225.toInt ∧ vx225.toInt ≤ 2147483647 := by rw [e226]; exact ti_add vx203 (((q_I δ 3 1 a0) - x5v) - (1 : Int32)))
                    unfold J_X3_touchesInRow_170
                    exact ok_some (show δ = δ from rfl)
                · have c236 : x1.toInt ≠ (1 : Int) := o_ne h220
                  unfold J_X3_touchesInRow_170
                  exact ok_some (show δ = δ from rfl)
              · have c237 : (0 : Int) ≠ (0 : Int) := o_ne h201
                unfold J_X3_touchesInRow_146
                refine ok_ite (fun h238 => ?_) (fun h238 => ?_)
                · have c239 : x1.toInt = (1 : Int) := o_eq h238
                  refine ok_ite (fun h240 => ?_) (fun h240 => ?_)
                  · have c241 : (0 : Int) = (0 : Int) := o_eq h240
                    unfold J_X3_touchesInRow_170
                    exact ok_some (show δ = δ from rfl)
                  · have c242 : (0 : Int) ≠ (0 : Int) := o_ne h240
                    have f245 := ti_b x4v
                    first | (have q247 := te_sub (q_I δ 3 1 a0) x5v (by omega) (by omega); obtain ⟨f248, f249, f250⟩ := q247) | (obtain ⟨q247, f248, f249, f250⟩ := ti_sub (q_I δ 3 1 a0) x5v)
                    first | (have q252 := te_subc (c := 1) (n := 1) rfl ((q_I δ 3 1 a0) - x5v) (by omega) (by omega); obtain ⟨f253, f254, f255⟩ := q252) | (obtain ⟨q252, f253, f254, f255⟩ := ti_subc (c := 1) (n := 1) rfl ((q_I δ 3 1 a0) - x5v))
                    refine ok_biv (fun vx243 e244 => ?_)
                    first | (have q256 := te_add x4v (((q_I δ 3 1 a0) - x5v) - (1 : Int32)) (by omega) (by omega); rw [← e244] at q256; obtain ⟨f257, f258, f259⟩ := q256) | (obtain ⟨q256, f257, f258, f259⟩ : ∃ q : Int, vx243.toInt = x4v.toInt + (((q_I δ 3 1 a0) - x5v) - (1 : Int32)).toInt + 4294967296 * q ∧ -2147483648 ≤ vx243.toInt ∧ vx243.toInt ≤ 2147483647 := by rw [e244]; exact ti_add x4v (((q_I δ 3 1 a0) - x5v) - (1 : Int32)))
                    unfold J_X3_touchesInRow_170
                    exact ok_some (show δ = δ from rfl)
                · have c260 : x1.toInt ≠ (1 : Int) := o_ne h238
                  unfold J_X3_touchesInRow_170
                  exact ok_some (show δ = δ from rfl)
            · have c261 : x1.toInt ≠ (0 : Int) := o_ne h199
              unfold J_X3_touchesInRow_146
              refine ok_ite (fun h262 => ?_) (fun h262 => ?_)
              · have c263 : x1.toInt = (1 : Int) := o_eq h262
                refine ok_ite (fun h264 => ?_) (fun h264 => ?_)
                · have c265 : (0 : Int) = (0 : Int) := o_eq h264
                  unfold J_X3_touchesInRow_170
                  exact ok_some (show δ = δ from rfl)
                · have c266 : (0 : Int) ≠ (0 : Int) := o_ne h264
                  have f269 := ti_b x4v
                  first | (have q271 := te_sub (q_I δ 3 1 a0) x5v (by omega) (by omega); obtain ⟨f272, f273, f274⟩ := q271) | (obtain ⟨q271, f272, f273, f274⟩ := ti_sub (q_I δ 3 1 a0) x5v)
                  first | (have q276 := te_subc (c := 1) (n := 1) rfl ((q_I δ 3 1 a0) - x5v) (by omega) (by omega); obtain ⟨f277, f278, f279⟩ := q276) | (obtain ⟨q276, f277, f278, f279⟩ := ti_subc (c := 1) (n := 1) rfl ((q_I δ 3 1 a0) - x5v))
                  refine ok_biv (fun vx267 e268 => ?_)
                  first | (have q280 := te_add x4v (((q_I δ 3 1 a0) - x5v) - (1 : Int32)) (by omega) (by omega); rw [← e268] at q280; obtain ⟨f281, f282, f283⟩ := q280) | (obtain ⟨q280, f281, f282, f283⟩ : ∃ q : Int, vx267.toInt = x4v.toInt + (((q_I δ 3 1 a0) - x5v) - (1 : Int32)).toInt + 4294967296 * q ∧ -2147483648 ≤ vx267.toInt ∧ vx267.toInt ≤ 2147483647 := by rw [e268]; exact ti_add x4v (((q_I δ 3 1 a0) - x5v) - (1 : Int32)))
                  unfold J_X3_touchesInRow_170
                  exact ok_some (show δ = δ from rfl)
              · have c284 : x1.toInt ≠ (1 : Int) := o_ne h262
                unfold J_X3_touchesInRow_170
                exact ok_some (show δ = δ from rfl)
          · have c285 : x5v.toInt < (q_I δ 3 1 a0).toInt := o_nle h197
            unfold J_X3_touchesInRow_120
            have f288 := ti_b x4v
            refine ok_biv (fun vx286 e287 => ?_)
            first | (have q289 := te_addc (c := 1) (n := 1) rfl x4v (by omega) (by omega); rw [← e287] at q289; obtain ⟨f290, f291, f292⟩ := q289) | (obtain ⟨q289, f290, f291, f292⟩ : ∃ q : Int, vx286.toInt = x4v.toInt + (1 : Int) + 4294967296 * q ∧ -2147483648 ≤ vx286.toInt ∧ vx286.toInt ≤ 2147483647 := by rw [e287]; exact ti_addc (c := 1) (n := 1) rfl x4v)
            unfold J_X3_touchesInRow_123
            refine ok_ite (fun h293 => ?_) (fun h293 => ?_)
            · have c294 : x1.toInt = (0 : Int) := o_eq h293
              refine ok_ite (fun h295 => ?_) (fun h295 => ?_)
              · have c296 : (0 : Int) = (0 : Int) := o_eq h295
                first | (have q300 := te_sub (q_I δ 3 1 a0) x5v (by omega) (by omega); obtain ⟨f301, f302, f303⟩ := q300) | (obtain ⟨q300, f301, f302, f303⟩ := ti_sub (q_I δ 3 1 a0) x5v)
                first | (have q305 := te_addc (c := 1) (n := 1) rfl ((q_I δ 3 1 a0) - x5v) (by omega) (by omega); obtain ⟨f306, f307, f308⟩ := q305) | (obtain ⟨q305, f306, f307, f308⟩ := ti_addc (c := 1) (n := 1) rfl ((q_I δ 3 1 a0) - x5v))
                refine ok_biv (fun vx297 e298 => ?_)
                first | (have q309 := te_add vx286 (((q_I δ 3 1 a0) - x5v) + (1 : Int32)) (by omega) (by omega); rw [← e298] at q309; obtain ⟨f310, f311, f312⟩ := q309) | (obtain ⟨q309, f310, f311, f312⟩ : ∃ q : Int, vx297.toInt = vx286.toInt + (((q_I δ 3 1 a0) - x5v) + (1 : Int32)).toInt + 4294967296 * q ∧ -2147483648 ≤ vx297.toInt ∧ vx297.toInt ≤ 2147483647 := by rw [e298]; exact ti_add vx286 (((q_I δ 3 1 a0) - x5v) + (1 : Int32)))
                unfold J_X3_touchesInRow_146
                refine ok_ite (fun h313 => ?_) (fun h313 => ?_)
                · have c314 : x1.toInt = (1 : Int) := o_eq h313
                  refine ok_ite (fun h315 => ?_) (fun h315 => ?_)
                  · have c316 : (0 : Int) = (0 : Int) := o_eq h315
                    unfold J_X3_touchesInRow_170
                    exact ok_some (show δ = δ from rfl)
                  · have c317 : (0 : Int) ≠ (0 : Int) := o_ne h315
                    first | (have q321 := te_subc (c := 1) (n := 1) rfl ((q_I δ 3 1 a0) - x5v) (by omega) (by omega); obtain ⟨f322, f323, f324⟩ := q321) | (obtain ⟨q321, f322, f323, f324⟩ := ti_subc (c := 1) (n := 1) rfl ((q_I δ 3 1 a0) - x5v))
                    refine ok_biv (fun vx318 e319 => ?_)
                    first | (have q325 := te_add vx297 (((q_I δ 3 1 a0) - x5v) - (1 : Int32)) (by omega) (by omega); rw [← e319] at q325; obtain ⟨f326, f327, f328⟩ := q325) | (obtain ⟨q325, f326, f327, f328⟩ : ∃ q : Int, vx318.toInt = vx297.toInt + (((q_I δ 3 1 a0) - x5v) - (1 : Int32)).toInt + 4294967296 * q ∧ -2147483648 ≤ vx318.toInt ∧ vx318.toInt ≤ 2147483647 := by rw [e319]; exact ti_add vx297 (((q_I δ 3 1 a0) - x5v) - (1 : Int32)))
                    unfold J_X3_touchesInRow_170
                    exact ok_some (show δ = δ from rfl)
                · have c329 : x1.toInt ≠ (1 : Int) := o_ne h313
                  unfold J_X3_touchesInRow_170
                  exact ok_some (show δ = δ from rfl)
              · have c330 : (0 : Int) ≠ (0 : Int) := o_ne h295
                unfold J_X3_touchesInRow_146
                refine ok_ite (fun h331 => ?_) (fun h331 => ?_)
                · have c332 : x1.toInt = (1 : Int) := o_eq h331
                  refine ok_ite (fun h333 => ?_) (fun h333 => ?_)
                  · have c334 : (0 : Int) = (0 : Int) := o_eq h333
                    unfold J_X3_touchesInRow_170
                    exact ok_some (show δ = δ from rfl)
                  · have c335 : (0 : Int) ≠ (0 : Int) := o_ne h333
                    first | (have q339 := te_sub (q_I δ 3 1 a0) x5v (by omega) (by omega); obtain ⟨f340, f341, f342⟩ := q339) | (obtain ⟨q339, f340, f341, f342⟩ := ti_sub (q_I δ 3 1 a0) x5v)
                    first | (have q344 := te_subc (c := 1) (n := 1) rfl ((q_I δ 3 1 a0) - x5v) (by omega) (by omega); obtain ⟨f345, f346, f347⟩ := q344) | (obtain ⟨q344, f345, f346, f347⟩ := ti_subc (c := 1) (n := 1) rfl ((q_I δ 3 1 a0) - x5v))
                    refine ok_biv (fun vx336 e337 => ?_)
                    first | (have q348 := te_add vx286 (((q_I δ 3 1 a0) - x5v) - (1 : Int32)) (by omega) (by omega); rw [← e337] at q348; obtain ⟨f349, f350, f351⟩ := q348) | (obtain ⟨q348, f349, f350, f351⟩ : ∃ q : Int, vx336.toInt = vx286.toInt + (((q_I δ 3 1 a0) - x5v) - (1 : Int32)).toInt + 4294967296 * q ∧ -2147483648 ≤ vx336.toInt ∧ vx336.toInt ≤ 2147483647 := by rw [e337]; exact ti_add vx286 (((q_I δ 3 1 a0) - x5v) - (1 : Int32)))
                    unfold J_X3_touchesInRow_170
                    exact ok_some (show δ = δ from rfl)
                · have c352 : x1.toInt ≠ (1 : Int) := o_ne h331
                  unfold J_X3_touchesInRow_170
                  exact ok_some (show δ = δ from rfl)
            · have c353 : x1.toInt ≠ (0 : Int) := o_ne h293
              unfold J_X3_touchesInRow_146
              refine ok_ite (fun h354 => ?_) (fun h354 => ?_)
              · have c355 : x1.toInt = (1 : Int) := o_eq h354
                refine ok_ite (fun h356 => ?_) (fun h356 => ?_)
                · have c357 : (0 : Int) = (0 : Int) := o_eq h356
                  unfold J_X3_touchesInRow_170
                  exact ok_some (show δ = δ from rfl)
                · have c358 : (0 : Int) ≠ (0 : Int) := o_ne h356
                  first | (have q362 := te_sub (q_I δ 3 1 a0) x5v (by omega) (by omega); obtain ⟨f363, f364, f365⟩ := q362) | (obtain ⟨q362, f363, f364, f365⟩ := ti_sub (q_I δ 3 1 a0) x5v)
                  first | (have q367 := te_subc (c := 1) (n := 1) rfl ((q_I δ 3 1 a0) - x5v) (by omega) (by omega); obtain ⟨f368, f369, f370⟩ := q367) | (obtain ⟨q367, f368, f369, f370⟩ := ti_subc (c := 1) (n := 1) rfl ((q_I δ 3 1 a0) - x5v))
                  refine ok_biv (fun vx359 e360 => ?_)
                  first | (have q371 := te_add vx286 (((q_I δ 3 1 a0) - x5v) - (1 : Int32)) (by omega) (by omega); rw [← e360] at q371; obtain ⟨f372, f373, f374⟩ := q371) | (obtain ⟨q371, f372, f373, f374⟩ : ∃ q : Int, vx359.toInt = vx286.toInt + (((q_I δ 3 1 a0) - x5v) - (1 : Int32)).toInt + 4294967296 * q ∧ -2147483648 ≤ vx359.toInt ∧ vx359.toInt ≤ 2147483647 := by rw [e360]; exact ti_add vx286 (((q_I δ 3 1 a0) - x5v) - (1 : Int32)))
                  unfold J_X3_touchesInRow_170
                  exact ok_some (show δ = δ from rfl)
              · have c375 : x1.toInt ≠ (1 : Int) := o_ne h354
                unfold J_X3_touchesInRow_170
                exact ok_some (show δ = δ from rfl)
      · have c376 : x5v.toInt < (q_I δ 3 1 a0).toInt := o_nle h12
        refine ok_at o4 ?_
        have t377 := ti_tn x5v
        refine ok_gd (fun hc378 => ?_) ?_
        · rcases hc378 with hc378 | hc378
          · have c379 : x5v.toInt < (0 : Int) := o_lt hc378
            omega
          · omega
        have f380 := ti_b (q_R δ b3 x5v.toNatClampNeg)
        have f381 := ti_b x2
        refine ok_ite (fun h382 => ?_) (fun h382 => ?_)
        · have c383 : (q_R δ b3 x5v.toNatClampNeg).toInt = x2.toInt := o_eq h382
          unfold J_X3_touchesInRow_96
          have f384 := ti_b x1
          refine ok_ite (fun h385 => ?_) (fun h385 => ?_)
          · have c386 : x1.toInt = (4 : Int) := o_eq h385
            refine ok_ite (fun h387 => ?_) (fun h387 => ?_)
            · have c388 : x5v.toInt ≤ (0 : Int) := o_le h387
              unfold J_X3_touchesInRow_123
              refine ok_ite (fun h389 => ?_) (fun h389 => ?_)
              · have c390 : x1.toInt = (0 : Int) := o_eq h389
                refine ok_ite (fun h391 => ?_) (fun h391 => ?_)
                · have c392 : (1 : Int) = (0 : Int) := o_eq h391
                  have f395 := ti_b x4v
                  first | (have q397 := te_sub (q_I δ 3 1 a0) x5v (by omega) (by omega); obtain ⟨f398, f399, f400⟩ := q397) | (obtain ⟨q397, f398, f399, f400⟩ := ti_sub (q_I δ 3 1 a0) x5v)
                  first | (have q402 := te_addc (c := 1) (n := 1) rfl ((q_I δ 3 1 a0) - x5v) (by omega) (by omega); obtain ⟨f403, f404, f405⟩ := q402) | (obtain ⟨q402, f403, f404, f405⟩ := ti_addc (c := 1) (n := 1) rfl ((q_I δ 3 1 a0) - x5v))
                  refine ok_biv (fun vx393 e394 => ?_)
                  first | (have q406 := te_add x4v (((q_I δ 3 1 a0) - x5v) + (1 : Int32)) (by omega) (by omega); rw [← e394] at q406; obtain ⟨f407, f408, f409⟩ := q406) | (obtain ⟨q406, f407, f408, f409⟩ : ∃ q : Int, vx393.toInt = x4v.toInt + (((q_I δ 3 1 a0) - x5v) + (1 : Int32)).toInt + 4294967296 * q ∧ -2147483648 ≤ vx393.toInt ∧ vx393.toInt ≤ 2147483647 := by rw [e394]; exact ti_add x4v (((q_I δ 3 1 a0) - x5v) + (1 : Int32)))
                  unfold J_X3_touchesInRow_146
                  refine ok_ite (fun h410 => ?_) (fun h410 => ?_)
                  · have c411 : x1.toInt = (1 : Int) := o_eq h410
                    refine ok_ite (fun h412 => ?_) (fun h412 => ?_)
                    · have c413 : (1 : Int) = (0 : Int) := o_eq h412
                      unfold J_X3_touchesInRow_170
                      exact ok_some (show δ = δ from rfl)
                    · have c414 : (1 : Int) ≠ (0 : Int) := o_ne h412
                      first | (have q418 := te_subc (c := 1) (n := 1) rfl ((q_I δ 3 1 a0) - x5v) (by omega) (by omega); obtain ⟨f419, f420, f421⟩ := q418) | (obtain ⟨q418, f419, f420, f421⟩ := ti_subc (c := 1) (n := 1) rfl ((q_I δ 3 1 a0) - x5v))
                      refine ok_biv (fun vx415 e416 => ?_)
                      first | (have q422 := te_add vx393 (((q_I δ 3 1 a0) - x5v) - (1 : Int32)) (by omega) (by omega); rw [← e416] at q422; obtain ⟨f423, f424, f425⟩ := q422) | (obtain ⟨q422, f423, f424, f425⟩ : ∃ q : Int, vx415.toInt = vx393.toInt + (((q_I δ 3 1 a0) - x5v) - (1 : Int32)).toInt + 4294967296 * q ∧ -2147483648 ≤ vx415.toInt ∧ vx415.toInt ≤ 2147483647 := by rw [e416]; exact ti_add vx393 (((q_I δ 3 1 a0) - x5v) - (1 : Int32)))
                      unfold J_X3_touchesInRow_170
                      exact ok_some (show δ = δ from rfl)
                  · have c426 : x1.toInt ≠ (1 : Int) := o_ne h410
                    unfold J_X3_touchesInRow_170
                    exact ok_some (show δ = δ from rfl)
                · have c427 : (1 : Int) ≠ (0 : Int) := o_ne h391
                  unfold J_X3_touchesInRow_146
                  refine ok_ite (fun h428 => ?_) (fun h428 => ?_)
                  · have c429 : x1.toInt = (1 : Int) := o_eq h428
                    refine ok_ite (fun h430 => ?_) (fun h430 => ?_)
                    · have c431 : (1 : Int) = (0 : Int) := o_eq h430
                      unfold J_X3_touchesInRow_170
                      exact ok_some (show δ = δ from rfl)
                    · have c432 : (1 : Int) ≠ (0 : Int) := o_ne h430
                      have f435 := ti_b x4v
                      first | (have q437 := te_sub (q_I δ 3 1 a0) x5v (by omega) (by omega); obtain ⟨f438, f439, f440⟩ := q437) | (obtain ⟨q437, f438, f439, f440⟩ := ti_sub (q_I δ 3 1 a0) x5v)
                      first | (have q442 := te_subc (c := 1) (n := 1) rfl ((q_I δ 3 1 a0) - x5v) (by omega) (by omega); obtain ⟨f443, f444, f445⟩ := q442) | (obtain ⟨q442, f443, f444, f445⟩ := ti_subc (c := 1) (n := 1) rfl ((q_I δ 3 1 a0) - x5v))
                      refine ok_biv (fun vx433 e434 => ?_)
                      first | (have q446 := te_add x4v (((q_I δ 3 1 a0) - x5v) - (1 : Int32)) (by omega) (by omega); rw [← e434] at q446; obtain ⟨f447, f448, f449⟩ := q446) | (obtain ⟨q446, f447, f448, f449⟩ : ∃ q : Int, vx433.toInt = x4v.toInt + (((q_I δ 3 1 a0) - x5v) - (1 : Int32)).toInt + 4294967296 * q ∧ -2147483648 ≤ vx433.toInt ∧ vx433.toInt ≤ 2147483647 := by rw [e434]; exact ti_add x4v (((q_I δ 3 1 a0) - x5v) - (1 : Int32)))
                      unfold J_X3_touchesInRow_170
                      exact ok_some (show δ = δ from rfl)
                  · have c450 : x1.toInt ≠ (1 : Int) := o_ne h428
                    unfold J_X3_touchesInRow_170
                    exact ok_some (show δ = δ from rfl)
              · have c451 : x1.toInt ≠ (0 : Int) := o_ne h389
                unfold J_X3_touchesInRow_146
                refine ok_ite (fun h452 => ?_) (fun h452 => ?_)
                · have c453 : x1.toInt = (1 : Int) := o_eq h452
                  refine ok_ite (fun h454 => ?_) (fun h454 => ?_)
                  · have c455 : (1 : Int) = (0 : Int) := o_eq h454
                    unfold J_X3_touchesInRow_170
                    exact ok_some (show δ = δ from rfl)
                  · have c456 : (1 : Int) ≠ (0 : Int) := o_ne h454
                    have f459 := ti_b x4v
                    first | (have q461 := te_sub (q_I δ 3 1 a0) x5v (by omega) (by omega); obtain ⟨f462, f463, f464⟩ := q461) | (obtain ⟨q461, f462, f463, f464⟩ := ti_sub (q_I δ 3 1 a0) x5v)
                    first | (have q466 := te_subc (c := 1) (n := 1) rfl ((q_I δ 3 1 a0) - x5v) (by omega) (by omega); obtain ⟨f467, f468, f469⟩ := q466) | (obtain ⟨q466, f467, f468, f469⟩ := ti_subc (c := 1) (n := 1) rfl ((q_I δ 3 1 a0) - x5v))
                    refine ok_biv (fun vx457 e458 => ?_)
                    first | (have q470 := te_add x4v (((q_I δ 3 1 a0) - x5v) - (1 : Int32)) (by omega) (by omega); rw [← e458] at q470; obtain ⟨f471, f472, f473⟩ := q470) | (obtain ⟨q470, f471, f472, f473⟩ : ∃ q : Int, vx457.toInt = x4v.toInt + (((q_I δ 3 1 a0) - x5v) - (1 : Int32)).toInt + 4294967296 * q ∧ -2147483648 ≤ vx457.toInt ∧ vx457.toInt ≤ 2147483647 := by rw [e458]; exact ti_add x4v (((q_I δ 3 1 a0) - x5v) - (1 : Int32)))
                    unfold J_X3_touchesInRow_170
                    exact ok_some (show δ = δ from rfl)
                · have c474 : x1.toInt ≠ (1 : Int) := o_ne h452
                  unfold J_X3_touchesInRow_170
                  exact ok_some (show δ = δ from rfl)
            · have c475 : (0 : Int) < x5v.toInt := o_nle h387
              unfold J_X3_touchesInRow_120
              have f478 := ti_b x4v
              refine ok_biv (fun vx476 e477 => ?_)
              first | (have q479 := te_addc (c := 1) (n := 1) rfl x4v (by omega) (by omega); rw [← e477] at q479; obtain ⟨f480, f481, f482⟩ := q479) | (obtain ⟨q479, f480, f481, f482⟩ : ∃ q : Int, vx476.toInt = x4v.toInt + (1 : Int) + 4294967296 * q ∧ -2147483648 ≤ vx476.toInt ∧ vx476.toInt ≤ 2147483647 := by rw [e477]; exact ti_addc (c := 1) (n := 1) rfl x4v)
              unfold J_X3_touchesInRow_123
              refine ok_ite (fun h483 => ?_) (fun h483 => ?_)
              · have c484 : x1.toInt = (0 : Int) := o_eq h483
                refine ok_ite (fun h485 => ?_) (fun h485 => ?_)
                · have c486 : (1 : Int) = (0 : Int) := o_eq h485
                  first | (have q490 := te_sub (q_I δ 3 1 a0) x5v (by omega) (by omega); obtain ⟨f491, f492, f493⟩ := q490) | (obtain ⟨q490, f491, f492, f493⟩ := ti_sub (q_I δ 3 1 a0) x5v)
                  first | (have q495 := te_addc (c := 1) (n := 1) rfl ((q_I δ 3 1 a0) - x5v) (by omega) (by omega); obtain ⟨f496, f497, f498⟩ := q495) | (obtain ⟨q495, f496, f497, f498⟩ := ti_addc (c := 1) (n := 1) rfl ((q_I δ 3 1 a0) - x5v))
                  refine ok_biv (fun vx487 e488 => ?_)
                  first | (have q499 := te_add vx476 (((q_I δ 3 1 a0) - x5v) + (1 : Int32)) (by omega) (by omega); rw [← e488] at q499; obtain ⟨f500, f501, f502⟩ := q499) | (obtain ⟨q499, f500, f501, f502⟩ : ∃ q : Int, vx487.toInt = vx476.toInt + (((q_I δ 3 1 a0) - x5v) + (1 : Int32)).toInt + 4294967296 * q ∧ -2147483648 ≤ vx487.toInt ∧ vx487.toInt ≤ 2147483647 := by rw [e488]; exact ti_add vx476 (((q_I δ 3 1 a0) - x5v) + (1 : Int32)))
                  unfold J_X3_touchesInRow_146
                  refine ok_ite (fun h503 => ?_) (fun h503 => ?_)
                  · have c504 : x1.toInt = (1 : Int) := o_eq h503
                    refine ok_ite (fun h505 => ?_) (fun h505 => ?_)
                    · have c506 : (1 : Int) = (0 : Int) := o_eq h505
                      unfold J_X3_touchesInRow_170
                      exact ok_some (show δ = δ from rfl)
                    · have c507 : (1 : Int) ≠ (0 : Int) := o_ne h505
                      first | (have q511 := te_subc (c := 1) (n := 1) rfl ((q_I δ 3 1 a0) - x5v) (by omega) (by omega); obtain ⟨f512, f513, f514⟩ := q511) | (obtain ⟨q511, f512, f513, f514⟩ := ti_subc (c := 1) (n := 1) rfl ((q_I δ 3 1 a0) - x5v))
                      refine ok_biv (fun vx508 e509 => ?_)
                      first | (have q515 := te_add vx487 (((q_I δ 3 1 a0) - x5v) - (1 : Int32)) (by omega) (by omega); rw [← e509] at q515; obtain ⟨f516, f517, f518⟩ := q515) | (obtain ⟨q515, f516, f517, f518⟩ : ∃ q : Int, vx508.toInt = vx487.toInt + (((q_I δ 3 1 a0) - x5v) - (1 : Int32)).toInt + 4294967296 * q ∧ -2147483648 ≤ vx508.toInt ∧ vx508.toInt ≤ 2147483647 := by rw [e509]; exact ti_add vx487 (((q_I δ 3 1 a0) - x5v) - (1 : Int32)))
                      unfold J_X3_touchesInRow_170
                      exact ok_some (show δ = δ from rfl)
                  · have c519 : x1.toInt ≠ (1 : Int) := o_ne h503
                    unfold J_X3_touchesInRow_170
                    exact ok_some (show δ = δ from rfl)
                · have c520 : (1 : Int) ≠ (0 : Int) := o_ne h485
                  unfold J_X3_touchesInRow_146
                  refine ok_ite (fun h521 => ?_) (fun h521 => ?_)
                  · have c522 : x1.toInt = (1 : Int) := o_eq h521
                    refine ok_ite (fun h523 => ?_) (fun h523 => ?_)
                    · have c524 : (1 : Int) = (0 : Int) := o_eq h523
                      unfold J_X3_touchesInRow_170
                      exact ok_some (show δ = δ from rfl)
                    · have c525 : (1 : Int) ≠ (0 : Int) := o_ne h523
                      first | (have q529 := te_sub (q_I δ 3 1 a0) x5v (by omega) (by omega); obtain ⟨f530, f531, f532⟩ := q529) | (obtain ⟨q529, f530, f531, f532⟩ := ti_sub (q_I δ 3 1 a0) x5v)
                      first | (have q534 := te_subc (c := 1) (n := 1) rfl ((q_I δ 3 1 a0) - x5v) (by omega) (by omega); obtain ⟨f535, f536, f537⟩ := q534) | (obtain ⟨q534, f535, f536, f537⟩ := ti_subc (c := 1) (n := 1) rfl ((q_I δ 3 1 a0) - x5v))
                      refine ok_biv (fun vx526 e527 => ?_)
                      first | (have q538 := te_add vx476 (((q_I δ 3 1 a0) - x5v) - (1 : Int32)) (by omega) (by omega); rw [← e527] at q538; obtain ⟨f539, f540, f541⟩ := q538) | (obtain ⟨q538, f539, f540, f541⟩ : ∃ q : Int, vx526.toInt = vx476.toInt + (((q_I δ 3 1 a0) - x5v) - (1 : Int32)).toInt + 4294967296 * q ∧ -2147483648 ≤ vx526.toInt ∧ vx526.toInt ≤ 2147483647 := by rw [e527]; exact ti_add vx476 (((q_I δ 3 1 a0) - x5v) - (1 : Int32)))
                      unfold J_X3_touchesInRow_170
                      exact ok_some (show δ = δ from rfl)
                  · have c542 : x1.toInt ≠ (1 : Int) := o_ne h521
                    unfold J_X3_touchesInRow_170
                    exact ok_some (show δ = δ from rfl)
              · have c543 : x1.toInt ≠ (0 : Int) := o_ne h483
                unfold J_X3_touchesInRow_146
                refine ok_ite (fun h544 => ?_) (fun h544 => ?_)
                · have c545 : x1.toInt = (1 : Int) := o_eq h544
                  refine ok_ite (fun h546 => ?_) (fun h546 => ?_)
                  · have c547 : (1 : Int) = (0 : Int) := o_eq h546
                    unfold J_X3_touchesInRow_170
                    exact ok_some (show δ = δ from rfl)
                  · have c548 : (1 : Int) ≠ (0 : Int) := o_ne h546
                    first | (have q552 := te_sub (q_I δ 3 1 a0) x5v (by omega) (by omega); obtain ⟨f553, f554, f555⟩ := q552) | (obtain ⟨q552, f553, f554, f555⟩ := ti_sub (q_I δ 3 1 a0) x5v)
                    first | (have q557 := te_subc (c := 1) (n := 1) rfl ((q_I δ 3 1 a0) - x5v) (by omega) (by omega); obtain ⟨f558, f559, f560⟩ := q557) | (obtain ⟨q557, f558, f559, f560⟩ := ti_subc (c := 1) (n := 1) rfl ((q_I δ 3 1 a0) - x5v))
                    refine ok_biv (fun vx549 e550 => ?_)
                    first | (have q561 := te_add vx476 (((q_I δ 3 1 a0) - x5v) - (1 : Int32)) (by omega) (by omega); rw [← e550] at q561; obtain ⟨f562, f563, f564⟩ := q561) | (obtain ⟨q561, f562, f563, f564⟩ : ∃ q : Int, vx549.toInt = vx476.toInt + (((q_I δ 3 1 a0) - x5v) - (1 : Int32)).toInt + 4294967296 * q ∧ -2147483648 ≤ vx549.toInt ∧ vx549.toInt ≤ 2147483647 := by rw [e550]; exact ti_add vx476 (((q_I δ 3 1 a0) - x5v) - (1 : Int32)))
                    unfold J_X3_touchesInRow_170
                    exact ok_some (show δ = δ from rfl)
                · have c565 : x1.toInt ≠ (1 : Int) := o_ne h544
                  unfold J_X3_touchesInRow_170
                  exact ok_some (show δ = δ from rfl)
          · have c566 : x1.toInt ≠ (4 : Int) := o_ne h385
            refine ok_ite (fun h567 => ?_) (fun h567 => ?_)
            · have c568 : (q_I δ 3 1 a0).toInt ≤ x5v.toInt := o_le h567
              unfold J_X3_touchesInRow_123
              refine ok_ite (fun h569 => ?_) (fun h569 => ?_)
              · have c570 : x1.toInt = (0 : Int) := o_eq h569
                refine ok_ite (fun h571 => ?_) (fun h571 => ?_)
                · have c572 : (1 : Int) = (0 : Int) := o_eq h571
                  have f575 := ti_b x4v
                  first | (have q577 := te_sub (q_I δ 3 1 a0) x5v (by omega) (by omega); obtain ⟨f578, f579, f580⟩ := q577) | (obtain ⟨q577, f578, f579, f580⟩ := ti_sub (q_I δ 3 1 a0) x5v)
                  first | (have q582 := te_addc (c := 1) (n := 1) rfl ((q_I δ 3 1 a0) - x5v) (by omega) (by omega); obtain ⟨f583, f584, f585⟩ := q582) | (obtain ⟨q582, f583, f584, f585⟩ := ti_addc (c := 1) (n := 1) rfl ((q_I δ 3 1 a0) - x5v))
                  refine ok_biv (fun vx573 e574 => ?_)
                  first | (have q586 := te_add x4v (((q_I δ 3 1 a0) - x5v) + (1 : Int32)) (by omega) (by omega); rw [← e574] at q586; obtain ⟨f587, f588, f589⟩ := q586) | (obtain ⟨q586, f587, f588, f589⟩ : ∃ q : Int, vx573.toInt = x4v.toInt + (((q_I δ 3 1 a0) - x5v) + (1 : Int32)).toInt + 4294967296 * q ∧ -2147483648 ≤ vx573.toInt ∧ vx573.toInt ≤ 2147483647 := by rw [e574]; exact ti_add x4v (((q_I δ 3 1 a0) - x5v) + (1 : Int32)))
                  unfold J_X3_touchesInRow_146
                  refine ok_ite (fun h590 => ?_) (fun h590 => ?_)
                  · have c591 : x1.toInt = (1 : Int) := o_eq h590
                    refine ok_ite (fun h592 => ?_) (fun h592 => ?_)
                    · have c593 : (1 : Int) = (0 : Int) := o_eq h592
                      unfold J_X3_touchesInRow_170
                      exact ok_some (show δ = δ from rfl)
                    · have c594 : (1 : Int) ≠ (0 : Int) := o_ne h592
                      first | (have q598 := te_subc (c := 1) (n := 1) rfl ((q_I δ 3 1 a0) - x5v) (by omega) (by omega); obtain ⟨f599, f600, f601⟩ := q598) | (obtain ⟨q598, f599, f600, f601⟩ := ti_subc (c := 1) (n := 1) rfl ((q_I δ 3 1 a0) - x5v))
                      refine ok_biv (fun vx595 e596 => ?_)
                      first | (have q602 := te_add vx573 (((q_I δ 3 1 a0) - x5v) - (1 : Int32)) (by omega) (by omega); rw [← e596] at q602; obtain ⟨f603, f604, f605⟩ := q602) | (obtain ⟨q602, f603, f604, f605⟩ : ∃ q : Int, vx595.toInt = vx573.toInt + (((q_I δ 3 1 a0) - x5v) - (1 : Int32)).toInt + 4294967296 * q ∧ -2147483648 ≤ vx595.toInt ∧ vx595.toInt ≤ 2147483647 := by rw [e596]; exact ti_add vx573 (((q_I δ 3 1 a0) - x5v) - (1 : Int32)))
                      unfold J_X3_touchesInRow_170
                      exact ok_some (show δ = δ from rfl)
                  · have c606 : x1.toInt ≠ (1 : Int) := o_ne h590
                    unfold J_X3_touchesInRow_170
                    exact ok_some (show δ = δ from rfl)
                · have c607 : (1 : Int) ≠ (0 : Int) := o_ne h571
                  unfold J_X3_touchesInRow_146
                  refine ok_ite (fun h608 => ?_) (fun h608 => ?_)
                  · have c609 : x1.toInt = (1 : Int) := o_eq h608
                    refine ok_ite (fun h610 => ?_) (fun h610 => ?_)
                    · have c611 : (1 : Int) = (0 : Int) := o_eq h610
                      unfold J_X3_touchesInRow_170
                      exact ok_some (show δ = δ from rfl)
                    · have c612 : (1 : Int) ≠ (0 : Int) := o_ne h610
                      have f615 := ti_b x4v
                      first | (have q617 := te_sub (q_I δ 3 1 a0) x5v (by omega) (by omega); obtain ⟨f618, f619, f620⟩ := q617) | (obtain ⟨q617, f618, f619, f620⟩ := ti_sub (q_I δ 3 1 a0) x5v)
                      first | (have q622 := te_subc (c := 1) (n := 1) rfl ((q_I δ 3 1 a0) - x5v) (by omega) (by omega); obtain ⟨f623, f624, f625⟩ := q622) | (obtain ⟨q622, f623, f624, f625⟩ := ti_subc (c := 1) (n := 1) rfl ((q_I δ 3 1 a0) - x5v))
                      refine ok_biv (fun vx613 e614 => ?_)
                      first | (have q626 := te_add x4v (((q_I δ 3 1 a0) - x5v) - (1 : Int32)) (by omega) (by omega); rw [← e614] at q626; obtain ⟨f627, f628, f629⟩ := q626) | (obtain ⟨q626, f627, f628, f629⟩ : ∃ q : Int, vx613.toInt = x4v.toInt + (((q_I δ 3 1 a0) - x5v) - (1 : Int32)).toInt + 4294967296 * q ∧ -2147483648 ≤ vx613.toInt ∧ vx613.toInt ≤ 2147483647 := by rw [e614]; exact ti_add x4v (((q_I δ 3 1 a0) - x5v) - (1 : Int32)))
                      unfold J_X3_touchesInRow_170
                      exact ok_some (show δ = δ from rfl)
                  · have c630 : x1.toInt ≠ (1 : Int) := o_ne h608
                    unfold J_X3_touchesInRow_170
                    exact ok_some (show δ = δ from rfl)
              · have c631 : x1.toInt ≠ (0 : Int) := o_ne h569
                unfold J_X3_touchesInRow_146
                refine ok_ite (fun h632 => ?_) (fun h632 => ?_)
                · have c633 : x1.toInt = (1 : Int) := o_eq h632
                  refine ok_ite (fun h634 => ?_) (fun h634 => ?_)
                  · have c635 : (1 : Int) = (0 : Int) := o_eq h634
                    unfold J_X3_touchesInRow_170
                    exact ok_some (show δ = δ from rfl)
                  · have c636 : (1 : Int) ≠ (0 : Int) := o_ne h634
                    have f639 := ti_b x4v
                    first | (have q641 := te_sub (q_I δ 3 1 a0) x5v (by omega) (by omega); obtain ⟨f642, f643, f644⟩ := q641) | (obtain ⟨q641, f642, f643, f644⟩ := ti_sub (q_I δ 3 1 a0) x5v)
                    first | (have q646 := te_subc (c := 1) (n := 1) rfl ((q_I δ 3 1 a0) - x5v) (by omega) (by omega); obtain ⟨f647, f648, f649⟩ := q646) | (obtain ⟨q646, f647, f648, f649⟩ := ti_subc (c := 1) (n := 1) rfl ((q_I δ 3 1 a0) - x5v))
                    refine ok_biv (fun vx637 e638 => ?_)
                    first | (have q650 := te_add x4v (((q_I δ 3 1 a0) - x5v) - (1 : Int32)) (by omega) (by omega); rw [← e638] at q650; obtain ⟨f651, f652, f653⟩ := q650) | (obtain ⟨q650, f651, f652, f653⟩ : ∃ q : Int, vx637.toInt = x4v.toInt + (((q_I δ 3 1 a0) - x5v) - (1 : Int32)).toInt + 4294967296 * q ∧ -2147483648 ≤ vx637.toInt ∧ vx637.toInt ≤ 2147483647 := by rw [e638]; exact ti_add x4v (((q_I δ 3 1 a0) - x5v) - (1 : Int32)))
                    unfold J_X3_touchesInRow_170
                    exact ok_some (show δ = δ from rfl)
                · have c654 : x1.toInt ≠ (1 : Int) := o_ne h632
                  unfold J_X3_touchesInRow_170
                  exact ok_some (show δ = δ from rfl)
            · have c655 : x5v.toInt < (q_I δ 3 1 a0).toInt := o_nle h567
              unfold J_X3_touchesInRow_120
              have f658 := ti_b x4v
              refine ok_biv (fun vx656 e657 => ?_)
              first | (have q659 := te_addc (c := 1) (n := 1) rfl x4v (by omega) (by omega); rw [← e657] at q659; obtain ⟨f660, f661, f662⟩ := q659) | (obtain ⟨q659, f660, f661, f662⟩ : ∃ q : Int, vx656.toInt = x4v.toInt + (1 : Int) + 4294967296 * q ∧ -2147483648 ≤ vx656.toInt ∧ vx656.toInt ≤ 2147483647 := by rw [e657]; exact ti_addc (c := 1) (n := 1) rfl x4v)
              unfold J_X3_touchesInRow_123
              refine ok_ite (fun h663 => ?_) (fun h663 => ?_)
              · have c664 : x1.toInt = (0 : Int) := o_eq h663
                refine ok_ite (fun h665 => ?_) (fun h665 => ?_)
                · have c666 : (1 : Int) = (0 : Int) := o_eq h665
                  first | (have q670 := te_sub (q_I δ 3 1 a0) x5v (by omega) (by omega); obtain ⟨f671, f672, f673⟩ := q670) | (obtain ⟨q670, f671, f672, f673⟩ := ti_sub (q_I δ 3 1 a0) x5v)
                  first | (have q675 := te_addc (c := 1) (n := 1) rfl ((q_I δ 3 1 a0) - x5v) (by omega) (by omega); obtain ⟨f676, f677, f678⟩ := q675) | (obtain ⟨q675, f676, f677, f678⟩ := ti_addc (c := 1) (n := 1) rfl ((q_I δ 3 1 a0) - x5v))
                  refine ok_biv (fun vx667 e668 => ?_)
                  first | (have q679 := te_add vx656 (((q_I δ 3 1 a0) - x5v) + (1 : Int32)) (by omega) (by omega); rw [← e668] at q679; obtain ⟨f680, f681, f682⟩ := q679) | (obtain ⟨q679, f680, f681, f682⟩ : ∃ q : Int, vx667.toInt = vx656.toInt + (((q_I δ 3 1 a0) - x5v) + (1 : Int32)).toInt + 4294967296 * q ∧ -2147483648 ≤ vx667.toInt ∧ vx667.toInt ≤ 2147483647 := by rw [e668]; exact ti_add vx656 (((q_I δ 3 1 a0) - x5v) + (1 : Int32)))
                  unfold J_X3_touchesInRow_146
                  refine ok_ite (fun h683 => ?_) (fun h683 => ?_)
                  · have c684 : x1.toInt = (1 : Int) := o_eq h683
                    refine ok_ite (fun h685 => ?_) (fun h685 => ?_)
                    · have c686 : (1 : Int) = (0 : Int) := o_eq h685
                      unfold J_X3_touchesInRow_170
                      exact ok_some (show δ = δ from rfl)
                    · have c687 : (1 : Int) ≠ (0 : Int) := o_ne h685
                      first | (have q691 := te_subc (c := 1) (n := 1) rfl ((q_I δ 3 1 a0) - x5v) (by omega) (by omega); obtain ⟨f692, f693, f694⟩ := q691) | (obtain ⟨q691, f692, f693, f694⟩ := ti_subc (c := 1) (n := 1) rfl ((q_I δ 3 1 a0) - x5v))
                      refine ok_biv (fun vx688 e689 => ?_)
                      first | (have q695 := te_add vx667 (((q_I δ 3 1 a0) - x5v) - (1 : Int32)) (by omega) (by omega); rw [← e689] at q695; obtain ⟨f696, f697, f698⟩ := q695) | (obtain ⟨q695, f696, f697, f698⟩ : ∃ q : Int, vx688.toInt = vx667.toInt + (((q_I δ 3 1 a0) - x5v) - (1 : Int32)).toInt + 4294967296 * q ∧ -2147483648 ≤ vx688.toInt ∧ vx688.toInt ≤ 2147483647 := by rw [e689]; exact ti_add vx667 (((q_I δ 3 1 a0) - x5v) - (1 : Int32)))
                      unfold J_X3_touchesInRow_170
                      exact ok_some (show δ = δ from rfl)
                  · have c699 : x1.toInt ≠ (1 : Int) := o_ne h683
                    unfold J_X3_touchesInRow_170
                    exact ok_some (show δ = δ from rfl)
                · have c700 : (1 : Int) ≠ (0 : Int) := o_ne h665
                  unfold J_X3_touchesInRow_146
                  refine ok_ite (fun h701 => ?_) (fun h701 => ?_)
                  · have c702 : x1.toInt = (1 : Int) := o_eq h701
                    refine ok_ite (fun h703 => ?_) (fun h703 => ?_)
                    · have c704 : (1 : Int) = (0 : Int) := o_eq h703
                      unfold J_X3_touchesInRow_170
                      exact ok_some (show δ = δ from rfl)
                    · have c705 : (1 : Int) ≠ (0 : Int) := o_ne h703
                      first | (have q709 := te_sub (q_I δ 3 1 a0) x5v (by omega) (by omega); obtain ⟨f710, f711, f712⟩ := q709) | (obtain ⟨q709, f710, f711, f712⟩ := ti_sub (q_I δ 3 1 a0) x5v)
                      first | (have q714 := te_subc (c := 1) (n := 1) rfl ((q_I δ 3 1 a0) - x5v) (by omega) (by omega); obtain ⟨f715, f716, f717⟩ := q714) | (obtain ⟨q714, f715, f716, f717⟩ := ti_subc (c := 1) (n := 1) rfl ((q_I δ 3 1 a0) - x5v))
                      refine ok_biv (fun vx706 e707 => ?_)
                      first | (have q718 := te_add vx656 (((q_I δ 3 1 a0) - x5v) - (1 : Int32)) (by omega) (by omega); rw [← e707] at q718; obtain ⟨f719, f720, f721⟩ := q718) | (obtain ⟨q718, f719, f720, f721⟩ : ∃ q : Int, vx706.toInt = vx656.toInt + (((q_I δ 3 1 a0) - x5v) - (1 : Int32)).toInt + 4294967296 * q ∧ -2147483648 ≤ vx706.toInt ∧ vx706.toInt ≤ 2147483647 := by rw [e707]; exact ti_add vx656 (((q_I δ 3 1 a0) - x5v) - (1 : Int32)))
                      unfold J_X3_touchesInRow_170
                      exact ok_some (show δ = δ from rfl)
                  · have c722 : x1.toInt ≠ (1 : Int) := o_ne h701
                    unfold J_X3_touchesInRow_170
                    exact ok_some (show δ = δ from rfl)
              · have c723 : x1.toInt ≠ (0 : Int) := o_ne h663
                unfold J_X3_touchesInRow_146
                refine ok_ite (fun h724 => ?_) (fun h724 => ?_)
                · have c725 : x1.toInt = (1 : Int) := o_eq h724
                  refine ok_ite (fun h726 => ?_) (fun h726 => ?_)
                  · have c727 : (1 : Int) = (0 : Int) := o_eq h726
                    unfold J_X3_touchesInRow_170
                    exact ok_some (show δ = δ from rfl)
                  · have c728 : (1 : Int) ≠ (0 : Int) := o_ne h726
                    first | (have q732 := te_sub (q_I δ 3 1 a0) x5v (by omega) (by omega); obtain ⟨f733, f734, f735⟩ := q732) | (obtain ⟨q732, f733, f734, f735⟩ := ti_sub (q_I δ 3 1 a0) x5v)
                    first | (have q737 := te_subc (c := 1) (n := 1) rfl ((q_I δ 3 1 a0) - x5v) (by omega) (by omega); obtain ⟨f738, f739, f740⟩ := q737) | (obtain ⟨q737, f738, f739, f740⟩ := ti_subc (c := 1) (n := 1) rfl ((q_I δ 3 1 a0) - x5v))
                    refine ok_biv (fun vx729 e730 => ?_)
                    first | (have q741 := te_add vx656 (((q_I δ 3 1 a0) - x5v) - (1 : Int32)) (by omega) (by omega); rw [← e730] at q741; obtain ⟨f742, f743, f744⟩ := q741) | (obtain ⟨q741, f742, f743, f744⟩ : ∃ q : Int, vx729.toInt = vx656.toInt + (((q_I δ 3 1 a0) - x5v) - (1 : Int32)).toInt + 4294967296 * q ∧ -2147483648 ≤ vx729.toInt ∧ vx729.toInt ≤ 2147483647 := by rw [e730]; exact ti_add vx656 (((q_I δ 3 1 a0) - x5v) - (1 : Int32)))
                    unfold J_X3_touchesInRow_170
                    exact ok_some (show δ = δ from rfl)
                · have c745 : x1.toInt ≠ (1 : Int) := o_ne h724
                  unfold J_X3_touchesInRow_170
                  exact ok_some (show δ = δ from rfl)
        · have c746 : (q_R δ b3 x5v.toNatClampNeg).toInt ≠ x2.toInt := o_ne h382
          unfold J_X3_touchesInRow_95
          unfold J_X3_touchesInRow_96
          have f747 := ti_b x1
          refine ok_ite (fun h748 => ?_) (fun h748 => ?_)
          · have c749 : x1.toInt = (4 : Int) := o_eq h748
            refine ok_ite (fun h750 => ?_) (fun h750 => ?_)
            · have c751 : x5v.toInt ≤ (0 : Int) := o_le h750
              unfold J_X3_touchesInRow_123
              refine ok_ite (fun h752 => ?_) (fun h752 => ?_)
              · have c753 : x1.toInt = (0 : Int) := o_eq h752
                refine ok_ite (fun h754 => ?_) (fun h754 => ?_)
                · have c755 : (0 : Int) = (0 : Int) := o_eq h754
                  have f758 := ti_b x4v
                  first | (have q760 := te_sub (q_I δ 3 1 a0) x5v (by omega) (by omega); obtain ⟨f761, f762, f763⟩ := q760) | (obtain ⟨q760, f761, f762, f763⟩ := ti_sub (q_I δ 3 1 a0) x5v)
                  first | (have q765 := te_addc (c := 1) (n := 1) rfl ((q_I δ 3 1 a0) - x5v) (by omega) (by omega); obtain ⟨f766, f767, f768⟩ := q765) | (obtain ⟨q765, f766, f767, f768⟩ := ti_addc (c := 1) (n := 1) rfl ((q_I δ 3 1 a0) - x5v))
                  refine ok_biv (fun vx756 e757 => ?_)
                  first | (have q769 := te_add x4v (((q_I δ 3 1 a0) - x5v) + (1 : Int32)) (by omega) (by omega); rw [← e757] at q769; obtain ⟨f770, f771, f772⟩ := q769) | (obtain ⟨q769, f770, f771, f772⟩ : ∃ q : Int, vx756.toInt = x4v.toInt + (((q_I δ 3 1 a0) - x5v) + (1 : Int32)).toInt + 4294967296 * q ∧ -2147483648 ≤ vx756.toInt ∧ vx756.toInt ≤ 2147483647 := by rw [e757]; exact ti_add x4v (((q_I δ 3 1 a0) - x5v) + (1 : Int32)))
                  unfold J_X3_touchesInRow_146
                  refine ok_ite (fun h773 => ?_) (fun h773 => ?_)
                  · have c774 : x1.toInt = (1 : Int) := o_eq h773
                    refine ok_ite (fun h775 => ?_) (fun h775 => ?_)
                    · have c776 : (0 : Int) = (0 : Int) := o_eq h775
                      unfold J_X3_touchesInRow_170
                      exact ok_some (show δ = δ from rfl)
                    · have c777 : (0 : Int) ≠ (0 : Int) := o_ne h775
                      first | (have q781 := te_subc (c := 1) (n := 1) rfl ((q_I δ 3 1 a0) - x5v) (by omega) (by omega); obtain ⟨f782, f783, f784⟩ := q781) | (obtain ⟨q781, f782, f783, f784⟩ := ti_subc (c := 1) (n := 1) rfl ((q_I δ 3 1 a0) - x5v))
                      refine ok_biv (fun vx778 e779 => ?_)
                      first | (have q785 := te_add vx756 (((q_I δ 3 1 a0) - x5v) - (1 : Int32)) (by omega) (by omega); rw [← e779] at q785; obtain ⟨f786, f787, f788⟩ := q785) | (obtain ⟨q785, f786, f787, f788⟩ : ∃ q : Int, vx778.toInt = vx756.toInt + (((q_I δ 3 1 a0) - x5v) - (1 : Int32)).toInt + 4294967296 * q ∧ -2147483648 ≤ vx778.toInt ∧ vx778.toInt ≤ 2147483647 := by rw [e779]; exact ti_add vx756 (((q_I δ 3 1 a0) - x5v) - (1 : Int32)))
                      unfold J_X3_touchesInRow_170
                      exact ok_some (show δ = δ from rfl)
                  · have c789 : x1.toInt ≠ (1 : Int) := o_ne h773
                    unfold J_X3_touchesInRow_170
                    exact ok_some (show δ = δ from rfl)
                · have c790 : (0 : Int) ≠ (0 : Int) := o_ne h754
                  unfold J_X3_touchesInRow_146
                  refine ok_ite (fun h791 => ?_) (fun h791 => ?_)
                  · have c792 : x1.toInt = (1 : Int) := o_eq h791
                    refine ok_ite (fun h793 => ?_) (fun h793 => ?_)
                    · have c794 : (0 : Int) = (0 : Int) := o_eq h793
                      unfold J_X3_touchesInRow_170
                      exact ok_some (show δ = δ from rfl)
                    · have c795 : (0 : Int) ≠ (0 : Int) := o_ne h793
                      have f798 := ti_b x4v
                      first | (have q800 := te_sub (q_I δ 3 1 a0) x5v (by omega) (by omega); obtain ⟨f801, f802, f803⟩ := q800) | (obtain ⟨q800, f801, f802, f803⟩ := ti_sub (q_I δ 3 1 a0) x5v)
                      first | (have q805 := te_subc (c := 1) (n := 1) rfl ((q_I δ 3 1 a0) - x5v) (by omega) (by omega); obtain ⟨f806, f807, f808⟩ := q805) | (obtain ⟨q805, f806, f807, f808⟩ := ti_subc (c := 1) (n := 1) rfl ((q_I δ 3 1 a0) - x5v))
                      refine ok_biv (fun vx796 e797 => ?_)
                      first | (have q809 := te_add x4v (((q_I δ 3 1 a0) - x5v) - (1 : Int32)) (by omega) (by omega); rw [← e797] at q809; obtain ⟨f810, f811, f812⟩ := q809) | (obtain ⟨q809, f810, f811, f812⟩ : ∃ q : Int, vx796.toInt = x4v.toInt + (((q_I δ 3 1 a0) - x5v) - (1 : Int32)).toInt + 4294967296 * q ∧ -2147483648 ≤ vx796.toInt ∧ vx796.toInt ≤ 2147483647 := by rw [e797]; exact ti_add x4v (((q_I δ 3 1 a0) - x5v) - (1 : Int32)))
                      unfold J_X3_touchesInRow_170
                      exact ok_some (show δ = δ from rfl)
                  · have c813 : x1.toInt ≠ (1 : Int) := o_ne h791
                    unfold J_X3_touchesInRow_170
                    exact ok_some (show δ = δ from rfl)
              · have c814 : x1.toInt ≠ (0 : Int) := o_ne h752
                unfold J_X3_touchesInRow_146
                refine ok_ite (fun h815 => ?_) (fun h815 => ?_)
                · have c816 : x1.toInt = (1 : Int) := o_eq h815
                  refine ok_ite (fun h817 => ?_) (fun h817 => ?_)
                  · have c818 : (0 : Int) = (0 : Int) := o_eq h817
                    unfold J_X3_touchesInRow_170
                    exact ok_some (show δ = δ from rfl)
                  · have c819 : (0 : Int) ≠ (0 : Int) := o_ne h817
                    have f822 := ti_b x4v
                    first | (have q824 := te_sub (q_I δ 3 1 a0) x5v (by omega) (by omega); obtain ⟨f825, f826, f827⟩ := q824) | (obtain ⟨q824, f825, f826, f827⟩ := ti_sub (q_I δ 3 1 a0) x5v)
                    first | (have q829 := te_subc (c := 1) (n := 1) rfl ((q_I δ 3 1 a0) - x5v) (by omega) (by omega); obtain ⟨f830, f831, f832⟩ := q829) | (obtain ⟨q829, f830, f831, f832⟩ := ti_subc (c := 1) (n := 1) rfl ((q_I δ 3 1 a0) - x5v))
                    refine ok_biv (fun vx820 e821 => ?_)
                    first | (have q833 := te_add x4v (((q_I δ 3 1 a0) - x5v) - (1 : Int32)) (by omega) (by omega); rw [← e821] at q833; obtain ⟨f834, f835, f836⟩ := q833) | (obtain ⟨q833, f834, f835, f836⟩ : ∃ q : Int, vx820.toInt = x4v.toInt + (((q_I δ 3 1 a0) - x5v) - (1 : Int32)).toInt + 4294967296 * q ∧ -2147483648 ≤ vx820.toInt ∧ vx820.toInt ≤ 2147483647 := by rw [e821]; exact ti_add x4v (((q_I δ 3 1 a0) - x5v) - (1 : Int32)))
                    unfold J_X3_touchesInRow_170
                    exact ok_some (show δ = δ from rfl)
                · have c837 : x1.toInt ≠ (1 : Int) := o_ne h815
                  unfold J_X3_touchesInRow_170
                  exact ok_some (show δ = δ from rfl)
            · have c838 : (0 : Int) < x5v.toInt := o_nle h750
              unfold J_X3_touchesInRow_120
              have f841 := ti_b x4v
              refine ok_biv (fun vx839 e840 => ?_)
              first | (have q842 := te_addc (c := 1) (n := 1) rfl x4v (by omega) (by omega); rw [← e840] at q842; obtain ⟨f843, f844, f845⟩ := q842) | (obtain ⟨q842, f843, f844, f845⟩ : ∃ q : Int, vx839.toInt = x4v.toInt + (1 : Int) + 4294967296 * q ∧ -2147483648 ≤ vx839.toInt ∧ vx839.toInt ≤ 2147483647 := by rw [e840]; exact ti_addc (c := 1) (n := 1) rfl x4v)
              unfold J_X3_touchesInRow_123
              refine ok_ite (fun h846 => ?_) (fun h846 => ?_)
              · have c847 : x1.toInt = (0 : Int) := o_eq h846
                refine ok_ite (fun h848 => ?_) (fun h848 => ?_)
                · have c849 : (0 : Int) = (0 : Int) := o_eq h848
                  first | (have q853 := te_sub (q_I δ 3 1 a0) x5v (by omega) (by omega); obtain ⟨f854, f855, f856⟩ := q853) | (obtain ⟨q853, f854, f855, f856⟩ := ti_sub (q_I δ 3 1 a0) x5v)
                  first | (have q858 := te_addc (c := 1) (n := 1) rfl ((q_I δ 3 1 a0) - x5v) (by omega) (by omega); obtain ⟨f859, f860, f861⟩ := q858) | (obtain ⟨q858, f859, f860, f861⟩ := ti_addc (c := 1) (n := 1) rfl ((q_I δ 3 1 a0) - x5v))
                  refine ok_biv (fun vx850 e851 => ?_)
                  first | (have q862 := te_add vx839 (((q_I δ 3 1 a0) - x5v) + (1 : Int32)) (by omega) (by omega); rw [← e851] at q862; obtain ⟨f863, f864, f865⟩ := q862) | (obtain ⟨q862, f863, f864, f865⟩ : ∃ q : Int, vx850.toInt = vx839.toInt + (((q_I δ 3 1 a0) - x5v) + (1 : Int32)).toInt + 4294967296 * q ∧ -2147483648 ≤ vx850.toInt ∧ vx850.toInt ≤ 2147483647 := by rw [e851]; exact ti_add vx839 (((q_I δ 3 1 a0) - x5v) + (1 : Int32)))
                  unfold J_X3_touchesInRow_146
                  refine ok_ite (fun h866 => ?_) (fun h866 => ?_)
                  · have c867 : x1.toInt = (1 : Int) := o_eq h866
                    refine ok_ite (fun h868 => ?_) (fun h868 => ?_)
                    · have c869 : (0 : Int) = (0 : Int) := o_eq h868
                      unfold J_X3_touchesInRow_170
                      exact ok_some (show δ = δ from rfl)
                    · have c870 : (0 : Int) ≠ (0 : Int) := o_ne h868
                      first | (have q874 := te_subc (c := 1) (n := 1) rfl ((q_I δ 3 1 a0) - x5v) (by omega) (by omega); obtain ⟨f875, f876, f877⟩ := q874) | (obtain ⟨q874, f875, f876, f877⟩ := ti_subc (c := 1) (n := 1) rfl ((q_I δ 3 1 a0) - x5v))
                      refine ok_biv (fun vx871 e872 => ?_)
                      first | (have q878 := te_add vx850 (((q_I δ 3 1 a0) - x5v) - (1 : Int32)) (by omega) (by omega); rw [← e872] at q878; obtain ⟨f879, f880, f881⟩ := q878) | (obtain ⟨q878, f879, f880, f881⟩ : ∃ q : Int, vx871.toInt = vx850.toInt + (((q_I δ 3 1 a0) - x5v) - (1 : Int32)).toInt + 4294967296 * q ∧ -2147483648 ≤ vx871.toInt ∧ vx871.toInt ≤ 2147483647 := by rw [e872]; exact ti_add vx850 (((q_I δ 3 1 a0) - x5v) - (1 : Int32)))
                      unfold J_X3_touchesInRow_170
                      exact ok_some (show δ = δ from rfl)
                  · have c882 : x1.toInt ≠ (1 : Int) := o_ne h866
                    unfold J_X3_touchesInRow_170
                    exact ok_some (show δ = δ from rfl)
                · have c883 : (0 : Int) ≠ (0 : Int) := o_ne h848
                  unfold J_X3_touchesInRow_146
                  refine ok_ite (fun h884 => ?_) (fun h884 => ?_)
                  · have c885 : x1.toInt = (1 : Int) := o_eq h884
                    refine ok_ite (fun h886 => ?_) (fun h886 => ?_)
                    · have c887 : (0 : Int) = (0 : Int) := o_eq h886
                      unfold J_X3_touchesInRow_170
                      exact ok_some (show δ = δ from rfl)
                    · have c888 : (0 : Int) ≠ (0 : Int) := o_ne h886
                      first | (have q892 := te_sub (q_I δ 3 1 a0) x5v (by omega) (by omega); obtain ⟨f893, f894, f895⟩ := q892) | (obtain ⟨q892, f893, f894, f895⟩ := ti_sub (q_I δ 3 1 a0) x5v)
                      first | (have q897 := te_subc (c := 1) (n := 1) rfl ((q_I δ 3 1 a0) - x5v) (by omega) (by omega); obtain ⟨f898, f899, f900⟩ := q897) | (obtain ⟨q897, f898, f899, f900⟩ := ti_subc (c := 1) (n := 1) rfl ((q_I δ 3 1 a0) - x5v))
                      refine ok_biv (fun vx889 e890 => ?_)
                      first | (have q901 := te_add vx839 (((q_I δ 3 1 a0) - x5v) - (1 : Int32)) (by omega) (by omega); rw [← e890] at q901; obtain ⟨f902, f903, f904⟩ := q901) | (obtain ⟨q901, f902, f903, f904⟩ : ∃ q : Int, vx889.toInt = vx839.toInt + (((q_I δ 3 1 a0) - x5v) - (1 : Int32)).toInt + 4294967296 * q ∧ -2147483648 ≤ vx889.toInt ∧ vx889.toInt ≤ 2147483647 := by rw [e890]; exact ti_add vx839 (((q_I δ 3 1 a0) - x5v) - (1 : Int32)))
                      unfold J_X3_touchesInRow_170
                      exact ok_some (show δ = δ from rfl)
                  · have c905 : x1.toInt ≠ (1 : Int) := o_ne h884
                    unfold J_X3_touchesInRow_170
                    exact ok_some (show δ = δ from rfl)
              · have c906 : x1.toInt ≠ (0 : Int) := o_ne h846
                unfold J_X3_touchesInRow_146
                refine ok_ite (fun h907 => ?_) (fun h907 => ?_)
                · have c908 : x1.toInt = (1 : Int) := o_eq h907
                  refine ok_ite (fun h909 => ?_) (fun h909 => ?_)
                  · have c910 : (0 : Int) = (0 : Int) := o_eq h909
                    unfold J_X3_touchesInRow_170
                    exact ok_some (show δ = δ from rfl)
                  · have c911 : (0 : Int) ≠ (0 : Int) := o_ne h909
                    first | (have q915 := te_sub (q_I δ 3 1 a0) x5v (by omega) (by omega); obtain ⟨f916, f917, f918⟩ := q915) | (obtain ⟨q915, f916, f917, f918⟩ := ti_sub (q_I δ 3 1 a0) x5v)
                    first | (have q920 := te_subc (c := 1) (n := 1) rfl ((q_I δ 3 1 a0) - x5v) (by omega) (by omega); obtain ⟨f921, f922, f923⟩ := q920) | (obtain ⟨q920, f921, f922, f923⟩ := ti_subc (c := 1) (n := 1) rfl ((q_I δ 3 1 a0) - x5v))
                    refine ok_biv (fun vx912 e913 => ?_)
                    first | (have q924 := te_add vx839 (((q_I δ 3 1 a0) - x5v) - (1 : Int32)) (by omega) (by omega); rw [← e913] at q924; obtain ⟨f925, f926, f927⟩ := q924) | (obtain ⟨q924, f925, f926, f927⟩ : ∃ q : Int, vx912.toInt = vx839.toInt + (((q_I δ 3 1 a0) - x5v) - (1 : Int32)).toInt + 4294967296 * q ∧ -2147483648 ≤ vx912.toInt ∧ vx912.toInt ≤ 2147483647 := by rw [e913]; exact ti_add vx839 (((q_I δ 3 1 a0) - x5v) - (1 : Int32)))
                    unfold J_X3_touchesInRow_170
                    exact ok_some (show δ = δ from rfl)
                · have c928 : x1.toInt ≠ (1 : Int) := o_ne h907
                  unfold J_X3_touchesInRow_170
                  exact ok_some (show δ = δ from rfl)
          · have c929 : x1.toInt ≠ (4 : Int) := o_ne h748
            refine ok_ite (fun h930 => ?_) (fun h930 => ?_)
            · have c931 : (q_I δ 3 1 a0).toInt ≤ x5v.toInt := o_le h930
              unfold J_X3_touchesInRow_123
              refine ok_ite (fun h932 => ?_) (fun h932 => ?_)
              · have c933 : x1.toInt = (0 : Int) := o_eq h932
                refine ok_ite (fun h934 => ?_) (fun h934 => ?_)
                · have c935 : (0 : Int) = (0 : Int) := o_eq h934
                  have f938 := ti_b x4v
                  first | (have q940 := te_sub (q_I δ 3 1 a0) x5v (by omega) (by omega); obtain ⟨f941, f942, f943⟩ := q940) | (obtain ⟨q940, f941, f942, f943⟩ := ti_sub (q_I δ 3 1 a0) x5v)
                  first | (have q945 := te_addc (c := 1) (n := 1) rfl ((q_I δ 3 1 a0) - x5v) (by omega) (by omega); obtain ⟨f946, f947, f948⟩ := q945) | (obtain ⟨q945, f946, f947, f948⟩ := ti_addc (c := 1) (n := 1) rfl ((q_I δ 3 1 a0) - x5v))
                  refine ok_biv (fun vx936 e937 => ?_)
                  first | (have q949 := te_add x4v (((q_I δ 3 1 a0) - x5v) + (1 : Int32)) (by omega) (by omega); rw [← e937] at q949; obtain ⟨f950, f951, f952⟩ := q949) | (obtain ⟨q949, f950, f951, f952⟩ : ∃ q : Int, vx936.toInt = x4v.toInt + (((q_I δ 3 1 a0) - x5v) + (1 : Int32)).toInt + 4294967296 * q ∧ -2147483648 ≤ vx936.toInt ∧ vx936.toInt ≤ 2147483647 := by rw [e937]; exact ti_add x4v (((q_I δ 3 1 a0) - x5v) + (1 : Int32)))
                  unfold J_X3_touchesInRow_146
                  refine ok_ite (fun h953 => ?_) (fun h953 => ?_)
                  · have c954 : x1.toInt = (1 : Int) := o_eq h953
                    refine ok_ite (fun h955 => ?_) (fun h955 => ?_)
                    · have c956 : (0 : Int) = (0 : Int) := o_eq h955
                      unfold J_X3_touchesInRow_170
                      exact ok_some (show δ = δ from rfl)
                    · have c957 : (0 : Int) ≠ (0 : Int) := o_ne h955
                      first | (have q961 := te_subc (c := 1) (n := 1) rfl ((q_I δ 3 1 a0) - x5v) (by omega) (by omega); obtain ⟨f962, f963, f964⟩ := q961) | (obtain ⟨q961, f962, f963, f964⟩ := ti_subc (c := 1) (n := 1) rfl ((q_I δ 3 1 a0) - x5v))
                      refine ok_biv (fun vx958 e959 => ?_)
                      first | (have q965 := te_add vx936 (((q_I δ 3 1 a0) - x5v) - (1 : Int32)) (by omega) (by omega); rw [← e959] at q965; obtain ⟨f966, f967, f968⟩ := q965) | (obtain ⟨q965, f966, f967, f968⟩ : ∃ q : Int, vx958.toInt = vx936.toInt + (((q_I δ 3 1 a0) - x5v) - (1 : Int32)).toInt + 4294967296 * q ∧ -2147483648 ≤ vx958.toInt ∧ vx958.toInt ≤ 2147483647 := by rw [e959]; exact ti_add vx936 (((q_I δ 3 1 a0) - x5v) - (1 : Int32)))
                      unfold J_X3_touchesInRow_170
                      exact ok_some (show δ = δ from rfl)
                  · have c969 : x1.toInt ≠ (1 : Int) := o_ne h953
                    unfold J_X3_touchesInRow_170
                    exact ok_some (show δ = δ from rfl)
                · have c970 : (0 : Int) ≠ (0 : Int) := o_ne h934
                  unfold J_X3_touchesInRow_146
                  refine ok_ite (fun h971 => ?_) (fun h971 => ?_)
                  · have c972 : x1.toInt = (1 : Int) := o_eq h971
                    refine ok_ite (fun h973 => ?_) (fun h973 => ?_)
                    · have c974 : (0 : Int) = (0 : Int) := o_eq h973
                      unfold J_X3_touchesInRow_170
                      exact ok_some (show δ = δ from rfl)
                    · have c975 : (0 : Int) ≠ (0 : Int) := o_ne h973
                      have f978 := ti_b x4v
                      first | (have q980 := te_sub (q_I δ 3 1 a0) x5v (by omega) (by omega); obtain ⟨f981, f982, f983⟩ := q980) | (obtain ⟨q980, f981, f982, f983⟩ := ti_sub (q_I δ 3 1 a0) x5v)
                      first | (have q985 := te_subc (c := 1) (n := 1) rfl ((q_I δ 3 1 a0) - x5v) (by omega) (by omega); obtain ⟨f986, f987, f988⟩ := q985) | (obtain ⟨q985, f986, f987, f988⟩ := ti_subc (c := 1) (n := 1) rfl ((q_I δ 3 1 a0) - x5v))
                      refine ok_biv (fun vx976 e977 => ?_)
                      first | (have q989 := te_add x4v (((q_I δ 3 1 a0) - x5v) - (1 : Int32)) (by omega) (by omega); rw [← e977] at q989; obtain ⟨f990, f991, f992⟩ := q989) | (obtain ⟨q989, f990, f991, f992⟩ : ∃ q : Int, vx976.toInt = x4v.toInt + (((q_I δ 3 1 a0) - x5v) - (1 : Int32)).toInt + 4294967296 * q ∧ -2147483648 ≤ vx976.toInt ∧ vx976.toInt ≤ 2147483647 := by rw [e977]; exact ti_add x4v (((q_I δ 3 1 a0) - x5v) - (1 : Int32)))
                      unfold J_X3_touchesInRow_170
                      exact ok_some (show δ = δ from rfl)
                  · have c993 : x1.toInt ≠ (1 : Int) := o_ne h971
                    unfold J_X3_touchesInRow_170
                    exact ok_some (show δ = δ from rfl)
              · have c994 : x1.toInt ≠ (0 : Int) := o_ne h932
                unfold J_X3_touchesInRow_146
                refine ok_ite (fun h995 => ?_) (fun h995 => ?_)
                · have c996 : x1.toInt = (1 : Int) := o_eq h995
                  refine ok_ite (fun h997 => ?_) (fun h997 => ?_)
                  · have c998 : (0 : Int) = (0 : Int) := o_eq h997
                    unfold J_X3_touchesInRow_170
                    exact ok_some (show δ = δ from rfl)
                  · have c999 : (0 : Int) ≠ (0 : Int) := o_ne h997
                    have f1002 := ti_b x4v
                    first | (have q1004 := te_sub (q_I δ 3 1 a0) x5v (by omega) (by omega); obtain ⟨f1005, f1006, f1007⟩ := q1004) | (obtain ⟨q1004, f1005, f1006, f1007⟩ := ti_sub (q_I δ 3 1 a0) x5v)
                    first | (have q1009 := te_subc (c := 1) (n := 1) rfl ((q_I δ 3 1 a0) - x5v) (by omega) (by omega); obtain ⟨f1010, f1011, f1012⟩ := q1009) | (obtain ⟨q1009, f1010, f1011, f1012⟩ := ti_subc (c := 1) (n := 1) rfl ((q_I δ 3 1 a0) - x5v))
                    refine ok_biv (fun vx1000 e1001 => ?_)
                    first | (have q1013 := te_add x4v (((q_I δ 3 1 a0) - x5v) - (1 : Int32)) (by omega) (by omega); rw [← e1001] at q1013; obtain ⟨f1014, f1015, f1016⟩ := q1013) | (obtain ⟨q1013, f1014, f1015, f1016⟩ : ∃ q : Int, vx1000.toInt = x4v.toInt + (((q_I δ 3 1 a0) - x5v) - (1 : Int32)).toInt + 4294967296 * q ∧ -2147483648 ≤ vx1000.toInt ∧ vx1000.toInt ≤ 2147483647 := by rw [e1001]; exact ti_add x4v (((q_I δ 3 1 a0) - x5v) - (1 : Int32)))
                    unfold J_X3_touchesInRow_170
                    exact ok_some (show δ = δ from rfl)
                · have c1017 : x1.toInt ≠ (1 : Int) := o_ne h995
                  unfold J_X3_touchesInRow_170
                  exact ok_some (show δ = δ from rfl)
            · have c1018 : x5v.toInt < (q_I δ 3 1 a0).toInt := o_nle h930
              unfold J_X3_touchesInRow_120
              have f1021 := ti_b x4v
              refine ok_biv (fun vx1019 e1020 => ?_)
              first | (have q1022 := te_addc (c := 1) (n := 1) rfl x4v (by omega) (by omega); rw [← e1020] at q1022; obtain ⟨f1023, f1024, f1025⟩ := q1022) | (obtain ⟨q1022, f1023, f1024, f1025⟩ : ∃ q : Int, vx1019.toInt = x4v.toInt + (1 : Int) + 4294967296 * q ∧ -2147483648 ≤ vx1019.toInt ∧ vx1019.toInt ≤ 2147483647 := by rw [e1020]; exact ti_addc (c := 1) (n := 1) rfl x4v)
              unfold J_X3_touchesInRow_123
              refine ok_ite (fun h1026 => ?_) (fun h1026 => ?_)
              · have c1027 : x1.toInt = (0 : Int) := o_eq h1026
                refine ok_ite (fun h1028 => ?_) (fun h1028 => ?_)
                · have c1029 : (0 : Int) = (0 : Int) := o_eq h1028
                  first | (have q1033 := te_sub (q_I δ 3 1 a0) x5v (by omega) (by omega); obtain ⟨f1034, f1035, f1036⟩ := q1033) | (obtain ⟨q1033, f1034, f1035, f1036⟩ := ti_sub (q_I δ 3 1 a0) x5v)
                  first | (have q1038 := te_addc (c := 1) (n := 1) rfl ((q_I δ 3 1 a0) - x5v) (by omega) (by omega); obtain ⟨f1039, f1040, f1041⟩ := q1038) | (obtain ⟨q1038, f1039, f1040, f1041⟩ := ti_addc (c := 1) (n := 1) rfl ((q_I δ 3 1 a0) - x5v))
                  refine ok_biv (fun vx1030 e1031 => ?_)
                  first | (have q1042 := te_add vx1019 (((q_I δ 3 1 a0) - x5v) + (1 : Int32)) (by omega) (by omega); rw [← e1031] at q1042; obtain ⟨f1043, f1044, f1045⟩ := q1042) | (obtain ⟨q1042, f1043, f1044, f1045⟩ : ∃ q : Int, vx1030.toInt = vx1019.toInt + (((q_I δ 3 1 a0) - x5v) + (1 : Int32)).toInt + 4294967296 * q ∧ -2147483648 ≤ vx1030.toInt ∧ vx1030.toInt ≤ 2147483647 := by rw [e1031]; exact ti_add vx1019 (((q_I δ 3 1 a0) - x5v) + (1 : Int32)))
                  unfold J_X3_touchesInRow_146
                  refine ok_ite (fun h1046 => ?_) (fun h1046 => ?_)
                  · have c1047 : x1.toInt = (1 : Int) := o_eq h1046
                    refine ok_ite (fun h1048 => ?_) (fun h1048 => ?_)
                    · have c1049 : (0 : Int) = (0 : Int) := o_eq h1048
                      unfold J_X3_touchesInRow_170
                      exact ok_some (show δ = δ from rfl)
                    · have c1050 : (0 : Int) ≠ (0 : Int) := o_ne h1048
                      first | (have q1054 := te_subc (c := 1) (n := 1) rfl ((q_I δ 3 1 a0) - x5v) (by omega) (by omega); obtain ⟨f1055, f1056, f1057⟩ := q1054) | (obtain ⟨q1054, f1055, f1056, f1057⟩ := ti_subc (c := 1) (n := 1) rfl ((q_I δ 3 1 a0) - x5v))
                      refine ok_biv (fun vx1051 e1052 => ?_)
                      first | (have q1058 := te_add vx1030 (((q_I δ 3 1 a0) - x5v) - (1 : Int32)) (by omega) (by omega); rw [← e1052] at q1058; obtain ⟨f1059, f1060, f1061⟩ := q1058) | (obtain ⟨q1058, f1059, f1060, f1061⟩ : ∃ q : Int, vx1051.toInt = vx1030.toInt + (((q_I δ 3 1 a0) - x5v) - (1 : Int32)).toInt + 4294967296 * q ∧ -2147483648 ≤ vx1051.toInt ∧ vx1051.toInt ≤ 2147483647 := by rw [e1052]; exact ti_add vx1030 (((q_I δ 3 1 a0) - x5v) - (1 : Int32)))
                      unfold J_X3_touchesInRow_170
                      exact ok_some (show δ = δ from rfl)
                  · have c1062 : x1.toInt ≠ (1 : Int) := o_ne h1046
                    unfold J_X3_touchesInRow_170
                    exact ok_some (show δ = δ from rfl)
                · have c1063 : (0 : Int) ≠ (0 : Int) := o_ne h1028
                  unfold J_X3_touchesInRow_146
                  refine ok_ite (fun h1064 => ?_) (fun h1064 => ?_)
                  · have c1065 : x1.toInt = (1 : Int) := o_eq h1064
                    refine ok_ite (fun h1066 => ?_) (fun h1066 => ?_)
                    · have c1067 : (0 : Int) = (0 : Int) := o_eq h1066
                      unfold J_X3_touchesInRow_170
                      exact ok_some (show δ = δ from rfl)
                    · have c1068 : (0 : Int) ≠ (0 : Int) := o_ne h1066
                      first | (have q1072 := te_sub (q_I δ 3 1 a0) x5v (by omega) (by omega); obtain ⟨f1073, f1074, f1075⟩ := q1072) | (obtain ⟨q1072, f1073, f1074, f1075⟩ := ti_sub (q_I δ 3 1 a0) x5v)
                      first | (have q1077 := te_subc (c := 1) (n := 1) rfl ((q_I δ 3 1 a0) - x5v) (by omega) (by omega); obtain ⟨f1078, f1079, f1080⟩ := q1077) | (obtain ⟨q1077, f1078, f1079, f1080⟩ := ti_subc (c := 1) (n := 1) rfl ((q_I δ 3 1 a0) - x5v))
                      refine ok_biv (fun vx1069 e1070 => ?_)
                      first | (have q1081 := te_add vx1019 (((q_I δ 3 1 a0) - x5v) - (1 : Int32)) (by omega) (by omega); rw [← e1070] at q1081; obtain ⟨f1082, f1083, f1084⟩ := q1081) | (obtain ⟨q1081, f1082, f1083, f1084⟩ : ∃ q : Int, vx1069.toInt = vx1019.toInt + (((q_I δ 3 1 a0) - x5v) - (1 : Int32)).toInt + 4294967296 * q ∧ -2147483648 ≤ vx1069.toInt ∧ vx1069.toInt ≤ 2147483647 := by rw [e1070]; exact ti_add vx1019 (((q_I δ 3 1 a0) - x5v) - (1 : Int32)))
                      unfold J_X3_touchesInRow_170
                      exact ok_some (show δ = δ from rfl)
                  · have c1085 : x1.toInt ≠ (1 : Int) := o_ne h1064
                    unfold J_X3_touchesInRow_170
                    exact ok_some (show δ = δ from rfl)
              · have c1086 : x1.toInt ≠ (0 : Int) := o_ne h1026
                unfold J_X3_touchesInRow_146
                refine ok_ite (fun h1087 => ?_) (fun h1087 => ?_)
                · have c1088 : x1.toInt = (1 : Int) := o_eq h1087
                  refine ok_ite (fun h1089 => ?_) (fun h1089 => ?_)
                  · have c1090 : (0 : Int) = (0 : Int) := o_eq h1089
                    unfold J_X3_touchesInRow_170
                    exact ok_some (show δ = δ from rfl)
                  · have c1091 : (0 : Int) ≠ (0 : Int) := o_ne h1089
                    first | (have q1095 := te_sub (q_I δ 3 1 a0) x5v (by omega) (by omega); obtain ⟨f1096, f1097, f1098⟩ := q1095) | (obtain ⟨q1095, f1096, f1097, f1098⟩ := ti_sub (q_I δ 3 1 a0) x5v)
                    first | (have q1100 := te_subc (c := 1) (n := 1) rfl ((q_I δ 3 1 a0) - x5v) (by omega) (by omega); obtain ⟨f1101, f1102, f1103⟩ := q1100) | (obtain ⟨q1100, f1101, f1102, f1103⟩ := ti_subc (c := 1) (n := 1) rfl ((q_I δ 3 1 a0) - x5v))
                    refine ok_biv (fun vx1092 e1093 => ?_)
                    first | (have q1104 := te_add vx1019 (((q_I δ 3 1 a0) - x5v) - (1 : Int32)) (by omega) (by omega); rw [← e1093] at q1104; obtain ⟨f1105, f1106, f1107⟩ := q1104) | (obtain ⟨q1104, f1105, f1106, f1107⟩ : ∃ q : Int, vx1092.toInt = vx1019.toInt + (((q_I δ 3 1 a0) - x5v) - (1 : Int32)).toInt + 4294967296 * q ∧ -2147483648 ≤ vx1092.toInt ∧ vx1092.toInt ≤ 2147483647 := by rw [e1093]; exact ti_add vx1019 (((q_I δ 3 1 a0) - x5v) - (1 : Int32)))
                    unfold J_X3_touchesInRow_170
                    exact ok_some (show δ = δ from rfl)
                · have c1108 : x1.toInt ≠ (1 : Int) := o_ne h1087
                  unfold J_X3_touchesInRow_170
                  exact ok_some (show δ = δ from rfl)
    · have c1109 : x5v.toInt < x6v.toInt := o_nle h10
      first | (have q1113 := te_add x5v x6v (by omega) (by omega); obtain ⟨f1114, f1115, f1116⟩ := q1113) | (obtain ⟨q1113, f1114, f1115, f1116⟩ := ti_add x5v x6v)
      have f1117 := ti_div (c := 2) (n := 2) rfl (by decide) (x5v + x6v)
      have f1118 := ti_b ((x5v + x6v) / (2 : Int32))
      refine ok_biv (fun vx1110 e1111 => ?_)
      have f1119 : vx1110.toInt = ((x5v + x6v) / (2 : Int32)).toInt := congrArg Int32.toInt e1111
      have f1122 := ti_b x4v
      refine ok_biv (fun vx1120 e1121 => ?_)
      first | (have q1123 := te_addc (c := 1) (n := 1) rfl x4v (by omega) (by omega); rw [← e1121] at q1123; obtain ⟨f1124, f1125, f1126⟩ := q1123) | (obtain ⟨q1123, f1124, f1125, f1126⟩ : ∃ q : Int, vx1120.toInt = x4v.toInt + (1 : Int) + 4294967296 * q ∧ -2147483648 ≤ vx1120.toInt ∧ vx1120.toInt ≤ 2147483647 := by rw [e1121]; exact ti_addc (c := 1) (n := 1) rfl x4v)
      refine ok_at o4 ?_
      have t1127 := ti_tn vx1110
      refine ok_gd (fun hc1128 => ?_) ?_
      · rcases hc1128 with hc1128 | hc1128
        · have c1129 : vx1110.toInt < (0 : Int) := o_lt hc1128
          omega
        · omega
      have f1130 := ti_b x3v
      have f1131 := ti_b (q_R δ b3 vx1110.toNatClampNeg)
      refine ok_ite (fun h1132 => ?_) (fun h1132 => ?_)
      · have c1133 : x3v.toInt ≤ (q_R δ b3 vx1110.toNatClampNeg).toInt := o_le h1132
        unfold J_X3_touchesInRow_68
        refine ok_mono (ih x3v vx1120 x5v vx1110 δ I (show 0 ≤ (x5v).toInt by first | assumption | omega) (show (x5v).toInt ≤ (vx1110).toInt by first | assumption | omega) (show (vx1110).toInt ≤ (q_I δ 3 1 a0).toInt by first | assumption | omega) (show (vx1110).toInt - (x5v).toInt < _ by omega)) (fun r1134 hr1135 => ?_)
        have i1136 := hr1135
        have f1137 := ti_b r1134.1
        exact by assumption
      · have c1138 : (q_R δ b3 vx1110.toNatClampNeg).toInt < x3v.toInt := o_nle h1132
        refine ok_biv (fun vx1139 e1140 => ?_)
        first | (have q1141 := te_addc (c := 1) (n := 1) rfl vx1110 (by omega) (by omega); rw [← e1140] at q1141; obtain ⟨f1142, f1143, f1144⟩ := q1141) | (obtain ⟨q1141, f1142, f1143, f1144⟩ : ∃ q : Int, vx1139.toInt = vx1110.toInt + (1 : Int) + 4294967296 * q ∧ -2147483648 ≤ vx1139.toInt ∧ vx1139.toInt ≤ 2147483647 := by rw [e1140]; exact ti_addc (c := 1) (n := 1) rfl vx1110)
        unfold J_X3_touchesInRow_68
        refine ok_mono (ih x3v vx1120 vx1139 x6v δ I (show 0 ≤ (vx1139).toInt by first | assumption | omega) (show (vx1139).toInt ≤ (x6v).toInt by first | assumption | omega) (show (x6v).toInt ≤ (q_I δ 3 1 a0).toInt by first | assumption | omega) (show (x6v).toInt - (vx1139).toInt < _ by omega)) (fun r1145 hr1146 => ?_)
        have i1147 := hr1146
        have f1148 := ti_b r1145.1
        exact by assumption
set_option maxHeartbeats 4000000 in
theorem k_X3_touchesInRow {ad : List Nat} {h : hp} (L : Lay TLx ad h) {δ0 : dp} {N : Nat} (hN : 10000000 ≤ N) {a0 : Nat} {x1 : Int32} {x2 : Int32} (k_a0 : q_K h.1 a0 = 3) {δ : dp} (I : CI ad h.1 δ0 δ) : ok (D_X3_touchesInRow N h.1 a0 x1 x2 δ) (fun r => r.2 = δ) := by
  unfold D_X3_touchesInRow
  have f1 := ti_b x1
  refine ok_ite (fun h2 => ?_) (fun h2 => ?_)
  · have c3 : x1.toInt = (3 : Int) := o_eq h2
    unfold J_X3_touchesInRow_12
    obtain ⟨b6, o7, k8, ⟨n9, n10⟩, w11⟩ := gO_3_0 L k_a0
    have f12 := cb_3_1 I k_a0 o7
    refine ok_biv (fun vx4 e5 => ?_)
    have f13 : vx4.toInt = (q_I δ 3 1 a0).toInt := congrArg Int32.toInt e5
    refine ok_mono (kl_X3_touchesInRow_25 L hN   k_a0 _ (x2 + (1 : Int32)) (0 : Int32) (0 : Int32) vx4 δ I (show 0 ≤ (0 : Int) by first | assumption | omega) (show (0 : Int) ≤ (vx4).toInt by first | assumption | omega) (show (vx4).toInt ≤ (q_I δ 3 1 a0).toInt by first | assumption | omega) (show (vx4).toInt - (0 : Int) < _ by omega)) (fun r14 hr15 => ?_)
    have i16 := hr15
    have f17 := ti_b r14.1
    exact by assumption
  · have c18 : x1.toInt ≠ (3 : Int) := o_ne h2
    unfold J_X3_touchesInRow_12
    obtain ⟨b21, o22, k23, ⟨n24, n25⟩, w26⟩ := gO_3_0 L k_a0
    have f27 := cb_3_1 I k_a0 o22
    refine ok_biv (fun vx19 e20 => ?_)
    have f28 : vx19.toInt = (q_I δ 3 1 a0).toInt := congrArg Int32.toInt e20
    refine ok_mono (kl_X3_touchesInRow_25 L hN   k_a0 _ x2 (0 : Int32) (0 : Int32) vx19 δ I (show 0 ≤ (0 : Int) by first | assumption | omega) (show (0 : Int) ≤ (vx19).toInt by first | assumption | omega) (show (vx19).toInt ≤ (q_I δ 3 1 a0).toInt by first | assumption | omega) (show (vx19).toInt - (0 : Int) < _ by omega)) (fun r29 hr30 => ?_)
    have i31 := hr30
    have f32 := ti_b r29.1
    exact by assumption
