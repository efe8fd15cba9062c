section
/-! 55.kX3 (by gen_safe.py) -/
set_option maxHeartbeats 4000000 in
theorem kl_X3_firstFrom_7 {ad : List Nat} {h : hp} (L : Lay TLx ad h) {δ0 : dp} {N : Nat} (hN : 10000000 ≤ N) {a0 : Nat} {x1 : Int32} (k_a0 : q_K h.1 a0 = 3) : ∀ (n : Nat) (x2v : Int32) (x3v : Int32) (δ : dp), CI ad h.1 δ0 δ → 0 ≤ (x2v).toInt → (x2v).toInt ≤ (x3v).toInt → (x3v).toInt ≤ (q_I δ 3 1 a0).toInt → (x3v).toInt - (x2v).toInt < (n : Int) → ok (L_X3_firstFrom_7 N h.1 a0 x1 n x2v x3v δ) (fun r => r.2 = δ ∧ 0 ≤ (r.1).toInt ∧ (r.1).toInt ≤ (q_I δ 3 1 a0).toInt) := by
  intro n
  induction n with
  | zero =>
    intro x2v x3v δ I j0 j1 j2 hm
    have f1 := ti_b x2v
    have f2 := ti_b x3v
    obtain ⟨b3, o4, k5, ⟨n6, n7⟩, w8⟩ := gO_3_0 L k_a0
    have f9 := cb_3_1 I k_a0 o4
    exfalso; omega
  | succ n ih =>
    intro x2v x3v δ I j0 j1 j2 hm
    unfold L_X3_firstFrom_7
    have f1 := ti_b x2v
    have f2 := ti_b x3v
    obtain ⟨b3, o4, k5, ⟨n6, n7⟩, w8⟩ := gO_3_0 L k_a0
    have f9 := cb_3_1 I k_a0 o4
    refine ok_ite (fun h10 => ?_) (fun h10 => ?_)
    · have c11 : x3v.toInt ≤ x2v.toInt := o_le h10
      exact ok_some (show δ = δ ∧ 0 ≤ (x2v).toInt ∧ (x2v).toInt ≤ (q_I δ 3 1 a0).toInt from ⟨rfl, by first | with_reducible assumption | omega, by first | with_reducible assumption | omega⟩)
    · have c12 : x2v.toInt < x3v.toInt := o_nle h10
      first | (have q16 := te_add x2v x3v (by omega) (by omega); obtain ⟨f17, f18, f19⟩ := q16) | (obtain ⟨q16, f17, f18, f19⟩ := ti_add x2v x3v)
      have f20 := ti_div (c := 2) (n := 2) rfl (by decide) (x2v + x3v)
      have f21 := ti_b ((x2v + x3v) / (2 : Int32))
      refine ok_biv (fun vx13 e14 => ?_)
      have f22 : vx13.toInt = ((x2v + x3v) / (2 : Int32)).toInt := congrArg Int32.toInt e14
      refine ok_at o4 ?_
      have t23 := ti_tn vx13
      refine ok_gd (fun hc24 => ?_) ?_
      · rcases hc24 with hc24 | hc24
        · have c25 : vx13.toInt < (0 : Int) := o_lt hc24
          omega
        · omega
      have f26 := ti_b x1
      have f27 := ti_b (q_R δ b3 vx13.toNatClampNeg)
      refine ok_ite (fun h28 => ?_) (fun h28 => ?_)
      · have c29 : x1.toInt ≤ (q_R δ b3 vx13.toNatClampNeg).toInt := o_le h28
        unfold J_X3_firstFrom_41
        refine ok_mono (ih x2v vx13 δ I (show 0 ≤ (x2v).toInt by first | with_reducible assumption | omega) (show (x2v).toInt ≤ (vx13).toInt by first | with_reducible assumption | omega) (show (vx13).toInt ≤ (q_I δ 3 1 a0).toInt by first | with_reducible assumption | omega) (show (vx13).toInt - (x2v).toInt < _ by omega)) (fun r30 hr31 => ?_)
        obtain ⟨i32, p33, p34⟩ := hr31
        have f35 := ti_b r30.1
        exact ⟨by first | with_reducible assumption | assumption, by first | with_reducible assumption | omega, by first | with_reducible assumption | omega⟩
      · have c36 : (q_R δ b3 vx13.toNatClampNeg).toInt < x1.toInt := o_nle h28
        refine ok_biv (fun vx37 e38 => ?_)
        first | (have q39 := te_addc (c := 1) (n := 1) rfl vx13 (by omega) (by omega); rw [← e38] at q39; obtain ⟨f40, f41, f42⟩ := q39) | (obtain ⟨q39, f40, f41, f42⟩ : ∃ q : Int, vx37.toInt = vx13.toInt + (1 : Int) + 4294967296 * q ∧ -2147483648 ≤ vx37.toInt ∧ vx37.toInt ≤ 2147483647 := by rw [e38]; exact ti_addc (c := 1) (n := 1) rfl vx13)
        unfold J_X3_firstFrom_41
        refine ok_mono (ih vx37 x3v δ I (show 0 ≤ (vx37).toInt by first | with_reducible assumption | omega) (show (vx37).toInt ≤ (x3v).toInt by first | with_reducible assumption | omega) (show (x3v).toInt ≤ (q_I δ 3 1 a0).toInt by first | with_reducible assumption | omega) (show (x3v).toInt - (vx37).toInt < _ by omega)) (fun r43 hr44 => ?_)
        obtain ⟨i45, p46, p47⟩ := hr44
        have f48 := ti_b r43.1
        exact ⟨by first | with_reducible assumption | assumption, by first | with_reducible assumption | omega, by first | with_reducible assumption | omega⟩
set_option maxHeartbeats 4000000 in
theorem k_X3_firstFrom {ad : List Nat} {h : hp} (L : Lay TLx ad h) {δ0 : dp} {N : Nat} (hN : 10000000 ≤ N) {a0 : Nat} {x1 : Int32} (k_a0 : q_K h.1 a0 = 3) {δ : dp} (I : CI ad h.1 δ0 δ) : ok (D_X3_firstFrom N h.1 a0 x1 δ) (fun r => r.2 = δ ∧ 0 ≤ (r.1).toInt ∧ (r.1).toInt ≤ (q_I δ 3 1 a0).toInt) := by
  unfold D_X3_firstFrom
  obtain ⟨b3, o4, k5, ⟨n6, n7⟩, w8⟩ := gO_3_0 L k_a0
  have f9 := cb_3_1 I k_a0 o4
  refine ok_biv (fun vx1 e2 => ?_)
  have f10 : vx1.toInt = (q_I δ 3 1 a0).toInt := congrArg Int32.toInt e2
  refine ok_mono (kl_X3_firstFrom_7 L hN   k_a0 _ (0 : Int32) vx1 δ I (show 0 ≤ (0 : Int) by first | with_reducible assumption | omega) (show (0 : Int) ≤ (vx1).toInt by first | with_reducible assumption | omega) (show (vx1).toInt ≤ (q_I δ 3 1 a0).toInt by first | with_reducible assumption | omega) (show (vx1).toInt - (0 : Int) < _ by omega)) (fun r11 hr12 => ?_)
  obtain ⟨i13, p14, p15⟩ := hr12
  have f16 := ti_b r11.1
  exact ⟨by first | with_reducible assumption | assumption, by first | with_reducible assumption | omega, by first | with_reducible assumption | omega⟩
set_option maxHeartbeats 4000000 in
theorem k_X3_at {ad : List Nat} {h : hp} (L : Lay TLx ad h) {δ0 : dp} {N : Nat} (hN : 10000000 ≤ N) {a0 : Nat} {x1 : Int32} (k_a0 : q_K h.1 a0 = 3) {δ : dp} (I : CI ad h.1 δ0 δ) : ok (D_X3_at N h.1 a0 x1 δ) (fun r => r.2 = δ) := by
  unfold D_X3_at
  have f1 := ti_b x1
  refine ok_ite (fun h2 => ?_) (fun h2 => ?_)
  · have c3 : x1.toInt < (0 : Int) := o_lt h2
    unfold J_X3_at_12
    unfold J_X3_at_22
    exact ok_some (show δ = δ from rfl)
  · have c4 : (0 : Int) ≤ x1.toInt := o_nlt h2
    obtain ⟨b5, o6, k7, ⟨n8, n9⟩, w10⟩ := gO_3_0 L k_a0
    have f11 := cb_3_1 I k_a0 o6
    refine ok_ite (fun h12 => ?_) (fun h12 => ?_)
    · have c13 : x1.toInt < (q_I δ 3 1 a0).toInt := o_lt h12
      refine ok_at o6 ?_
      have t14 := ti_tn x1
      refine ok_gd (fun hc15 => ?_) ?_
      · rcases hc15 with hc15 | hc15
        · have c16 : x1.toInt < (0 : Int) := o_lt hc15
          omega
        · omega
      unfold J_X3_at_22
      exact ok_some (show δ = δ from rfl)
    · have c17 : (q_I δ 3 1 a0).toInt ≤ x1.toInt := o_nlt h12
      unfold J_X3_at_12
      unfold J_X3_at_22
      exact ok_some (show δ = δ from rfl)
set_option maxHeartbeats 4000000 in
theorem k_X3_holds {ad : List Nat} {h : hp} (L : Lay TLx ad h) {δ0 : dp} {N : Nat} (hN : 10000000 ≤ N) {a0 : Nat} {x1 : Int32} (k_a0 : q_K h.1 a0 = 3) {δ : dp} (I : CI ad h.1 δ0 δ) : ok (D_X3_holds N h.1 a0 x1 δ) (fun r => r.2 = δ ∧ bo (r.1)) := by
  unfold D_X3_holds
  refine ok_bind (k_X3_firstFrom L hN (a0 := a0) (x1 := x1) k_a0 I) (fun r1 hr2 => ?_)
  obtain ⟨i3, p4, p5⟩ := hr2
  try rw [i3]
  have f6 := ti_b r1.1
  obtain ⟨b7, o8, k9, ⟨n10, n11⟩, w12⟩ := gO_3_0 L k_a0
  have f13 := cb_3_1 I k_a0 o8
  refine ok_ite (fun h14 => ?_) (fun h14 => ?_)
  · have c15 : (q_I δ 3 1 a0).toInt ≤ r1.1.toInt := o_le h14
    unfold J_X3_holds_28
    unfold J_X3_holds_29
    refine ok_gp (by decide) ?_
    exact ok_some (show δ = δ ∧ bo ((0 : Int32)) from ⟨rfl, bo_0⟩)
  · have c16 : r1.1.toInt < (q_I δ 3 1 a0).toInt := o_nle h14
    refine ok_at o8 ?_
    have t17 := ti_tn r1.1
    refine ok_gd (fun hc18 => ?_) ?_
    · rcases hc18 with hc18 | hc18
      · have c19 : r1.1.toInt < (0 : Int) := o_lt hc18
        omega
      · omega
    have f20 := ti_b (q_R δ b7 r1.1.toNatClampNeg)
    have f21 := ti_b x1
    refine ok_ite (fun h22 => ?_) (fun h22 => ?_)
    · have c23 : (q_R δ b7 r1.1.toNatClampNeg).toInt = x1.toInt := o_eq h22
      unfold J_X3_holds_29
      refine ok_gp (by decide) ?_
      exact ok_some (show δ = δ ∧ bo ((1 : Int32)) from ⟨rfl, bo_1⟩)
    · have c24 : (q_R δ b7 r1.1.toNatClampNeg).toInt ≠ x1.toInt := o_ne h22
      unfold J_X3_holds_28
      unfold J_X3_holds_29
      refine ok_gp (by decide) ?_
      exact ok_some (show δ = δ ∧ bo ((0 : Int32)) from ⟨rfl, bo_0⟩)
set_option maxHeartbeats 4000000 in
theorem k_X3_above {ad : List Nat} {h : hp} (L : Lay TLx ad h) {δ0 : dp} {N : Nat} (hN : 10000000 ≤ N) {a0 : Nat} {x1 : Int32} (k_a0 : q_K h.1 a0 = 3) {δ : dp} (I : CI ad h.1 δ0 δ) : ok (D_X3_above N h.1 a0 x1 δ) (fun r => r.2 = δ) := by
  unfold D_X3_above
  refine ok_bind (k_X3_firstFrom L hN (a0 := a0) (x1 := (x1 + (1 : Int32))) k_a0 I) (fun r1 hr2 => ?_)
  obtain ⟨i3, p4, p5⟩ := hr2
  try rw [i3]
  have f6 := ti_b r1.1
  obtain ⟨b7, o8, k9, ⟨n10, n11⟩, w12⟩ := gO_3_0 L k_a0
  have f13 := cb_3_1 I k_a0 o8
  refine ok_bind (k_X3_at L hN (a0 := a0) (x1 := r1.1) k_a0 I) (fun r14 hr15 => ?_)
  have i16 := hr15
  try rw [i16]
  have f17 := ti_b r14.1
  exact ok_some (show δ = δ from rfl)
set_option maxHeartbeats 4000000 in
theorem k_X3_below {ad : List Nat} {h : hp} (L : Lay TLx ad h) {δ0 : dp} {N : Nat} (hN : 10000000 ≤ N) {a0 : Nat} {x1 : Int32} (k_a0 : q_K h.1 a0 = 3) {δ : dp} (I : CI ad h.1 δ0 δ) : ok (D_X3_below N h.1 a0 x1 δ) (fun r => r.2 = δ) := by
  unfold D_X3_below
  refine ok_bind (k_X3_firstFrom L hN (a0 := a0) (x1 := x1) k_a0 I) (fun r1 hr2 => ?_)
  obtain ⟨i3, p4, p5⟩ := hr2
  try rw [i3]
  have f6 := ti_b r1.1
  obtain ⟨b7, o8, k9, ⟨n10, n11⟩, w12⟩ := gO_3_0 L k_a0
  have f13 := cb_3_1 I k_a0 o8
  refine ok_bind (k_X3_at L hN (a0 := a0) (x1 := (r1.1 - (1 : Int32))) k_a0 I) (fun r14 hr15 => ?_)
  have i16 := hr15
  try rw [i16]
  have f17 := ti_b r14.1
  exact ok_some (show δ = δ from rfl)
set_option maxHeartbeats 4000000 in
theorem k_X3_tell {ad : List Nat} {h : hp} (L : Lay TLx ad h) {δ0 : dp} {N : Nat} (hN : 10000000 ≤ N) {a0 : Nat} {x1 : Int32} (k_a0 : q_K h.1 a0 = 3) {δ : dp} (I : CI ad h.1 δ0 δ) : ok (D_X3_tell N h.1 a0 x1 δ) (fun r => r.2 = δ) := by
  unfold D_X3_tell
  have f1 := ti_b x1
  refine ok_ite (fun h2 => ?_) (fun h2 => ?_)
  · have c3 : x1.toInt = (0 : Int) := o_eq h2
    unfold J_X3_tell_34
    exact ok_some (show δ = δ from rfl)
  · have c4 : x1.toInt ≠ (0 : Int) := o_ne h2
    refine ok_ite (fun h5 => ?_) (fun h5 => ?_)
    · have c6 : x1.toInt = (1 : Int) := o_eq h5
      refine ok_bind (k_X3_at L hN (a0 := a0) (x1 := (0 : Int32)) k_a0 I) (fun r7 hr8 => ?_)
      have i9 := hr8
      try rw [i9]
      have f10 := ti_b r7.1
      unfold J_X3_tell_34
      exact ok_some (show δ = δ from rfl)
    · have c11 : x1.toInt ≠ (1 : Int) := o_ne h5
      refine ok_bind (k_X3_at L hN (a0 := a0) (x1 := ((q_I δ 3 1 a0) - (1 : Int32))) k_a0 I) (fun r12 hr13 => ?_)
      have i14 := hr13
      try rw [i14]
      have f15 := ti_b r12.1
      unfold J_X3_tell_34
      exact ok_some (show δ = δ from rfl)
set_option maxHeartbeats 4000000 in
theorem k_X3_clear {ad : List Nat} {h : hp} (L : Lay TLx ad h) {δ0 : dp} {N : Nat} (hN : 10000000 ≤ N) {a0 : Nat} (k_a0 : q_K h.1 a0 = 3) {δ : dp} (I : CI ad h.1 δ0 δ) : ok (D_X3_clear N h.1 a0 δ) (fun r => CI ad h.1 δ0 r ∧ (kp [(3, 1)] δ r ∧ q_V r = q_V δ ∧ q_R r = q_R δ) ∧ (q_I r 3 1 a0).toInt = 0) := by
  unfold D_X3_clear
  obtain ⟨b4, o5, k6, ⟨n7, n8⟩, w9⟩ := gO_3_0 L k_a0
  refine ok_bdv (fun d1 e2 => ?_)
  have i3 : CI ad h.1 δ0 d1 := by rw [e2]; exact cs_3_1 L I o5 (show 0 ≤ (0 : Int) by omega) (show (0 : Int) ≤ (q_N h.1 b4 : Int) by omega)
  have u10 := kp_I kp_r e2
  have v11 : q_V d1 = q_V δ := ((show q_V d1 = q_V δ by rw [e2]; rfl)).trans rfl
  have v12 : q_R d1 = q_R δ := ((show q_R d1 = q_R δ by rw [e2]; rfl)).trans rfl
  have f13 := cb_3_1 i3 k_a0 o5
  have f14 : (q_I d1 3 1 a0).toInt = (0 : Int) := congrArg Int32.toInt (show q_I d1 3 1 a0 = (0 : Int32) by rw [e2]; exact rI_s)
  exact ok_some (show CI ad h.1 δ0 d1 ∧ (kp [(3, 1)] δ d1 ∧ q_V d1 = q_V δ ∧ q_R d1 = q_R δ) ∧ (q_I d1 3 1 a0).toInt = 0 from ⟨i3, ⟨kp_w (by decide) u10, v11, v12⟩, by first | with_reducible assumption | omega⟩)
set_option maxHeartbeats 4000000 in
theorem k_X3_add {ad : List Nat} {h : hp} (L : Lay TLx ad h) {δ0 : dp} {N : Nat} (hN : 10000000 ≤ N) {a0 : Nat} {x1 : Int32} (k_a0 : q_K h.1 a0 = 3) {δ : dp} (I : CI ad h.1 δ0 δ) : ok (D_X3_add N h.1 a0 x1 δ) (fun r => CI ad h.1 δ0 r.2 ∧ (kp [(3, 1)] δ r.2 ∧ q_V r.2 = q_V δ) ∧ bo (r.1)) := by
  unfold D_X3_add
  refine ok_bind (k_X3_firstFrom L hN (a0 := a0) (x1 := x1) k_a0 I) (fun r1 hr2 => ?_)
  obtain ⟨i3, p4, p5⟩ := hr2
  try rw [i3]
  have f6 := ti_b r1.1
  obtain ⟨b7, o8, k9, ⟨n10, n11⟩, w12⟩ := gO_3_0 L k_a0
  have f13 := cb_3_1 I k_a0 o8
  refine ok_ite (fun h14 => ?_) (fun h14 => ?_)
  · have c15 : (q_I δ 3 1 a0).toInt ≤ r1.1.toInt := o_le h14
    unfold J_X3_add_24
    refine ok_at o8 ?_
    have f16 := n_ti (q_N h.1 b7) (by omega)
    refine ok_ite (fun h17 => ?_) (fun h17 => ?_)
    · have c18 : (q_I δ 3 1 a0).toInt < (Int32.ofNat (q_N h.1 b7)).toInt := o_lt h17
      refine ok_at o8 ?_
      refine ok_at o8 ?_
      first | (have q20 := te_addc (c := 1) (n := 1) rfl r1.1 (by omega) (by omega); obtain ⟨f21, f22, f23⟩ := q20) | (obtain ⟨q20, f21, f22, f23⟩ := ti_addc (c := 1) (n := 1) rfl r1.1)
      first | (have q25 := te_sub (q_I δ 3 1 a0) r1.1 (by omega) (by omega); obtain ⟨f26, f27, f28⟩ := q25) | (obtain ⟨q25, f26, f27, f28⟩ := ti_sub (q_I δ 3 1 a0) r1.1)
      have t29 := ti_tn r1.1
      have t30 := ti_tn ((q_I δ 3 1 a0) - r1.1)
      have t31 := ti_tn (r1.1 + (1 : Int32))
      refine ok_gd (fun hc32 => ?_) ?_
      · rcases hc32 with hc32 | hc32 | hc32 | hc32 | hc32
        · have c33 : r1.1.toInt < (0 : Int) := o_lt hc32
          omega
        · have c34 : (r1.1 + (1 : Int32)).toInt < (0 : Int) := o_lt hc32
          omega
        · have c35 : ((q_I δ 3 1 a0) - r1.1).toInt < (0 : Int) := o_lt hc32
          omega
        · omega
        · omega
      refine ok_bdv (fun d36 e37 => ?_)
      have i38 : CI ad h.1 δ0 d36 := by rw [e37]; exact CI.sC L I w12
      have u39 := kp_N kp_r (show q_I d36 = q_I δ by rw [e37]; rfl)
      have v40 : q_V d36 = q_V δ := ((show q_V d36 = q_V δ by rw [e37]; rfl)).trans rfl
      refine ok_at o8 ?_
      refine ok_gd (fun hc41 => ?_) ?_
      · rcases hc41 with hc41 | hc41
        · have c42 : r1.1.toInt < (0 : Int) := o_lt hc41
          omega
        · omega
      refine ok_bdv (fun d43 e44 => ?_)
      have i45 : CI ad h.1 δ0 d43 := by rw [e44]; exact CI.sR L i38 w12
      have u46 := kp_N u39 (show q_I d43 = q_I d36 by rw [e44]; rfl)
      have v47 : q_V d43 = q_V δ := ((show q_V d43 = q_V d36 by rw [e44]; rfl)).trans v40
      have f51 : (q_I d43 3 1 a0).toInt = (q_I δ 3 1 a0).toInt := ((show (q_I d43 3 1 a0).toInt = (q_I d36 3 1 a0).toInt from congrArg Int32.toInt (by rw [e44]; rfl)).trans (show (q_I d36 3 1 a0).toInt = (q_I δ 3 1 a0).toInt from congrArg Int32.toInt (by rw [e37]; rfl)))
      first | (have q53 := te_addc (c := 1) (n := 1) rfl (q_I d43 3 1 a0) (by omega) (by omega); obtain ⟨f54, f55, f56⟩ := q53) | (obtain ⟨q53, f54, f55, f56⟩ := ti_addc (c := 1) (n := 1) rfl (q_I d43 3 1 a0))
      refine ok_bdv (fun d48 e49 => ?_)
      have i50 : CI ad h.1 δ0 d48 := by rw [e49]; exact cs_3_1 L i45 o8 (show 0 ≤ ((q_I d43 3 1 a0) + (1 : Int32)).toInt by omega) (show ((q_I d43 3 1 a0) + (1 : Int32)).toInt ≤ (q_N h.1 b7 : Int) by omega)
      have u57 := kp_I u46 e49
      have v58 : q_V d48 = q_V δ := ((show q_V d48 = q_V d43 by rw [e49]; rfl)).trans v47
      refine ok_gp (by decide) ?_
      exact ok_some (show CI ad h.1 δ0 d48 ∧ (kp [(3, 1)] δ d48 ∧ q_V d48 = q_V δ) ∧ bo ((1 : Int32)) from ⟨i50, ⟨kp_w (by decide) u57, v58⟩, bo_1⟩)
    · have c59 : (Int32.ofNat (q_N h.1 b7)).toInt ≤ (q_I δ 3 1 a0).toInt := o_nlt h17
      unfold J_X3_add_36
      refine ok_gp (by decide) ?_
      exact ok_some (show CI ad h.1 δ0 δ ∧ (kp [(3, 1)] δ δ ∧ q_V δ = q_V δ) ∧ bo ((0 : Int32)) from ⟨I, ⟨kp_w (by decide) kp_r, rfl⟩, bo_0⟩)
  · have c60 : r1.1.toInt < (q_I δ 3 1 a0).toInt := o_nle h14
    refine ok_at o8 ?_
    have t61 := ti_tn r1.1
    refine ok_gd (fun hc62 => ?_) ?_
    · rcases hc62 with hc62 | hc62
      · have c63 : r1.1.toInt < (0 : Int) := o_lt hc62
        omega
      · omega
    have f64 := ti_b (q_R δ b7 r1.1.toNatClampNeg)
    have f65 := ti_b x1
    refine ok_ite (fun h66 => ?_) (fun h66 => ?_)
    · have c67 : (q_R δ b7 r1.1.toNatClampNeg).toInt = x1.toInt := o_eq h66
      unfold J_X3_add_36
      refine ok_gp (by decide) ?_
      exact ok_some (show CI ad h.1 δ0 δ ∧ (kp [(3, 1)] δ δ ∧ q_V δ = q_V δ) ∧ bo ((0 : Int32)) from ⟨I, ⟨kp_w (by decide) kp_r, rfl⟩, bo_0⟩)
    · have c68 : (q_R δ b7 r1.1.toNatClampNeg).toInt ≠ x1.toInt := o_ne h66
      unfold J_X3_add_24
      refine ok_at o8 ?_
      have f69 := n_ti (q_N h.1 b7) (by omega)
      refine ok_ite (fun h70 => ?_) (fun h70 => ?_)
      · have c71 : (q_I δ 3 1 a0).toInt < (Int32.ofNat (q_N h.1 b7)).toInt := o_lt h70
        refine ok_at o8 ?_
        refine ok_at o8 ?_
        first | (have q73 := te_addc (c := 1) (n := 1) rfl r1.1 (by omega) (by omega); obtain ⟨f74, f75, f76⟩ := q73) | (obtain ⟨q73, f74, f75, f76⟩ := ti_addc (c := 1) (n := 1) rfl r1.1)
        first | (have q78 := te_sub (q_I δ 3 1 a0) r1.1 (by omega) (by omega); obtain ⟨f79, f80, f81⟩ := q78) | (obtain ⟨q78, f79, f80, f81⟩ := ti_sub (q_I δ 3 1 a0) r1.1)
        have t82 := ti_tn ((q_I δ 3 1 a0) - r1.1)
        have t83 := ti_tn (r1.1 + (1 : Int32))
        refine ok_gd (fun hc84 => ?_) ?_
        · rcases hc84 with hc84 | hc84 | hc84 | hc84 | hc84
          · have c85 : r1.1.toInt < (0 : Int) := o_lt hc84
            omega
          · have c86 : (r1.1 + (1 : Int32)).toInt < (0 : Int) := o_lt hc84
            omega
          · have c87 : ((q_I δ 3 1 a0) - r1.1).toInt < (0 : Int) := o_lt hc84
            omega
          · omega
          · omega
        refine ok_bdv (fun d88 e89 => ?_)
        have i90 : CI ad h.1 δ0 d88 := by rw [e89]; exact CI.sC L I w12
        have u91 := kp_N kp_r (show q_I d88 = q_I δ by rw [e89]; rfl)
        have v92 : q_V d88 = q_V δ := ((show q_V d88 = q_V δ by rw [e89]; rfl)).trans rfl
        refine ok_at o8 ?_
        refine ok_gd (fun hc93 => ?_) ?_
        · rcases hc93 with hc93 | hc93
          · have c94 : r1.1.toInt < (0 : Int) := o_lt hc93
            omega
          · omega
        refine ok_bdv (fun d95 e96 => ?_)
        have i97 : CI ad h.1 δ0 d95 := by rw [e96]; exact CI.sR L i90 w12
        have u98 := kp_N u91 (show q_I d95 = q_I d88 by rw [e96]; rfl)
        have v99 : q_V d95 = q_V δ := ((show q_V d95 = q_V d88 by rw [e96]; rfl)).trans v92
        have f103 : (q_I d95 3 1 a0).toInt = (q_I δ 3 1 a0).toInt := ((show (q_I d95 3 1 a0).toInt = (q_I d88 3 1 a0).toInt from congrArg Int32.toInt (by rw [e96]; rfl)).trans (show (q_I d88 3 1 a0).toInt = (q_I δ 3 1 a0).toInt from congrArg Int32.toInt (by rw [e89]; rfl)))
        first | (have q105 := te_addc (c := 1) (n := 1) rfl (q_I d95 3 1 a0) (by omega) (by omega); obtain ⟨f106, f107, f108⟩ := q105) | (obtain ⟨q105, f106, f107, f108⟩ := ti_addc (c := 1) (n := 1) rfl (q_I d95 3 1 a0))
        refine ok_bdv (fun d100 e101 => ?_)
        have i102 : CI ad h.1 δ0 d100 := by rw [e101]; exact cs_3_1 L i97 o8 (show 0 ≤ ((q_I d95 3 1 a0) + (1 : Int32)).toInt by omega) (show ((q_I d95 3 1 a0) + (1 : Int32)).toInt ≤ (q_N h.1 b7 : Int) by omega)
        have u109 := kp_I u98 e101
        have v110 : q_V d100 = q_V δ := ((show q_V d100 = q_V d95 by rw [e101]; rfl)).trans v99
        refine ok_gp (by decide) ?_
        exact ok_some (show CI ad h.1 δ0 d100 ∧ (kp [(3, 1)] δ d100 ∧ q_V d100 = q_V δ) ∧ bo ((1 : Int32)) from ⟨i102, ⟨kp_w (by decide) u109, v110⟩, bo_1⟩)
      · have c111 : (Int32.ofNat (q_N h.1 b7)).toInt ≤ (q_I δ 3 1 a0).toInt := o_nlt h70
        unfold J_X3_add_36
        refine ok_gp (by decide) ?_
        exact ok_some (show CI ad h.1 δ0 δ ∧ (kp [(3, 1)] δ δ ∧ q_V δ = q_V δ) ∧ bo ((0 : Int32)) from ⟨I, ⟨kp_w (by decide) kp_r, rfl⟩, bo_0⟩)
set_option maxHeartbeats 4000000 in
theorem k_X3_remove {ad : List Nat} {h : hp} (L : Lay TLx ad h) {δ0 : dp} {N : Nat} (hN : 10000000 ≤ N) {a0 : Nat} {x1 : Int32} (k_a0 : q_K h.1 a0 = 3) {δ : dp} (I : CI ad h.1 δ0 δ) : ok (D_X3_remove N h.1 a0 x1 δ) (fun r => CI ad h.1 δ0 r.2 ∧ (kp [(3, 1)] δ r.2 ∧ q_V r.2 = q_V δ) ∧ bo (r.1)) := by
  unfold D_X3_remove
  refine ok_bind (k_X3_firstFrom L hN (a0 := a0) (x1 := x1) k_a0 I) (fun r1 hr2 => ?_)
  obtain ⟨i3, p4, p5⟩ := hr2
  try rw [i3]
  have f6 := ti_b r1.1
  obtain ⟨b7, o8, k9, ⟨n10, n11⟩, w12⟩ := gO_3_0 L k_a0
  have f13 := cb_3_1 I k_a0 o8
  refine ok_ite (fun h14 => ?_) (fun h14 => ?_)
  · have c15 : (q_I δ 3 1 a0).toInt ≤ r1.1.toInt := o_le h14
    unfold J_X3_remove_24
    refine ok_gp (by decide) ?_
    exact ok_some (show CI ad h.1 δ0 δ ∧ (kp [(3, 1)] δ δ ∧ q_V δ = q_V δ) ∧ bo ((0 : Int32)) from ⟨I, ⟨kp_w (by decide) kp_r, rfl⟩, bo_0⟩)
  · have c16 : r1.1.toInt < (q_I δ 3 1 a0).toInt := o_nle h14
    refine ok_at o8 ?_
    have t17 := ti_tn r1.1
    refine ok_gd (fun hc18 => ?_) ?_
    · rcases hc18 with hc18 | hc18
      · have c19 : r1.1.toInt < (0 : Int) := o_lt hc18
        omega
      · omega
    have f20 := ti_b (q_R δ b7 r1.1.toNatClampNeg)
    have f21 := ti_b x1
    refine ok_ite (fun h22 => ?_) (fun h22 => ?_)
    · have c23 : (q_R δ b7 r1.1.toNatClampNeg).toInt = x1.toInt := o_eq h22
      first | (have q28 := te_subc (c := 1) (n := 1) rfl (q_I δ 3 1 a0) (by omega) (by omega); obtain ⟨f29, f30, f31⟩ := q28) | (obtain ⟨q28, f29, f30, f31⟩ := ti_subc (c := 1) (n := 1) rfl (q_I δ 3 1 a0))
      refine ok_bdv (fun d24 e25 => ?_)
      have i26 : CI ad h.1 δ0 d24 := by rw [e25]; exact cs_3_1 L I o8 (show 0 ≤ ((q_I δ 3 1 a0) - (1 : Int32)).toInt by omega) (show ((q_I δ 3 1 a0) - (1 : Int32)).toInt ≤ (q_N h.1 b7 : Int) by omega)
      have u32 := kp_I kp_r e25
      have v33 : q_V d24 = q_V δ := ((show q_V d24 = q_V δ by rw [e25]; rfl)).trans rfl
      refine ok_at o8 ?_
      refine ok_at o8 ?_
      first | (have q35 := te_addc (c := 1) (n := 1) rfl r1.1 (by omega) (by omega); obtain ⟨f36, f37, f38⟩ := q35) | (obtain ⟨q35, f36, f37, f38⟩ := ti_addc (c := 1) (n := 1) rfl r1.1)
      have f39 := cb_3_1 i26 k_a0 o8
      have f40 : (q_I d24 3 1 a0).toInt = ((q_I δ 3 1 a0) - (1 : Int32)).toInt := congrArg Int32.toInt (show q_I d24 3 1 a0 = ((q_I δ 3 1 a0) - (1 : Int32)) by rw [e25]; exact rI_s)
      first | (have q42 := te_sub (q_I d24 3 1 a0) r1.1 (by omega) (by omega); obtain ⟨f43, f44, f45⟩ := q42) | (obtain ⟨q42, f43, f44, f45⟩ := ti_sub (q_I d24 3 1 a0) r1.1)
      have t46 := ti_tn (r1.1 + (1 : Int32))
      have t47 := ti_tn ((q_I d24 3 1 a0) - r1.1)
      refine ok_gd (fun hc48 => ?_) ?_
      · rcases hc48 with hc48 | hc48 | hc48 | hc48 | hc48
        · have c49 : (r1.1 + (1 : Int32)).toInt < (0 : Int) := o_lt hc48
          omega
        · have c50 : r1.1.toInt < (0 : Int) := o_lt hc48
          omega
        · have c51 : ((q_I d24 3 1 a0) - r1.1).toInt < (0 : Int) := o_lt hc48
          omega
        · omega
        · omega
      refine ok_bdv (fun d52 e53 => ?_)
      have i54 : CI ad h.1 δ0 d52 := by rw [e53]; exact CI.sC L i26 w12
      have u55 := kp_N u32 (show q_I d52 = q_I d24 by rw [e53]; rfl)
      have v56 : q_V d52 = q_V δ := ((show q_V d52 = q_V d24 by rw [e53]; rfl)).trans v33
      refine ok_gp (by decide) ?_
      exact ok_some (show CI ad h.1 δ0 d52 ∧ (kp [(3, 1)] δ d52 ∧ q_V d52 = q_V δ) ∧ bo ((1 : Int32)) from ⟨i54, ⟨kp_w (by decide) u55, v56⟩, bo_1⟩)
    · have c57 : (q_R δ b7 r1.1.toNatClampNeg).toInt ≠ x1.toInt := o_ne h22
      unfold J_X3_remove_24
      refine ok_gp (by decide) ?_
      exact ok_some (show CI ad h.1 δ0 δ ∧ (kp [(3, 1)] δ δ ∧ q_V δ = q_V δ) ∧ bo ((0 : Int32)) from ⟨I, ⟨kp_w (by decide) kp_r, rfl⟩, bo_0⟩)
set_option maxHeartbeats 4000000 in
theorem k_X3_answer {ad : List Nat} {h : hp} (L : Lay TLx ad h) {δ0 : dp} {N : Nat} (hN : 10000000 ≤ N) {a0 : Nat} {x1 : Int32} {x2 : Int32} (k_a0 : q_K h.1 a0 = 3) {δ : dp} (I : CI ad h.1 δ0 δ) : ok (D_X3_answer N h.1 a0 x1 x2 δ) (fun r => CI ad h.1 δ0 r.2 ∧ (kp [(3, 1)] δ r.2 ∧ q_V r.2 = q_V δ)) := by
  unfold D_X3_answer
  have f1 := ti_b x1
  refine ok_ite (fun h2 => ?_) (fun h2 => ?_)
  · have c3 : x1.toInt = (3 : Int) := o_eq h2
    refine ok_bind (k_X3_above L hN (a0 := a0) (x1 := x2) k_a0 I) (fun r4 hr5 => ?_)
    have i6 := hr5
    try rw [i6]
    have f7 := ti_b r4.1
    exact ok_some (show CI ad h.1 δ0 δ ∧ (kp [(3, 1)] δ δ ∧ q_V δ = q_V δ) from ⟨I, ⟨kp_w (by decide) kp_r, rfl⟩⟩)
  · have c8 : x1.toInt ≠ (3 : Int) := o_ne h2
    refine ok_ite (fun h9 => ?_) (fun h9 => ?_)
    · have c10 : x1.toInt = (4 : Int) := o_eq h9
      refine ok_bind (k_X3_below L hN (a0 := a0) (x1 := x2) k_a0 I) (fun r11 hr12 => ?_)
      have i13 := hr12
      try rw [i13]
      have f14 := ti_b r11.1
      exact ok_some (show CI ad h.1 δ0 δ ∧ (kp [(3, 1)] δ δ ∧ q_V δ = q_V δ) from ⟨I, ⟨kp_w (by decide) kp_r, rfl⟩⟩)
    · have c15 : x1.toInt ≠ (4 : Int) := o_ne h9
      refine ok_ite (fun h16 => ?_) (fun h16 => ?_)
      · have c17 : x1.toInt = (0 : Int) := o_eq h16
        refine ok_bind (k_X3_add L hN (a0 := a0) (x1 := x2) k_a0 I) (fun r18 hr19 => ?_)
        obtain ⟨i20, ⟨u22, u23⟩, p21⟩ := hr19
        have u24 := kp_t kp_r u22
        have v25 : q_V r18.2 = q_V δ := (u23).trans rfl
        have f26 := bo_t p21
        have f27 := ti_b r18.1
        unfold J_X3_answer_52
        refine ok_ite (fun h28 => ?_) (fun h28 => ?_)
        · have c29 : r18.1.toInt = (0 : Int) := o_eq h28
          unfold J_X3_answer_62
          exact ok_some (show CI ad h.1 δ0 r18.2 ∧ (kp [(3, 1)] δ r18.2 ∧ q_V r18.2 = q_V δ) from ⟨i20, ⟨kp_w (by decide) u24, v25⟩⟩)
        · have c30 : r18.1.toInt ≠ (0 : Int) := o_ne h28
          unfold J_X3_answer_62
          exact ok_some (show CI ad h.1 δ0 r18.2 ∧ (kp [(3, 1)] δ r18.2 ∧ q_V r18.2 = q_V δ) from ⟨i20, ⟨kp_w (by decide) u24, v25⟩⟩)
      · have c31 : x1.toInt ≠ (0 : Int) := o_ne h16
        refine ok_ite (fun h32 => ?_) (fun h32 => ?_)
        · have c33 : x1.toInt = (1 : Int) := o_eq h32
          refine ok_bind (k_X3_remove L hN (a0 := a0) (x1 := x2) k_a0 I) (fun r34 hr35 => ?_)
          obtain ⟨i36, ⟨u38, u39⟩, p37⟩ := hr35
          have u40 := kp_t kp_r u38
          have v41 : q_V r34.2 = q_V δ := (u39).trans rfl
          have f42 := bo_t p37
          have f43 := ti_b r34.1
          unfold J_X3_answer_52
          refine ok_ite (fun h44 => ?_) (fun h44 => ?_)
          · have c45 : r34.1.toInt = (0 : Int) := o_eq h44
            unfold J_X3_answer_62
            exact ok_some (show CI ad h.1 δ0 r34.2 ∧ (kp [(3, 1)] δ r34.2 ∧ q_V r34.2 = q_V δ) from ⟨i36, ⟨kp_w (by decide) u40, v41⟩⟩)
          · have c46 : r34.1.toInt ≠ (0 : Int) := o_ne h44
            unfold J_X3_answer_62
            exact ok_some (show CI ad h.1 δ0 r34.2 ∧ (kp [(3, 1)] δ r34.2 ∧ q_V r34.2 = q_V δ) from ⟨i36, ⟨kp_w (by decide) u40, v41⟩⟩)
        · have c47 : x1.toInt ≠ (1 : Int) := o_ne h32
          refine ok_bind (k_X3_holds L hN (a0 := a0) (x1 := x2) k_a0 I) (fun r48 hr49 => ?_)
          obtain ⟨i50, p51⟩ := hr49
          try rw [i50]
          have f52 := bo_t p51
          have f53 := ti_b r48.1
          unfold J_X3_answer_52
          refine ok_ite (fun h54 => ?_) (fun h54 => ?_)
          · have c55 : r48.1.toInt = (0 : Int) := o_eq h54
            unfold J_X3_answer_62
            exact ok_some (show CI ad h.1 δ0 δ ∧ (kp [(3, 1)] δ δ ∧ q_V δ = q_V δ) from ⟨I, ⟨kp_w (by decide) kp_r, rfl⟩⟩)
          · have c56 : r48.1.toInt ≠ (0 : Int) := o_ne h54
            unfold J_X3_answer_62
            exact ok_some (show CI ad h.1 δ0 δ ∧ (kp [(3, 1)] δ δ ∧ q_V δ = q_V δ) from ⟨I, ⟨kp_w (by decide) kp_r, rfl⟩⟩)
set_option maxHeartbeats 4000000 in
theorem k_X3_wordOf {ad : List Nat} {h : hp} (L : Lay TLx ad h) {δ0 : dp} {N : Nat} (hN : 10000000 ≤ N) {x0 : Int32} {δ : dp} (I : CI ad h.1 δ0 δ) : ok (D_X3_wordOf N h.1 x0 δ) (fun r => r.2 = δ) := by
  unfold D_X3_wordOf
  exact ok_some (show δ = δ from rfl)
set_option maxHeartbeats 4000000 in
theorem k_X3_touchesInWords {ad : List Nat} {h : hp} (L : Lay TLx ad h) {δ0 : dp} {N : Nat} (hN : 10000000 ≤ N) {a0 : Nat} {x1 : Int32} {x2 : Int32} {x3 : Int32} (k_a0 : q_K h.1 a0 = 3) {δ : dp} (I : CI ad h.1 δ0 δ) : ok (D_X3_touchesInWords N h.1 a0 x1 x2 x3 δ) (fun r => r.2 = δ) := by
  unfold D_X3_touchesInWords
  have f3 := ti_b x3
  have f4 := sh_b x3
  have f5 := ti_b ((1 : Int32) <<< (x3 &&& 31))
  refine ok_biv (fun vx1 e2 => ?_)
  first | (have q6 := te_subc (c := 1) (n := 1) rfl ((1 : Int32) <<< (x3 &&& 31)) (by omega) (by omega); rw [← e2] at q6; obtain ⟨f7, f8, f9⟩ := q6) | (obtain ⟨q6, f7, f8, f9⟩ : ∃ q : Int, vx1.toInt = ((1 : Int32) <<< (x3 &&& 31)).toInt - (1 : Int) + 4294967296 * q ∧ -2147483648 ≤ vx1.toInt ∧ vx1.toInt ≤ 2147483647 := by rw [e2]; exact ti_subc (c := 1) (n := 1) rfl ((1 : Int32) <<< (x3 &&& 31)))
  have f10 := ti_b x1
  refine ok_ite (fun h11 => ?_) (fun h11 => ?_)
  · have c12 : x1.toInt = (3 : Int) := o_eq h11
    refine ok_bind (k_X3_above L hN (a0 := a0) (x1 := x2) k_a0 I) (fun r13 hr14 => ?_)
    have i15 := hr14
    try rw [i15]
    have f16 := ti_b r13.1
    have f17 := ti_b x2
    refine ok_ite (fun h18 => ?_) (fun h18 => ?_)
    · have c19 : x2.toInt < vx1.toInt := o_lt h18
      refine ok_ite (fun h20 => ?_) (fun h20 => ?_)
      · have c21 : r13.1.toInt = (-1 : Int) := o_eq h20
        unfold J_X3_touchesInWords_42
        refine ok_bind (k_X3_wordOf L hN (x0 := vx1)  I) (fun r22 hr23 => ?_)
        have i24 := hr23
        try rw [i24]
        have f25 := ti_b r22.1
        refine ok_bind (k_X3_wordOf L hN (x0 := (x2 + (1 : Int32)))  I) (fun r26 hr27 => ?_)
        have i28 := hr27
        try rw [i28]
        have f29 := ti_b r26.1
        unfold J_X3_touchesInWords_54
        exact ok_some (show δ = δ from rfl)
      · have c30 : r13.1.toInt ≠ (-1 : Int) := o_ne h20
        unfold J_X3_touchesInWords_42
        refine ok_bind (k_X3_wordOf L hN (x0 := r13.1)  I) (fun r31 hr32 => ?_)
        have i33 := hr32
        try rw [i33]
        have f34 := ti_b r31.1
        refine ok_bind (k_X3_wordOf L hN (x0 := (x2 + (1 : Int32)))  I) (fun r35 hr36 => ?_)
        have i37 := hr36
        try rw [i37]
        have f38 := ti_b r35.1
        unfold J_X3_touchesInWords_54
        exact ok_some (show δ = δ from rfl)
    · have c39 : vx1.toInt ≤ x2.toInt := o_nlt h18
      unfold J_X3_touchesInWords_54
      exact ok_some (show δ = δ from rfl)
  · have c40 : x1.toInt ≠ (3 : Int) := o_ne h11
    refine ok_ite (fun h41 => ?_) (fun h41 => ?_)
    · have c42 : x1.toInt = (4 : Int) := o_eq h41
      refine ok_bind (k_X3_below L hN (a0 := a0) (x1 := x2) k_a0 I) (fun r43 hr44 => ?_)
      have i45 := hr44
      try rw [i45]
      have f46 := ti_b r43.1
      have f47 := ti_b x2
      refine ok_ite (fun h48 => ?_) (fun h48 => ?_)
      · have c49 : (0 : Int) < x2.toInt := o_lt h48
        refine ok_bind (k_X3_wordOf L hN (x0 := (x2 - (1 : Int32)))  I) (fun r50 hr51 => ?_)
        have i52 := hr51
        try rw [i52]
        have f53 := ti_b r50.1
        refine ok_ite (fun h54 => ?_) (fun h54 => ?_)
        · have c55 : r43.1.toInt = (-1 : Int) := o_eq h54
          unfold J_X3_touchesInWords_93
          refine ok_bind (k_X3_wordOf L hN (x0 := (0 : Int32))  I) (fun r56 hr57 => ?_)
          have i58 := hr57
          try rw [i58]
          have f59 := ti_b r56.1
          unfold J_X3_touchesInWords_99
          exact ok_some (show δ = δ from rfl)
        · have c60 : r43.1.toInt ≠ (-1 : Int) := o_ne h54
          unfold J_X3_touchesInWords_93
          refine ok_bind (k_X3_wordOf L hN (x0 := r43.1)  I) (fun r61 hr62 => ?_)
          have i63 := hr62
          try rw [i63]
          have f64 := ti_b r61.1
          unfold J_X3_touchesInWords_99
          exact ok_some (show δ = δ from rfl)
      · have c65 : x2.toInt ≤ (0 : Int) := o_nlt h48
        unfold J_X3_touchesInWords_99
        exact ok_some (show δ = δ from rfl)
    · have c66 : x1.toInt ≠ (4 : Int) := o_ne h41
      exact ok_some (show δ = δ from rfl)
set_option maxHeartbeats 4000000 in
theorem kj_X3_touchesInRow_146 {ad : List Nat} {h : hp} (L : Lay TLx ad h) {δ0 : dp} {N : Nat} (hN : 10000000 ≤ N) {a0 : Nat} {x1 : Int32} {x2 : Int32} {x4v : Int32} {x5v : Int32} {x7v : Int32} (k_a0 : q_K h.1 a0 = 3) {δ : dp} (I : CI ad h.1 δ0 δ) : ok (J_X3_touchesInRow_146 N h.1 a0 x1 x2 x4v x5v x7v δ) (fun r => r.2 = δ) := by
  unfold J_X3_touchesInRow_146
  have f1 := ti_b x1
  refine ok_ite (fun h2 => ?_) (fun h2 => ?_)
  · have c3 : x1.toInt = (1 : Int) := o_eq h2
    have f4 := ti_b x7v
    refine ok_ite (fun h5 => ?_) (fun h5 => ?_)
    · have c6 : x7v.toInt = (0 : Int) := o_eq h5
      unfold J_X3_touchesInRow_170
      exact ok_some (show δ = δ from rfl)
    · have c7 : x7v.toInt ≠ (0 : Int) := o_ne h5
      have f10 := ti_b x4v
      obtain ⟨b11, o12, k13, ⟨n14, n15⟩, w16⟩ := gO_3_0 L k_a0
      have f17 := cb_3_1 I k_a0 o12
      have f18 := ti_b x5v
      first | (have q20 := te_sub (q_I δ 3 1 a0) x5v (by omega) (by omega); obtain ⟨f21, f22, f23⟩ := q20) | (obtain ⟨q20, f21, f22, f23⟩ := ti_sub (q_I δ 3 1 a0) x5v)
      first | (have q25 := te_subc (c := 1) (n := 1) rfl ((q_I δ 3 1 a0) - x5v) (by omega) (by omega); obtain ⟨f26, f27, f28⟩ := q25) | (obtain ⟨q25, f26, f27, f28⟩ := ti_subc (c := 1) (n := 1) rfl ((q_I δ 3 1 a0) - x5v))
      refine ok_biv (fun vx8 e9 => ?_)
      first | (have q29 := te_add x4v (((q_I δ 3 1 a0) - x5v) - (1 : Int32)) (by omega) (by omega); rw [← e9] at q29; obtain ⟨f30, f31, f32⟩ := q29) | (obtain ⟨q29, f30, f31, f32⟩ : ∃ q : Int, vx8.toInt = x4v.toInt + (((q_I δ 3 1 a0) - x5v) - (1 : Int32)).toInt + 4294967296 * q ∧ -2147483648 ≤ vx8.toInt ∧ vx8.toInt ≤ 2147483647 := by rw [e9]; exact ti_add x4v (((q_I δ 3 1 a0) - x5v) - (1 : Int32)))
      unfold J_X3_touchesInRow_170
      exact ok_some (show δ = δ from rfl)
  · have c33 : x1.toInt ≠ (1 : Int) := o_ne h2
    unfold J_X3_touchesInRow_170
    exact ok_some (show δ = δ from rfl)
set_option maxHeartbeats 4000000 in
theorem kj_X3_touchesInRow_123 {ad : List Nat} {h : hp} (L : Lay TLx ad h) {δ0 : dp} {N : Nat} (hN : 10000000 ≤ N) {a0 : Nat} {x1 : Int32} {x2 : Int32} {x4v : Int32} {x5v : Int32} {x7v : Int32} (k_a0 : q_K h.1 a0 = 3) {δ : dp} (I : CI ad h.1 δ0 δ) : ok (J_X3_touchesInRow_123 N h.1 a0 x1 x2 x4v x5v x7v δ) (fun r => r.2 = δ) := by
  unfold J_X3_touchesInRow_123
  have f1 := ti_b x1
  refine ok_ite (fun h2 => ?_) (fun h2 => ?_)
  · have c3 : x1.toInt = (0 : Int) := o_eq h2
    have f4 := ti_b x7v
    refine ok_ite (fun h5 => ?_) (fun h5 => ?_)
    · have c6 : x7v.toInt = (0 : Int) := o_eq h5
      have f9 := ti_b x4v
      obtain ⟨b10, o11, k12, ⟨n13, n14⟩, w15⟩ := gO_3_0 L k_a0
      have f16 := cb_3_1 I k_a0 o11
      have f17 := ti_b x5v
      first | (have q19 := te_sub (q_I δ 3 1 a0) x5v (by omega) (by omega); obtain ⟨f20, f21, f22⟩ := q19) | (obtain ⟨q19, f20, f21, f22⟩ := ti_sub (q_I δ 3 1 a0) x5v)
      first | (have q24 := te_addc (c := 1) (n := 1) rfl ((q_I δ 3 1 a0) - x5v) (by omega) (by omega); obtain ⟨f25, f26, f27⟩ := q24) | (obtain ⟨q24, f25, f26, f27⟩ := ti_addc (c := 1) (n := 1) rfl ((q_I δ 3 1 a0) - x5v))
      refine ok_biv (fun vx7 e8 => ?_)
      first | (have q28 := te_add x4v (((q_I δ 3 1 a0) - x5v) + (1 : Int32)) (by omega) (by omega); rw [← e8] at q28; obtain ⟨f29, f30, f31⟩ := q28) | (obtain ⟨q28, f29, f30, f31⟩ : ∃ q : Int, vx7.toInt = x4v.toInt + (((q_I δ 3 1 a0) - x5v) + (1 : Int32)).toInt + 4294967296 * q ∧ -2147483648 ≤ vx7.toInt ∧ vx7.toInt ≤ 2147483647 := by rw [e8]; exact ti_add x4v (((q_I δ 3 1 a0) - x5v) + (1 : Int32)))
      refine ok_mono (kj_X3_touchesInRow_146 L hN (a0 := a0) (x1 := x1) (x2 := x2) (x4v := vx7) (x5v := x5v) (x7v := x7v) k_a0 I) (fun r32 hr33 => ?_)
      have i34 := hr33
      have f35 := ti_b r32.1
      exact by assumption
    · have c36 : x7v.toInt ≠ (0 : Int) := o_ne h5
      refine ok_mono (kj_X3_touchesInRow_146 L hN (a0 := a0) (x1 := x1) (x2 := x2) (x4v := x4v) (x5v := x5v) (x7v := x7v) k_a0 I) (fun r37 hr38 => ?_)
      have i39 := hr38
      have f40 := ti_b r37.1
      exact by assumption
  · have c41 : x1.toInt ≠ (0 : Int) := o_ne h2
    refine ok_mono (kj_X3_touchesInRow_146 L hN (a0 := a0) (x1 := x1) (x2 := x2) (x4v := x4v) (x5v := x5v) (x7v := x7v) k_a0 I) (fun r42 hr43 => ?_)
    have i44 := hr43
    have f45 := ti_b r42.1
    exact by assumption
set_option maxHeartbeats 4000000 in
theorem kj_X3_touchesInRow_96 {ad : List Nat} {h : hp} (L : Lay TLx ad h) {δ0 : dp} {N : Nat} (hN : 10000000 ≤ N) {a0 : Nat} {x1 : Int32} {x2 : Int32} {xs0 : Int32} {x4v : Int32} {x5v : Int32} (k_a0 : q_K h.1 a0 = 3) {δ : dp} (z0 : 0 ≤ (x5v).toInt) (I : CI ad h.1 δ0 δ) : ok (J_X3_touchesInRow_96 N h.1 a0 x1 x2 xs0 x4v x5v δ) (fun r => r.2 = δ) := by
  unfold J_X3_touchesInRow_96
  have f1 := ti_b x5v
  have f2 := ti_b x1
  refine ok_ite (fun h3 => ?_) (fun h3 => ?_)
  · have c4 : x1.toInt = (4 : Int) := o_eq h3
    refine ok_ite (fun h5 => ?_) (fun h5 => ?_)
    · have c6 : x5v.toInt ≤ (0 : Int) := o_le h5
      refine ok_mono (kj_X3_touchesInRow_123 L hN (a0 := a0) (x1 := x1) (x2 := x2) (x4v := x4v) (x5v := x5v) (x7v := xs0) k_a0 I) (fun r7 hr8 => ?_)
      have i9 := hr8
      have f10 := ti_b r7.1
      exact by assumption
    · have c11 : (0 : Int) < x5v.toInt := o_nle h5
      unfold J_X3_touchesInRow_120
      have f14 := ti_b x4v
      refine ok_biv (fun vx12 e13 => ?_)
      first | (have q15 := te_addc (c := 1) (n := 1) rfl x4v (by omega) (by omega); rw [← e13] at q15; obtain ⟨f16, f17, f18⟩ := q15) | (obtain ⟨q15, f16, f17, f18⟩ : ∃ q : Int, vx12.toInt = x4v.toInt + (1 : Int) + 4294967296 * q ∧ -2147483648 ≤ vx12.toInt ∧ vx12.toInt ≤ 2147483647 := by rw [e13]; exact ti_addc (c := 1) (n := 1) rfl x4v)
      refine ok_mono (kj_X3_touchesInRow_123 L hN (a0 := a0) (x1 := x1) (x2 := x2) (x4v := vx12) (x5v := x5v) (x7v := xs0) k_a0 I) (fun r19 hr20 => ?_)
      have i21 := hr20
      have f22 := ti_b r19.1
      exact by assumption
  · have c23 : x1.toInt ≠ (4 : Int) := o_ne h3
    obtain ⟨b24, o25, k26, ⟨n27, n28⟩, w29⟩ := gO_3_0 L k_a0
    have f30 := cb_3_1 I k_a0 o25
    refine ok_ite (fun h31 => ?_) (fun h31 => ?_)
    · have c32 : (q_I δ 3 1 a0).toInt ≤ x5v.toInt := o_le h31
      refine ok_mono (kj_X3_touchesInRow_123 L hN (a0 := a0) (x1 := x1) (x2 := x2) (x4v := x4v) (x5v := x5v) (x7v := xs0) k_a0 I) (fun r33 hr34 => ?_)
      have i35 := hr34
      have f36 := ti_b r33.1
      exact by assumption
    · have c37 : x5v.toInt < (q_I δ 3 1 a0).toInt := o_nle h31
      unfold J_X3_touchesInRow_120
      have f40 := ti_b x4v
      refine ok_biv (fun vx38 e39 => ?_)
      first | (have q41 := te_addc (c := 1) (n := 1) rfl x4v (by omega) (by omega); rw [← e39] at q41; obtain ⟨f42, f43, f44⟩ := q41) | (obtain ⟨q41, f42, f43, f44⟩ : ∃ q : Int, vx38.toInt = x4v.toInt + (1 : Int) + 4294967296 * q ∧ -2147483648 ≤ vx38.toInt ∧ vx38.toInt ≤ 2147483647 := by rw [e39]; exact ti_addc (c := 1) (n := 1) rfl x4v)
      refine ok_mono (kj_X3_touchesInRow_123 L hN (a0 := a0) (x1 := x1) (x2 := x2) (x4v := vx38) (x5v := x5v) (x7v := xs0) k_a0 I) (fun r45 hr46 => ?_)
      have i47 := hr46
      have f48 := ti_b r45.1
      exact by assumption
set_option maxHeartbeats 4000000 in
theorem kl_X3_touchesInRow_25 {ad : List Nat} {h : hp} (L : Lay TLx ad h) {δ0 : dp} {N : Nat} (hN : 10000000 ≤ N) {a0 : Nat} {x1 : Int32} {x2 : Int32} (k_a0 : q_K h.1 a0 = 3) : ∀ (n : Nat) (x3v : Int32) (x4v : Int32) (x5v : Int32) (x6v : Int32) (δ : dp), CI ad h.1 δ0 δ → 0 ≤ (x5v).toInt → (x5v).toInt ≤ (x6v).toInt → (x6v).toInt ≤ (q_I δ 3 1 a0).toInt → (x6v).toInt - (x5v).toInt < (n : Int) → ok (L_X3_touchesInRow_25 N h.1 a0 x1 x2 n x3v x4v x5v x6v δ) (fun r => r.2 = δ) := by
  intro n
  induction n with
  | zero =>
    intro x3v x4v x5v x6v δ I j0 j1 j2 hm
    have f1 := ti_b x5v
    have f2 := ti_b x6v
    obtain ⟨b3, o4, k5, ⟨n6, n7⟩, w8⟩ := gO_3_0 L k_a0
    have f9 := cb_3_1 I k_a0 o4
    exfalso; omega
  | succ n ih =>
    intro x3v x4v x5v x6v δ I j0 j1 j2 hm
    unfold L_X3_touchesInRow_25
    have f1 := ti_b x5v
    have f2 := ti_b x6v
    obtain ⟨b3, o4, k5, ⟨n6, n7⟩, w8⟩ := gO_3_0 L k_a0
    have f9 := cb_3_1 I k_a0 o4
    refine ok_ite (fun h10 => ?_) (fun h10 => ?_)
    · have c11 : x6v.toInt ≤ x5v.toInt := o_le h10
      refine ok_ite (fun h12 => ?_) (fun h12 => ?_)
      · have c13 : (q_I δ 3 1 a0).toInt ≤ x5v.toInt := o_le h12
        unfold J_X3_touchesInRow_95
        refine ok_mono (kj_X3_touchesInRow_96 L hN (a0 := a0) (x1 := x1) (x2 := x2) (xs0 := (0 : Int32)) (x4v := x4v) (x5v := x5v) k_a0 (show 0 ≤ (x5v).toInt by first | with_reducible assumption | omega) I) (fun r14 hr15 => ?_)
        have i16 := hr15
        have f17 := ti_b r14.1
        exact by assumption
      · have c18 : x5v.toInt < (q_I δ 3 1 a0).toInt := o_nle h12
        refine ok_at o4 ?_
        have t19 := ti_tn x5v
        refine ok_gd (fun hc20 => ?_) ?_
        · rcases hc20 with hc20 | hc20
          · have c21 : x5v.toInt < (0 : Int) := o_lt hc20
            omega
          · omega
        have f22 := ti_b (q_R δ b3 x5v.toNatClampNeg)
        have f23 := ti_b x2
        refine ok_ite (fun h24 => ?_) (fun h24 => ?_)
        · have c25 : (q_R δ b3 x5v.toNatClampNeg).toInt = x2.toInt := o_eq h24
          refine ok_mono (kj_X3_touchesInRow_96 L hN (a0 := a0) (x1 := x1) (x2 := x2) (xs0 := (1 : Int32)) (x4v := x4v) (x5v := x5v) k_a0 (show 0 ≤ (x5v).toInt by first | with_reducible assumption | omega) I) (fun r26 hr27 => ?_)
          have i28 := hr27
          have f29 := ti_b r26.1
          exact by assumption
        · have c30 : (q_R δ b3 x5v.toNatClampNeg).toInt ≠ x2.toInt := o_ne h24
          unfold J_X3_touchesInRow_95
          refine ok_mono (kj_X3_touchesInRow_96 L hN (a0 := a0) (x1 := x1) (x2 := x2) (xs0 := (0 : Int32)) (x4v := x4v) (x5v := x5v) k_a0 (show 0 ≤ (x5v).toInt by first | with_reducible assumption | omega) I) (fun r31 hr32 => ?_)
          have i33 := hr32
          have f34 := ti_b r31.1
          exact by assumption
    · have c35 : x5v.toInt < x6v.toInt := o_nle h10
      first | (have q39 := te_add x5v x6v (by omega) (by omega); obtain ⟨f40, f41, f42⟩ := q39) | (obtain ⟨q39, f40, f41, f42⟩ := ti_add x5v x6v)
      have f43 := ti_div (c := 2) (n := 2) rfl (by decide) (x5v + x6v)
      have f44 := ti_b ((x5v + x6v) / (2 : Int32))
      refine ok_biv (fun vx36 e37 => ?_)
      have f45 : vx36.toInt = ((x5v + x6v) / (2 : Int32)).toInt := congrArg Int32.toInt e37
      have f48 := ti_b x4v
      refine ok_biv (fun vx46 e47 => ?_)
      first | (have q49 := te_addc (c := 1) (n := 1) rfl x4v (by omega) (by omega); rw [← e47] at q49; obtain ⟨f50, f51, f52⟩ := q49) | (obtain ⟨q49, f50, f51, f52⟩ : ∃ q : Int, vx46.toInt = x4v.toInt + (1 : Int) + 4294967296 * q ∧ -2147483648 ≤ vx46.toInt ∧ vx46.toInt ≤ 2147483647 := by rw [e47]; exact ti_addc (c := 1) (n := 1) rfl x4v)
      refine ok_at o4 ?_
      have t53 := ti_tn vx36
      refine ok_gd (fun hc54 => ?_) ?_
      · rcases hc54 with hc54 | hc54
        · have c55 : vx36.toInt < (0 : Int) := o_lt hc54
          omega
        · omega
      have f56 := ti_b x3v
      have f57 := ti_b (q_R δ b3 vx36.toNatClampNeg)
      refine ok_ite (fun h58 => ?_) (fun h58 => ?_)
      · have c59 : x3v.toInt ≤ (q_R δ b3 vx36.toNatClampNeg).toInt := o_le h58
        unfold J_X3_touchesInRow_68
        refine ok_mono (ih x3v vx46 x5v vx36 δ I (show 0 ≤ (x5v).toInt by first | with_reducible assumption | omega) (show (x5v).toInt ≤ (vx36).toInt by first | with_reducible assumption | omega) (show (vx36).toInt ≤ (q_I δ 3 1 a0).toInt by first | with_reducible assumption | omega) (show (vx36).toInt - (x5v).toInt < _ by omega)) (fun r60 hr61 => ?_)
        have i62 := hr61
        have f63 := ti_b r60.1
        exact by assumption
      · have c64 : (q_R δ b3 vx36.toNatClampNeg).toInt < x3v.toInt := o_nle h58
        refine ok_biv (fun vx65 e66 => ?_)
        first | (have q67 := te_addc (c := 1) (n := 1) rfl vx36 (by omega) (by omega); rw [← e66] at q67; obtain ⟨f68, f69, f70⟩ := q67) | (obtain ⟨q67, f68, f69, f70⟩ : ∃ q : Int, vx65.toInt = vx36.toInt + (1 : Int) + 4294967296 * q ∧ -2147483648 ≤ vx65.toInt ∧ vx65.toInt ≤ 2147483647 := by rw [e66]; exact ti_addc (c := 1) (n := 1) rfl vx36)
        unfold J_X3_touchesInRow_68
        refine ok_mono (ih x3v vx46 vx65 x6v δ I (show 0 ≤ (vx65).toInt by first | with_reducible assumption | omega) (show (vx65).toInt ≤ (x6v).toInt by first | with_reducible assumption | omega) (show (x6v).toInt ≤ (q_I δ 3 1 a0).toInt by first | with_reducible assumption | omega) (show (x6v).toInt - (vx65).toInt < _ by omega)) (fun r71 hr72 => ?_)
        have i73 := hr72
        have f74 := ti_b r71.1
        exact by assumption
set_option maxHeartbeats 4000000 in
theorem k_X3_touchesInRow {ad : List Nat} {h : hp} (L : Lay TLx ad h) {δ0 : dp} {N : Nat} (hN : 10000000 ≤ N) {a0 : Nat} {x1 : Int32} {x2 : Int32} (k_a0 : q_K h.1 a0 = 3) {δ : dp} (I : CI ad h.1 δ0 δ) : ok (D_X3_touchesInRow N h.1 a0 x1 x2 δ) (fun r => r.2 = δ) := by
  unfold D_X3_touchesInRow
  have f1 := ti_b x1
  refine ok_ite (fun h2 => ?_) (fun h2 => ?_)
  · have c3 : x1.toInt = (3 : Int) := o_eq h2
    unfold J_X3_touchesInRow_12
    obtain ⟨b6, o7, k8, ⟨n9, n10⟩, w11⟩ := gO_3_0 L k_a0
    have f12 := cb_3_1 I k_a0 o7
    refine ok_biv (fun vx4 e5 => ?_)
    have f13 : vx4.toInt = (q_I δ 3 1 a0).toInt := congrArg Int32.toInt e5
    refine ok_mono (kl_X3_touchesInRow_25 L hN   k_a0 _ (x2 + (1 : Int32)) (0 : Int32) (0 : Int32) vx4 δ I (show 0 ≤ (0 : Int) by first | with_reducible assumption | omega) (show (0 : Int) ≤ (vx4).toInt by first | with_reducible assumption | omega) (show (vx4).toInt ≤ (q_I δ 3 1 a0).toInt by first | with_reducible assumption | omega) (show (vx4).toInt - (0 : Int) < _ by omega)) (fun r14 hr15 => ?_)
    have i16 := hr15
    have f17 := ti_b r14.1
    exact by assumption
  · have c18 : x1.toInt ≠ (3 : Int) := o_ne h2
    unfold J_X3_touchesInRow_12
    obtain ⟨b21, o22, k23, ⟨n24, n25⟩, w26⟩ := gO_3_0 L k_a0
    have f27 := cb_3_1 I k_a0 o22
    refine ok_biv (fun vx19 e20 => ?_)
    have f28 : vx19.toInt = (q_I δ 3 1 a0).toInt := congrArg Int32.toInt e20
    refine ok_mono (kl_X3_touchesInRow_25 L hN   k_a0 _ x2 (0 : Int32) (0 : Int32) vx19 δ I (show 0 ≤ (0 : Int) by first | with_reducible assumption | omega) (show (0 : Int) ≤ (vx19).toInt by first | with_reducible assumption | omega) (show (vx19).toInt ≤ (q_I δ 3 1 a0).toInt by first | with_reducible assumption | omega) (show (vx19).toInt - (0 : Int) < _ by omega)) (fun r29 hr30 => ?_)
    have i31 := hr30
    have f32 := ti_b r29.1
    exact by assumption
end
section
theorem tx_le {i : Nat} (h : i < 16) : 1 ≤ tx_n i ∧ tx_n i ≤ 6 := by
  have H : ∀ i : Fin 16, 1 ≤ tx_n i.val ∧ tx_n i.val ≤ 6 := by decide +kernel
  exact H ⟨i, h⟩
set_option maxRecDepth 20000 in
theorem k_J0_length_8abf5 {ad : List Nat} {h : hp} (L : Lay TLx ad h) {δ0 : dp} {N : Nat} (hN : 10000000 ≤ N) {a0 : Nat} {δ : dp} (z0 : a0 < 16) (I : CI ad h.1 δ0 δ) : ok (D_J0_length_8abf5 N h.1 a0 δ) (fun r => r.2 = δ ∧ (r.1).toInt = (tx_n a0 : Int)) := by
  have H : ∀ i : Fin 16, ((Int32.ofNat (tx_n i.val)) >>> ((0 : Int32) &&& 31)).toInt = (tx_n i.val : Int) := by decide +kernel
  have e : D_J0_coder_7d493 N h.1 a0 δ = some (0, δ) := by
    rw [D_J0_coder_7d493, if_neg (by decide), J_J0_coder_7d493_14, if_pos (by rfl)]
  rw [D_J0_length_8abf5, e]
  exact ok_some ⟨rfl, H ⟨a0, z0⟩⟩
set_option maxRecDepth 20000 in
theorem k_J0_charAt_5068e {ad : List Nat} {h : hp} (L : Lay TLx ad h) {δ0 : dp} {N : Nat} (hN : 10000000 ≤ N) {a0 : Nat} {x1 : Int32} {δ : dp} (z0 : a0 < 16) (z1 : 0 ≤ (x1).toInt) (z2 : (x1).toInt < (tx_n a0 : Int)) (I : CI ad h.1 δ0 δ) : ok (D_J0_charAt_5068e N h.1 a0 x1 δ) (fun r => r.2 = δ) := by
  have hb := tx_le z0
  have H : ∀ (i : Fin 16) (j : Fin 6), narrow .char (.int ((((tx_b i.val j.val) &&& (255 : Int32)).toUInt32 % 65536).toInt32)) = .int ((((tx_b i.val j.val) &&& (255 : Int32)).toUInt32 % 65536).toInt32) := by decide +kernel
  have t := ti_tn x1
  have e1 : D_J0_isLatin1_aae02 N h.1 a0 δ = some (1, δ) := by
    rw [D_J0_isLatin1_aae02, if_neg (by decide), if_pos rfl, J_J0_isLatin1_aae02_18, if_pos (by decide)]
  have f0 := n_ti (tx_n a0) (by omega)
  have e2 : D_J0_checkIndex_df160 N h.1 x1 (Int32.ofNat (tx_n a0)) δ = some δ := by
    rw [D_J0_checkIndex_df160, D_J3_checkIndex_8e157, if_neg (fun c => by have := o_lt c; have f1 : (0 : Int32).toInt = 0 := rfl; omega), if_pos (i_lt (by omega))]
    rfl
  have hn := H ⟨a0, z0⟩ ⟨x1.toNatClampNeg, by omega⟩
  dsimp only at hn
  rw [D_J0_charAt_5068e, e1, Option.bind_some, if_neg (by simp), D_J1_charAt_3b067, e2, Option.bind_some]
  rw [if_neg (fun c => by rcases c with c | c <;> first | omega | (have c2 := o_lt c; have f1 : (0 : Int32).toInt = 0 := rfl; omega)), if_pos hn, Option.bind_some, if_pos hn]
  exact ok_some rfl
end
section
/-! 56.kX7 (by gen_safe.py) -/
set_option maxHeartbeats 4000000 in
theorem k_X7_hasPlace {ad : List Nat} {h : hp} (L : Lay TLx ad h) {δ0 : dp} {N : Nat} (hN : 10000000 ≤ N) {a0 : Nat} (k_a0 : q_K h.1 a0 = 7) {δ : dp} (I : CI ad h.1 δ0 δ) : ok (D_X7_hasPlace N h.1 a0 δ) (fun r => r.2 = δ ∧ bo (r.1) ∧ ((r.1).toInt = 0 ∨ (q_I δ 7 1 a0).toInt + 20 ≤ 500) ∧ ((r.1).toInt = 1 ∨ 500 < (q_I δ 7 1 a0).toInt + 20)) := by
  unfold D_X7_hasPlace
  have f1 := cb_7_1 I k_a0
  first | (have q3 := te_addc (c := 20) (n := 20) rfl (q_I δ 7 1 a0) (by omega) (by omega); obtain ⟨f4, f5, f6⟩ := q3) | (obtain ⟨q3, f4, f5, f6⟩ := ti_addc (c := 20) (n := 20) rfl (q_I δ 7 1 a0))
  refine ok_ite (fun h7 => ?_) (fun h7 => ?_)
  · have c8 : (500 : Int) < ((q_I δ 7 1 a0) + (20 : Int32)).toInt := o_lt h7
    unfold J_X7_hasPlace_18
    refine ok_gp (by decide) ?_
    exact ok_some (show δ = δ ∧ bo ((0 : Int32)) ∧ ((0 : Int) = 0 ∨ (q_I δ 7 1 a0).toInt + 20 ≤ 500) ∧ ((0 : Int) = 1 ∨ 500 < (q_I δ 7 1 a0).toInt + 20) from ⟨rfl, bo_0, by first | with_reducible assumption | omega, by first | with_reducible assumption | omega⟩)
  · have c9 : ((q_I δ 7 1 a0) + (20 : Int32)).toInt ≤ (500 : Int) := o_nlt h7
    unfold J_X7_hasPlace_18
    refine ok_gp (by decide) ?_
    exact ok_some (show δ = δ ∧ bo ((1 : Int32)) ∧ ((1 : Int) = 0 ∨ (q_I δ 7 1 a0).toInt + 20 ≤ 500) ∧ ((1 : Int) = 1 ∨ 500 < (q_I δ 7 1 a0).toInt + 20) from ⟨rfl, bo_1, by first | with_reducible assumption | omega, by first | with_reducible assumption | omega⟩)
set_option maxHeartbeats 4000000 in
theorem k_X7_open {ad : List Nat} {h : hp} (L : Lay TLx ad h) {δ0 : dp} {N : Nat} (hN : 10000000 ≤ N) {a0 : Nat} {x1 : Int32} (k_a0 : q_K h.1 a0 = 7) {δ : dp} (z0 : 0 ≤ (x1).toInt) (z1 : (x1).toInt ≤ 500) (I : CI ad h.1 δ0 δ) : ok (D_X7_open N h.1 a0 x1 δ) (fun r => CI ad h.1 δ0 r ∧ (kp [(7, 1), (7, 2), (7, 3), (7, 4), (7, 5)] δ r ∧ q_V r = q_V δ ∧ q_R r = q_R δ) ∧ (q_I r 7 5 a0).toInt = 0 ∧ (q_I r 7 1 a0).toInt = 0) := by
  unfold D_X7_open
  have f1 := ti_b x1
  refine ok_bdv (fun d2 e3 => ?_)
  have i4 : CI ad h.1 δ0 d2 := by rw [e3]; exact cs_7_1 L I k_a0 (show 0 ≤ (0 : Int) by omega) (show (0 : Int) ≤ 500 by omega)
  have u5 := kp_I kp_r e3
  have v6 : q_V d2 = q_V δ := ((show q_V d2 = q_V δ by rw [e3]; rfl)).trans rfl
  have v7 : q_R d2 = q_R δ := ((show q_R d2 = q_R δ by rw [e3]; rfl)).trans rfl
  refine ok_bdv (fun d8 e9 => ?_)
  have i10 : CI ad h.1 δ0 d8 := by rw [e9]; exact cs_7_2 L i4 k_a0 (show 0 ≤ x1.toInt by omega) (show x1.toInt ≤ 500 by omega)
  have u11 := kp_I u5 e9
  have v12 : q_V d8 = q_V δ := ((show q_V d8 = q_V d2 by rw [e9]; rfl)).trans v6
  have v13 : q_R d8 = q_R δ := ((show q_R d8 = q_R d2 by rw [e9]; rfl)).trans v7
  refine ok_bdv (fun d14 e15 => ?_)
  have i16 : CI ad h.1 δ0 d14 := by rw [e15]; exact cs_7_3 L i10 k_a0 (show 0 ≤ (0 : Int) by omega) (show (0 : Int) ≤ 500 by omega)
  have u17 := kp_I u11 e15
  have v18 : q_V d14 = q_V δ := ((show q_V d14 = q_V d8 by rw [e15]; rfl)).trans v12
  have v19 : q_R d14 = q_R δ := ((show q_R d14 = q_R d8 by rw [e15]; rfl)).trans v13
  refine ok_bdv (fun d20 e21 => ?_)
  have i22 : CI ad h.1 δ0 d20 := by rw [e21]; exact cs_7_4 L i16 k_a0 (show 0 ≤ (0 : Int) by omega) (show (0 : Int) ≤ 500 by omega)
  have u23 := kp_I u17 e21
  have v24 : q_V d20 = q_V δ := ((show q_V d20 = q_V d14 by rw [e21]; rfl)).trans v18
  have v25 : q_R d20 = q_R δ := ((show q_R d20 = q_R d14 by rw [e21]; rfl)).trans v19
  refine ok_bdv (fun d26 e27 => ?_)
  have i28 : CI ad h.1 δ0 d26 := by rw [e27]; exact cs_7_5 L i22
  have u29 := kp_I u23 e27
  have v30 : q_V d26 = q_V δ := ((show q_V d26 = q_V d20 by rw [e27]; rfl)).trans v24
  have v31 : q_R d26 = q_R δ := ((show q_R d26 = q_R d20 by rw [e27]; rfl)).trans v25
  have f32 := ti_b (q_I d26 7 5 a0)
  have f33 : (q_I d26 7 5 a0).toInt = (0 : Int) := congrArg Int32.toInt (show q_I d26 7 5 a0 = (0 : Int32) by rw [e27]; exact rI_s)
  have f34 : (q_I d26 7 1 a0).toInt = (q_I d2 7 1 a0).toInt := ((show (q_I d26 7 1 a0).toInt = (q_I d20 7 1 a0).toInt from congrArg Int32.toInt (by rw [e27]; exact rI_o (by decide))).trans ((show (q_I d20 7 1 a0).toInt = (q_I d14 7 1 a0).toInt from congrArg Int32.toInt (by rw [e21]; exact rI_o (by decide))).trans ((show (q_I d14 7 1 a0).toInt = (q_I d8 7 1 a0).toInt from congrArg Int32.toInt (by rw [e15]; exact rI_o (by decide))).trans (show (q_I d8 7 1 a0).toInt = (q_I d2 7 1 a0).toInt from congrArg Int32.toInt (by rw [e9]; exact rI_o (by decide))))))
  have f35 := cb_7_1 i4 k_a0
  have f36 : (q_I d2 7 1 a0).toInt = (0 : Int) := congrArg Int32.toInt (show q_I d2 7 1 a0 = (0 : Int32) by rw [e3]; exact rI_s)
  exact ok_some (show CI ad h.1 δ0 d26 ∧ (kp [(7, 1), (7, 2), (7, 3), (7, 4), (7, 5)] δ d26 ∧ q_V d26 = q_V δ ∧ q_R d26 = q_R δ) ∧ (q_I d26 7 5 a0).toInt = 0 ∧ (q_I d26 7 1 a0).toInt = 0 from ⟨i28, ⟨kp_w (by decide) u29, v30, v31⟩, by first | with_reducible assumption | omega, by first | with_reducible assumption | omega⟩)
set_option maxHeartbeats 4000000 in
theorem k_X7_isSound {ad : List Nat} {h : hp} (L : Lay TLx ad h) {δ0 : dp} {N : Nat} (hN : 10000000 ≤ N) {a0 : Nat} (k_a0 : q_K h.1 a0 = 7) {δ : dp} (I : CI ad h.1 δ0 δ) : ok (D_X7_isSound N h.1 a0 δ) (fun r => r.2 = δ ∧ bo (r.1) ∧ ((r.1).toInt = 1 → (q_I δ 7 5 a0).toInt = 0) ∧ ((r.1).toInt = 0 → (q_I δ 7 5 a0).toInt ≠ 0)) := by
  unfold D_X7_isSound
  have f1 := ti_b (q_I δ 7 5 a0)
  refine ok_ite (fun h2 => ?_) (fun h2 => ?_)
  · have c3 : (q_I δ 7 5 a0).toInt = (0 : Int) := o_eq h2
    unfold J_X7_isSound_12
    refine ok_gp (by decide) ?_
    exact ok_some (show δ = δ ∧ bo ((1 : Int32)) ∧ ((1 : Int) = 1 → (q_I δ 7 5 a0).toInt = 0) ∧ ((1 : Int) = 0 → (q_I δ 7 5 a0).toInt ≠ 0) from ⟨rfl, bo_1, by first | with_reducible assumption | omega, by first | with_reducible assumption | omega⟩)
  · have c4 : (q_I δ 7 5 a0).toInt ≠ (0 : Int) := o_ne h2
    unfold J_X7_isSound_12
    refine ok_gp (by decide) ?_
    exact ok_some (show δ = δ ∧ bo ((0 : Int32)) ∧ ((0 : Int) = 1 → (q_I δ 7 5 a0).toInt = 0) ∧ ((0 : Int) = 0 → (q_I δ 7 5 a0).toInt ≠ 0) from ⟨rfl, bo_0, by first | with_reducible assumption | omega, by first | with_reducible assumption | omega⟩)
set_option maxHeartbeats 4000000 in
theorem k_X7_refuse {ad : List Nat} {h : hp} (L : Lay TLx ad h) {δ0 : dp} {N : Nat} (hN : 10000000 ≤ N) {a0 : Nat} {x1 : Int32} (k_a0 : q_K h.1 a0 = 7) {δ : dp} (z0 : (x1).toInt ≠ 0) (I : CI ad h.1 δ0 δ) : ok (D_X7_refuse N h.1 a0 x1 δ) (fun r => CI ad h.1 δ0 r ∧ (kp [(7, 5), (7, 6)] δ r ∧ q_V r = q_V δ ∧ q_R r = q_R δ) ∧ (q_I r 7 5 a0).toInt ≠ 0) := by
  unfold D_X7_refuse
  have f1 := ti_b x1
  have f2 := ti_b (q_I δ 7 5 a0)
  refine ok_ite (fun h3 => ?_) (fun h3 => ?_)
  · have c4 : (q_I δ 7 5 a0).toInt = (0 : Int) := o_eq h3
    refine ok_bdv (fun d5 e6 => ?_)
    have i7 : CI ad h.1 δ0 d5 := by rw [e6]; exact cs_7_5 L I
    have u8 := kp_I kp_r e6
    have v9 : q_V d5 = q_V δ := ((show q_V d5 = q_V δ by rw [e6]; rfl)).trans rfl
    have v10 : q_R d5 = q_R δ := ((show q_R d5 = q_R δ by rw [e6]; rfl)).trans rfl
    have f14 : (q_I d5 7 4 a0).toInt = (q_I δ 7 4 a0).toInt := congrArg Int32.toInt (by rw [e6]; exact rI_o (by decide))
    have f15 := cb_7_4 I k_a0
    refine ok_bdv (fun d11 e12 => ?_)
    have i13 : CI ad h.1 δ0 d11 := by rw [e12]; exact cs_7_6 L i7
    have u16 := kp_I u8 e12
    have v17 : q_V d11 = q_V δ := ((show q_V d11 = q_V d5 by rw [e12]; rfl)).trans v9
    have v18 : q_R d11 = q_R δ := ((show q_R d11 = q_R d5 by rw [e12]; rfl)).trans v10
    unfold J_X7_refuse_20
    have f19 : (q_I d11 7 5 a0).toInt = (q_I d5 7 5 a0).toInt := congrArg Int32.toInt (by rw [e12]; exact rI_o (by decide))
    have f20 := ti_b (q_I d5 7 5 a0)
    have f21 : (q_I d5 7 5 a0).toInt = x1.toInt := congrArg Int32.toInt (show q_I d5 7 5 a0 = x1 by rw [e6]; exact rI_s)
    exact ok_some (show CI ad h.1 δ0 d11 ∧ (kp [(7, 5), (7, 6)] δ d11 ∧ q_V d11 = q_V δ ∧ q_R d11 = q_R δ) ∧ (q_I d11 7 5 a0).toInt ≠ 0 from ⟨i13, ⟨kp_w (by decide) u16, v17, v18⟩, by first | with_reducible assumption | omega⟩)
  · have c22 : (q_I δ 7 5 a0).toInt ≠ (0 : Int) := o_ne h3
    unfold J_X7_refuse_20
    exact ok_some (show CI ad h.1 δ0 δ ∧ (kp [(7, 5), (7, 6)] δ δ ∧ q_V δ = q_V δ ∧ q_R δ = q_R δ) ∧ (q_I δ 7 5 a0).toInt ≠ 0 from ⟨I, ⟨kp_w (by decide) kp_r, rfl, rfl⟩, by first | with_reducible assumption | omega⟩)
set_option maxHeartbeats 4000000 in
theorem kl_X7_ahead_0 {ad : List Nat} {h : hp} (L : Lay TLx ad h) {δ0 : dp} {N : Nat} (hN : 10000000 ≤ N) {a0 : Nat} (k_a0 : q_K h.1 a0 = 7) : ∀ (n : Nat) (δ : dp), CI ad h.1 δ0 δ → 501 - (q_I δ 7 3 a0).toInt < (n : Int) → ok (L_X7_ahead_0 N h.1 a0 n δ) (fun r => CI ad h.1 δ0 r.2 ∧ (kp [(7, 3), (7, 4)] δ r.2 ∧ q_V r.2 = q_V δ ∧ q_R r.2 = q_R δ) ∧ ((r.1).toInt = -1 ∨ (q_I r.2 7 3 a0).toInt < (q_I r.2 7 2 a0).toInt)) := by
  intro n
  induction n with
  | zero =>
    intro δ I hm
    have f1 := cb_7_3 I k_a0
    exfalso; omega
  | succ n ih =>
    intro δ I hm
    unfold L_X7_ahead_0
    have f1 := cb_7_3 I k_a0
    have f2 := cb_7_2 I k_a0
    refine ok_ite (fun h3 => ?_) (fun h3 => ?_)
    · have c4 : (q_I δ 7 2 a0).toInt ≤ (q_I δ 7 3 a0).toInt := o_le h3
      unfold J_X7_ahead_38
      refine ok_bdv (fun d5 e6 => ?_)
      have i7 : CI ad h.1 δ0 d5 := by rw [e6]; exact cs_7_4 L I k_a0 (show 0 ≤ (q_I δ 7 3 a0).toInt by omega) (show (q_I δ 7 3 a0).toInt ≤ 500 by omega)
      have u8 := kp_I kp_r e6
      have v9 : q_V d5 = q_V δ := ((show q_V d5 = q_V δ by rw [e6]; rfl)).trans rfl
      have v10 : q_R d5 = q_R δ := ((show q_R d5 = q_R δ by rw [e6]; rfl)).trans rfl
      have f11 : (q_I d5 7 2 a0).toInt = (q_I δ 7 2 a0).toInt := congrArg Int32.toInt (by rw [e6]; exact rI_o (by decide))
      have f12 : (q_I d5 7 3 a0).toInt = (q_I δ 7 3 a0).toInt := congrArg Int32.toInt (by rw [e6]; exact rI_o (by decide))
      refine ok_ite (fun h13 => ?_) (fun h13 => ?_)
      · have c14 : (q_I d5 7 2 a0).toInt ≤ (q_I d5 7 3 a0).toInt := o_le h13
        unfold J_X7_ahead_70
        exact ok_some (show CI ad h.1 δ0 d5 ∧ (kp [(7, 3), (7, 4)] δ d5 ∧ q_V d5 = q_V δ ∧ q_R d5 = q_R δ) ∧ ((-1 : Int) = -1 ∨ (q_I d5 7 3 a0).toInt < (q_I d5 7 2 a0).toInt) from ⟨i7, ⟨kp_w (by decide) u8, v9, v10⟩, by first | with_reducible assumption | omega⟩)
      · have c15 : (q_I d5 7 3 a0).toInt < (q_I d5 7 2 a0).toInt := o_nle h13
        obtain ⟨b16, o17, k18, n19⟩ := gO_7_0 L k_a0
        refine ok_at o17 ?_
        have t20 := ti_tn (q_I d5 7 3 a0)
        refine ok_gd (fun hc21 => ?_) ?_
        · rcases hc21 with hc21 | hc21
          · have c22 : (q_I d5 7 3 a0).toInt < (0 : Int) := o_lt hc21
            omega
          · omega
        unfold J_X7_ahead_70
        have f23 := ti_b (q_R d5 b16 (q_I d5 7 3 a0).toNatClampNeg)
        exact ok_some (show CI ad h.1 δ0 d5 ∧ (kp [(7, 3), (7, 4)] δ d5 ∧ q_V d5 = q_V δ ∧ q_R d5 = q_R δ) ∧ (((q_R d5 b16 (q_I d5 7 3 a0).toNatClampNeg)).toInt = -1 ∨ (q_I d5 7 3 a0).toInt < (q_I d5 7 2 a0).toInt) from ⟨i7, ⟨kp_w (by decide) u8, v9, v10⟩, by first | with_reducible assumption | omega⟩)
    · have c24 : (q_I δ 7 3 a0).toInt < (q_I δ 7 2 a0).toInt := o_nle h3
      obtain ⟨b25, o26, k27, n28⟩ := gO_7_0 L k_a0
      refine ok_at o26 ?_
      have t29 := ti_tn (q_I δ 7 3 a0)
      refine ok_gd (fun hc30 => ?_) ?_
      · rcases hc30 with hc30 | hc30
        · have c31 : (q_I δ 7 3 a0).toInt < (0 : Int) := o_lt hc30
          omega
        · omega
      have f32 := ti_b (q_R δ b25 (q_I δ 7 3 a0).toNatClampNeg)
      refine ok_ite (fun h33 => ?_) (fun h33 => ?_)
      · have c34 : (q_R δ b25 (q_I δ 7 3 a0).toNatClampNeg).toInt = (32 : Int) := o_eq h33
        first | (have q39 := te_addc (c := 1) (n := 1) rfl (q_I δ 7 3 a0) (by omega) (by omega); obtain ⟨f40, f41, f42⟩ := q39) | (obtain ⟨q39, f40, f41, f42⟩ := ti_addc (c := 1) (n := 1) rfl (q_I δ 7 3 a0))
        refine ok_bdv (fun d35 e36 => ?_)
        have i37 : CI ad h.1 δ0 d35 := by rw [e36]; exact cs_7_3 L I k_a0 (show 0 ≤ ((q_I δ 7 3 a0) + (1 : Int32)).toInt by omega) (show ((q_I δ 7 3 a0) + (1 : Int32)).toInt ≤ 500 by omega)
        have u43 := kp_I kp_r e36
        have v44 : q_V d35 = q_V δ := ((show q_V d35 = q_V δ by rw [e36]; rfl)).trans rfl
        have v45 : q_R d35 = q_R δ := ((show q_R d35 = q_R δ by rw [e36]; rfl)).trans rfl
        have f46 := cb_7_3 i37 k_a0
        have f47 : (q_I d35 7 3 a0).toInt = ((q_I δ 7 3 a0) + (1 : Int32)).toInt := congrArg Int32.toInt (show q_I d35 7 3 a0 = ((q_I δ 7 3 a0) + (1 : Int32)) by rw [e36]; exact rI_s)
        refine ok_mono (ih d35 i37  (show 501 - (q_I d35 7 3 a0).toInt < _ by omega)) (fun r48 hr49 => ?_)
        obtain ⟨i50, ⟨u52, u53, u54⟩, p51⟩ := hr49
        have u55 := kp_t u43 u52
        have v56 : q_V r48.2 = q_V δ := (u53).trans v44
        have v57 : q_R r48.2 = q_R δ := (u54).trans v45
        have f58 := ti_b r48.1
        have f59 := cb_7_3 i50 k_a0
        have f60 : (q_I r48.2 7 2 a0).toInt = (q_I δ 7 2 a0).toInt := ((show (q_I r48.2 7 2 a0).toInt = (q_I d35 7 2 a0).toInt from congrArg Int32.toInt (u52 7 2 a0 (by decide))).trans (show (q_I d35 7 2 a0).toInt = (q_I δ 7 2 a0).toInt from congrArg Int32.toInt (by rw [e36]; exact rI_o (by decide))))
        exact ⟨by first | with_reducible assumption | assumption, ⟨kp_w (by decide) u55, v56, v57⟩, by first | with_reducible assumption | omega⟩
      · have c61 : (q_R δ b25 (q_I δ 7 3 a0).toNatClampNeg).toInt ≠ (32 : Int) := o_ne h33
        unfold J_X7_ahead_38
        refine ok_bdv (fun d62 e63 => ?_)
        have i64 : CI ad h.1 δ0 d62 := by rw [e63]; exact cs_7_4 L I k_a0 (show 0 ≤ (q_I δ 7 3 a0).toInt by omega) (show (q_I δ 7 3 a0).toInt ≤ 500 by omega)
        have u65 := kp_I kp_r e63
        have v66 : q_V d62 = q_V δ := ((show q_V d62 = q_V δ by rw [e63]; rfl)).trans rfl
        have v67 : q_R d62 = q_R δ := ((show q_R d62 = q_R δ by rw [e63]; rfl)).trans rfl
        have f68 : (q_I d62 7 2 a0).toInt = (q_I δ 7 2 a0).toInt := congrArg Int32.toInt (by rw [e63]; exact rI_o (by decide))
        have f69 : (q_I d62 7 3 a0).toInt = (q_I δ 7 3 a0).toInt := congrArg Int32.toInt (by rw [e63]; exact rI_o (by decide))
        refine ok_ite (fun h70 => ?_) (fun h70 => ?_)
        · have c71 : (q_I d62 7 2 a0).toInt ≤ (q_I d62 7 3 a0).toInt := o_le h70
          unfold J_X7_ahead_70
          exact ok_some (show CI ad h.1 δ0 d62 ∧ (kp [(7, 3), (7, 4)] δ d62 ∧ q_V d62 = q_V δ ∧ q_R d62 = q_R δ) ∧ ((-1 : Int) = -1 ∨ (q_I d62 7 3 a0).toInt < (q_I d62 7 2 a0).toInt) from ⟨i64, ⟨kp_w (by decide) u65, v66, v67⟩, by first | with_reducible assumption | omega⟩)
        · have c72 : (q_I d62 7 3 a0).toInt < (q_I d62 7 2 a0).toInt := o_nle h70
          refine ok_at o26 ?_
          have t73 := ti_tn (q_I d62 7 3 a0)
          refine ok_gd (fun hc74 => ?_) ?_
          · rcases hc74 with hc74 | hc74
            · have c75 : (q_I d62 7 3 a0).toInt < (0 : Int) := o_lt hc74
              omega
            · omega
          unfold J_X7_ahead_70
          have f76 := ti_b (q_R d62 b25 (q_I d62 7 3 a0).toNatClampNeg)
          exact ok_some (show CI ad h.1 δ0 d62 ∧ (kp [(7, 3), (7, 4)] δ d62 ∧ q_V d62 = q_V δ ∧ q_R d62 = q_R δ) ∧ (((q_R d62 b25 (q_I d62 7 3 a0).toNatClampNeg)).toInt = -1 ∨ (q_I d62 7 3 a0).toInt < (q_I d62 7 2 a0).toInt) from ⟨i64, ⟨kp_w (by decide) u65, v66, v67⟩, by first | with_reducible assumption | omega⟩)
set_option maxHeartbeats 4000000 in
theorem k_X7_ahead {ad : List Nat} {h : hp} (L : Lay TLx ad h) {δ0 : dp} {N : Nat} (hN : 10000000 ≤ N) {a0 : Nat} (k_a0 : q_K h.1 a0 = 7) {δ : dp} (I : CI ad h.1 δ0 δ) : ok (D_X7_ahead N h.1 a0 δ) (fun r => CI ad h.1 δ0 r.2 ∧ (kp [(7, 3), (7, 4)] δ r.2 ∧ q_V r.2 = q_V δ ∧ q_R r.2 = q_R δ) ∧ ((r.1).toInt = -1 ∨ (q_I r.2 7 3 a0).toInt < (q_I r.2 7 2 a0).toInt)) := by
  unfold D_X7_ahead
  have f1 := cb_7_3 I k_a0
  refine ok_mono (kl_X7_ahead_0 L hN   k_a0 _ δ I  (show 501 - (q_I δ 7 3 a0).toInt < _ by omega)) (fun r2 hr3 => ?_)
  obtain ⟨i4, ⟨u6, u7, u8⟩, p5⟩ := hr3
  have u9 := kp_t kp_r u6
  have v10 : q_V r2.2 = q_V δ := (u7).trans rfl
  have v11 : q_R r2.2 = q_R δ := (u8).trans rfl
  have f12 := ti_b r2.1
  have f13 := cb_7_3 i4 k_a0
  have f14 : (q_I r2.2 7 2 a0).toInt = (q_I δ 7 2 a0).toInt := congrArg Int32.toInt (u6 7 2 a0 (by decide))
  have f15 := cb_7_2 I k_a0
  exact ⟨by first | with_reducible assumption | assumption, ⟨kp_w (by decide) u9, v10, v11⟩, by first | with_reducible assumption | omega⟩
set_option maxHeartbeats 4000000 in
theorem k_X7_takeSign {ad : List Nat} {h : hp} (L : Lay TLx ad h) {δ0 : dp} {N : Nat} (hN : 10000000 ≤ N) {a0 : Nat} {x1 : Int32} (k_a0 : q_K h.1 a0 = 7) {δ : dp} (z0 : (x1).toInt ≠ -1) (I : CI ad h.1 δ0 δ) : ok (D_X7_takeSign N h.1 a0 x1 δ) (fun r => CI ad h.1 δ0 r.2 ∧ (kp [(7, 3), (7, 4)] δ r.2 ∧ q_V r.2 = q_V δ ∧ q_R r.2 = q_R δ) ∧ bo (r.1)) := by
  unfold D_X7_takeSign
  have f1 := ti_b x1
  refine ok_bind (k_X7_ahead L hN (a0 := a0) k_a0 I) (fun r2 hr3 => ?_)
  obtain ⟨i4, ⟨u6, u7, u8⟩, p5⟩ := hr3
  have u9 := kp_t kp_r u6
  have v10 : q_V r2.2 = q_V δ := (u7).trans rfl
  have v11 : q_R r2.2 = q_R δ := (u8).trans rfl
  have f12 := ti_b r2.1
  have f13 := cb_7_3 i4 k_a0
  have f14 : (q_I r2.2 7 2 a0).toInt = (q_I δ 7 2 a0).toInt := congrArg Int32.toInt (u6 7 2 a0 (by decide))
  have f15 := cb_7_2 I k_a0
  refine ok_ite (fun h16 => ?_) (fun h16 => ?_)
  · have c17 : r2.1.toInt = x1.toInt := o_eq h16
    unfold J_X7_takeSign_13
    refine ok_ite (fun h18 => ?_) (fun h18 => ?_)
    · have c19 : (1 : Int) = (0 : Int) := o_eq h18
      unfold J_X7_takeSign_28
      refine ok_gp (by decide) ?_
      exact ok_some (show CI ad h.1 δ0 r2.2 ∧ (kp [(7, 3), (7, 4)] δ r2.2 ∧ q_V r2.2 = q_V δ ∧ q_R r2.2 = q_R δ) ∧ bo ((1 : Int32)) from ⟨i4, ⟨kp_w (by decide) u9, v10, v11⟩, bo_1⟩)
    · have c20 : (1 : Int) ≠ (0 : Int) := o_ne h18
      first | (have q25 := te_addc (c := 1) (n := 1) rfl (q_I r2.2 7 3 a0) (by omega) (by omega); obtain ⟨f26, f27, f28⟩ := q25) | (obtain ⟨q25, f26, f27, f28⟩ := ti_addc (c := 1) (n := 1) rfl (q_I r2.2 7 3 a0))
      refine ok_bdv (fun d21 e22 => ?_)
      have i23 : CI ad h.1 δ0 d21 := by rw [e22]; exact cs_7_3 L i4 k_a0 (show 0 ≤ ((q_I r2.2 7 3 a0) + (1 : Int32)).toInt by omega) (show ((q_I r2.2 7 3 a0) + (1 : Int32)).toInt ≤ 500 by omega)
      have u29 := kp_I u9 e22
      have v30 : q_V d21 = q_V δ := ((show q_V d21 = q_V r2.2 by rw [e22]; rfl)).trans v10
      have v31 : q_R d21 = q_R δ := ((show q_R d21 = q_R r2.2 by rw [e22]; rfl)).trans v11
      unfold J_X7_takeSign_28
      refine ok_gp (by decide) ?_
      exact ok_some (show CI ad h.1 δ0 d21 ∧ (kp [(7, 3), (7, 4)] δ d21 ∧ q_V d21 = q_V δ ∧ q_R d21 = q_R δ) ∧ bo ((1 : Int32)) from ⟨i23, ⟨kp_w (by decide) u29, v30, v31⟩, bo_1⟩)
  · have c32 : r2.1.toInt ≠ x1.toInt := o_ne h16
    unfold J_X7_takeSign_13
    refine ok_ite (fun h33 => ?_) (fun h33 => ?_)
    · have c34 : (0 : Int) = (0 : Int) := o_eq h33
      unfold J_X7_takeSign_28
      refine ok_gp (by decide) ?_
      exact ok_some (show CI ad h.1 δ0 r2.2 ∧ (kp [(7, 3), (7, 4)] δ r2.2 ∧ q_V r2.2 = q_V δ ∧ q_R r2.2 = q_R δ) ∧ bo ((0 : Int32)) from ⟨i4, ⟨kp_w (by decide) u9, v10, v11⟩, bo_0⟩)
    · have c35 : (0 : Int) ≠ (0 : Int) := o_ne h33
      first | (have q40 := te_addc (c := 1) (n := 1) rfl (q_I r2.2 7 3 a0) (by omega) (by omega); obtain ⟨f41, f42, f43⟩ := q40) | (obtain ⟨q40, f41, f42, f43⟩ := ti_addc (c := 1) (n := 1) rfl (q_I r2.2 7 3 a0))
      refine ok_bdv (fun d36 e37 => ?_)
      have i38 : CI ad h.1 δ0 d36 := by rw [e37]; exact cs_7_3 L i4 k_a0 (show 0 ≤ ((q_I r2.2 7 3 a0) + (1 : Int32)).toInt by omega) (show ((q_I r2.2 7 3 a0) + (1 : Int32)).toInt ≤ 500 by omega)
      have u44 := kp_I u9 e37
      have v45 : q_V d36 = q_V δ := ((show q_V d36 = q_V r2.2 by rw [e37]; rfl)).trans v10
      have v46 : q_R d36 = q_R δ := ((show q_R d36 = q_R r2.2 by rw [e37]; rfl)).trans v11
      unfold J_X7_takeSign_28
      refine ok_gp (by decide) ?_
      exact ok_some (show CI ad h.1 δ0 d36 ∧ (kp [(7, 3), (7, 4)] δ d36 ∧ q_V d36 = q_V δ ∧ q_R d36 = q_R δ) ∧ bo ((0 : Int32)) from ⟨i38, ⟨kp_w (by decide) u44, v45, v46⟩, bo_0⟩)
set_option maxHeartbeats 4000000 in
theorem k_X7_needSign {ad : List Nat} {h : hp} (L : Lay TLx ad h) {δ0 : dp} {N : Nat} (hN : 10000000 ≤ N) {a0 : Nat} {x1 : Int32} (k_a0 : q_K h.1 a0 = 7) {δ : dp} (z0 : (x1).toInt ≠ -1) (I : CI ad h.1 δ0 δ) : ok (D_X7_needSign N h.1 a0 x1 δ) (fun r => CI ad h.1 δ0 r ∧ (kp [(7, 3), (7, 4), (7, 5), (7, 6)] δ r ∧ q_V r = q_V δ ∧ q_R r = q_R δ) ∧ ((q_I δ 7 5 a0).toInt ≠ 0 → (q_I r 7 5 a0).toInt ≠ 0)) := by
  unfold D_X7_needSign
  have f1 := ti_b x1
  refine ok_bind (k_X7_ahead L hN (a0 := a0) k_a0 I) (fun r2 hr3 => ?_)
  obtain ⟨i4, ⟨u6, u7, u8⟩, p5⟩ := hr3
  have u9 := kp_t kp_r u6
  have v10 : q_V r2.2 = q_V δ := (u7).trans rfl
  have v11 : q_R r2.2 = q_R δ := (u8).trans rfl
  have f12 := ti_b r2.1
  have f13 := cb_7_3 i4 k_a0
  have f14 : (q_I r2.2 7 2 a0).toInt = (q_I δ 7 2 a0).toInt := congrArg Int32.toInt (u6 7 2 a0 (by decide))
  have f15 := cb_7_2 I k_a0
  refine ok_ite (fun h16 => ?_) (fun h16 => ?_)
  · have c17 : r2.1.toInt = x1.toInt := o_eq h16
    first | (have q22 := te_addc (c := 1) (n := 1) rfl (q_I r2.2 7 3 a0) (by omega) (by omega); obtain ⟨f23, f24, f25⟩ := q22) | (obtain ⟨q22, f23, f24, f25⟩ := ti_addc (c := 1) (n := 1) rfl (q_I r2.2 7 3 a0))
    refine ok_bdv (fun d18 e19 => ?_)
    have i20 : CI ad h.1 δ0 d18 := by rw [e19]; exact cs_7_3 L i4 k_a0 (show 0 ≤ ((q_I r2.2 7 3 a0) + (1 : Int32)).toInt by omega) (show ((q_I r2.2 7 3 a0) + (1 : Int32)).toInt ≤ 500 by omega)
    have u26 := kp_I u9 e19
    have v27 : q_V d18 = q_V δ := ((show q_V d18 = q_V r2.2 by rw [e19]; rfl)).trans v10
    have v28 : q_R d18 = q_R δ := ((show q_R d18 = q_R r2.2 by rw [e19]; rfl)).trans v11
    unfold J_X7_needSign_26
    have f29 := ti_b (q_I δ 7 5 a0)
    have f30 : (q_I d18 7 5 a0).toInt = (q_I δ 7 5 a0).toInt := ((show (q_I d18 7 5 a0).toInt = (q_I r2.2 7 5 a0).toInt from congrArg Int32.toInt (by rw [e19]; exact rI_o (by decide))).trans (show (q_I r2.2 7 5 a0).toInt = (q_I δ 7 5 a0).toInt from congrArg Int32.toInt (u6 7 5 a0 (by decide))))
    exact ok_some (show CI ad h.1 δ0 d18 ∧ (kp [(7, 3), (7, 4), (7, 5), (7, 6)] δ d18 ∧ q_V d18 = q_V δ ∧ q_R d18 = q_R δ) ∧ ((q_I δ 7 5 a0).toInt ≠ 0 → (q_I d18 7 5 a0).toInt ≠ 0) from ⟨i20, ⟨kp_w (by decide) u26, v27, v28⟩, by first | with_reducible assumption | omega⟩)
  · have c31 : r2.1.toInt ≠ x1.toInt := o_ne h16
    refine ok_bind (k_X7_refuse L hN (a0 := a0) (x1 := (1 : Int32)) k_a0 (show (1 : Int) ≠ 0 by first | with_reducible assumption | omega) i4) (fun r32 hr33 => ?_)
    obtain ⟨i34, ⟨u36, u37, u38⟩, p35⟩ := hr33
    have u39 := kp_t u9 u36
    have v40 : q_V r32 = q_V δ := (u37).trans v10
    have v41 : q_R r32 = q_R δ := (u38).trans v11
    have f42 := ti_b (q_I r32 7 5 a0)
    unfold J_X7_needSign_26
    have f43 := ti_b (q_I δ 7 5 a0)
    exact ok_some (show CI ad h.1 δ0 r32 ∧ (kp [(7, 3), (7, 4), (7, 5), (7, 6)] δ r32 ∧ q_V r32 = q_V δ ∧ q_R r32 = q_R δ) ∧ ((q_I δ 7 5 a0).toInt ≠ 0 → (q_I r32 7 5 a0).toInt ≠ 0) from ⟨i34, ⟨kp_w (by decide) u39, v40, v41⟩, by first | with_reducible assumption | omega⟩)
set_option maxHeartbeats 4000000 in
theorem kl_X7_readWord_5 {ad : List Nat} {h : hp} (L : Lay TLx ad h) {δ0 : dp} {N : Nat} (hN : 10000000 ≤ N) {a0 : Nat} (k_a0 : q_K h.1 a0 = 7) : ∀ (n : Nat) (δ : dp), CI ad h.1 δ0 δ → 501 - (q_I δ 7 3 a0).toInt < (n : Int) → ok (L_X7_readWord_5 N h.1 a0 n δ) (fun r => CI ad h.1 δ0 r ∧ (kp [(7, 3), (7, 4)] δ r ∧ q_V r = q_V δ ∧ q_R r = q_R δ)) := by
  intro n
  induction n with
  | zero =>
    intro δ I hm
    have f1 := cb_7_3 I k_a0
    exfalso; omega
  | succ n ih =>
    intro δ I hm
    unfold L_X7_readWord_5
    have f1 := cb_7_3 I k_a0
    have f2 := cb_7_2 I k_a0
    refine ok_ite (fun h3 => ?_) (fun h3 => ?_)
    · have c4 : (q_I δ 7 2 a0).toInt ≤ (q_I δ 7 3 a0).toInt := o_le h3
      unfold J_X7_readWord_57
      exact ok_some (show CI ad h.1 δ0 δ ∧ (kp [(7, 3), (7, 4)] δ δ ∧ q_V δ = q_V δ ∧ q_R δ = q_R δ) from ⟨I, ⟨kp_w (by decide) kp_r, rfl, rfl⟩⟩)
    · have c5 : (q_I δ 7 3 a0).toInt < (q_I δ 7 2 a0).toInt := o_nle h3
      obtain ⟨b6, o7, k8, n9⟩ := gO_7_0 L k_a0
      refine ok_at o7 ?_
      have t10 := ti_tn (q_I δ 7 3 a0)
      refine ok_gd (fun hc11 => ?_) ?_
      · rcases hc11 with hc11 | hc11
        · have c12 : (q_I δ 7 3 a0).toInt < (0 : Int) := o_lt hc11
          omega
        · omega
      have f13 := ti_b (q_R δ b6 (q_I δ 7 3 a0).toNatClampNeg)
      refine ok_ite (fun h14 => ?_) (fun h14 => ?_)
      · have c15 : (q_R δ b6 (q_I δ 7 3 a0).toNatClampNeg).toInt < (97 : Int) := o_lt h14
        unfold J_X7_readWord_57
        exact ok_some (show CI ad h.1 δ0 δ ∧ (kp [(7, 3), (7, 4)] δ δ ∧ q_V δ = q_V δ ∧ q_R δ = q_R δ) from ⟨I, ⟨kp_w (by decide) kp_r, rfl, rfl⟩⟩)
      · have c16 : (97 : Int) ≤ (q_R δ b6 (q_I δ 7 3 a0).toNatClampNeg).toInt := o_nlt h14
        refine ok_at o7 ?_
        refine ok_gd (fun hc17 => ?_) ?_
        · rcases hc17 with hc17 | hc17
          · have c18 : (q_I δ 7 3 a0).toInt < (0 : Int) := o_lt hc17
            omega
          · omega
        refine ok_ite (fun h19 => ?_) (fun h19 => ?_)
        · have c20 : (122 : Int) < (q_R δ b6 (q_I δ 7 3 a0).toNatClampNeg).toInt := o_lt h19
          unfold J_X7_readWord_57
          exact ok_some (show CI ad h.1 δ0 δ ∧ (kp [(7, 3), (7, 4)] δ δ ∧ q_V δ = q_V δ ∧ q_R δ = q_R δ) from ⟨I, ⟨kp_w (by decide) kp_r, rfl, rfl⟩⟩)
        · have c21 : (q_R δ b6 (q_I δ 7 3 a0).toNatClampNeg).toInt ≤ (122 : Int) := o_nlt h19
          first | (have q26 := te_addc (c := 1) (n := 1) rfl (q_I δ 7 3 a0) (by omega) (by omega); obtain ⟨f27, f28, f29⟩ := q26) | (obtain ⟨q26, f27, f28, f29⟩ := ti_addc (c := 1) (n := 1) rfl (q_I δ 7 3 a0))
          refine ok_bdv (fun d22 e23 => ?_)
          have i24 : CI ad h.1 δ0 d22 := by rw [e23]; exact cs_7_3 L I k_a0 (show 0 ≤ ((q_I δ 7 3 a0) + (1 : Int32)).toInt by omega) (show ((q_I δ 7 3 a0) + (1 : Int32)).toInt ≤ 500 by omega)
          have u30 := kp_I kp_r e23
          have v31 : q_V d22 = q_V δ := ((show q_V d22 = q_V δ by rw [e23]; rfl)).trans rfl
          have v32 : q_R d22 = q_R δ := ((show q_R d22 = q_R δ by rw [e23]; rfl)).trans rfl
          have f33 := cb_7_3 i24 k_a0
          have f34 : (q_I d22 7 3 a0).toInt = ((q_I δ 7 3 a0) + (1 : Int32)).toInt := congrArg Int32.toInt (show q_I d22 7 3 a0 = ((q_I δ 7 3 a0) + (1 : Int32)) by rw [e23]; exact rI_s)
          refine ok_mono (ih d22 i24  (show 501 - (q_I d22 7 3 a0).toInt < _ by omega)) (fun r35 hr36 => ?_)
          obtain ⟨i37, ⟨u38, u39, u40⟩⟩ := hr36
          have u41 := kp_t u30 u38
          have v42 : q_V r35 = q_V δ := (u39).trans v31
          have v43 : q_R r35 = q_R δ := (u40).trans v32
          exact ⟨by first | with_reducible assumption | assumption, ⟨kp_w (by decide) u41, v42, v43⟩⟩
set_option maxHeartbeats 4000000 in
theorem k_X7_readWord {ad : List Nat} {h : hp} (L : Lay TLx ad h) {δ0 : dp} {N : Nat} (hN : 10000000 ≤ N) {a0 : Nat} (k_a0 : q_K h.1 a0 = 7) {δ : dp} (I : CI ad h.1 δ0 δ) : ok (D_X7_readWord N h.1 a0 δ) (fun r => CI ad h.1 δ0 r ∧ (kp [(7, 3), (7, 4)] δ r ∧ q_V r = q_V δ ∧ q_R r = q_R δ)) := by
  unfold D_X7_readWord
  refine ok_bind (k_X7_ahead L hN (a0 := a0) k_a0 I) (fun r1 hr2 => ?_)
  obtain ⟨i3, ⟨u5, u6, u7⟩, p4⟩ := hr2
  have u8 := kp_t kp_r u5
  have v9 : q_V r1.2 = q_V δ := (u6).trans rfl
  have v10 : q_R r1.2 = q_R δ := (u7).trans rfl
  have f11 := ti_b r1.1
  have f12 := cb_7_3 i3 k_a0
  have f13 : (q_I r1.2 7 2 a0).toInt = (q_I δ 7 2 a0).toInt := congrArg Int32.toInt (u5 7 2 a0 (by decide))
  have f14 := cb_7_2 I k_a0
  refine ok_mono (kl_X7_readWord_5 L hN   k_a0 _ r1.2 i3  (show 501 - (q_I r1.2 7 3 a0).toInt < _ by omega)) (fun r15 hr16 => ?_)
  obtain ⟨i17, ⟨u18, u19, u20⟩⟩ := hr16
  have u21 := kp_t u8 u18
  have v22 : q_V r15 = q_V δ := (u19).trans v9
  have v23 : q_R r15 = q_R δ := (u20).trans v10
  exact ⟨by first | with_reducible assumption | assumption, ⟨kp_w (by decide) u21, v22, v23⟩⟩
set_option maxHeartbeats 4000000 in
theorem kl_X7_wordIs_20 {ad : List Nat} {h : hp} (L : Lay TLx ad h) {δ0 : dp} {N : Nat} (hN : 10000000 ≤ N) {a0 : Nat} {a1 : Nat} (k_a0 : q_K h.1 a0 = 7) : ∀ (n : Nat) (x2v : Int32) (δ : dp), CI ad h.1 δ0 δ → 0 ≤ (x2v).toInt → (x2v).toInt ≤ (tx_n a1 : Int) → (q_I δ 7 3 a0).toInt - (q_I δ 7 4 a0).toInt = (tx_n a1 : Int) → a1 < 16 → (tx_n a1 : Int) - (x2v).toInt < (n : Int) → ok (L_X7_wordIs_20 N h.1 a0 a1 n x2v δ) (fun r => r.2 = δ ∧ bo (r.1)) := by
  intro n
  induction n with
  | zero =>
    intro x2v δ I j0 j1 j2 j3 hm
    have f1 := ti_b x2v
    have f2 := cb_7_3 I k_a0
    have f3 := cb_7_4 I k_a0
    exfalso; omega
  | succ n ih =>
    intro x2v δ I j0 j1 j2 j3 hm
    unfold L_X7_wordIs_20
    have f1 := ti_b x2v
    have f2 := cb_7_3 I k_a0
    have f3 := cb_7_4 I k_a0
    refine ok_bind (k_J0_length_8abf5 L hN (a0 := a1) (show a1 < 16 by first | with_reducible assumption | omega) I) (fun r4 hr5 => ?_)
    obtain ⟨i6, p7⟩ := hr5
    try rw [i6]
    have f8 := ti_b r4.1
    refine ok_ite (fun h9 => ?_) (fun h9 => ?_)
    · have c10 : r4.1.toInt ≤ x2v.toInt := o_le h9
      refine ok_gp (by decide) ?_
      exact ok_some (show δ = δ ∧ bo ((1 : Int32)) from ⟨rfl, bo_1⟩)
    · have c11 : x2v.toInt < r4.1.toInt := o_nle h9
      obtain ⟨b12, o13, k14, n15⟩ := gO_7_0 L k_a0
      refine ok_at o13 ?_
      first | (have q17 := te_add (q_I δ 7 4 a0) x2v (by omega) (by omega); obtain ⟨f18, f19, f20⟩ := q17) | (obtain ⟨q17, f18, f19, f20⟩ := ti_add (q_I δ 7 4 a0) x2v)
      have t21 := ti_tn ((q_I δ 7 4 a0) + x2v)
      refine ok_gd (fun hc22 => ?_) ?_
      · rcases hc22 with hc22 | hc22
        · have c23 : ((q_I δ 7 4 a0) + x2v).toInt < (0 : Int) := o_lt hc22
          omega
        · omega
      refine ok_bind (k_J0_charAt_5068e L hN (a0 := a1) (x1 := x2v) (show a1 < 16 by first | with_reducible assumption | omega) (show 0 ≤ (x2v).toInt by first | with_reducible assumption | omega) (show (x2v).toInt < (tx_n a1 : Int) by first | with_reducible assumption | omega) I) (fun r24 hr25 => ?_)
      have i26 := hr25
      try rw [i26]
      have f27 := ti_b r24.1
      have f28 := ti_b (q_R δ b12 ((q_I δ 7 4 a0) + x2v).toNatClampNeg)
      refine ok_ite (fun h29 => ?_) (fun h29 => ?_)
      · have c30 : (q_R δ b12 ((q_I δ 7 4 a0) + x2v).toNatClampNeg).toInt = r24.1.toInt := o_eq h29
        refine ok_biv (fun vx31 e32 => ?_)
        first | (have q33 := te_addc (c := 1) (n := 1) rfl x2v (by omega) (by omega); rw [← e32] at q33; obtain ⟨f34, f35, f36⟩ := q33) | (obtain ⟨q33, f34, f35, f36⟩ : ∃ q : Int, vx31.toInt = x2v.toInt + (1 : Int) + 4294967296 * q ∧ -2147483648 ≤ vx31.toInt ∧ vx31.toInt ≤ 2147483647 := by rw [e32]; exact ti_addc (c := 1) (n := 1) rfl x2v)
        refine ok_mono (ih vx31 δ I (show 0 ≤ (vx31).toInt by first | with_reducible assumption | omega) (show (vx31).toInt ≤ (tx_n a1 : Int) by first | with_reducible assumption | omega) (show (q_I δ 7 3 a0).toInt - (q_I δ 7 4 a0).toInt = (tx_n a1 : Int) by first | with_reducible assumption | omega) (show a1 < 16 by first | with_reducible assumption | omega) (show (tx_n a1 : Int) - (vx31).toInt < _ by omega)) (fun r37 hr38 => ?_)
        obtain ⟨i39, p40⟩ := hr38
        have f41 := bo_t p40
        have f42 := ti_b r37.1
        exact ⟨by first | with_reducible assumption | assumption, by first | with_reducible assumption | omega⟩
      · have c43 : (q_R δ b12 ((q_I δ 7 4 a0) + x2v).toNatClampNeg).toInt ≠ r24.1.toInt := o_ne h29
        refine ok_gp (by decide) ?_
        exact ok_some (show δ = δ ∧ bo ((0 : Int32)) from ⟨rfl, bo_0⟩)
set_option maxHeartbeats 4000000 in
theorem k_X7_wordIs {ad : List Nat} {h : hp} (L : Lay TLx ad h) {δ0 : dp} {N : Nat} (hN : 10000000 ≤ N) {a0 : Nat} {a1 : Nat} (k_a0 : q_K h.1 a0 = 7) {δ : dp} (z0 : a1 < 16) (I : CI ad h.1 δ0 δ) : ok (D_X7_wordIs N h.1 a0 a1 δ) (fun r => r.2 = δ ∧ bo (r.1)) := by
  unfold D_X7_wordIs
  refine ok_bind (k_J0_length_8abf5 L hN (a0 := a1) (show a1 < 16 by first | with_reducible assumption | omega) I) (fun r1 hr2 => ?_)
  obtain ⟨i3, p4⟩ := hr2
  try rw [i3]
  have f5 := ti_b r1.1
  have f6 := cb_7_3 I k_a0
  have f7 := cb_7_4 I k_a0
  first | (have q9 := te_sub (q_I δ 7 3 a0) (q_I δ 7 4 a0) (by omega) (by omega); obtain ⟨f10, f11, f12⟩ := q9) | (obtain ⟨q9, f10, f11, f12⟩ := ti_sub (q_I δ 7 3 a0) (q_I δ 7 4 a0))
  refine ok_ite (fun h13 => ?_) (fun h13 => ?_)
  · have c14 : ((q_I δ 7 3 a0) - (q_I δ 7 4 a0)).toInt = r1.1.toInt := o_eq h13
    refine ok_mono (kl_X7_wordIs_20 L hN   k_a0 _ (0 : Int32) δ I (show 0 ≤ (0 : Int) by first | with_reducible assumption | omega) (show (0 : Int) ≤ (tx_n a1 : Int) by first | with_reducible assumption | omega) (show (q_I δ 7 3 a0).toInt - (q_I δ 7 4 a0).toInt = (tx_n a1 : Int) by first | with_reducible assumption | omega) (show a1 < 16 by first | with_reducible assumption | omega) (show (tx_n a1 : Int) - (0 : Int) < _ by omega)) (fun r15 hr16 => ?_)
    obtain ⟨i17, p18⟩ := hr16
    have f19 := bo_t p18
    have f20 := ti_b r15.1
    exact ⟨by first | with_reducible assumption | assumption, by first | with_reducible assumption | omega⟩
  · have c21 : ((q_I δ 7 3 a0) - (q_I δ 7 4 a0)).toInt ≠ r1.1.toInt := o_ne h13
    refine ok_gp (by decide) ?_
    exact ok_some (show δ = δ ∧ bo ((0 : Int32)) from ⟨rfl, bo_0⟩)
set_option maxHeartbeats 4000000 in
theorem kl_X7_readNumber_7 {ad : List Nat} {h : hp} (L : Lay TLx ad h) {δ0 : dp} {N : Nat} (hN : 10000000 ≤ N) {a0 : Nat} {x1 : Int32} {x2 : Int32} (k_a0 : q_K h.1 a0 = 7) : ∀ (n : Nat) (x3v : Int32) (δ : dp), CI ad h.1 δ0 δ → 0 ≤ (x3v).toInt → (x3v).toInt ≤ 1000000 → 501 - (q_I δ 7 3 a0).toInt < (n : Int) → ok (L_X7_readNumber_7 N h.1 a0 x1 x2 n x3v δ) (fun r => CI ad h.1 δ0 r.2 ∧ (kp [(7, 3), (7, 4), (7, 5), (7, 6)] δ r.2 ∧ q_V r.2 = q_V δ ∧ q_R r.2 = q_R δ) ∧ 0 ≤ (r.1).toInt ∧ (r.1).toInt ≤ 1000000 ∧ ((q_I δ 7 5 a0).toInt ≠ 0 → (q_I r.2 7 5 a0).toInt ≠ 0) ∧ ((q_I r.2 7 5 a0).toInt = 0 → (x1).toInt ≤ (r.1).toInt ∧ (r.1).toInt ≤ (x2).toInt)) := by
  intro n
  induction n with
  | zero =>
    intro x3v δ I j0 j1 hm
    have f1 := ti_b x3v
    have f2 := cb_7_3 I k_a0
    exfalso; omega
  | succ n ih =>
    intro x3v δ I j0 j1 hm
    unfold L_X7_readNumber_7
    have f1 := ti_b x3v
    have f2 := cb_7_3 I k_a0
    have f3 := cb_7_2 I k_a0
    refine ok_ite (fun h4 => ?_) (fun h4 => ?_)
    · have c5 : (q_I δ 7 2 a0).toInt ≤ (q_I δ 7 3 a0).toInt := o_le h4
      unfold J_X7_readNumber_82
      have f6 := cb_7_4 I k_a0
      refine ok_ite (fun h7 => ?_) (fun h7 => ?_)
      · have c8 : (q_I δ 7 3 a0).toInt = (q_I δ 7 4 a0).toInt := o_eq h7
        refine ok_bind (k_X7_refuse L hN (a0 := a0) (x1 := (1 : Int32)) k_a0 (show (1 : Int) ≠ 0 by first | with_reducible assumption | omega) I) (fun r9 hr10 => ?_)
        obtain ⟨i11, ⟨u13, u14, u15⟩, p12⟩ := hr10
        have u16 := kp_t kp_r u13
        have v17 : q_V r9 = q_V δ := (u14).trans rfl
        have v18 : q_R r9 = q_R δ := (u15).trans rfl
        have f19 := ti_b (q_I r9 7 5 a0)
        unfold J_X7_readNumber_116
        have f20 := ti_b (q_I δ 7 5 a0)
        have f21 := ti_b x1
        have f22 := ti_b x2
        exact ok_some (show CI ad h.1 δ0 r9 ∧ (kp [(7, 3), (7, 4), (7, 5), (7, 6)] δ r9 ∧ q_V r9 = q_V δ ∧ q_R r9 = q_R δ) ∧ 0 ≤ (x3v).toInt ∧ (x3v).toInt ≤ 1000000 ∧ ((q_I δ 7 5 a0).toInt ≠ 0 → (q_I r9 7 5 a0).toInt ≠ 0) ∧ ((q_I r9 7 5 a0).toInt = 0 → (x1).toInt ≤ (x3v).toInt ∧ (x3v).toInt ≤ (x2).toInt) from ⟨i11, ⟨kp_w (by decide) u16, v17, v18⟩, by first | with_reducible assumption | omega, by first | with_reducible assumption | omega, by first | with_reducible assumption | omega, by first | with_reducible assumption | omega⟩)
      · have c23 : (q_I δ 7 3 a0).toInt ≠ (q_I δ 7 4 a0).toInt := o_ne h7
        have f24 := ti_b x1
        refine ok_ite (fun h25 => ?_) (fun h25 => ?_)
        · have c26 : x3v.toInt < x1.toInt := o_lt h25
          unfold J_X7_readNumber_111
          refine ok_bind (k_X7_refuse L hN (a0 := a0) (x1 := (2 : Int32)) k_a0 (show (2 : Int) ≠ 0 by first | with_reducible assumption | omega) I) (fun r27 hr28 => ?_)
          obtain ⟨i29, ⟨u31, u32, u33⟩, p30⟩ := hr28
          have u34 := kp_t kp_r u31
          have v35 : q_V r27 = q_V δ := (u32).trans rfl
          have v36 : q_R r27 = q_R δ := (u33).trans rfl
          have f37 := ti_b (q_I r27 7 5 a0)
          unfold J_X7_readNumber_116
          have f38 := ti_b (q_I δ 7 5 a0)
          have f39 := ti_b x2
          exact ok_some (show CI ad h.1 δ0 r27 ∧ (kp [(7, 3), (7, 4), (7, 5), (7, 6)] δ r27 ∧ q_V r27 = q_V δ ∧ q_R r27 = q_R δ) ∧ 0 ≤ (x3v).toInt ∧ (x3v).toInt ≤ 1000000 ∧ ((q_I δ 7 5 a0).toInt ≠ 0 → (q_I r27 7 5 a0).toInt ≠ 0) ∧ ((q_I r27 7 5 a0).toInt = 0 → (x1).toInt ≤ (x3v).toInt ∧ (x3v).toInt ≤ (x2).toInt) from ⟨i29, ⟨kp_w (by decide) u34, v35, v36⟩, by first | with_reducible assumption | omega, by first | with_reducible assumption | omega, by first | with_reducible assumption | omega, by first | with_reducible assumption | omega⟩)
        · have c40 : x1.toInt ≤ x3v.toInt := o_nlt h25
          have f41 := ti_b x2
          refine ok_ite (fun h42 => ?_) (fun h42 => ?_)
          · have c43 : x3v.toInt ≤ x2.toInt := o_le h42
            unfold J_X7_readNumber_116
            have f44 := ti_b (q_I δ 7 5 a0)
            exact ok_some (show CI ad h.1 δ0 δ ∧ (kp [(7, 3), (7, 4), (7, 5), (7, 6)] δ δ ∧ q_V δ = q_V δ ∧ q_R δ = q_R δ) ∧ 0 ≤ (x3v).toInt ∧ (x3v).toInt ≤ 1000000 ∧ ((q_I δ 7 5 a0).toInt ≠ 0 → (q_I δ 7 5 a0).toInt ≠ 0) ∧ ((q_I δ 7 5 a0).toInt = 0 → (x1).toInt ≤ (x3v).toInt ∧ (x3v).toInt ≤ (x2).toInt) from ⟨I, ⟨kp_w (by decide) kp_r, rfl, rfl⟩, by first | with_reducible assumption | omega, by first | with_reducible assumption | omega, by first | with_reducible assumption | omega, by first | with_reducible assumption | omega⟩)
          · have c45 : x2.toInt < x3v.toInt := o_nle h42
            unfold J_X7_readNumber_111
            refine ok_bind (k_X7_refuse L hN (a0 := a0) (x1 := (2 : Int32)) k_a0 (show (2 : Int) ≠ 0 by first | with_reducible assumption | omega) I) (fun r46 hr47 => ?_)
            obtain ⟨i48, ⟨u50, u51, u52⟩, p49⟩ := hr47
            have u53 := kp_t kp_r u50
            have v54 : q_V r46 = q_V δ := (u51).trans rfl
            have v55 : q_R r46 = q_R δ := (u52).trans rfl
            have f56 := ti_b (q_I r46 7 5 a0)
            unfold J_X7_readNumber_116
            have f57 := ti_b (q_I δ 7 5 a0)
            exact ok_some (show CI ad h.1 δ0 r46 ∧ (kp [(7, 3), (7, 4), (7, 5), (7, 6)] δ r46 ∧ q_V r46 = q_V δ ∧ q_R r46 = q_R δ) ∧ 0 ≤ (x3v).toInt ∧ (x3v).toInt ≤ 1000000 ∧ ((q_I δ 7 5 a0).toInt ≠ 0 → (q_I r46 7 5 a0).toInt ≠ 0) ∧ ((q_I r46 7 5 a0).toInt = 0 → (x1).toInt ≤ (x3v).toInt ∧ (x3v).toInt ≤ (x2).toInt) from ⟨i48, ⟨kp_w (by decide) u53, v54, v55⟩, by first | with_reducible assumption | omega, by first | with_reducible assumption | omega, by first | with_reducible assumption | omega, by first | with_reducible assumption | omega⟩)
    · have c58 : (q_I δ 7 3 a0).toInt < (q_I δ 7 2 a0).toInt := o_nle h4
      obtain ⟨b59, o60, k61, n62⟩ := gO_7_0 L k_a0
      refine ok_at o60 ?_
      have t63 := ti_tn (q_I δ 7 3 a0)
      refine ok_gd (fun hc64 => ?_) ?_
      · rcases hc64 with hc64 | hc64
        · have c65 : (q_I δ 7 3 a0).toInt < (0 : Int) := o_lt hc64
          omega
        · omega
      have f66 := ti_b (q_R δ b59 (q_I δ 7 3 a0).toNatClampNeg)
      refine ok_ite (fun h67 => ?_) (fun h67 => ?_)
      · have c68 : (q_R δ b59 (q_I δ 7 3 a0).toNatClampNeg).toInt < (48 : Int) := o_lt h67
        unfold J_X7_readNumber_82
        have f69 := cb_7_4 I k_a0
        refine ok_ite (fun h70 => ?_) (fun h70 => ?_)
        · have c71 : (q_I δ 7 3 a0).toInt = (q_I δ 7 4 a0).toInt := o_eq h70
          refine ok_bind (k_X7_refuse L hN (a0 := a0) (x1 := (1 : Int32)) k_a0 (show (1 : Int) ≠ 0 by first | with_reducible assumption | omega) I) (fun r72 hr73 => ?_)
          obtain ⟨i74, ⟨u76, u77, u78⟩, p75⟩ := hr73
          have u79 := kp_t kp_r u76
          have v80 : q_V r72 = q_V δ := (u77).trans rfl
          have v81 : q_R r72 = q_R δ := (u78).trans rfl
          have f82 := ti_b (q_I r72 7 5 a0)
          unfold J_X7_readNumber_116
          have f83 := ti_b (q_I δ 7 5 a0)
          have f84 := ti_b x1
          have f85 := ti_b x2
          exact ok_some (show CI ad h.1 δ0 r72 ∧ (kp [(7, 3), (7, 4), (7, 5), (7, 6)] δ r72 ∧ q_V r72 = q_V δ ∧ q_R r72 = q_R δ) ∧ 0 ≤ (x3v).toInt ∧ (x3v).toInt ≤ 1000000 ∧ ((q_I δ 7 5 a0).toInt ≠ 0 → (q_I r72 7 5 a0).toInt ≠ 0) ∧ ((q_I r72 7 5 a0).toInt = 0 → (x1).toInt ≤ (x3v).toInt ∧ (x3v).toInt ≤ (x2).toInt) from ⟨i74, ⟨kp_w (by decide) u79, v80, v81⟩, by first | with_reducible assumption | omega, by first | with_reducible assumption | omega, by first | with_reducible assumption | omega, by first | with_reducible assumption | omega⟩)
        · have c86 : (q_I δ 7 3 a0).toInt ≠ (q_I δ 7 4 a0).toInt := o_ne h70
          have f87 := ti_b x1
          refine ok_ite (fun h88 => ?_) (fun h88 => ?_)
          · have c89 : x3v.toInt < x1.toInt := o_lt h88
            unfold J_X7_readNumber_111
            refine ok_bind (k_X7_refuse L hN (a0 := a0) (x1 := (2 : Int32)) k_a0 (show (2 : Int) ≠ 0 by first | with_reducible assumption | omega) I) (fun r90 hr91 => ?_)
            obtain ⟨i92, ⟨u94, u95, u96⟩, p93⟩ := hr91
            have u97 := kp_t kp_r u94
            have v98 : q_V r90 = q_V δ := (u95).trans rfl
            have v99 : q_R r90 = q_R δ := (u96).trans rfl
            have f100 := ti_b (q_I r90 7 5 a0)
            unfold J_X7_readNumber_116
            have f101 := ti_b (q_I δ 7 5 a0)
            have f102 := ti_b x2
            exact ok_some (show CI ad h.1 δ0 r90 ∧ (kp [(7, 3), (7, 4), (7, 5), (7, 6)] δ r90 ∧ q_V r90 = q_V δ ∧ q_R r90 = q_R δ) ∧ 0 ≤ (x3v).toInt ∧ (x3v).toInt ≤ 1000000 ∧ ((q_I δ 7 5 a0).toInt ≠ 0 → (q_I r90 7 5 a0).toInt ≠ 0) ∧ ((q_I r90 7 5 a0).toInt = 0 → (x1).toInt ≤ (x3v).toInt ∧ (x3v).toInt ≤ (x2).toInt) from ⟨i92, ⟨kp_w (by decide) u97, v98, v99⟩, by first | with_reducible assumption | omega, by first | with_reducible assumption | omega, by first | with_reducible assumption | omega, by first | with_reducible assumption | omega⟩)
          · have c103 : x1.toInt ≤ x3v.toInt := o_nlt h88
            have f104 := ti_b x2
            refine ok_ite (fun h105 => ?_) (fun h105 => ?_)
            · have c106 : x3v.toInt ≤ x2.toInt := o_le h105
              unfold J_X7_readNumber_116
              have f107 := ti_b (q_I δ 7 5 a0)
              exact ok_some (show CI ad h.1 δ0 δ ∧ (kp [(7, 3), (7, 4), (7, 5), (7, 6)] δ δ ∧ q_V δ = q_V δ ∧ q_R δ = q_R δ) ∧ 0 ≤ (x3v).toInt ∧ (x3v).toInt ≤ 1000000 ∧ ((q_I δ 7 5 a0).toInt ≠ 0 → (q_I δ 7 5 a0).toInt ≠ 0) ∧ ((q_I δ 7 5 a0).toInt = 0 → (x1).toInt ≤ (x3v).toInt ∧ (x3v).toInt ≤ (x2).toInt) from ⟨I, ⟨kp_w (by decide) kp_r, rfl, rfl⟩, by first | with_reducible assumption | omega, by first | with_reducible assumption | omega, by first | with_reducible assumption | omega, by first | with_reducible assumption | omega⟩)
            · have c108 : x2.toInt < x3v.toInt := o_nle h105
              unfold J_X7_readNumber_111
              refine ok_bind (k_X7_refuse L hN (a0 := a0) (x1 := (2 : Int32)) k_a0 (show (2 : Int) ≠ 0 by first | with_reducible assumption | omega) I) (fun r109 hr110 => ?_)
              obtain ⟨i111, ⟨u113, u114, u115⟩, p112⟩ := hr110
              have u116 := kp_t kp_r u113
              have v117 : q_V r109 = q_V δ := (u114).trans rfl
              have v118 : q_R r109 = q_R δ := (u115).trans rfl
              have f119 := ti_b (q_I r109 7 5 a0)
              unfold J_X7_readNumber_116
              have f120 := ti_b (q_I δ 7 5 a0)
              exact ok_some (show CI ad h.1 δ0 r109 ∧ (kp [(7, 3), (7, 4), (7, 5), (7, 6)] δ r109 ∧ q_V r109 = q_V δ ∧ q_R r109 = q_R δ) ∧ 0 ≤ (x3v).toInt ∧ (x3v).toInt ≤ 1000000 ∧ ((q_I δ 7 5 a0).toInt ≠ 0 → (q_I r109 7 5 a0).toInt ≠ 0) ∧ ((q_I r109 7 5 a0).toInt = 0 → (x1).toInt ≤ (x3v).toInt ∧ (x3v).toInt ≤ (x2).toInt) from ⟨i111, ⟨kp_w (by decide) u116, v117, v118⟩, by first | with_reducible assumption | omega, by first | with_reducible assumption | omega, by first | with_reducible assumption | omega, by first | with_reducible assumption | omega⟩)
      · have c121 : (48 : Int) ≤ (q_R δ b59 (q_I δ 7 3 a0).toNatClampNeg).toInt := o_nlt h67
        refine ok_at o60 ?_
        refine ok_gd (fun hc122 => ?_) ?_
        · rcases hc122 with hc122 | hc122
          · have c123 : (q_I δ 7 3 a0).toInt < (0 : Int) := o_lt hc122
            omega
          · omega
        refine ok_ite (fun h124 => ?_) (fun h124 => ?_)
        · have c125 : (57 : Int) < (q_R δ b59 (q_I δ 7 3 a0).toNatClampNeg).toInt := o_lt h124
          unfold J_X7_readNumber_82
          have f126 := cb_7_4 I k_a0
          refine ok_ite (fun h127 => ?_) (fun h127 => ?_)
          · have c128 : (q_I δ 7 3 a0).toInt = (q_I δ 7 4 a0).toInt := o_eq h127
            refine ok_bind (k_X7_refuse L hN (a0 := a0) (x1 := (1 : Int32)) k_a0 (show (1 : Int) ≠ 0 by first | with_reducible assumption | omega) I) (fun r129 hr130 => ?_)
            obtain ⟨i131, ⟨u133, u134, u135⟩, p132⟩ := hr130
            have u136 := kp_t kp_r u133
            have v137 : q_V r129 = q_V δ := (u134).trans rfl
            have v138 : q_R r129 = q_R δ := (u135).trans rfl
            have f139 := ti_b (q_I r129 7 5 a0)
            unfold J_X7_readNumber_116
            have f140 := ti_b (q_I δ 7 5 a0)
            have f141 := ti_b x1
            have f142 := ti_b x2
            exact ok_some (show CI ad h.1 δ0 r129 ∧ (kp [(7, 3), (7, 4), (7, 5), (7, 6)] δ r129 ∧ q_V r129 = q_V δ ∧ q_R r129 = q_R δ) ∧ 0 ≤ (x3v).toInt ∧ (x3v).toInt ≤ 1000000 ∧ ((q_I δ 7 5 a0).toInt ≠ 0 → (q_I r129 7 5 a0).toInt ≠ 0) ∧ ((q_I r129 7 5 a0).toInt = 0 → (x1).toInt ≤ (x3v).toInt ∧ (x3v).toInt ≤ (x2).toInt) from ⟨i131, ⟨kp_w (by decide) u136, v137, v138⟩, by first | with_reducible assumption | omega, by first | with_reducible assumption | omega, by first | with_reducible assumption | omega, by first | with_reducible assumption | omega⟩)
          · have c143 : (q_I δ 7 3 a0).toInt ≠ (q_I δ 7 4 a0).toInt := o_ne h127
            have f144 := ti_b x1
            refine ok_ite (fun h145 => ?_) (fun h145 => ?_)
            · have c146 : x3v.toInt < x1.toInt := o_lt h145
              unfold J_X7_readNumber_111
              refine ok_bind (k_X7_refuse L hN (a0 := a0) (x1 := (2 : Int32)) k_a0 (show (2 : Int) ≠ 0 by first | with_reducible assumption | omega) I) (fun r147 hr148 => ?_)
              obtain ⟨i149, ⟨u151, u152, u153⟩, p150⟩ := hr148
              have u154 := kp_t kp_r u151
              have v155 : q_V r147 = q_V δ := (u152).trans rfl
              have v156 : q_R r147 = q_R δ := (u153).trans rfl
              have f157 := ti_b (q_I r147 7 5 a0)
              unfold J_X7_readNumber_116
              have f158 := ti_b (q_I δ 7 5 a0)
              have f159 := ti_b x2
              exact ok_some (show CI ad h.1 δ0 r147 ∧ (kp [(7, 3), (7, 4), (7, 5), (7, 6)] δ r147 ∧ q_V r147 = q_V δ ∧ q_R r147 = q_R δ) ∧ 0 ≤ (x3v).toInt ∧ (x3v).toInt ≤ 1000000 ∧ ((q_I δ 7 5 a0).toInt ≠ 0 → (q_I r147 7 5 a0).toInt ≠ 0) ∧ ((q_I r147 7 5 a0).toInt = 0 → (x1).toInt ≤ (x3v).toInt ∧ (x3v).toInt ≤ (x2).toInt) from ⟨i149, ⟨kp_w (by decide) u154, v155, v156⟩, by first | with_reducible assumption | omega, by first | with_reducible assumption | omega, by first | with_reducible assumption | omega, by first | with_reducible assumption | omega⟩)
            · have c160 : x1.toInt ≤ x3v.toInt := o_nlt h145
              have f161 := ti_b x2
              refine ok_ite (fun h162 => ?_) (fun h162 => ?_)
              · have c163 : x3v.toInt ≤ x2.toInt := o_le h162
                unfold J_X7_readNumber_116
                have f164 := ti_b (q_I δ 7 5 a0)
                exact ok_some (show CI ad h.1 δ0 δ ∧ (kp [(7, 3), (7, 4), (7, 5), (7, 6)] δ δ ∧ q_V δ = q_V δ ∧ q_R δ = q_R δ) ∧ 0 ≤ (x3v).toInt ∧ (x3v).toInt ≤ 1000000 ∧ ((q_I δ 7 5 a0).toInt ≠ 0 → (q_I δ 7 5 a0).toInt ≠ 0) ∧ ((q_I δ 7 5 a0).toInt = 0 → (x1).toInt ≤ (x3v).toInt ∧ (x3v).toInt ≤ (x2).toInt) from ⟨I, ⟨kp_w (by decide) kp_r, rfl, rfl⟩, by first | with_reducible assumption | omega, by first | with_reducible assumption | omega, by first | with_reducible assumption | omega, by first | with_reducible assumption | omega⟩)
              · have c165 : x2.toInt < x3v.toInt := o_nle h162
                unfold J_X7_readNumber_111
                refine ok_bind (k_X7_refuse L hN (a0 := a0) (x1 := (2 : Int32)) k_a0 (show (2 : Int) ≠ 0 by first | with_reducible assumption | omega) I) (fun r166 hr167 => ?_)
                obtain ⟨i168, ⟨u170, u171, u172⟩, p169⟩ := hr167
                have u173 := kp_t kp_r u170
                have v174 : q_V r166 = q_V δ := (u171).trans rfl
                have v175 : q_R r166 = q_R δ := (u172).trans rfl
                have f176 := ti_b (q_I r166 7 5 a0)
                unfold J_X7_readNumber_116
                have f177 := ti_b (q_I δ 7 5 a0)
                exact ok_some (show CI ad h.1 δ0 r166 ∧ (kp [(7, 3), (7, 4), (7, 5), (7, 6)] δ r166 ∧ q_V r166 = q_V δ ∧ q_R r166 = q_R δ) ∧ 0 ≤ (x3v).toInt ∧ (x3v).toInt ≤ 1000000 ∧ ((q_I δ 7 5 a0).toInt ≠ 0 → (q_I r166 7 5 a0).toInt ≠ 0) ∧ ((q_I r166 7 5 a0).toInt = 0 → (x1).toInt ≤ (x3v).toInt ∧ (x3v).toInt ≤ (x2).toInt) from ⟨i168, ⟨kp_w (by decide) u173, v174, v175⟩, by first | with_reducible assumption | omega, by first | with_reducible assumption | omega, by first | with_reducible assumption | omega, by first | with_reducible assumption | omega⟩)
        · have c178 : (q_R δ b59 (q_I δ 7 3 a0).toNatClampNeg).toInt ≤ (57 : Int) := o_nlt h124
          refine ok_at o60 ?_
          refine ok_gd (fun hc179 => ?_) ?_
          · rcases hc179 with hc179 | hc179
            · have c180 : (q_I δ 7 3 a0).toInt < (0 : Int) := o_lt hc179
              omega
            · omega
          refine ok_bind (k_J9_min_7cf53 L hN (x0 := (((x3v * (10 : Int32)) + (q_R δ b59 (q_I δ 7 3 a0).toNatClampNeg)) - (48 : Int32))) (x1 := (1000000 : Int32))  I) (fun r181 hr182 => ?_)
          obtain ⟨i183, p184, p185, p186⟩ := hr182
          try rw [i183]
          have f187 := ti_b r181.1
          first | (have q189 := te_mulr (c := 10) (n := 10) rfl x3v (by omega) (by omega); obtain ⟨f190, f191, f192⟩ := q189) | (obtain ⟨q189, f190, f191, f192⟩ := ti_mulr (c := 10) (n := 10) rfl x3v)
          first | (have q194 := te_add (x3v * (10 : Int32)) (q_R δ b59 (q_I δ 7 3 a0).toNatClampNeg) (by omega) (by omega); obtain ⟨f195, f196, f197⟩ := q194) | (obtain ⟨q194, f195, f196, f197⟩ := ti_add (x3v * (10 : Int32)) (q_R δ b59 (q_I δ 7 3 a0).toNatClampNeg))
          first | (have q199 := te_subc (c := 48) (n := 48) rfl ((x3v * (10 : Int32)) + (q_R δ b59 (q_I δ 7 3 a0).toNatClampNeg)) (by omega) (by omega); obtain ⟨f200, f201, f202⟩ := q199) | (obtain ⟨q199, f200, f201, f202⟩ := ti_subc (c := 48) (n := 48) rfl ((x3v * (10 : Int32)) + (q_R δ b59 (q_I δ 7 3 a0).toNatClampNeg)))
          replace p185 : (r181.1).toInt ≤ (1000000 : Int) := p185
          replace p186 : ((r181.1).toInt = ((((x3v * (10 : Int32)) + (q_R δ b59 (q_I δ 7 3 a0).toNatClampNeg)) - (48 : Int32))).toInt ∨ (r181.1).toInt = (1000000 : Int)) := p186
          first | (have q207 := te_addc (c := 1) (n := 1) rfl (q_I δ 7 3 a0) (by omega) (by omega); obtain ⟨f208, f209, f210⟩ := q207) | (obtain ⟨q207, f208, f209, f210⟩ := ti_addc (c := 1) (n := 1) rfl (q_I δ 7 3 a0))
          refine ok_bdv (fun d203 e204 => ?_)
          have i205 : CI ad h.1 δ0 d203 := by rw [e204]; exact cs_7_3 L I k_a0 (show 0 ≤ ((q_I δ 7 3 a0) + (1 : Int32)).toInt by omega) (show ((q_I δ 7 3 a0) + (1 : Int32)).toInt ≤ 500 by omega)
          have u211 := kp_I kp_r e204
          have v212 : q_V d203 = q_V δ := ((show q_V d203 = q_V δ by rw [e204]; rfl)).trans rfl
          have v213 : q_R d203 = q_R δ := ((show q_R d203 = q_R δ by rw [e204]; rfl)).trans rfl
          have f214 := cb_7_3 i205 k_a0
          have f215 : (q_I d203 7 3 a0).toInt = ((q_I δ 7 3 a0) + (1 : Int32)).toInt := congrArg Int32.toInt (show q_I d203 7 3 a0 = ((q_I δ 7 3 a0) + (1 : Int32)) by rw [e204]; exact rI_s)
          refine ok_mono (ih r181.1 d203 i205 (show 0 ≤ (r181.1).toInt by first | with_reducible assumption | omega) (show (r181.1).toInt ≤ 1000000 by first | with_reducible assumption | omega) (show 501 - (q_I d203 7 3 a0).toInt < _ by omega)) (fun r216 hr217 => ?_)
          obtain ⟨i218, ⟨u223, u224, u225⟩, p219, p220, p221, p222⟩ := hr217
          have u226 := kp_t u211 u223
          have v227 : q_V r216.2 = q_V δ := (u224).trans v212
          have v228 : q_R r216.2 = q_R δ := (u225).trans v213
          have f229 := ti_b r216.1
          have f230 : (q_I d203 7 5 a0).toInt = (q_I δ 7 5 a0).toInt := congrArg Int32.toInt (by rw [e204]; exact rI_o (by decide))
          have f231 := ti_b (q_I δ 7 5 a0)
          have f232 := ti_b (q_I r216.2 7 5 a0)
          have f233 := ti_b x1
          have f234 := ti_b x2
          exact ⟨by first | with_reducible assumption | assumption, ⟨kp_w (by decide) u226, v227, v228⟩, by first | with_reducible assumption | omega, by first | with_reducible assumption | omega, by first | with_reducible assumption | omega, by first | with_reducible assumption | omega⟩
set_option maxHeartbeats 4000000 in
theorem k_X7_readNumber {ad : List Nat} {h : hp} (L : Lay TLx ad h) {δ0 : dp} {N : Nat} (hN : 10000000 ≤ N) {a0 : Nat} {x1 : Int32} {x2 : Int32} (k_a0 : q_K h.1 a0 = 7) {δ : dp} (I : CI ad h.1 δ0 δ) : ok (D_X7_readNumber N h.1 a0 x1 x2 δ) (fun r => CI ad h.1 δ0 r.2 ∧ (kp [(7, 3), (7, 4), (7, 5), (7, 6)] δ r.2 ∧ q_V r.2 = q_V δ ∧ q_R r.2 = q_R δ) ∧ 0 ≤ (r.1).toInt ∧ (r.1).toInt ≤ 1000000 ∧ ((q_I δ 7 5 a0).toInt ≠ 0 → (q_I r.2 7 5 a0).toInt ≠ 0) ∧ ((q_I r.2 7 5 a0).toInt = 0 → (x1).toInt ≤ (r.1).toInt ∧ (r.1).toInt ≤ (x2).toInt)) := by
  unfold D_X7_readNumber
  refine ok_bind (k_X7_ahead L hN (a0 := a0) k_a0 I) (fun r1 hr2 => ?_)
  obtain ⟨i3, ⟨u5, u6, u7⟩, p4⟩ := hr2
  have u8 := kp_t kp_r u5
  have v9 : q_V r1.2 = q_V δ := (u6).trans rfl
  have v10 : q_R r1.2 = q_R δ := (u7).trans rfl
  have f11 := ti_b r1.1
  have f12 := cb_7_3 i3 k_a0
  have f13 : (q_I r1.2 7 2 a0).toInt = (q_I δ 7 2 a0).toInt := congrArg Int32.toInt (u5 7 2 a0 (by decide))
  have f14 := cb_7_2 I k_a0
  refine ok_mono (kl_X7_readNumber_7 L hN   k_a0 _ (0 : Int32) r1.2 i3 (show 0 ≤ (0 : Int) by first | with_reducible assumption | omega) (show (0 : Int) ≤ 1000000 by first | with_reducible assumption | omega) (show 501 - (q_I r1.2 7 3 a0).toInt < _ by omega)) (fun r15 hr16 => ?_)
  obtain ⟨i17, ⟨u22, u23, u24⟩, p18, p19, p20, p21⟩ := hr16
  have u25 := kp_t u8 u22
  have v26 : q_V r15.2 = q_V δ := (u23).trans v9
  have v27 : q_R r15.2 = q_R δ := (u24).trans v10
  have f28 := ti_b r15.1
  have f29 : (q_I r1.2 7 5 a0).toInt = (q_I δ 7 5 a0).toInt := congrArg Int32.toInt (u5 7 5 a0 (by decide))
  have f30 := ti_b (q_I δ 7 5 a0)
  have f31 := ti_b (q_I r15.2 7 5 a0)
  have f32 := ti_b x1
  have f33 := ti_b x2
  exact ⟨by first | with_reducible assumption | assumption, ⟨kp_w (by decide) u25, v26, v27⟩, by first | with_reducible assumption | omega, by first | with_reducible assumption | omega, by first | with_reducible assumption | omega, by first | with_reducible assumption | omega⟩
end
