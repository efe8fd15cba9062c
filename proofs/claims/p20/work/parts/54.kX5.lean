/-! 54.kX5 (by gen_safe.py) -/
set_option maxHeartbeats 4000000 in
theorem k_J9_max_7cf53 {ad : List Nat} {h : hp} (L : Lay TLx ad h) {δ0 : dp} {N : Nat} (hN : 10000000 ≤ N) {x0 : Int32} {x1 : Int32} {δ : dp} (I : CI ad h.1 δ0 δ) : ok (D_J9_max_7cf53 N h.1 x0 x1 δ) (fun r => r.2 = δ ∧ (x0).toInt ≤ (r.1).toInt ∧ (x1).toInt ≤ (r.1).toInt ∧ ((r.1).toInt = (x0).toInt ∨ (r.1).toInt = (x1).toInt)) := by
  unfold D_J9_max_7cf53
  have f1 := ti_b x0
  have f2 := ti_b x1
  refine ok_ite (fun h3 => ?_) (fun h3 => ?_)
  · have c4 : x0.toInt < x1.toInt := o_lt h3
    unfold J_J9_max_7cf53_10
    exact ok_some (show δ = δ ∧ (x0).toInt ≤ (x1).toInt ∧ (x1).toInt ≤ (x1).toInt ∧ ((x1).toInt = (x0).toInt ∨ (x1).toInt = (x1).toInt) from ⟨rfl, by first | with_reducible assumption | omega, by first | with_reducible assumption | omega, by first | with_reducible assumption | omega⟩)
  · have c5 : x1.toInt ≤ x0.toInt := o_nlt h3
    unfold J_J9_max_7cf53_10
    exact ok_some (show δ = δ ∧ (x0).toInt ≤ (x0).toInt ∧ (x1).toInt ≤ (x0).toInt ∧ ((x0).toInt = (x0).toInt ∨ (x0).toInt = (x1).toInt) from ⟨rfl, by first | with_reducible assumption | omega, by first | with_reducible assumption | omega, by first | with_reducible assumption | omega⟩)
set_option maxHeartbeats 4000000 in
theorem k_J9_min_7cf53 {ad : List Nat} {h : hp} (L : Lay TLx ad h) {δ0 : dp} {N : Nat} (hN : 10000000 ≤ N) {x0 : Int32} {x1 : Int32} {δ : dp} (I : CI ad h.1 δ0 δ) : ok (D_J9_min_7cf53 N h.1 x0 x1 δ) (fun r => r.2 = δ ∧ (r.1).toInt ≤ (x0).toInt ∧ (r.1).toInt ≤ (x1).toInt ∧ ((r.1).toInt = (x0).toInt ∨ (r.1).toInt = (x1).toInt)) := by
  unfold D_J9_min_7cf53
  have f1 := ti_b x1
  have f2 := ti_b x0
  refine ok_ite (fun h3 => ?_) (fun h3 => ?_)
  · have c4 : x1.toInt < x0.toInt := o_lt h3
    unfold J_J9_min_7cf53_10
    exact ok_some (show δ = δ ∧ (x1).toInt ≤ (x0).toInt ∧ (x1).toInt ≤ (x1).toInt ∧ ((x1).toInt = (x0).toInt ∨ (x1).toInt = (x1).toInt) from ⟨rfl, by first | with_reducible assumption | omega, by first | with_reducible assumption | omega, by first | with_reducible assumption | omega⟩)
  · have c5 : x0.toInt ≤ x1.toInt := o_nlt h3
    unfold J_J9_min_7cf53_10
    exact ok_some (show δ = δ ∧ (x0).toInt ≤ (x0).toInt ∧ (x0).toInt ≤ (x1).toInt ∧ ((x0).toInt = (x0).toInt ∨ (x0).toInt = (x1).toInt) from ⟨rfl, by first | with_reducible assumption | omega, by first | with_reducible assumption | omega, by first | with_reducible assumption | omega⟩)
set_option maxHeartbeats 4000000 in
theorem k_J6_compare_7cf53 {ad : List Nat} {h : hp} (L : Lay TLx ad h) {δ0 : dp} {N : Nat} (hN : 10000000 ≤ N) {x0 : Int32} {x1 : Int32} {δ : dp} (I : CI ad h.1 δ0 δ) : ok (D_J6_compare_7cf53 N h.1 x0 x1 δ) (fun r => r.2 = δ ∧ ((r.1).toInt = 0 ∨ (r.1).toInt = 1 ∨ (r.1).toInt = -1)) := by
  unfold D_J6_compare_7cf53
  have f1 := ti_b x1
  have f2 := ti_b x0
  refine ok_ite (fun h3 => ?_) (fun h3 => ?_)
  · have c4 : x1.toInt ≤ x0.toInt := o_le h3
    refine ok_ite (fun h5 => ?_) (fun h5 => ?_)
    · have c6 : x0.toInt = x1.toInt := o_eq h5
      unfold J_J6_compare_7cf53_19
      exact ok_some (show δ = δ ∧ ((0 : Int) = 0 ∨ (0 : Int) = 1 ∨ (0 : Int) = -1) from ⟨rfl, by first | with_reducible assumption | omega⟩)
    · have c7 : x0.toInt ≠ x1.toInt := o_ne h5
      unfold J_J6_compare_7cf53_19
      exact ok_some (show δ = δ ∧ ((1 : Int) = 0 ∨ (1 : Int) = 1 ∨ (1 : Int) = -1) from ⟨rfl, by first | with_reducible assumption | omega⟩)
  · have c8 : x0.toInt < x1.toInt := o_nle h3
    unfold J_J6_compare_7cf53_19
    exact ok_some (show δ = δ ∧ ((-1 : Int) = 0 ∨ (-1 : Int) = 1 ∨ (-1 : Int) = -1) from ⟨rfl, by first | with_reducible assumption | omega⟩)
set_option maxHeartbeats 4000000 in
theorem k_X5_greatest {ad : List Nat} {h : hp} (L : Lay TLx ad h) {δ0 : dp} {N : Nat} (hN : 10000000 ≤ N) {a0 : Nat} (k_a0 : q_K h.1 a0 = 5) {δ : dp} (I : CI ad h.1 δ0 δ) : ok (D_X5_greatest N h.1 a0 δ) (fun r => r.2 = δ ∧ 3 ≤ (r.1).toInt ∧ (r.1).toInt ≤ 65535 ∧ ((q_I δ 5 0 a0).toInt ≤ 6 → (r.1).toInt ≤ 63) ∧ ((q_I δ 5 0 a0).toInt ≤ 4 → (r.1).toInt ≤ 15)) := by
  unfold D_X5_greatest
  have f1 := cb_5_0 I k_a0
  have f2 := sh_b (q_I δ 5 0 a0)
  have f3 := ti_b ((1 : Int32) <<< ((q_I δ 5 0 a0) &&& 31))
  first | (have q5 := te_subc (c := 1) (n := 1) rfl ((1 : Int32) <<< ((q_I δ 5 0 a0) &&& 31)) (by omega) (by omega); obtain ⟨f6, f7, f8⟩ := q5) | (obtain ⟨q5, f6, f7, f8⟩ := ti_subc (c := 1) (n := 1) rfl ((1 : Int32) <<< ((q_I δ 5 0 a0) &&& 31)))
  exact ok_some (show δ = δ ∧ 3 ≤ ((((1 : Int32) <<< ((q_I δ 5 0 a0) &&& 31)) - (1 : Int32))).toInt ∧ ((((1 : Int32) <<< ((q_I δ 5 0 a0) &&& 31)) - (1 : Int32))).toInt ≤ 65535 ∧ ((q_I δ 5 0 a0).toInt ≤ 6 → ((((1 : Int32) <<< ((q_I δ 5 0 a0) &&& 31)) - (1 : Int32))).toInt ≤ 63) ∧ ((q_I δ 5 0 a0).toInt ≤ 4 → ((((1 : Int32) <<< ((q_I δ 5 0 a0) &&& 31)) - (1 : Int32))).toInt ≤ 15) from ⟨rfl, by first | with_reducible assumption | omega, by first | with_reducible assumption | omega, by first | with_reducible assumption | omega, by first | with_reducible assumption | omega⟩)
set_option maxHeartbeats 4000000 in
theorem k_X5_isSmall {ad : List Nat} {h : hp} (L : Lay TLx ad h) {δ0 : dp} {N : Nat} (hN : 10000000 ≤ N) {a0 : Nat} (k_a0 : q_K h.1 a0 = 5) {δ : dp} (I : CI ad h.1 δ0 δ) : ok (D_X5_isSmall N h.1 a0 δ) (fun r => r.2 = δ ∧ bo (r.1) ∧ ((r.1).toInt = 0 ∨ (q_I δ 5 0 a0).toInt ≤ 6)) := by
  unfold D_X5_isSmall
  have f1 := cb_5_0 I k_a0
  refine ok_ite (fun h2 => ?_) (fun h2 => ?_)
  · have c3 : (6 : Int) < (q_I δ 5 0 a0).toInt := o_lt h2
    unfold J_X5_isSmall_14
    refine ok_gp (by decide) ?_
    exact ok_some (show δ = δ ∧ bo ((0 : Int32)) ∧ ((0 : Int) = 0 ∨ (q_I δ 5 0 a0).toInt ≤ 6) from ⟨rfl, bo_0, by first | with_reducible assumption | omega⟩)
  · have c4 : (q_I δ 5 0 a0).toInt ≤ (6 : Int) := o_nlt h2
    unfold J_X5_isSmall_14
    refine ok_gp (by decide) ?_
    exact ok_some (show δ = δ ∧ bo ((1 : Int32)) ∧ ((1 : Int) = 0 ∨ (q_I δ 5 0 a0).toInt ≤ 6) from ⟨rfl, bo_1, by first | with_reducible assumption | omega⟩)
set_option maxHeartbeats 4000000 in
theorem k_X5_mostInSets {ad : List Nat} {h : hp} (L : Lay TLx ad h) {δ0 : dp} {N : Nat} (hN : 10000000 ≤ N) {a0 : Nat} (k_a0 : q_K h.1 a0 = 5) {δ : dp} (I : CI ad h.1 δ0 δ) : ok (D_X5_mostInSets N h.1 a0 δ) (fun r => r.2 = δ ∧ ((r.1).toInt = 3 ∨ (r.1).toInt = 16 ∧ (q_I δ 5 0 a0).toInt ≤ 4)) := by
  unfold D_X5_mostInSets
  have f1 := cb_5_0 I k_a0
  refine ok_ite (fun h2 => ?_) (fun h2 => ?_)
  · have c3 : (4 : Int) < (q_I δ 5 0 a0).toInt := o_lt h2
    unfold J_X5_mostInSets_14
    exact ok_some (show δ = δ ∧ ((3 : Int) = 3 ∨ (3 : Int) = 16 ∧ (q_I δ 5 0 a0).toInt ≤ 4) from ⟨rfl, by first | with_reducible assumption | omega⟩)
  · have c4 : (q_I δ 5 0 a0).toInt ≤ (4 : Int) := o_nlt h2
    unfold J_X5_mostInSets_14
    exact ok_some (show δ = δ ∧ ((16 : Int) = 3 ∨ (16 : Int) = 16 ∧ (q_I δ 5 0 a0).toInt ≤ 4) from ⟨rfl, by first | with_reducible assumption | omega⟩)
set_option maxHeartbeats 4000000 in
theorem k_X5_mostInRows {ad : List Nat} {h : hp} (L : Lay TLx ad h) {δ0 : dp} {N : Nat} (hN : 10000000 ≤ N) {a0 : Nat} (k_a0 : q_K h.1 a0 = 5) {δ : dp} (I : CI ad h.1 δ0 δ) : ok (D_X5_mostInRows N h.1 a0 δ) (fun r => r.2 = δ ∧ ((r.1).toInt = 2 ∨ (r.1).toInt = 6 ∧ (q_I δ 5 0 a0).toInt ≤ 4)) := by
  unfold D_X5_mostInRows
  have f1 := cb_5_0 I k_a0
  refine ok_ite (fun h2 => ?_) (fun h2 => ?_)
  · have c3 : (4 : Int) < (q_I δ 5 0 a0).toInt := o_lt h2
    unfold J_X5_mostInRows_14
    exact ok_some (show δ = δ ∧ ((2 : Int) = 2 ∨ (2 : Int) = 6 ∧ (q_I δ 5 0 a0).toInt ≤ 4) from ⟨rfl, by first | with_reducible assumption | omega⟩)
  · have c4 : (q_I δ 5 0 a0).toInt ≤ (4 : Int) := o_nlt h2
    unfold J_X5_mostInRows_14
    exact ok_some (show δ = δ ∧ ((6 : Int) = 2 ∨ (6 : Int) = 6 ∧ (q_I δ 5 0 a0).toInt ≤ 4) from ⟨rfl, by first | with_reducible assumption | omega⟩)
set_option maxHeartbeats 4000000 in
theorem k_X5_lowerBits {ad : List Nat} {h : hp} (L : Lay TLx ad h) {δ0 : dp} {N : Nat} (hN : 10000000 ≤ N) {a0 : Nat} {x1 : Int32} (k_a0 : q_K h.1 a0 = 5) {δ : dp} (I : CI ad h.1 δ0 δ) : ok (D_X5_lowerBits N h.1 a0 x1 δ) (fun r => r.2 = δ ∧ (2 ≤ (x1).toInt ∧ (x1).toInt ≤ 16 → 1 ≤ (r.1).toInt ∧ (r.1).toInt < (x1).toInt)) := by
  unfold D_X5_lowerBits
  have f1 := cb_5_1 I k_a0
  refine ok_ite (fun h2 => ?_) (fun h2 => ?_)
  · have c3 : (q_I δ 5 1 a0).toInt = (0 : Int) := o_eq h2
    unfold J_X5_lowerBits_18
    have f4 := ti_b x1
    first | (have q6 := te_addc (c := 1) (n := 1) rfl x1 (by omega) (by omega); obtain ⟨f7, f8, f9⟩ := q6) | (obtain ⟨q6, f7, f8, f9⟩ := ti_addc (c := 1) (n := 1) rfl x1)
    have f10 := ti_div (c := 2) (n := 2) rfl (by decide) (x1 + (1 : Int32))
    have f11 := ti_b ((x1 + (1 : Int32)) / (2 : Int32))
    exact ok_some (show δ = δ ∧ (2 ≤ (x1).toInt ∧ (x1).toInt ≤ 16 → 1 ≤ (((x1 + (1 : Int32)) / (2 : Int32))).toInt ∧ (((x1 + (1 : Int32)) / (2 : Int32))).toInt < (x1).toInt) from ⟨rfl, by first | with_reducible assumption | omega⟩)
  · have c12 : (q_I δ 5 1 a0).toInt ≠ (0 : Int) := o_ne h2
    unfold J_X5_lowerBits_18
    have f13 := ti_b x1
    have f14 := ti_div (c := 2) (n := 2) rfl (by decide) x1
    have f15 := ti_b (x1 / (2 : Int32))
    exact ok_some (show δ = δ ∧ (2 ≤ (x1).toInt ∧ (x1).toInt ≤ 16 → 1 ≤ ((x1 / (2 : Int32))).toInt ∧ ((x1 / (2 : Int32))).toInt < (x1).toInt) from ⟨rfl, by first | with_reducible assumption | omega⟩)
set_option maxHeartbeats 4000000 in
theorem kj_X5_mostTouches_97 {ad : List Nat} {h : hp} (L : Lay TLx ad h) {δ0 : dp} {N : Nat} (hN : 10000000 ≤ N) {T : Nat → Int32 → Int32 → Int32 → dp → Option (Int32 × dp)} {K : Int} (hT : ∀ (a0 : Nat) (x1 : Int32) (x2 : Int32) (x3 : Int32) (δ : dp), q_K h.1 a0 = 5 → 0 ≤ (x2).toInt → (x2).toInt ≤ 16 → (x2).toInt < K → CI ad h.1 δ0 δ → ok (T a0 x1 x2 x3 δ) (fun r => r.2 = δ ∧ 1 ≤ (r.1).toInt ∧ (r.1).toInt ≤ 4 * (x2).toInt + 1)) {a0 : Nat} {x1 : Int32} {x2 : Int32} {x3 : Int32} {x6v : Int32} {x7v : Int32} (k_a0 : q_K h.1 a0 = 5) {δ : dp} (z0 : 2 ≤ (x2).toInt) (z1 : (x2).toInt ≤ 16) (z2 : 0 ≤ (x6v).toInt) (z3 : (x6v).toInt ≤ 4 * (x2).toInt - 3) (z4 : 0 ≤ (x7v).toInt) (z5 : (x7v).toInt ≤ 4 * (x2).toInt - 2) (I : CI ad h.1 δ0 δ) : ok (J_X5_mostTouches_97 N h.1 T a0 x1 x2 x3 x6v x7v δ) (fun r => r.2 = δ ∧ 1 ≤ (r.1).toInt ∧ (r.1).toInt ≤ 4 * (x2).toInt + 1) := by
  unfold J_X5_mostTouches_97
  have f1 := ti_b x2
  have f2 := ti_b x6v
  have f3 := ti_b x7v
  have f4 := ti_b x1
  refine ok_ite (fun h5 => ?_) (fun h5 => ?_)
  · have c6 : x1.toInt = (0 : Int) := o_eq h5
    unfold J_X5_mostTouches_115
    refine ok_bind (k_J9_max_7cf53 L hN (x0 := x6v) (x1 := x7v)  I) (fun r7 hr8 => ?_)
    obtain ⟨i9, p10, p11, p12⟩ := hr8
    try rw [i9]
    have f13 := ti_b r7.1
    first | (have q15 := te_cadd (c := 1) (n := 1) rfl r7.1 (by omega) (by omega); obtain ⟨f16, f17, f18⟩ := q15) | (obtain ⟨q15, f16, f17, f18⟩ := ti_cadd (c := 1) (n := 1) rfl r7.1)
    exact ok_some (show δ = δ ∧ 1 ≤ (((1 : Int32) + r7.1)).toInt ∧ (((1 : Int32) + r7.1)).toInt ≤ 4 * (x2).toInt + 1 from ⟨rfl, by first | with_reducible assumption | omega, by first | with_reducible assumption | omega⟩)
  · have c19 : x1.toInt ≠ (0 : Int) := o_ne h5
    refine ok_ite (fun h20 => ?_) (fun h20 => ?_)
    · have c21 : x1.toInt = (1 : Int) := o_eq h20
      unfold J_X5_mostTouches_115
      refine ok_bind (k_J9_max_7cf53 L hN (x0 := x6v) (x1 := x7v)  I) (fun r22 hr23 => ?_)
      obtain ⟨i24, p25, p26, p27⟩ := hr23
      try rw [i24]
      have f28 := ti_b r22.1
      first | (have q30 := te_cadd (c := 3) (n := 3) rfl r22.1 (by omega) (by omega); obtain ⟨f31, f32, f33⟩ := q30) | (obtain ⟨q30, f31, f32, f33⟩ := ti_cadd (c := 3) (n := 3) rfl r22.1)
      exact ok_some (show δ = δ ∧ 1 ≤ (((3 : Int32) + r22.1)).toInt ∧ (((3 : Int32) + r22.1)).toInt ≤ 4 * (x2).toInt + 1 from ⟨rfl, by first | with_reducible assumption | omega, by first | with_reducible assumption | omega⟩)
    · have c34 : x1.toInt ≠ (1 : Int) := o_ne h20
      unfold J_X5_mostTouches_115
      refine ok_bind (k_J9_max_7cf53 L hN (x0 := x6v) (x1 := x7v)  I) (fun r35 hr36 => ?_)
      obtain ⟨i37, p38, p39, p40⟩ := hr36
      try rw [i37]
      have f41 := ti_b r35.1
      first | (have q43 := te_cadd (c := 2) (n := 2) rfl r35.1 (by omega) (by omega); obtain ⟨f44, f45, f46⟩ := q43) | (obtain ⟨q43, f44, f45, f46⟩ := ti_cadd (c := 2) (n := 2) rfl r35.1)
      exact ok_some (show δ = δ ∧ 1 ≤ (((2 : Int32) + r35.1)).toInt ∧ (((2 : Int32) + r35.1)).toInt ≤ 4 * (x2).toInt + 1 from ⟨rfl, by first | with_reducible assumption | omega, by first | with_reducible assumption | omega⟩)
set_option maxHeartbeats 4000000 in
theorem kj_X5_mostTouches_54 {ad : List Nat} {h : hp} (L : Lay TLx ad h) {δ0 : dp} {N : Nat} (hN : 10000000 ≤ N) {T : Nat → Int32 → Int32 → Int32 → dp → Option (Int32 × dp)} {K : Int} (hT : ∀ (a0 : Nat) (x1 : Int32) (x2 : Int32) (x3 : Int32) (δ : dp), q_K h.1 a0 = 5 → 0 ≤ (x2).toInt → (x2).toInt ≤ 16 → (x2).toInt < K → CI ad h.1 δ0 δ → ok (T a0 x1 x2 x3 δ) (fun r => r.2 = δ ∧ 1 ≤ (r.1).toInt ∧ (r.1).toInt ≤ 4 * (x2).toInt + 1)) {a0 : Nat} {x1 : Int32} {x2 : Int32} {x3 : Int32} {xs0 : Int32} {x4v : Int32} {x5v : Int32} (k_a0 : q_K h.1 a0 = 5) {δ : dp} (z0 : 2 ≤ (x2).toInt) (z1 : (x2).toInt ≤ 16) (z2 : 0 ≤ (xs0).toInt) (z3 : (xs0).toInt ≤ 4 * (x2).toInt - 3) (z4 : 1 ≤ (x5v).toInt) (z5 : (x5v).toInt ≤ (x2).toInt - 1) (z6 : (x2).toInt ≤ K) (I : CI ad h.1 δ0 δ) : ok (J_X5_mostTouches_54 N h.1 T a0 x1 x2 x3 xs0 x4v x5v δ) (fun r => r.2 = δ ∧ 1 ≤ (r.1).toInt ∧ (r.1).toInt ≤ 4 * (x2).toInt + 1) := by
  unfold J_X5_mostTouches_54
  have f1 := ti_b x2
  have f2 := ti_b xs0
  have f3 := ti_b x5v
  have f4 := ti_b x1
  refine ok_ite (fun h5 => ?_) (fun h5 => ?_)
  · have c6 : x1.toInt = (2 : Int) := o_eq h5
    first | (have q8 := te_cadd (c := 1) (n := 1) rfl xs0 (by omega) (by omega); obtain ⟨f9, f10, f11⟩ := q8) | (obtain ⟨q8, f9, f10, f11⟩ := ti_cadd (c := 1) (n := 1) rfl xs0)
    exact ok_some (show δ = δ ∧ 1 ≤ (((1 : Int32) + xs0)).toInt ∧ (((1 : Int32) + xs0)).toInt ≤ 4 * (x2).toInt + 1 from ⟨rfl, by first | with_reducible assumption | omega, by first | with_reducible assumption | omega⟩)
  · have c12 : x1.toInt ≠ (2 : Int) := o_ne h5
    first | (have q16 := te_sub x2 x5v (by omega) (by omega); obtain ⟨f17, f18, f19⟩ := q16) | (obtain ⟨q16, f17, f18, f19⟩ := ti_sub x2 x5v)
    refine ok_bind (hT a0 x1 (x2 - x5v) x4v δ k_a0 (show 0 ≤ ((x2 - x5v)).toInt by first | with_reducible assumption | omega) (show ((x2 - x5v)).toInt ≤ 16 by first | with_reducible assumption | omega) (show ((x2 - x5v)).toInt < _ by first | with_reducible assumption | omega) I) (fun r13 hr14 => ?_)
    obtain ⟨i20, p21, p22⟩ := hr14
    try rw [i20]
    have f23 := ti_b r13.1
    refine ok_ite (fun h24 => ?_) (fun h24 => ?_)
    · have c25 : x1.toInt = (0 : Int) := o_eq h24
      unfold J_X5_mostTouches_94
      refine ok_biv (fun vx26 e27 => ?_)
      first | (have q28 := te_addc (c := 1) (n := 1) rfl r13.1 (by omega) (by omega); rw [← e27] at q28; obtain ⟨f29, f30, f31⟩ := q28) | (obtain ⟨q28, f29, f30, f31⟩ : ∃ q : Int, vx26.toInt = r13.1.toInt + (1 : Int) + 4294967296 * q ∧ -2147483648 ≤ vx26.toInt ∧ vx26.toInt ≤ 2147483647 := by rw [e27]; exact ti_addc (c := 1) (n := 1) rfl r13.1)
      refine ok_mono (kj_X5_mostTouches_97 L hN (a0 := a0) (x1 := x1) (x2 := x2) (x3 := x3) (x6v := xs0) (x7v := vx26) hT k_a0 (show 2 ≤ (x2).toInt by first | with_reducible assumption | omega) (show (x2).toInt ≤ 16 by first | with_reducible assumption | omega) (show 0 ≤ (xs0).toInt by first | with_reducible assumption | omega) (show (xs0).toInt ≤ 4 * (x2).toInt - 3 by first | with_reducible assumption | omega) (show 0 ≤ (vx26).toInt by first | with_reducible assumption | omega) (show (vx26).toInt ≤ 4 * (x2).toInt - 2 by first | with_reducible assumption | omega) I) (fun r32 hr33 => ?_)
      obtain ⟨i34, p35, p36⟩ := hr33
      have f37 := ti_b r32.1
      exact ⟨by first | with_reducible assumption | assumption, by first | with_reducible assumption | omega, by first | with_reducible assumption | omega⟩
    · have c38 : x1.toInt ≠ (0 : Int) := o_ne h24
      refine ok_ite (fun h39 => ?_) (fun h39 => ?_)
      · have c40 : x1.toInt = (1 : Int) := o_eq h39
        unfold J_X5_mostTouches_94
        refine ok_biv (fun vx41 e42 => ?_)
        first | (have q43 := te_addc (c := 1) (n := 1) rfl r13.1 (by omega) (by omega); rw [← e42] at q43; obtain ⟨f44, f45, f46⟩ := q43) | (obtain ⟨q43, f44, f45, f46⟩ : ∃ q : Int, vx41.toInt = r13.1.toInt + (1 : Int) + 4294967296 * q ∧ -2147483648 ≤ vx41.toInt ∧ vx41.toInt ≤ 2147483647 := by rw [e42]; exact ti_addc (c := 1) (n := 1) rfl r13.1)
        refine ok_mono (kj_X5_mostTouches_97 L hN (a0 := a0) (x1 := x1) (x2 := x2) (x3 := x3) (x6v := xs0) (x7v := vx41) hT k_a0 (show 2 ≤ (x2).toInt by first | with_reducible assumption | omega) (show (x2).toInt ≤ 16 by first | with_reducible assumption | omega) (show 0 ≤ (xs0).toInt by first | with_reducible assumption | omega) (show (xs0).toInt ≤ 4 * (x2).toInt - 3 by first | with_reducible assumption | omega) (show 0 ≤ (vx41).toInt by first | with_reducible assumption | omega) (show (vx41).toInt ≤ 4 * (x2).toInt - 2 by first | with_reducible assumption | omega) I) (fun r47 hr48 => ?_)
        obtain ⟨i49, p50, p51⟩ := hr48
        have f52 := ti_b r47.1
        exact ⟨by first | with_reducible assumption | assumption, by first | with_reducible assumption | omega, by first | with_reducible assumption | omega⟩
      · have c53 : x1.toInt ≠ (1 : Int) := o_ne h39
        have f54 := ti_b x4v
        refine ok_ite (fun h55 => ?_) (fun h55 => ?_)
        · have c56 : x4v.toInt ≤ (1 : Int) := o_le h55
          refine ok_mono (kj_X5_mostTouches_97 L hN (a0 := a0) (x1 := x1) (x2 := x2) (x3 := x3) (x6v := xs0) (x7v := r13.1) hT k_a0 (show 2 ≤ (x2).toInt by first | with_reducible assumption | omega) (show (x2).toInt ≤ 16 by first | with_reducible assumption | omega) (show 0 ≤ (xs0).toInt by first | with_reducible assumption | omega) (show (xs0).toInt ≤ 4 * (x2).toInt - 3 by first | with_reducible assumption | omega) (show 0 ≤ (r13.1).toInt by first | with_reducible assumption | omega) (show (r13.1).toInt ≤ 4 * (x2).toInt - 2 by first | with_reducible assumption | omega) I) (fun r57 hr58 => ?_)
          obtain ⟨i59, p60, p61⟩ := hr58
          have f62 := ti_b r57.1
          exact ⟨by first | with_reducible assumption | assumption, by first | with_reducible assumption | omega, by first | with_reducible assumption | omega⟩
        · have c63 : (1 : Int) < x4v.toInt := o_nle h55
          unfold J_X5_mostTouches_94
          refine ok_biv (fun vx64 e65 => ?_)
          first | (have q66 := te_addc (c := 1) (n := 1) rfl r13.1 (by omega) (by omega); rw [← e65] at q66; obtain ⟨f67, f68, f69⟩ := q66) | (obtain ⟨q66, f67, f68, f69⟩ : ∃ q : Int, vx64.toInt = r13.1.toInt + (1 : Int) + 4294967296 * q ∧ -2147483648 ≤ vx64.toInt ∧ vx64.toInt ≤ 2147483647 := by rw [e65]; exact ti_addc (c := 1) (n := 1) rfl r13.1)
          refine ok_mono (kj_X5_mostTouches_97 L hN (a0 := a0) (x1 := x1) (x2 := x2) (x3 := x3) (x6v := xs0) (x7v := vx64) hT k_a0 (show 2 ≤ (x2).toInt by first | with_reducible assumption | omega) (show (x2).toInt ≤ 16 by first | with_reducible assumption | omega) (show 0 ≤ (xs0).toInt by first | with_reducible assumption | omega) (show (xs0).toInt ≤ 4 * (x2).toInt - 3 by first | with_reducible assumption | omega) (show 0 ≤ (vx64).toInt by first | with_reducible assumption | omega) (show (vx64).toInt ≤ 4 * (x2).toInt - 2 by first | with_reducible assumption | omega) I) (fun r70 hr71 => ?_)
          obtain ⟨i72, p73, p74⟩ := hr71
          have f75 := ti_b r70.1
          exact ⟨by first | with_reducible assumption | assumption, by first | with_reducible assumption | omega, by first | with_reducible assumption | omega⟩
set_option maxHeartbeats 4000000 in
theorem ke_X5_mostTouches {ad : List Nat} {h : hp} (L : Lay TLx ad h) {δ0 : dp} {N : Nat} (hN : 10000000 ≤ N) : ∀ (k : Nat), ∀ (a0 : Nat) (x1 : Int32) (x2 : Int32) (x3 : Int32) (δ : dp), q_K h.1 a0 = 5 → 0 ≤ (x2).toInt → (x2).toInt ≤ 16 → (x2).toInt < (k : Int) → CI ad h.1 δ0 δ → ok (E_X5_mostTouches N h.1 k a0 x1 x2 x3 δ) (fun r => r.2 = δ ∧ 1 ≤ (r.1).toInt ∧ (r.1).toInt ≤ 4 * (x2).toInt + 1) := by
  intro k
  induction k with
  | zero =>
    intro a0 x1 x2 x3 δ k_a0 z0 z1 hd I
    exfalso; omega
  | succ k ih =>
    intro a0 x1 x2 x3 δ k_a0 z0 z1 hd I
    unfold E_X5_mostTouches B_X5_mostTouches
    have f1 := ti_b x2
    have f4 := ti_b x3
    refine ok_biv (fun vx2 e3 => ?_)
    first | (have q5 := te_subc (c := 2) (n := 2) rfl x3 (by omega) (by omega); rw [← e3] at q5; obtain ⟨f6, f7, f8⟩ := q5) | (obtain ⟨q5, f6, f7, f8⟩ : ∃ q : Int, vx2.toInt = x3.toInt - (2 : Int) + 4294967296 * q ∧ -2147483648 ≤ vx2.toInt ∧ vx2.toInt ≤ 2147483647 := by rw [e3]; exact ti_subc (c := 2) (n := 2) rfl x3)
    have f9 := cb_5_2 I k_a0
    refine ok_ite (fun h10 => ?_) (fun h10 => ?_)
    · have c11 : x2.toInt ≤ (q_I δ 5 2 a0).toInt := o_le h10
      unfold J_X5_mostTouches_27
      exact ok_some (show δ = δ ∧ 1 ≤ (1 : Int) ∧ (1 : Int) ≤ 4 * (x2).toInt + 1 from ⟨rfl, by first | with_reducible assumption | omega, by first | with_reducible assumption | omega⟩)
    · have c12 : (q_I δ 5 2 a0).toInt < x2.toInt := o_nle h10
      refine ok_ite (fun h13 => ?_) (fun h13 => ?_)
      · have c14 : vx2.toInt < (0 : Int) := o_lt h13
        unfold J_X5_mostTouches_27
        exact ok_some (show δ = δ ∧ 1 ≤ (1 : Int) ∧ (1 : Int) ≤ 4 * (x2).toInt + 1 from ⟨rfl, by first | with_reducible assumption | omega, by first | with_reducible assumption | omega⟩)
      · have c15 : (0 : Int) ≤ vx2.toInt := o_nlt h13
        refine ok_ite (fun h16 => ?_) (fun h16 => ?_)
        · have c17 : vx2.toInt = (0 : Int) := o_eq h16
          have f18 := ti_b x1
          refine ok_ite (fun h19 => ?_) (fun h19 => ?_)
          · have c20 : x1.toInt = (0 : Int) := o_eq h19
            unfold J_X5_mostTouches_29
            refine ok_bind (k_X5_lowerBits L hN (a0 := a0) (x1 := x2) k_a0 I) (fun r21 hr22 => ?_)
            obtain ⟨i23, p24⟩ := hr22
            try rw [i23]
            have f25 := ti_b r21.1
            refine ok_ite (fun h26 => ?_) (fun h26 => ?_)
            · have c27 : vx2.toInt = (0 : Int) := o_eq h26
              unfold J_X5_mostTouches_54
              refine ok_ite (fun h28 => ?_) (fun h28 => ?_)
              · have c29 : x1.toInt = (2 : Int) := o_eq h28
                first | (have q31 := te_cadd (c := 1) (n := 1) rfl (0 : Int32) (by omega) (by omega); obtain ⟨f32, f33, f34⟩ := q31) | (obtain ⟨q31, f32, f33, f34⟩ := ti_cadd (c := 1) (n := 1) rfl (0 : Int32))
                exact ok_some (show δ = δ ∧ 1 ≤ (((1 : Int32) + (0 : Int32))).toInt ∧ (((1 : Int32) + (0 : Int32))).toInt ≤ 4 * (x2).toInt + 1 from ⟨rfl, by first | with_reducible assumption | omega, by first | with_reducible assumption | omega⟩)
              · have c35 : x1.toInt ≠ (2 : Int) := o_ne h28
                first | (have q39 := te_sub x2 r21.1 (by omega) (by omega); obtain ⟨f40, f41, f42⟩ := q39) | (obtain ⟨q39, f40, f41, f42⟩ := ti_sub x2 r21.1)
                refine ok_bind (ih a0 x1 (x2 - r21.1) vx2 δ k_a0 (show 0 ≤ ((x2 - r21.1)).toInt by first | with_reducible assumption | omega) (show ((x2 - r21.1)).toInt ≤ 16 by first | with_reducible assumption | omega) (show ((x2 - r21.1)).toInt < _ by first | with_reducible assumption | omega) I) (fun r36 hr37 => ?_)
                obtain ⟨i43, p44, p45⟩ := hr37
                try rw [i43]
                have f46 := ti_b r36.1
                refine ok_ite (fun h47 => ?_) (fun h47 => ?_)
                · have c48 : x1.toInt = (0 : Int) := o_eq h47
                  unfold J_X5_mostTouches_94
                  refine ok_biv (fun vx49 e50 => ?_)
                  first | (have q51 := te_addc (c := 1) (n := 1) rfl r36.1 (by omega) (by omega); rw [← e50] at q51; obtain ⟨f52, f53, f54⟩ := q51) | (obtain ⟨q51, f52, f53, f54⟩ : ∃ q : Int, vx49.toInt = r36.1.toInt + (1 : Int) + 4294967296 * q ∧ -2147483648 ≤ vx49.toInt ∧ vx49.toInt ≤ 2147483647 := by rw [e50]; exact ti_addc (c := 1) (n := 1) rfl r36.1)
                  refine ok_mono (kj_X5_mostTouches_97 L hN (a0 := a0) (x1 := x1) (x2 := x2) (x3 := x3) (x6v := (0 : Int32)) (x7v := vx49) ih k_a0 (show 2 ≤ (x2).toInt by first | with_reducible assumption | omega) (show (x2).toInt ≤ 16 by first | with_reducible assumption | omega) (show 0 ≤ (0 : Int) by first | with_reducible assumption | omega) (show (0 : Int) ≤ 4 * (x2).toInt - 3 by first | with_reducible assumption | omega) (show 0 ≤ (vx49).toInt by first | with_reducible assumption | omega) (show (vx49).toInt ≤ 4 * (x2).toInt - 2 by first | with_reducible assumption | omega) I) (fun r55 hr56 => ?_)
                  obtain ⟨i57, p58, p59⟩ := hr56
                  have f60 := ti_b r55.1
                  exact ⟨by first | with_reducible assumption | assumption, by first | with_reducible assumption | omega, by first | with_reducible assumption | omega⟩
                · have c61 : x1.toInt ≠ (0 : Int) := o_ne h47
                  refine ok_ite (fun h62 => ?_) (fun h62 => ?_)
                  · have c63 : x1.toInt = (1 : Int) := o_eq h62
                    unfold J_X5_mostTouches_94
                    refine ok_biv (fun vx64 e65 => ?_)
                    first | (have q66 := te_addc (c := 1) (n := 1) rfl r36.1 (by omega) (by omega); rw [← e65] at q66; obtain ⟨f67, f68, f69⟩ := q66) | (obtain ⟨q66, f67, f68, f69⟩ : ∃ q : Int, vx64.toInt = r36.1.toInt + (1 : Int) + 4294967296 * q ∧ -2147483648 ≤ vx64.toInt ∧ vx64.toInt ≤ 2147483647 := by rw [e65]; exact ti_addc (c := 1) (n := 1) rfl r36.1)
                    refine ok_mono (kj_X5_mostTouches_97 L hN (a0 := a0) (x1 := x1) (x2 := x2) (x3 := x3) (x6v := (0 : Int32)) (x7v := vx64) ih k_a0 (show 2 ≤ (x2).toInt by first | with_reducible assumption | omega) (show (x2).toInt ≤ 16 by first | with_reducible assumption | omega) (show 0 ≤ (0 : Int) by first | with_reducible assumption | omega) (show (0 : Int) ≤ 4 * (x2).toInt - 3 by first | with_reducible assumption | omega) (show 0 ≤ (vx64).toInt by first | with_reducible assumption | omega) (show (vx64).toInt ≤ 4 * (x2).toInt - 2 by first | with_reducible assumption | omega) I) (fun r70 hr71 => ?_)
                    obtain ⟨i72, p73, p74⟩ := hr71
                    have f75 := ti_b r70.1
                    exact ⟨by first | with_reducible assumption | assumption, by first | with_reducible assumption | omega, by first | with_reducible assumption | omega⟩
                  · have c76 : x1.toInt ≠ (1 : Int) := o_ne h62
                    refine ok_ite (fun h77 => ?_) (fun h77 => ?_)
                    · have c78 : vx2.toInt ≤ (1 : Int) := o_le h77
                      refine ok_mono (kj_X5_mostTouches_97 L hN (a0 := a0) (x1 := x1) (x2 := x2) (x3 := x3) (x6v := (0 : Int32)) (x7v := r36.1) ih k_a0 (show 2 ≤ (x2).toInt by first | with_reducible assumption | omega) (show (x2).toInt ≤ 16 by first | with_reducible assumption | omega) (show 0 ≤ (0 : Int) by first | with_reducible assumption | omega) (show (0 : Int) ≤ 4 * (x2).toInt - 3 by first | with_reducible assumption | omega) (show 0 ≤ (r36.1).toInt by first | with_reducible assumption | omega) (show (r36.1).toInt ≤ 4 * (x2).toInt - 2 by first | with_reducible assumption | omega) I) (fun r79 hr80 => ?_)
                      obtain ⟨i81, p82, p83⟩ := hr80
                      have f84 := ti_b r79.1
                      exact ⟨by first | with_reducible assumption | assumption, by first | with_reducible assumption | omega, by first | with_reducible assumption | omega⟩
                    · have c85 : (1 : Int) < vx2.toInt := o_nle h77
                      unfold J_X5_mostTouches_94
                      refine ok_biv (fun vx86 e87 => ?_)
                      first | (have q88 := te_addc (c := 1) (n := 1) rfl r36.1 (by omega) (by omega); rw [← e87] at q88; obtain ⟨f89, f90, f91⟩ := q88) | (obtain ⟨q88, f89, f90, f91⟩ : ∃ q : Int, vx86.toInt = r36.1.toInt + (1 : Int) + 4294967296 * q ∧ -2147483648 ≤ vx86.toInt ∧ vx86.toInt ≤ 2147483647 := by rw [e87]; exact ti_addc (c := 1) (n := 1) rfl r36.1)
                      refine ok_mono (kj_X5_mostTouches_97 L hN (a0 := a0) (x1 := x1) (x2 := x2) (x3 := x3) (x6v := (0 : Int32)) (x7v := vx86) ih k_a0 (show 2 ≤ (x2).toInt by first | with_reducible assumption | omega) (show (x2).toInt ≤ 16 by first | with_reducible assumption | omega) (show 0 ≤ (0 : Int) by first | with_reducible assumption | omega) (show (0 : Int) ≤ 4 * (x2).toInt - 3 by first | with_reducible assumption | omega) (show 0 ≤ (vx86).toInt by first | with_reducible assumption | omega) (show (vx86).toInt ≤ 4 * (x2).toInt - 2 by first | with_reducible assumption | omega) I) (fun r92 hr93 => ?_)
                      obtain ⟨i94, p95, p96⟩ := hr93
                      have f97 := ti_b r92.1
                      exact ⟨by first | with_reducible assumption | assumption, by first | with_reducible assumption | omega, by first | with_reducible assumption | omega⟩
            · have c98 : vx2.toInt ≠ (0 : Int) := o_ne h26
              refine ok_bind (ih a0 x1 r21.1 vx2 δ k_a0 (show 0 ≤ (r21.1).toInt by first | with_reducible assumption | omega) (show (r21.1).toInt ≤ 16 by first | with_reducible assumption | omega) (show (r21.1).toInt < _ by first | with_reducible assumption | omega) I) (fun r99 hr100 => ?_)
              obtain ⟨i101, p102, p103⟩ := hr100
              try rw [i101]
              have f104 := ti_b r99.1
              unfold J_X5_mostTouches_54
              refine ok_ite (fun h105 => ?_) (fun h105 => ?_)
              · have c106 : x1.toInt = (2 : Int) := o_eq h105
                first | (have q108 := te_cadd (c := 1) (n := 1) rfl r99.1 (by omega) (by omega); obtain ⟨f109, f110, f111⟩ := q108) | (obtain ⟨q108, f109, f110, f111⟩ := ti_cadd (c := 1) (n := 1) rfl r99.1)
                exact ok_some (show δ = δ ∧ 1 ≤ (((1 : Int32) + r99.1)).toInt ∧ (((1 : Int32) + r99.1)).toInt ≤ 4 * (x2).toInt + 1 from ⟨rfl, by first | with_reducible assumption | omega, by first | with_reducible assumption | omega⟩)
              · have c112 : x1.toInt ≠ (2 : Int) := o_ne h105
                first | (have q116 := te_sub x2 r21.1 (by omega) (by omega); obtain ⟨f117, f118, f119⟩ := q116) | (obtain ⟨q116, f117, f118, f119⟩ := ti_sub x2 r21.1)
                refine ok_bind (ih a0 x1 (x2 - r21.1) vx2 δ k_a0 (show 0 ≤ ((x2 - r21.1)).toInt by first | with_reducible assumption | omega) (show ((x2 - r21.1)).toInt ≤ 16 by first | with_reducible assumption | omega) (show ((x2 - r21.1)).toInt < _ by first | with_reducible assumption | omega) I) (fun r113 hr114 => ?_)
                obtain ⟨i120, p121, p122⟩ := hr114
                try rw [i120]
                have f123 := ti_b r113.1
                refine ok_ite (fun h124 => ?_) (fun h124 => ?_)
                · have c125 : x1.toInt = (0 : Int) := o_eq h124
                  unfold J_X5_mostTouches_94
                  refine ok_biv (fun vx126 e127 => ?_)
                  first | (have q128 := te_addc (c := 1) (n := 1) rfl r113.1 (by omega) (by omega); rw [← e127] at q128; obtain ⟨f129, f130, f131⟩ := q128) | (obtain ⟨q128, f129, f130, f131⟩ : ∃ q : Int, vx126.toInt = r113.1.toInt + (1 : Int) + 4294967296 * q ∧ -2147483648 ≤ vx126.toInt ∧ vx126.toInt ≤ 2147483647 := by rw [e127]; exact ti_addc (c := 1) (n := 1) rfl r113.1)
                  refine ok_mono (kj_X5_mostTouches_97 L hN (a0 := a0) (x1 := x1) (x2 := x2) (x3 := x3) (x6v := r99.1) (x7v := vx126) ih k_a0 (show 2 ≤ (x2).toInt by first | with_reducible assumption | omega) (show (x2).toInt ≤ 16 by first | with_reducible assumption | omega) (show 0 ≤ (r99.1).toInt by first | with_reducible assumption | omega) (show (r99.1).toInt ≤ 4 * (x2).toInt - 3 by first | with_reducible assumption | omega) (show 0 ≤ (vx126).toInt by first | with_reducible assumption | omega) (show (vx126).toInt ≤ 4 * (x2).toInt - 2 by first | with_reducible assumption | omega) I) (fun r132 hr133 => ?_)
                  obtain ⟨i134, p135, p136⟩ := hr133
                  have f137 := ti_b r132.1
                  exact ⟨by first | with_reducible assumption | assumption, by first | with_reducible assumption | omega, by first | with_reducible assumption | omega⟩
                · have c138 : x1.toInt ≠ (0 : Int) := o_ne h124
                  refine ok_ite (fun h139 => ?_) (fun h139 => ?_)
                  · have c140 : x1.toInt = (1 : Int) := o_eq h139
                    unfold J_X5_mostTouches_94
                    refine ok_biv (fun vx141 e142 => ?_)
                    first | (have q143 := te_addc (c := 1) (n := 1) rfl r113.1 (by omega) (by omega); rw [← e142] at q143; obtain ⟨f144, f145, f146⟩ := q143) | (obtain ⟨q143, f144, f145, f146⟩ : ∃ q : Int, vx141.toInt = r113.1.toInt + (1 : Int) + 4294967296 * q ∧ -2147483648 ≤ vx141.toInt ∧ vx141.toInt ≤ 2147483647 := by rw [e142]; exact ti_addc (c := 1) (n := 1) rfl r113.1)
                    refine ok_mono (kj_X5_mostTouches_97 L hN (a0 := a0) (x1 := x1) (x2 := x2) (x3 := x3) (x6v := r99.1) (x7v := vx141) ih k_a0 (show 2 ≤ (x2).toInt by first | with_reducible assumption | omega) (show (x2).toInt ≤ 16 by first | with_reducible assumption | omega) (show 0 ≤ (r99.1).toInt by first | with_reducible assumption | omega) (show (r99.1).toInt ≤ 4 * (x2).toInt - 3 by first | with_reducible assumption | omega) (show 0 ≤ (vx141).toInt by first | with_reducible assumption | omega) (show (vx141).toInt ≤ 4 * (x2).toInt - 2 by first | with_reducible assumption | omega) I) (fun r147 hr148 => ?_)
                    obtain ⟨i149, p150, p151⟩ := hr148
                    have f152 := ti_b r147.1
                    exact ⟨by first | with_reducible assumption | assumption, by first | with_reducible assumption | omega, by first | with_reducible assumption | omega⟩
                  · have c153 : x1.toInt ≠ (1 : Int) := o_ne h139
                    refine ok_ite (fun h154 => ?_) (fun h154 => ?_)
                    · have c155 : vx2.toInt ≤ (1 : Int) := o_le h154
                      refine ok_mono (kj_X5_mostTouches_97 L hN (a0 := a0) (x1 := x1) (x2 := x2) (x3 := x3) (x6v := r99.1) (x7v := r113.1) ih k_a0 (show 2 ≤ (x2).toInt by first | with_reducible assumption | omega) (show (x2).toInt ≤ 16 by first | with_reducible assumption | omega) (show 0 ≤ (r99.1).toInt by first | with_reducible assumption | omega) (show (r99.1).toInt ≤ 4 * (x2).toInt - 3 by first | with_reducible assumption | omega) (show 0 ≤ (r113.1).toInt by first | with_reducible assumption | omega) (show (r113.1).toInt ≤ 4 * (x2).toInt - 2 by first | with_reducible assumption | omega) I) (fun r156 hr157 => ?_)
                      obtain ⟨i158, p159, p160⟩ := hr157
                      have f161 := ti_b r156.1
                      exact ⟨by first | with_reducible assumption | assumption, by first | with_reducible assumption | omega, by first | with_reducible assumption | omega⟩
                    · have c162 : (1 : Int) < vx2.toInt := o_nle h154
                      unfold J_X5_mostTouches_94
                      refine ok_biv (fun vx163 e164 => ?_)
                      first | (have q165 := te_addc (c := 1) (n := 1) rfl r113.1 (by omega) (by omega); rw [← e164] at q165; obtain ⟨f166, f167, f168⟩ := q165) | (obtain ⟨q165, f166, f167, f168⟩ : ∃ q : Int, vx163.toInt = r113.1.toInt + (1 : Int) + 4294967296 * q ∧ -2147483648 ≤ vx163.toInt ∧ vx163.toInt ≤ 2147483647 := by rw [e164]; exact ti_addc (c := 1) (n := 1) rfl r113.1)
                      refine ok_mono (kj_X5_mostTouches_97 L hN (a0 := a0) (x1 := x1) (x2 := x2) (x3 := x3) (x6v := r99.1) (x7v := vx163) ih k_a0 (show 2 ≤ (x2).toInt by first | with_reducible assumption | omega) (show (x2).toInt ≤ 16 by first | with_reducible assumption | omega) (show 0 ≤ (r99.1).toInt by first | with_reducible assumption | omega) (show (r99.1).toInt ≤ 4 * (x2).toInt - 3 by first | with_reducible assumption | omega) (show 0 ≤ (vx163).toInt by first | with_reducible assumption | omega) (show (vx163).toInt ≤ 4 * (x2).toInt - 2 by first | with_reducible assumption | omega) I) (fun r169 hr170 => ?_)
                      obtain ⟨i171, p172, p173⟩ := hr170
                      have f174 := ti_b r169.1
                      exact ⟨by first | with_reducible assumption | assumption, by first | with_reducible assumption | omega, by first | with_reducible assumption | omega⟩
          · have c175 : x1.toInt ≠ (0 : Int) := o_ne h19
            unfold J_X5_mostTouches_27
            exact ok_some (show δ = δ ∧ 1 ≤ (1 : Int) ∧ (1 : Int) ≤ 4 * (x2).toInt + 1 from ⟨rfl, by first | with_reducible assumption | omega, by first | with_reducible assumption | omega⟩)
        · have c176 : vx2.toInt ≠ (0 : Int) := o_ne h16
          unfold J_X5_mostTouches_29
          refine ok_bind (k_X5_lowerBits L hN (a0 := a0) (x1 := x2) k_a0 I) (fun r177 hr178 => ?_)
          obtain ⟨i179, p180⟩ := hr178
          try rw [i179]
          have f181 := ti_b r177.1
          refine ok_ite (fun h182 => ?_) (fun h182 => ?_)
          · have c183 : vx2.toInt = (0 : Int) := o_eq h182
            unfold J_X5_mostTouches_54
            have f184 := ti_b x1
            refine ok_ite (fun h185 => ?_) (fun h185 => ?_)
            · have c186 : x1.toInt = (2 : Int) := o_eq h185
              first | (have q188 := te_cadd (c := 1) (n := 1) rfl (0 : Int32) (by omega) (by omega); obtain ⟨f189, f190, f191⟩ := q188) | (obtain ⟨q188, f189, f190, f191⟩ := ti_cadd (c := 1) (n := 1) rfl (0 : Int32))
              exact ok_some (show δ = δ ∧ 1 ≤ (((1 : Int32) + (0 : Int32))).toInt ∧ (((1 : Int32) + (0 : Int32))).toInt ≤ 4 * (x2).toInt + 1 from ⟨rfl, by first | with_reducible assumption | omega, by first | with_reducible assumption | omega⟩)
            · have c192 : x1.toInt ≠ (2 : Int) := o_ne h185
              first | (have q196 := te_sub x2 r177.1 (by omega) (by omega); obtain ⟨f197, f198, f199⟩ := q196) | (obtain ⟨q196, f197, f198, f199⟩ := ti_sub x2 r177.1)
              refine ok_bind (ih a0 x1 (x2 - r177.1) vx2 δ k_a0 (show 0 ≤ ((x2 - r177.1)).toInt by first | with_reducible assumption | omega) (show ((x2 - r177.1)).toInt ≤ 16 by first | with_reducible assumption | omega) (show ((x2 - r177.1)).toInt < _ by first | with_reducible assumption | omega) I) (fun r193 hr194 => ?_)
              obtain ⟨i200, p201, p202⟩ := hr194
              try rw [i200]
              have f203 := ti_b r193.1
              refine ok_ite (fun h204 => ?_) (fun h204 => ?_)
              · have c205 : x1.toInt = (0 : Int) := o_eq h204
                unfold J_X5_mostTouches_94
                refine ok_biv (fun vx206 e207 => ?_)
                first | (have q208 := te_addc (c := 1) (n := 1) rfl r193.1 (by omega) (by omega); rw [← e207] at q208; obtain ⟨f209, f210, f211⟩ := q208) | (obtain ⟨q208, f209, f210, f211⟩ : ∃ q : Int, vx206.toInt = r193.1.toInt + (1 : Int) + 4294967296 * q ∧ -2147483648 ≤ vx206.toInt ∧ vx206.toInt ≤ 2147483647 := by rw [e207]; exact ti_addc (c := 1) (n := 1) rfl r193.1)
                refine ok_mono (kj_X5_mostTouches_97 L hN (a0 := a0) (x1 := x1) (x2 := x2) (x3 := x3) (x6v := (0 : Int32)) (x7v := vx206) ih k_a0 (show 2 ≤ (x2).toInt by first | with_reducible assumption | omega) (show (x2).toInt ≤ 16 by first | with_reducible assumption | omega) (show 0 ≤ (0 : Int) by first | with_reducible assumption | omega) (show (0 : Int) ≤ 4 * (x2).toInt - 3 by first | with_reducible assumption | omega) (show 0 ≤ (vx206).toInt by first | with_reducible assumption | omega) (show (vx206).toInt ≤ 4 * (x2).toInt - 2 by first | with_reducible assumption | omega) I) (fun r212 hr213 => ?_)
                obtain ⟨i214, p215, p216⟩ := hr213
                have f217 := ti_b r212.1
                exact ⟨by first | with_reducible assumption | assumption, by first | with_reducible assumption | omega, by first | with_reducible assumption | omega⟩
              · have c218 : x1.toInt ≠ (0 : Int) := o_ne h204
                refine ok_ite (fun h219 => ?_) (fun h219 => ?_)
                · have c220 : x1.toInt = (1 : Int) := o_eq h219
                  unfold J_X5_mostTouches_94
                  refine ok_biv (fun vx221 e222 => ?_)
                  first | (have q223 := te_addc (c := 1) (n := 1) rfl r193.1 (by omega) (by omega); rw [← e222] at q223; obtain ⟨f224, f225, f226⟩ := q223) | (obtain ⟨q223, f224, f225, f226⟩ : ∃ q : Int, vx221.toInt = r193.1.toInt + (1 : Int) + 4294967296 * q ∧ -2147483648 ≤ vx221.toInt ∧ vx221.toInt ≤ 2147483647 := by rw [e222]; exact ti_addc (c := 1) (n := 1) rfl r193.1)
                  refine ok_mono (kj_X5_mostTouches_97 L hN (a0 := a0) (x1 := x1) (x2 := x2) (x3 := x3) (x6v := (0 : Int32)) (x7v := vx221) ih k_a0 (show 2 ≤ (x2).toInt by first | with_reducible assumption | omega) (show (x2).toInt ≤ 16 by first | with_reducible assumption | omega) (show 0 ≤ (0 : Int) by first | with_reducible assumption | omega) (show (0 : Int) ≤ 4 * (x2).toInt - 3 by first | with_reducible assumption | omega) (show 0 ≤ (vx221).toInt by first | with_reducible assumption | omega) (show (vx221).toInt ≤ 4 * (x2).toInt - 2 by first | with_reducible assumption | omega) I) (fun r227 hr228 => ?_)
                  obtain ⟨i229, p230, p231⟩ := hr228
                  have f232 := ti_b r227.1
                  exact ⟨by first | with_reducible assumption | assumption, by first | with_reducible assumption | omega, by first | with_reducible assumption | omega⟩
                · have c233 : x1.toInt ≠ (1 : Int) := o_ne h219
                  refine ok_ite (fun h234 => ?_) (fun h234 => ?_)
                  · have c235 : vx2.toInt ≤ (1 : Int) := o_le h234
                    refine ok_mono (kj_X5_mostTouches_97 L hN (a0 := a0) (x1 := x1) (x2 := x2) (x3 := x3) (x6v := (0 : Int32)) (x7v := r193.1) ih k_a0 (show 2 ≤ (x2).toInt by first | with_reducible assumption | omega) (show (x2).toInt ≤ 16 by first | with_reducible assumption | omega) (show 0 ≤ (0 : Int) by first | with_reducible assumption | omega) (show (0 : Int) ≤ 4 * (x2).toInt - 3 by first | with_reducible assumption | omega) (show 0 ≤ (r193.1).toInt by first | with_reducible assumption | omega) (show (r193.1).toInt ≤ 4 * (x2).toInt - 2 by first | with_reducible assumption | omega) I) (fun r236 hr237 => ?_)
                    obtain ⟨i238, p239, p240⟩ := hr237
                    have f241 := ti_b r236.1
                    exact ⟨by first | with_reducible assumption | assumption, by first | with_reducible assumption | omega, by first | with_reducible assumption | omega⟩
                  · have c242 : (1 : Int) < vx2.toInt := o_nle h234
                    unfold J_X5_mostTouches_94
                    refine ok_biv (fun vx243 e244 => ?_)
                    first | (have q245 := te_addc (c := 1) (n := 1) rfl r193.1 (by omega) (by omega); rw [← e244] at q245; obtain ⟨f246, f247, f248⟩ := q245) | (obtain ⟨q245, f246, f247, f248⟩ : ∃ q : Int, vx243.toInt = r193.1.toInt + (1 : Int) + 4294967296 * q ∧ -2147483648 ≤ vx243.toInt ∧ vx243.toInt ≤ 2147483647 := by rw [e244]; exact ti_addc (c := 1) (n := 1) rfl r193.1)
                    refine ok_mono (kj_X5_mostTouches_97 L hN (a0 := a0) (x1 := x1) (x2 := x2) (x3 := x3) (x6v := (0 : Int32)) (x7v := vx243) ih k_a0 (show 2 ≤ (x2).toInt by first | with_reducible assumption | omega) (show (x2).toInt ≤ 16 by first | with_reducible assumption | omega) (show 0 ≤ (0 : Int) by first | with_reducible assumption | omega) (show (0 : Int) ≤ 4 * (x2).toInt - 3 by first | with_reducible assumption | omega) (show 0 ≤ (vx243).toInt by first | with_reducible assumption | omega) (show (vx243).toInt ≤ 4 * (x2).toInt - 2 by first | with_reducible assumption | omega) I) (fun r249 hr250 => ?_)
                    obtain ⟨i251, p252, p253⟩ := hr250
                    have f254 := ti_b r249.1
                    exact ⟨by first | with_reducible assumption | assumption, by first | with_reducible assumption | omega, by first | with_reducible assumption | omega⟩
          · have c255 : vx2.toInt ≠ (0 : Int) := o_ne h182
            refine ok_bind (ih a0 x1 r177.1 vx2 δ k_a0 (show 0 ≤ (r177.1).toInt by first | with_reducible assumption | omega) (show (r177.1).toInt ≤ 16 by first | with_reducible assumption | omega) (show (r177.1).toInt < _ by first | with_reducible assumption | omega) I) (fun r256 hr257 => ?_)
            obtain ⟨i258, p259, p260⟩ := hr257
            try rw [i258]
            have f261 := ti_b r256.1
            unfold J_X5_mostTouches_54
            have f262 := ti_b x1
            refine ok_ite (fun h263 => ?_) (fun h263 => ?_)
            · have c264 : x1.toInt = (2 : Int) := o_eq h263
              first | (have q266 := te_cadd (c := 1) (n := 1) rfl r256.1 (by omega) (by omega); obtain ⟨f267, f268, f269⟩ := q266) | (obtain ⟨q266, f267, f268, f269⟩ := ti_cadd (c := 1) (n := 1) rfl r256.1)
              exact ok_some (show δ = δ ∧ 1 ≤ (((1 : Int32) + r256.1)).toInt ∧ (((1 : Int32) + r256.1)).toInt ≤ 4 * (x2).toInt + 1 from ⟨rfl, by first | with_reducible assumption | omega, by first | with_reducible assumption | omega⟩)
            · have c270 : x1.toInt ≠ (2 : Int) := o_ne h263
              first | (have q274 := te_sub x2 r177.1 (by omega) (by omega); obtain ⟨f275, f276, f277⟩ := q274) | (obtain ⟨q274, f275, f276, f277⟩ := ti_sub x2 r177.1)
              refine ok_bind (ih a0 x1 (x2 - r177.1) vx2 δ k_a0 (show 0 ≤ ((x2 - r177.1)).toInt by first | with_reducible assumption | omega) (show ((x2 - r177.1)).toInt ≤ 16 by first | with_reducible assumption | omega) (show ((x2 - r177.1)).toInt < _ by first | with_reducible assumption | omega) I) (fun r271 hr272 => ?_)
              obtain ⟨i278, p279, p280⟩ := hr272
              try rw [i278]
              have f281 := ti_b r271.1
              refine ok_ite (fun h282 => ?_) (fun h282 => ?_)
              · have c283 : x1.toInt = (0 : Int) := o_eq h282
                unfold J_X5_mostTouches_94
                refine ok_biv (fun vx284 e285 => ?_)
                first | (have q286 := te_addc (c := 1) (n := 1) rfl r271.1 (by omega) (by omega); rw [← e285] at q286; obtain ⟨f287, f288, f289⟩ := q286) | (obtain ⟨q286, f287, f288, f289⟩ : ∃ q : Int, vx284.toInt = r271.1.toInt + (1 : Int) + 4294967296 * q ∧ -2147483648 ≤ vx284.toInt ∧ vx284.toInt ≤ 2147483647 := by rw [e285]; exact ti_addc (c := 1) (n := 1) rfl r271.1)
                refine ok_mono (kj_X5_mostTouches_97 L hN (a0 := a0) (x1 := x1) (x2 := x2) (x3 := x3) (x6v := r256.1) (x7v := vx284) ih k_a0 (show 2 ≤ (x2).toInt by first | with_reducible assumption | omega) (show (x2).toInt ≤ 16 by first | with_reducible assumption | omega) (show 0 ≤ (r256.1).toInt by first | with_reducible assumption | omega) (show (r256.1).toInt ≤ 4 * (x2).toInt - 3 by first | with_reducible assumption | omega) (show 0 ≤ (vx284).toInt by first | with_reducible assumption | omega) (show (vx284).toInt ≤ 4 * (x2).toInt - 2 by first | with_reducible assumption | omega) I) (fun r290 hr291 => ?_)
                obtain ⟨i292, p293, p294⟩ := hr291
                have f295 := ti_b r290.1
                exact ⟨by first | with_reducible assumption | assumption, by first | with_reducible assumption | omega, by first | with_reducible assumption | omega⟩
              · have c296 : x1.toInt ≠ (0 : Int) := o_ne h282
                refine ok_ite (fun h297 => ?_) (fun h297 => ?_)
                · have c298 : x1.toInt = (1 : Int) := o_eq h297
                  unfold J_X5_mostTouches_94
                  refine ok_biv (fun vx299 e300 => ?_)
                  first | (have q301 := te_addc (c := 1) (n := 1) rfl r271.1 (by omega) (by omega); rw [← e300] at q301; obtain ⟨f302, f303, f304⟩ := q301) | (obtain ⟨q301, f302, f303, f304⟩ : ∃ q : Int, vx299.toInt = r271.1.toInt + (1 : Int) + 4294967296 * q ∧ -2147483648 ≤ vx299.toInt ∧ vx299.toInt ≤ 2147483647 := by rw [e300]; exact ti_addc (c := 1) (n := 1) rfl r271.1)
                  refine ok_mono (kj_X5_mostTouches_97 L hN (a0 := a0) (x1 := x1) (x2 := x2) (x3 := x3) (x6v := r256.1) (x7v := vx299) ih k_a0 (show 2 ≤ (x2).toInt by first | with_reducible assumption | omega) (show (x2).toInt ≤ 16 by first | with_reducible assumption | omega) (show 0 ≤ (r256.1).toInt by first | with_reducible assumption | omega) (show (r256.1).toInt ≤ 4 * (x2).toInt - 3 by first | with_reducible assumption | omega) (show 0 ≤ (vx299).toInt by first | with_reducible assumption | omega) (show (vx299).toInt ≤ 4 * (x2).toInt - 2 by first | with_reducible assumption | omega) I) (fun r305 hr306 => ?_)
                  obtain ⟨i307, p308, p309⟩ := hr306
                  have f310 := ti_b r305.1
                  exact ⟨by first | with_reducible assumption | assumption, by first | with_reducible assumption | omega, by first | with_reducible assumption | omega⟩
                · have c311 : x1.toInt ≠ (1 : Int) := o_ne h297
                  refine ok_ite (fun h312 => ?_) (fun h312 => ?_)
                  · have c313 : vx2.toInt ≤ (1 : Int) := o_le h312
                    refine ok_mono (kj_X5_mostTouches_97 L hN (a0 := a0) (x1 := x1) (x2 := x2) (x3 := x3) (x6v := r256.1) (x7v := r271.1) ih k_a0 (show 2 ≤ (x2).toInt by first | with_reducible assumption | omega) (show (x2).toInt ≤ 16 by first | with_reducible assumption | omega) (show 0 ≤ (r256.1).toInt by first | with_reducible assumption | omega) (show (r256.1).toInt ≤ 4 * (x2).toInt - 3 by first | with_reducible assumption | omega) (show 0 ≤ (r271.1).toInt by first | with_reducible assumption | omega) (show (r271.1).toInt ≤ 4 * (x2).toInt - 2 by first | with_reducible assumption | omega) I) (fun r314 hr315 => ?_)
                    obtain ⟨i316, p317, p318⟩ := hr315
                    have f319 := ti_b r314.1
                    exact ⟨by first | with_reducible assumption | assumption, by first | with_reducible assumption | omega, by first | with_reducible assumption | omega⟩
                  · have c320 : (1 : Int) < vx2.toInt := o_nle h312
                    unfold J_X5_mostTouches_94
                    refine ok_biv (fun vx321 e322 => ?_)
                    first | (have q323 := te_addc (c := 1) (n := 1) rfl r271.1 (by omega) (by omega); rw [← e322] at q323; obtain ⟨f324, f325, f326⟩ := q323) | (obtain ⟨q323, f324, f325, f326⟩ : ∃ q : Int, vx321.toInt = r271.1.toInt + (1 : Int) + 4294967296 * q ∧ -2147483648 ≤ vx321.toInt ∧ vx321.toInt ≤ 2147483647 := by rw [e322]; exact ti_addc (c := 1) (n := 1) rfl r271.1)
                    refine ok_mono (kj_X5_mostTouches_97 L hN (a0 := a0) (x1 := x1) (x2 := x2) (x3 := x3) (x6v := r256.1) (x7v := vx321) ih k_a0 (show 2 ≤ (x2).toInt by first | with_reducible assumption | omega) (show (x2).toInt ≤ 16 by first | with_reducible assumption | omega) (show 0 ≤ (r256.1).toInt by first | with_reducible assumption | omega) (show (r256.1).toInt ≤ 4 * (x2).toInt - 3 by first | with_reducible assumption | omega) (show 0 ≤ (vx321).toInt by first | with_reducible assumption | omega) (show (vx321).toInt ≤ 4 * (x2).toInt - 2 by first | with_reducible assumption | omega) I) (fun r327 hr328 => ?_)
                    obtain ⟨i329, p330, p331⟩ := hr328
                    have f332 := ti_b r327.1
                    exact ⟨by first | with_reducible assumption | assumption, by first | with_reducible assumption | omega, by first | with_reducible assumption | omega⟩
set_option maxHeartbeats 4000000 in
theorem k_X5_mostTouches {ad : List Nat} {h : hp} (L : Lay TLx ad h) {δ0 : dp} {N : Nat} (hN : 10000000 ≤ N) {a0 : Nat} {x1 : Int32} {x2 : Int32} {x3 : Int32} (k_a0 : q_K h.1 a0 = 5) {δ : dp} (z0 : 0 ≤ (x2).toInt) (z1 : (x2).toInt ≤ 16) (hd : (x2).toInt < 20) (I : CI ad h.1 δ0 δ) : ok (D_X5_mostTouches N h.1 a0 x1 x2 x3 δ) (fun r => r.2 = δ ∧ 1 ≤ (r.1).toInt ∧ (r.1).toInt ≤ 4 * (x2).toInt + 1) := ke_X5_mostTouches L hN 20 a0 x1 x2 x3 δ k_a0 z0 z1 hd I
set_option maxHeartbeats 4000000 in
theorem k_X5_boundOf {ad : List Nat} {h : hp} (L : Lay TLx ad h) {δ0 : dp} {N : Nat} (hN : 10000000 ≤ N) {a0 : Nat} {x1 : Int32} (k_a0 : q_K h.1 a0 = 5) {δ : dp} (I : CI ad h.1 δ0 δ) : ok (D_X5_boundOf N h.1 a0 x1 δ) (fun r => r.2 = δ) := by
  unfold D_X5_boundOf
  have f3 := cb_5_0 I k_a0
  refine ok_bind (k_X5_mostTouches L hN (a0 := a0) (x1 := x1) (x2 := (q_I δ 5 0 a0)) (x3 := (1048576 : Int32)) k_a0 (show 0 ≤ ((q_I δ 5 0 a0)).toInt by first | with_reducible assumption | omega) (show ((q_I δ 5 0 a0)).toInt ≤ 16 by first | with_reducible assumption | omega) (show ((q_I δ 5 0 a0)).toInt < 20 by first | with_reducible assumption | omega) I) (fun r1 hr2 => ?_)
  obtain ⟨i4, p5, p6⟩ := hr2
  try rw [i4]
  have f7 := ti_b r1.1
  exact ok_some (show δ = δ from rfl)
