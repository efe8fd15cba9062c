/-! 54.kX5 (by gen_safe.py) -/
set_option maxHeartbeats 4000000 in
theorem k_J9_max_7cf53 {ad : List Nat} {h : hp} (L : Lay TLx ad h) {δ0 : dp} {N : Nat} (hN : 10000000 ≤ N) {x0 : Int32} {x1 : Int32} {δ : dp} (I : CI ad h.1 δ0 δ) : ok (D_J9_max_7cf53 N h.1 x0 x1 δ) (fun r => r.2 = δ ∧ (x0).toInt ≤ (r.1).toInt ∧ (x1).toInt ≤ (r.1).toInt ∧ ((r.1).toInt = (x0).toInt ∨ (r.1).toInt = (x1).toInt)) := by
  unfold D_J9_max_7cf53
  have f1 := ti_b x0
  have f2 := ti_b x1
  refine ok_ite (fun h3 => ?_) (fun h3 => ?_)
  · have c4 : x0.toInt < x1.toInt := o_lt h3
    unfold J_J9_max_7cf53_10
    exact ok_some (show δ = δ ∧ (x0).toInt ≤ (x1).toInt ∧ (x1).toInt ≤ (x1).toInt ∧ ((x1).toInt = (x0).toInt ∨ (x1).toInt = (x1).toInt) from ⟨rfl, by first | assumption | omega, by first | assumption | omega, by first | assumption | omega⟩)
  · have c5 : x1.toInt ≤ x0.toInt := o_nlt h3
    unfold J_J9_max_7cf53_10
    exact ok_some (show δ = δ ∧ (x0).toInt ≤ (x0).toInt ∧ (x1).toInt ≤ (x0).toInt ∧ ((x0).toInt = (x0).toInt ∨ (x0).toInt = (x1).toInt) from ⟨rfl, by first | assumption | omega, by first | assumption | omega, by first | assumption | omega⟩)
set_option maxHeartbeats 4000000 in
theorem k_J9_min_7cf53 {ad : List Nat} {h : hp} (L : Lay TLx ad h) {δ0 : dp} {N : Nat} (hN : 10000000 ≤ N) {x0 : Int32} {x1 : Int32} {δ : dp} (I : CI ad h.1 δ0 δ) : ok (D_J9_min_7cf53 N h.1 x0 x1 δ) (fun r => r.2 = δ ∧ (r.1).toInt ≤ (x0).toInt ∧ (r.1).toInt ≤ (x1).toInt ∧ ((r.1).toInt = (x0).toInt ∨ (r.1).toInt = (x1).toInt)) := by
  unfold D_J9_min_7cf53
  have f1 := ti_b x1
  have f2 := ti_b x0
  refine ok_ite (fun h3 => ?_) (fun h3 => ?_)
  · have c4 : x1.toInt < x0.toInt := o_lt h3
    unfold J_J9_min_7cf53_10
    exact ok_some (show δ = δ ∧ (x1).toInt ≤ (x0).toInt ∧ (x1).toInt ≤ (x1).toInt ∧ ((x1).toInt = (x0).toInt ∨ (x1).toInt = (x1).toInt) from ⟨rfl, by first | assumption | omega, by first | assumption | omega, by first | assumption | omega⟩)
  · have c5 : x0.toInt ≤ x1.toInt := o_nlt h3
    unfold J_J9_min_7cf53_10
    exact ok_some (show δ = δ ∧ (x0).toInt ≤ (x0).toInt ∧ (x0).toInt ≤ (x1).toInt ∧ ((x0).toInt = (x0).toInt ∨ (x0).toInt = (x1).toInt) from ⟨rfl, by first | assumption | omega, by first | assumption | omega, by first | assumption | omega⟩)
set_option maxHeartbeats 4000000 in
theorem k_J6_compare_7cf53 {ad : List Nat} {h : hp} (L : Lay TLx ad h) {δ0 : dp} {N : Nat} (hN : 10000000 ≤ N) {x0 : Int32} {x1 : Int32} {δ : dp} (I : CI ad h.1 δ0 δ) : ok (D_J6_compare_7cf53 N h.1 x0 x1 δ) (fun r => r.2 = δ ∧ ((r.1).toInt = 0 ∨ (r.1).toInt = 1 ∨ (r.1).toInt = -1)) := by
  unfold D_J6_compare_7cf53
  have f1 := ti_b x1
  have f2 := ti_b x0
  refine ok_ite (fun h3 => ?_) (fun h3 => ?_)
  · have c4 : x1.toInt ≤ x0.toInt := o_le h3
    refine ok_ite (fun h5 => ?_) (fun h5 => ?_)
    · have c6 : x0.toInt = x1.toInt := o_eq h5
      unfold J_J6_compare_7cf53_19
      exact ok_some (show δ = δ ∧ ((0 : Int) = 0 ∨ (0 : Int) = 1 ∨ (0 : Int) = -1) from ⟨rfl, by first | assumption | omega⟩)
    · have c7 : x0.toInt ≠ x1.toInt := o_ne h5
      unfold J_J6_compare_7cf53_19
      exact ok_some (show δ = δ ∧ ((1 : Int) = 0 ∨ (1 : Int) = 1 ∨ (1 : Int) = -1) from ⟨rfl, by first | assumption | omega⟩)
  · have c8 : x0.toInt < x1.toInt := o_nle h3
    unfold J_J6_compare_7cf53_19
    exact ok_some (show δ = δ ∧ ((-1 : Int) = 0 ∨ (-1 : Int) = 1 ∨ (-1 : Int) = -1) from ⟨rfl, by first | assumption | omega⟩)
set_option maxHeartbeats 4000000 in
theorem k_X5_greatest {ad : List Nat} {h : hp} (L : Lay TLx ad h) {δ0 : dp} {N : Nat} (hN : 10000000 ≤ N) {a0 : Nat} (k_a0 : q_K h.1 a0 = 5) {δ : dp} (I : CI ad h.1 δ0 δ) : ok (D_X5_greatest N h.1 a0 δ) (fun r => r.2 = δ ∧ 3 ≤ (r.1).toInt ∧ (r.1).toInt ≤ 65535 ∧ ((q_I δ 5 0 a0).toInt ≤ 6 → (r.1).toInt ≤ 63) ∧ ((q_I δ 5 0 a0).toInt ≤ 4 → (r.1).toInt ≤ 15)) := by
  unfold D_X5_greatest
  have f1 := cb_5_0 I k_a0
  have f2 := sh_b (q_I δ 5 0 a0)
  have f3 := ti_b ((1 : Int32) <<< ((q_I δ 5 0 a0) &&& 31))
  first | (have q5 := te_subc (c := 1) (n := 1) rfl ((1 : Int32) <<< ((q_I δ 5 0 a0) &&& 31)) (by omega) (by omega); obtain ⟨f6, f7, f8⟩ := q5) | (obtain ⟨q5, f6, f7, f8⟩ := ti_subc (c := 1) (n := 1) rfl ((1 : Int32) <<< ((q_I δ 5 0 a0) &&& 31)))
  exact ok_some (show δ = δ ∧ 3 ≤ ((((1 : Int32) <<< ((q_I δ 5 0 a0) &&& 31)) - (1 : Int32))).toInt ∧ ((((1 : Int32) <<< ((q_I δ 5 0 a0) &&& 31)) - (1 : Int32))).toInt ≤ 65535 ∧ ((q_I δ 5 0 a0).toInt ≤ 6 → ((((1 : Int32) <<< ((q_I δ 5 0 a0) &&& 31)) - (1 : Int32))).toInt ≤ 63) ∧ ((q_I δ 5 0 a0).toInt ≤ 4 → ((((1 : Int32) <<< ((q_I δ 5 0 a0) &&& 31)) - (1 : Int32))).toInt ≤ 15) from ⟨rfl, by first | assumption | omega, by first | assumption | omega, by first | assumption | omega, by first | assumption | omega⟩)
set_option maxHeartbeats 4000000 in
theorem k_X5_isSmall {ad : List Nat} {h : hp} (L : Lay TLx ad h) {δ0 : dp} {N : Nat} (hN : 10000000 ≤ N) {a0 : Nat} (k_a0 : q_K h.1 a0 = 5) {δ : dp} (I : CI ad h.1 δ0 δ) : ok (D_X5_isSmall N h.1 a0 δ) (fun r => r.2 = δ ∧ bo (r.1) ∧ ((r.1).toInt = 0 ∨ (q_I δ 5 0 a0).toInt ≤ 6)) := by
  unfold D_X5_isSmall
  have f1 := cb_5_0 I k_a0
  refine ok_ite (fun h2 => ?_) (fun h2 => ?_)
  · have c3 : (6 : Int) < (q_I δ 5 0 a0).toInt := o_lt h2
    unfold J_X5_isSmall_14
    refine ok_gp (by decide) ?_
    exact ok_some (show δ = δ ∧ bo ((0 : Int32)) ∧ ((0 : Int) = 0 ∨ (q_I δ 5 0 a0).toInt ≤ 6) from ⟨rfl, bo_0, by first | assumption | omega⟩)
  · have c4 : (q_I δ 5 0 a0).toInt ≤ (6 : Int) := o_nlt h2
    unfold J_X5_isSmall_14
    refine ok_gp (by decide) ?_
    exact ok_some (show δ = δ ∧ bo ((1 : Int32)) ∧ ((1 : Int) = 0 ∨ (q_I δ 5 0 a0).toInt ≤ 6) from ⟨rfl, bo_1, by first | assumption | omega⟩)
set_option maxHeartbeats 4000000 in
theorem k_X5_mostInSets {ad : List Nat} {h : hp} (L : Lay TLx ad h) {δ0 : dp} {N : Nat} (hN : 10000000 ≤ N) {a0 : Nat} (k_a0 : q_K h.1 a0 = 5) {δ : dp} (I : CI ad h.1 δ0 δ) : ok (D_X5_mostInSets N h.1 a0 δ) (fun r => r.2 = δ ∧ ((r.1).toInt = 3 ∨ (r.1).toInt = 16 ∧ (q_I δ 5 0 a0).toInt ≤ 4)) := by
  unfold D_X5_mostInSets
  have f1 := cb_5_0 I k_a0
  refine ok_ite (fun h2 => ?_) (fun h2 => ?_)
  · have c3 : (4 : Int) < (q_I δ 5 0 a0).toInt := o_lt h2
    unfold J_X5_mostInSets_14
    exact ok_some (show δ = δ ∧ ((3 : Int) = 3 ∨ (3 : Int) = 16 ∧ (q_I δ 5 0 a0).toInt ≤ 4) from ⟨rfl, by first | assumption | omega⟩)
  · have c4 : (q_I δ 5 0 a0).toInt ≤ (4 : Int) := o_nlt h2
    unfold J_X5_mostInSets_14
    exact ok_some (show δ = δ ∧ ((16 : Int) = 3 ∨ (16 : Int) = 16 ∧ (q_I δ 5 0 a0).toInt ≤ 4) from ⟨rfl, by first | assumption | omega⟩)
set_option maxHeartbeats 4000000 in
theorem k_X5_mostInRows {ad : List Nat} {h : hp} (L : Lay TLx ad h) {δ0 : dp} {N : Nat} (hN : 10000000 ≤ N) {a0 : Nat} (k_a0 : q_K h.1 a0 = 5) {δ : dp} (I : CI ad h.1 δ0 δ) : ok (D_X5_mostInRows N h.1 a0 δ) (fun r => r.2 = δ ∧ ((r.1).toInt = 2 ∨ (r.1).toInt = 6 ∧ (q_I δ 5 0 a0).toInt ≤ 4)) := by
  unfold D_X5_mostInRows
  have f1 := cb_5_0 I k_a0
  refine ok_ite (fun h2 => ?_) (fun h2 => ?_)
  · have c3 : (4 : Int) < (q_I δ 5 0 a0).toInt := o_lt h2
    unfold J_X5_mostInRows_14
    exact ok_some (show δ = δ ∧ ((2 : Int) = 2 ∨ (2 : Int) = 6 ∧ (q_I δ 5 0 a0).toInt ≤ 4) from ⟨rfl, by first | assumption | omega⟩)
  · have c4 : (q_I δ 5 0 a0).toInt ≤ (4 : Int) := o_nlt h2
    unfold J_X5_mostInRows_14
    exact ok_some (show δ = δ ∧ ((6 : Int) = 2 ∨ (6 : Int) = 6 ∧ (q_I δ 5 0 a0).toInt ≤ 4) from ⟨rfl, by first | assumption | omega⟩)
set_option maxHeartbeats 4000000 in
theorem k_X5_lowerBits {ad : List Nat} {h : hp} (L : Lay TLx ad h) {δ0 : dp} {N : Nat} (hN : 10000000 ≤ N) {a0 : Nat} {x1 : Int32} (k_a0 : q_K h.1 a0 = 5) {δ : dp} (I : CI ad h.1 δ0 δ) : ok (D_X5_lowerBits N h.1 a0 x1 δ) (fun r => r.2 = δ ∧ (2 ≤ (x1).toInt ∧ (x1).toInt ≤ 16 → 1 ≤ (r.1).toInt ∧ (r.1).toInt < (x1).toInt)) := by
  unfold D_X5_lowerBits
  have f1 := cb_5_1 I k_a0
  refine ok_ite (fun h2 => ?_) (fun h2 => ?_)
  · have c3 : (q_I δ 5 1 a0).toInt = (0 : Int) := o_eq h2
    unfold J_X5_lowerBits_18
    have f4 := ti_b x1
    first | (have q6 := te_addc (c := 1) (n := 1) rfl x1 (by omega) (by omega); obtain ⟨f7, f8, f9⟩ := q6) | (obtain ⟨q6, f7, f8, f9⟩ := ti_addc (c := 1) (n := 1) rfl x1)
    have f10 := ti_div (c := 2) (n := 2) rfl (by decide) (x1 + (1 : Int32))
    have f11 := ti_b ((x1 + (1 : Int32)) / (2 : Int32))
    exact ok_some (show δ = δ ∧ (2 ≤ (x1).toInt ∧ (x1).toInt ≤ 16 → 1 ≤ (((x1 + (1 : Int32)) / (2 : Int32))).toInt ∧ (((x1 + (1 : Int32)) / (2 : Int32))).toInt < (x1).toInt) from ⟨rfl, by first | assumption | omega⟩)
  · have c12 : (q_I δ 5 1 a0).toInt ≠ (0 : Int) := o_ne h2
    unfold J_X5_lowerBits_18
    have f13 := ti_b x1
    have f14 := ti_div (c := 2) (n := 2) rfl (by decide) x1
    have f15 := ti_b (x1 / (2 : Int32))
    exact ok_some (show δ = δ ∧ (2 ≤ (x1).toInt ∧ (x1).toInt ≤ 16 → 1 ≤ ((x1 / (2 : Int32))).toInt ∧ ((x1 / (2 : Int32))).toInt < (x1).toInt) from ⟨rfl, by first | assumption | omega⟩)
set_option maxHeartbeats 4000000 in
theorem ke_X5_mostTouches {ad : List Nat} {h : hp} (L : Lay TLx ad h) {δ0 : dp} {N : Nat} (hN : 10000000 ≤ N) : ∀ (k : Nat), ∀ (a0 : Nat) (x1 : Int32) (x2 : Int32) (x3 : Int32) (δ : dp), q_K h.1 a0 = 5 → 0 ≤ (x2).toInt → (x2).toInt ≤ 16 → (x2).toInt < (k : Int) → CI ad h.1 δ0 δ → ok (E_X5_mostTouches N h.1 k a0 x1 x2 x3 δ) (fun r => r.2 = δ ∧ 1 ≤ (r.1).toInt ∧ (r.1).toInt ≤ 4 * (x2).toInt + 1) := by
  intro k
  induction k with
  | zero =>
    intro a0 x1 x2 x3 δ k_a0 z0 z1 hd I
    exfalso; omega
  | succ k ih =>
    intro a0 x1 x2 x3 δ k_a0 z0 z1 hd I
    unfold E_X5_mostTouches B_X5_mostTouches
    have f1 := ti_b x2
    have f4 := ti_b x3
    refine ok_biv (fun vx2 e3 => ?_)
    first | (have q5 := te_subc (c := 2) (n := 2) rfl x3 (by omega) (by omega); rw [← e3] at q5; obtain ⟨f6, f7, f8⟩ := q5) | (obtain ⟨q5, f6, f7, f8⟩ : ∃ q : Int, vx2.toInt = x3.toInt - (2 : Int) + 4294967296 * q ∧ -2147483648 ≤ vx2.toInt ∧ vx2.toInt ≤ 2147483647 := by rw [e3]; exact ti_subc (c := 2) (n := 2) rfl x3)
    have f9 := cb_5_2 I k_a0
    refine ok_ite (fun h10 => ?_) (fun h10 => ?_)
    · have c11 : x2.toInt ≤ (q_I δ 5 2 a0).toInt := o_le h10
      unfold J_X5_mostTouches_27
      exact ok_some (show δ = δ ∧ 1 ≤ (1 : Int) ∧ (1 : Int) ≤ 4 * (x2).toInt + 1 from ⟨rfl, by first | assumption | omega, by first | assumption | omega⟩)
    · have c12 : (q_I δ 5 2 a0).toInt < x2.toInt := o_nle h10
      refine ok_ite (fun h13 => ?_) (fun h13 => ?_)
      · have c14 : vx2.toInt < (0 : Int) := o_lt h13
        unfold J_X5_mostTouches_27
        exact ok_some (show δ = δ ∧ 1 ≤ (1 : Int) ∧ (1 : Int) ≤ 4 * (x2).toInt + 1 from ⟨rfl, by first | assumption | omega, by first | assumption | omega⟩)
      · have c15 : (0 : Int) ≤ vx2.toInt := o_nlt h13
        refine ok_ite (fun h16 => ?_) (fun h16 => ?_)
        · have c17 : vx2.toInt = (0 : Int) := o_eq h16
          have f18 := ti_b x1
          refine ok_ite (fun h19 => ?_) (fun h19 => ?_)
          · have c20 : x1.toInt = (0 : Int) := o_eq h19
            unfold J_X5_mostTouches_29
            refine ok_bind (k_X5_lowerBits L hN (a0 := a0) (x1 := x2) k_a0 I) (fun r21 hr22 => ?_)
            obtain ⟨i23, p24⟩ := hr22
            try rw [i23]
            have f25 := ti_b r21.1
            have f26 := ti_b r21.1
            refine ok_ite (fun h27 => ?_) (fun h27 => ?_)
            · have c28 : vx2.toInt = (0 : Int) := o_eq h27
              unfold J_X5_mostTouches_54
              refine ok_ite (fun h29 => ?_) (fun h29 => ?_)
              · have c30 : x1.toInt = (2 : Int) := o_eq h29
                first | (have q32 := te_cadd (c := 1) (n := 1) rfl (0 : Int32) (by omega) (by omega); obtain ⟨f33, f34, f35⟩ := q32) | (obtain ⟨q32, f33, f34, f35⟩ := ti_cadd (c := 1) (n := 1) rfl (0 : Int32))
                exact ok_some (show δ = δ ∧ 1 ≤ (((1 : Int32) + (0 : Int32))).toInt ∧ (((1 : Int32) + (0 : Int32))).toInt ≤ 4 * (x2).toInt + 1 from ⟨rfl, by first | assumption | omega, by first | assumption | omega⟩)
              · have c36 : x1.toInt ≠ (2 : Int) := o_ne h29
                first | (have q40 := te_sub x2 r21.1 (by omega) (by omega); obtain ⟨f41, f42, f43⟩ := q40) | (obtain ⟨q40, f41, f42, f43⟩ := ti_sub x2 r21.1)
                refine ok_bind (ih a0 x1 (x2 - r21.1) vx2 δ k_a0 (show 0 ≤ ((x2 - r21.1)).toInt by first | assumption | omega) (show ((x2 - r21.1)).toInt ≤ 16 by first | assumption | omega) (show ((x2 - r21.1)).toInt < _ by first | assumption | omega) I) (fun r37 hr38 => ?_)
                obtain ⟨i44, p45, p46⟩ := hr38
                try rw [i44]
                have f47 := ti_b r37.1
                have f48 := ti_b r37.1
                refine ok_ite (fun h49 => ?_) (fun h49 => ?_)
                · have c50 : x1.toInt = (0 : Int) := o_eq h49
                  unfold J_X5_mostTouches_94
                  refine ok_biv (fun vx51 e52 => ?_)
                  first | (have q53 := te_addc (c := 1) (n := 1) rfl r37.1 (by omega) (by omega); rw [← e52] at q53; obtain ⟨f54, f55, f56⟩ := q53) | (obtain ⟨q53, f54, f55, f56⟩ : ∃ q : Int, vx51.toInt = r37.1.toInt + (1 : Int) + 4294967296 * q ∧ -2147483648 ≤ vx51.toInt ∧ vx51.toInt ≤ 2147483647 := by rw [e52]; exact ti_addc (c := 1) (n := 1) rfl r37.1)
                  unfold J_X5_mostTouches_97
                  refine ok_ite (fun h57 => ?_) (fun h57 => ?_)
                  · have c58 : x1.toInt = (0 : Int) := o_eq h57
                    unfold J_X5_mostTouches_115
                    refine ok_bind (k_J9_max_7cf53 L hN (x0 := (0 : Int32)) (x1 := vx51)  I) (fun r59 hr60 => ?_)
                    obtain ⟨i61, p62, p63, p64⟩ := hr60
                    try rw [i61]
                    have f65 := ti_b r59.1
                    replace p62 : (0 : Int) ≤ (r59.1).toInt := p62
                    replace p64 : ((r59.1).toInt = (0 : Int) ∨ (r59.1).toInt = (vx51).toInt) := p64
                    have f66 := ti_b r59.1
                    first | (have q68 := te_cadd (c := 1) (n := 1) rfl r59.1 (by omega) (by omega); obtain ⟨f69, f70, f71⟩ := q68) | (obtain ⟨q68, f69, f70, f71⟩ := ti_cadd (c := 1) (n := 1) rfl r59.1)
                    exact ok_some (show δ = δ ∧ 1 ≤ (((1 : Int32) + r59.1)).toInt ∧ (((1 : Int32) + r59.1)).toInt ≤ 4 * (x2).toInt + 1 from ⟨rfl, by first | assumption | omega, by first | assumption | omega⟩)
                  · have c72 : x1.toInt ≠ (0 : Int) := o_ne h57
                    refine ok_ite (fun h73 => ?_) (fun h73 => ?_)
                    · have c74 : x1.toInt = (1 : Int) := o_eq h73
                      unfold J_X5_mostTouches_115
                      refine ok_bind (k_J9_max_7cf53 L hN (x0 := (0 : Int32)) (x1 := vx51)  I) (fun r75 hr76 => ?_)
                      obtain ⟨i77, p78, p79, p80⟩ := hr76
                      try rw [i77]
                      have f81 := ti_b r75.1
                      replace p78 : (0 : Int) ≤ (r75.1).toInt := p78
                      replace p80 : ((r75.1).toInt = (0 : Int) ∨ (r75.1).toInt = (vx51).toInt) := p80
                      have f82 := ti_b r75.1
                      first | (have q84 := te_cadd (c := 3) (n := 3) rfl r75.1 (by omega) (by omega); obtain ⟨f85, f86, f87⟩ := q84) | (obtain ⟨q84, f85, f86, f87⟩ := ti_cadd (c := 3) (n := 3) rfl r75.1)
                      exact ok_some (show δ = δ ∧ 1 ≤ (((3 : Int32) + r75.1)).toInt ∧ (((3 : Int32) + r75.1)).toInt ≤ 4 * (x2).toInt + 1 from ⟨rfl, by first | assumption | omega, by first | assumption | omega⟩)
                    · have c88 : x1.toInt ≠ (1 : Int) := o_ne h73
                      unfold J_X5_mostTouches_115
                      refine ok_bind (k_J9_max_7cf53 L hN (x0 := (0 : Int32)) (x1 := vx51)  I) (fun r89 hr90 => ?_)
                      obtain ⟨i91, p92, p93, p94⟩ := hr90
                      try rw [i91]
                      have f95 := ti_b r89.1
                      replace p92 : (0 : Int) ≤ (r89.1).toInt := p92
                      replace p94 : ((r89.1).toInt = (0 : Int) ∨ (r89.1).toInt = (vx51).toInt) := p94
                      have f96 := ti_b r89.1
                      first | (have q98 := te_cadd (c := 2) (n := 2) rfl r89.1 (by omega) (by omega); obtain ⟨f99, f100, f101⟩ := q98) | (obtain ⟨q98, f99, f100, f101⟩ := ti_cadd (c := 2) (n := 2) rfl r89.1)
                      exact ok_some (show δ = δ ∧ 1 ≤ (((2 : Int32) + r89.1)).toInt ∧ (((2 : Int32) + r89.1)).toInt ≤ 4 * (x2).toInt + 1 from ⟨rfl, by first | assumption | omega, by first | assumption | omega⟩)
                · have c102 : x1.toInt ≠ (0 : Int) := o_ne h49
                  refine ok_ite (fun h103 => ?_) (fun h103 => ?_)
                  · have c104 : x1.toInt = (1 : Int) := o_eq h103
                    unfold J_X5_mostTouches_94
                    refine ok_biv (fun vx105 e106 => ?_)
                    first | (have q107 := te_addc (c := 1) (n := 1) rfl r37.1 (by omega) (by omega); rw [← e106] at q107; obtain ⟨f108, f109, f110⟩ := q107) | (obtain ⟨q107, f108, f109, f110⟩ : ∃ q : Int, vx105.toInt = r37.1.toInt + (1 : Int) + 4294967296 * q ∧ -2147483648 ≤ vx105.toInt ∧ vx105.toInt ≤ 2147483647 := by rw [e106]; exact ti_addc (c := 1) (n := 1) rfl r37.1)
                    unfold J_X5_mostTouches_97
                    refine ok_ite (fun h111 => ?_) (fun h111 => ?_)
                    · have c112 : x1.toInt = (0 : Int) := o_eq h111
                      unfold J_X5_mostTouches_115
                      refine ok_bind (k_J9_max_7cf53 L hN (x0 := (0 : Int32)) (x1 := vx105)  I) (fun r113 hr114 => ?_)
                      obtain ⟨i115, p116, p117, p118⟩ := hr114
                      try rw [i115]
                      have f119 := ti_b r113.1
                      replace p116 : (0 : Int) ≤ (r113.1).toInt := p116
                      replace p118 : ((r113.1).toInt = (0 : Int) ∨ (r113.1).toInt = (vx105).toInt) := p118
                      have f120 := ti_b r113.1
                      first | (have q122 := te_cadd (c := 1) (n := 1) rfl r113.1 (by omega) (by omega); obtain ⟨f123, f124, f125⟩ := q122) | (obtain ⟨q122, f123, f124, f125⟩ := ti_cadd (c := 1) (n := 1) rfl r113.1)
                      exact ok_some (show δ = δ ∧ 1 ≤ (((1 : Int32) + r113.1)).toInt ∧ (((1 : Int32) + r113.1)).toInt ≤ 4 * (x2).toInt + 1 from ⟨rfl, by first | assumption | omega, by first | assumption | omega⟩)
                    · have c126 : x1.toInt ≠ (0 : Int) := o_ne h111
                      refine ok_ite (fun h127 => ?_) (fun h127 => ?_)
                      · have c128 : x1.toInt = (1 : Int) := o_eq h127
                        unfold J_X5_mostTouches_115
                        refine ok_bind (k_J9_max_7cf53 L hN (x0 := (0 : Int32)) (x1 := vx105)  I) (fun r129 hr130 => ?_)
                        obtain ⟨i131, p132, p133, p134⟩ := hr130
                        try rw [i131]
                        have f135 := ti_b r129.1
                        replace p132 : (0 : Int) ≤ (r129.1).toInt := p132
                        replace p134 : ((r129.1).toInt = (0 : Int) ∨ (r129.1).toInt = (vx105).toInt) := p134
                        have f136 := ti_b r129.1
                        first | (have q138 := te_cadd (c := 3) (n := 3) rfl r129.1 (by omega) (by omega); obtain ⟨f139, f140, f141⟩ := q138) | (obtain ⟨q138, f139, f140, f141⟩ := ti_cadd (c := 3) (n := 3) rfl r129.1)
                        exact ok_some (show δ = δ ∧ 1 ≤ (((3 : Int32) + r129.1)).toInt ∧ (((3 : Int32) + r129.1)).toInt ≤ 4 * (x2).toInt + 1 from ⟨rfl, by first | assumption | omega, by first | assumption | omega⟩)
                      · have c142 : x1.toInt ≠ (1 : Int) := o_ne h127
                        unfold J_X5_mostTouches_115
                        refine ok_bind (k_J9_max_7cf53 L hN (x0 := (0 : Int32)) (x1 := vx105)  I) (fun r143 hr144 => ?_)
                        obtain ⟨i145, p146, p147, p148⟩ := hr144
                        try rw [i145]
                        have f149 := ti_b r143.1
                        replace p146 : (0 : Int) ≤ (r143.1).toInt := p146
                        replace p148 : ((r143.1).toInt = (0 : Int) ∨ (r143.1).toInt = (vx105).toInt) := p148
                        have f150 := ti_b r143.1
                        first | (have q152 := te_cadd (c := 2) (n := 2) rfl r143.1 (by omega) (by omega); obtain ⟨f153, f154, f155⟩ := q152) | (obtain ⟨q152, f153, f154, f155⟩ := ti_cadd (c := 2) (n := 2) rfl r143.1)
                        exact ok_some (show δ = δ ∧ 1 ≤ (((2 : Int32) + r143.1)).toInt ∧ (((2 : Int32) + r143.1)).toInt ≤ 4 * (x2).toInt + 1 from ⟨rfl, by first | assumption | omega, by first | assumption | omega⟩)
                  · have c156 : x1.toInt ≠ (1 : Int) := o_ne h103
                    refine ok_ite (fun h157 => ?_) (fun h157 => ?_)
                    · have c158 : vx2.toInt ≤ (1 : Int) := o_le h157
                      unfold J_X5_mostTouches_97
                      refine ok_ite (fun h159 => ?_) (fun h159 => ?_)
                      · have c160 : x1.toInt = (0 : Int) := o_eq h159
                        unfold J_X5_mostTouches_115
                        refine ok_bind (k_J9_max_7cf53 L hN (x0 := (0 : Int32)) (x1 := r37.1)  I) (fun r161 hr162 => ?_)
                        obtain ⟨i163, p164, p165, p166⟩ := hr162
                        try rw [i163]
                        have f167 := ti_b r161.1
                        replace p164 : (0 : Int) ≤ (r161.1).toInt := p164
                        replace p166 : ((r161.1).toInt = (0 : Int) ∨ (r161.1).toInt = (r37.1).toInt) := p166
                        have f168 := ti_b r161.1
                        first | (have q170 := te_cadd (c := 1) (n := 1) rfl r161.1 (by omega) (by omega); obtain ⟨f171, f172, f173⟩ := q170) | (obtain ⟨q170, f171, f172, f173⟩ := ti_cadd (c := 1) (n := 1) rfl r161.1)
                        exact ok_some (show δ = δ ∧ 1 ≤ (((1 : Int32) + r161.1)).toInt ∧ (((1 : Int32) + r161.1)).toInt ≤ 4 * (x2).toInt + 1 from ⟨rfl, by first | assumption | omega, by first | assumption | omega⟩)
                      · have c174 : x1.toInt ≠ (0 : Int) := o_ne h159
                        refine ok_ite (fun h175 => ?_) (fun h175 => ?_)
                        · have c176 : x1.toInt = (1 : Int) := o_eq h175
                          unfold J_X5_mostTouches_115
                          refine ok_bind (k_J9_max_7cf53 L hN (x0 := (0 : Int32)) (x1 := r37.1)  I) (fun r177 hr178 => ?_)
                          obtain ⟨i179, p180, p181, p182⟩ := hr178
                          try rw [i179]
                          have f183 := ti_b r177.1
                          replace p180 : (0 : Int) ≤ (r177.1).toInt := p180
                          replace p182 : ((r177.1).toInt = (0 : Int) ∨ (r177.1).toInt = (r37.1).toInt) := p182
                          have f184 := ti_b r177.1
                          first | (have q186 := te_cadd (c := 3) (n := 3) rfl r177.1 (by omega) (by omega); obtain ⟨f187, f188, f189⟩ := q186) | (obtain ⟨q186, f187, f188, f189⟩ := ti_cadd (c := 3) (n := 3) rfl r177.1)
                          exact ok_some (show δ = δ ∧ 1 ≤ (((3 : Int32) + r177.1)).toInt ∧ (((3 : Int32) + r177.1)).toInt ≤ 4 * (x2).toInt + 1 from ⟨rfl, by first | assumption | omega, by first | assumption | omega⟩)
                        · have c190 : x1.toInt ≠ (1 : Int) := o_ne h175
                          unfold J_X5_mostTouches_115
                          refine ok_bind (k_J9_max_7cf53 L hN (x0 := (0 : Int32)) (x1 := r37.1)  I) (fun r191 hr192 => ?_)
                          obtain ⟨i193, p194, p195, p196⟩ := hr192
                          try rw [i193]
                          have f197 := ti_b r191.1
                          replace p194 : (0 : Int) ≤ (r191.1).toInt := p194
                          replace p196 : ((r191.1).toInt = (0 : Int) ∨ (r191.1).toInt = (r37.1).toInt) := p196
                          have f198 := ti_b r191.1
                          first | (have q200 := te_cadd (c := 2) (n := 2) rfl r191.1 (by omega) (by omega); obtain ⟨f201, f202, f203⟩ := q200) | (obtain ⟨q200, f201, f202, f203⟩ := ti_cadd (c := 2) (n := 2) rfl r191.1)
                          exact ok_some (show δ = δ ∧ 1 ≤ (((2 : Int32) + r191.1)).toInt ∧ (((2 : Int32) + r191.1)).toInt ≤ 4 * (x2).toInt + 1 from ⟨rfl, by first | assumption | omega, by first | assumption | omega⟩)
                    · have c204 : (1 : Int) < vx2.toInt := o_nle h157
                      unfold J_X5_mostTouches_94
                      refine ok_biv (fun vx205 e206 => ?_)
                      first | (have q207 := te_addc (c := 1) (n := 1) rfl r37.1 (by omega) (by omega); rw [← e206] at q207; obtain ⟨f208, f209, f210⟩ := q207) | (obtain ⟨q207, f208, f209, f210⟩ : ∃ q : Int, vx205.toInt = r37.1.toInt + (1 : Int) + 4294967296 * q ∧ -2147483648 ≤ vx205.toInt ∧ vx205.toInt ≤ 2147483647 := by rw [e206]; exact ti_addc (c := 1) (n := 1) rfl r37.1)
                      unfold J_X5_mostTouches_97
                      refine ok_ite (fun h211 => ?_) (fun h211 => ?_)
                      · have c212 : x1.toInt = (0 : Int) := o_eq h211
                        unfold J_X5_mostTouches_115
                        refine ok_bind (k_J9_max_7cf53 L hN (x0 := (0 : Int32)) (x1 := vx205)  I) (fun r213 hr214 => ?_)
                        obtain ⟨i215, p216, p217, p218⟩ := hr214
                        try rw [i215]
                        have f219 := ti_b r213.1
                        replace p216 : (0 : Int) ≤ (r213.1).toInt := p216
                        replace p218 : ((r213.1).toInt = (0 : Int) ∨ (r213.1).toInt = (vx205).toInt) := p218
                        have f220 := ti_b r213.1
                        first | (have q222 := te_cadd (c := 1) (n := 1) rfl r213.1 (by omega) (by omega); obtain ⟨f223, f224, f225⟩ := q222) | (obtain ⟨q222, f223, f224, f225⟩ := ti_cadd (c := 1) (n := 1) rfl r213.1)
                        exact ok_some (show δ = δ ∧ 1 ≤ (((1 : Int32) + r213.1)).toInt ∧ (((1 : Int32) + r213.1)).toInt ≤ 4 * (x2).toInt + 1 from ⟨rfl, by first | assumption | omega, by first | assumption | omega⟩)
                      · have c226 : x1.toInt ≠ (0 : Int) := o_ne h211
                        refine ok_ite (fun h227 => ?_) (fun h227 => ?_)
                        · have c228 : x1.toInt = (1 : Int) := o_eq h227
                          unfold J_X5_mostTouches_115
                          refine ok_bind (k_J9_max_7cf53 L hN (x0 := (0 : Int32)) (x1 := vx205)  I) (fun r229 hr230 => ?_)
                          obtain ⟨i231, p232, p233, p234⟩ := hr230
                          try rw [i231]
                          have f235 := ti_b r229.1
                          replace p232 : (0 : Int) ≤ (r229.1).toInt := p232
                          replace p234 : ((r229.1).toInt = (0 : Int) ∨ (r229.1).toInt = (vx205).toInt) := p234
                          have f236 := ti_b r229.1
                          first | (have q238 := te_cadd (c := 3) (n := 3) rfl r229.1 (by omega) (by omega); obtain ⟨f239, f240, f241⟩ := q238) | (obtain ⟨q238, f239, f240, f241⟩ := ti_cadd (c := 3) (n := 3) rfl r229.1)
                          exact ok_some (show δ = δ ∧ 1 ≤ (((3 : Int32) + r229.1)).toInt ∧ (((3 : Int32) + r229.1)).toInt ≤ 4 * (x2).toInt + 1 from ⟨rfl, by first | assumption | omega, by first | assumption | omega⟩)
                        · have c242 : x1.toInt ≠ (1 : Int) := o_ne h227
                          unfold J_X5_mostTouches_115
                          refine ok_bind (k_J9_max_7cf53 L hN (x0 := (0 : Int32)) (x1 := vx205)  I) (fun r243 hr244 => ?_)
                          obtain ⟨i245, p246, p247, p248⟩ := hr244
                          try rw [i245]
                          have f249 := ti_b r243.1
                          replace p246 : (0 : Int) ≤ (r243.1).toInt := p246
                          replace p248 : ((r243.1).toInt = (0 : Int) ∨ (r243.1).toInt = (vx205).toInt) := p248
                          have f250 := ti_b r243.1
                          first | (have q252 := te_cadd (c := 2) (n := 2) rfl r243.1 (by omega) (by omega); obtain ⟨f253, f254, f255⟩ := q252) | (obtain ⟨q252, f253, f254, f255⟩ := ti_cadd (c := 2) (n := 2) rfl r243.1)
                          exact ok_some (show δ = δ ∧ 1 ≤ (((2 : Int32) + r243.1)).toInt ∧ (((2 : Int32) + r243.1)).toInt ≤ 4 * (x2).toInt + 1 from ⟨rfl, by first | assumption | omega, by first | assumption | omega⟩)
            · have c256 : vx2.toInt ≠ (0 : Int) := o_ne h27
              refine ok_bind (ih a0 x1 r21.1 vx2 δ k_a0 (show 0 ≤ (r21.1).toInt by first | assumption | omega) (show (r21.1).toInt ≤ 16 by first | assumption | omega) (show (r21.1).toInt < _ by first | assumption | omega) I) (fun r257 hr258 => ?_)
              obtain ⟨i259, p260, p261⟩ := hr258
              try rw [i259]
              have f262 := ti_b r257.1
              have f263 := ti_b r257.1
              unfold J_X5_mostTouches_54
              refine ok_ite (fun h264 => ?_) (fun h264 => ?_)
              · have c265 : x1.toInt = (2 : Int) := o_eq h264
                first | (have q267 := te_cadd (c := 1) (n := 1) rfl r257.1 (by omega) (by omega); obtain ⟨f268, f269, f270⟩ := q267) | (obtain ⟨q267, f268, f269, f270⟩ := ti_cadd (c := 1) (n := 1) rfl r257.1)
                exact ok_some (show δ = δ ∧ 1 ≤ (((1 : Int32) + r257.1)).toInt ∧ (((1 : Int32) + r257.1)).toInt ≤ 4 * (x2).toInt + 1 from ⟨rfl, by first | assumption | omega, by first | assumption | omega⟩)
              · have c271 : x1.toInt ≠ (2 : Int) := o_ne h264
                first | (have q275 := te_sub x2 r21.1 (by omega) (by omega); obtain ⟨f276, f277, f278⟩ := q275) | (obtain ⟨q275, f276, f277, f278⟩ := ti_sub x2 r21.1)
                refine ok_bind (ih a0 x1 (x2 - r21.1) vx2 δ k_a0 (show 0 ≤ ((x2 - r21.1)).toInt by first | assumption | omega) (show ((x2 - r21.1)).toInt ≤ 16 by first | assumption | omega) (show ((x2 - r21.1)).toInt < _ by first | assumption | omega) I) (fun r272 hr273 => ?_)
                obtain ⟨i279, p280, p281⟩ := hr273
                try rw [i279]
                have f282 := ti_b r272.1
                have f283 := ti_b r272.1
                refine ok_ite (fun h284 => ?_) (fun h284 => ?_)
                · have c285 : x1.toInt = (0 : Int) := o_eq h284
                  unfold J_X5_mostTouches_94
                  refine ok_biv (fun vx286 e287 => ?_)
                  first | (have q288 := te_addc (c := 1) (n := 1) rfl r272.1 (by omega) (by omega); rw [← e287] at q288; obtain ⟨f289, f290, f291⟩ := q288) | (obtain ⟨q288, f289, f290, f291⟩ : ∃ q : Int, vx286.toInt = r272.1.toInt + (1 : Int) + 4294967296 * q ∧ -2147483648 ≤ vx286.toInt ∧ vx286.toInt ≤ 2147483647 := by rw [e287]; exact ti_addc (c := 1) (n := 1) rfl r272.1)
                  unfold J_X5_mostTouches_97
                  refine ok_ite (fun h292 => ?_) (fun h292 => ?_)
                  · have c293 : x1.toInt = (0 : Int) := o_eq h292
                    unfold J_X5_mostTouches_115
                    refine ok_bind (k_J9_max_7cf53 L hN (x0 := r257.1) (x1 := vx286)  I) (fun r294 hr295 => ?_)
                    obtain ⟨i296, p297, p298, p299⟩ := hr295
                    try rw [i296]
                    have f300 := ti_b r294.1
                    have f301 := ti_b r294.1
                    first | (have q303 := te_cadd (c := 1) (n := 1) rfl r294.1 (by omega) (by omega); obtain ⟨f304, f305, f306⟩ := q303) | (obtain ⟨q303, f304, f305, f306⟩ := ti_cadd (c := 1) (n := 1) rfl r294.1)
                    exact ok_some (show δ = δ ∧ 1 ≤ (((1 : Int32) + r294.1)).toInt ∧ (((1 : Int32) + r294.1)).toInt ≤ 4 * (x2).toInt + 1 from ⟨rfl, by first | assumption | omega, by first | assumption | omega⟩)
                  · have c307 : x1.toInt ≠ (0 : Int) := o_ne h292
                    refine ok_ite (fun h308 => ?_) (fun h308 => ?_)
                    · have c309 : x1.toInt = (1 : Int) := o_eq h308
                      unfold J_X5_mostTouches_115
                      refine ok_bind (k_J9_max_7cf53 L hN (x0 := r257.1) (x1 := vx286)  I) (fun r310 hr311 => ?_)
                      obtain ⟨i312, p313, p314, p315⟩ := hr311
                      try rw [i312]
                      have f316 := ti_b r310.1
                      have f317 := ti_b r310.1
                      first | (have q319 := te_cadd (c := 3) (n := 3) rfl r310.1 (by omega) (by omega); obtain ⟨f320, f321, f322⟩ := q319) | (obtain ⟨q319, f320, f321, f322⟩ := ti_cadd (c := 3) (n := 3) rfl r310.1)
                      exact ok_some (show δ = δ ∧ 1 ≤ (((3 : Int32) + r310.1)).toInt ∧ (((3 : Int32) + r310.1)).toInt ≤ 4 * (x2).toInt + 1 from ⟨rfl, by first | assumption | omega, by first | assumption | omega⟩)
                    · have c323 : x1.toInt ≠ (1 : Int) := o_ne h308
                      unfold J_X5_mostTouches_115
                      refine ok_bind (k_J9_max_7cf53 L hN (x0 := r257.1) (x1 := vx286)  I) (fun r324 hr325 => ?_)
                      obtain ⟨i326, p327, p328, p329⟩ := hr325
                      try rw [i326]
                      have f330 := ti_b r324.1
                      have f331 := ti_b r324.1
                      first | (have q333 := te_cadd (c := 2) (n := 2) rfl r324.1 (by omega) (by omega); obtain ⟨f334, f335, f336⟩ := q333) | (obtain ⟨q333, f334, f335, f336⟩ := ti_cadd (c := 2) (n := 2) rfl r324.1)
                      exact ok_some (show δ = δ ∧ 1 ≤ (((2 : Int32) + r324.1)).toInt ∧ (((2 : Int32) + r324.1)).toInt ≤ 4 * (x2).toInt + 1 from ⟨rfl, by first | assumption | omega, by first | assumption | omega⟩)
                · have c337 : x1.toInt ≠ (0 : Int) := o_ne h284
                  refine ok_ite (fun h338 => ?_) (fun h338 => ?_)
                  · have c339 : x1.toInt = (1 : Int) := o_eq h338
                    unfold J_X5_mostTouches_94
                    refine ok_biv (fun vx340 e341 => ?_)
                    first | (have q342 := te_addc (c := 1) (n := 1) rfl r272.1 (by omega) (by omega); rw [← e341] at q342; obtain ⟨f343, f344, f345⟩ := q342) | (obtain ⟨q342, f343, f344, f345⟩ : ∃ q : Int, vx340.toInt = r272.1.toInt + (1 : Int) + 4294967296 * q ∧ -2147483648 ≤ vx340.toInt ∧ vx340.toInt ≤ 2147483647 := by rw [e341]; exact ti_addc (c := 1) (n := 1) rfl r272.1)
                    unfold J_X5_mostTouches_97
                    refine ok_ite (fun h346 => ?_) (fun h346 => ?_)
                    · have c347 : x1.toInt = (0 : Int) := o_eq h346
                      unfold J_X5_mostTouches_115
                      refine ok_bind (k_J9_max_7cf53 L hN (x0 := r257.1) (x1 := vx340)  I) (fun r348 hr349 => ?_)
                      obtain ⟨i350, p351, p352, p353⟩ := hr349
                      try rw [i350]
                      have f354 := ti_b r348.1
                      have f355 := ti_b r348.1
                      first | (have q357 := te_cadd (c := 1) (n := 1) rfl r348.1 (by omega) (by omega); obtain ⟨f358, f359, f360⟩ := q357) | (obtain ⟨q357, f358, f359, f360⟩ := ti_cadd (c := 1) (n := 1) rfl r348.1)
                      exact ok_some (show δ = δ ∧ 1 ≤ (((1 : Int32) + r348.1)).toInt ∧ (((1 : Int32) + r348.1)).toInt ≤ 4 * (x2).toInt + 1 from ⟨rfl, by first | assumption | omega, by first | assumption | omega⟩)
                    · have c361 : x1.toInt ≠ (0 : Int) := o_ne h346
                      refine ok_ite (fun h362 => ?_) (fun h362 => ?_)
                      · have c363 : x1.toInt = (1 : Int) := o_eq h362
                        unfold J_X5_mostTouches_115
                        refine ok_bind (k_J9_max_7cf53 L hN (x0 := r257.1) (x1 := vx340)  I) (fun r364 hr365 => ?_)
                        obtain ⟨i366, p367, p368, p369⟩ := hr365
                        try rw [i366]
                        have f370 := ti_b r364.1
                        have f371 := ti_b r364.1
                        first | (have q373 := te_cadd (c := 3) (n := 3) rfl r364.1 (by omega) (by omega); obtain ⟨f374, f375, f376⟩ := q373) | (obtain ⟨q373, f374, f375, f376⟩ := ti_cadd (c := 3) (n := 3) rfl r364.1)
                        exact ok_some (show δ = δ ∧ 1 ≤ (((3 : Int32) + r364.1)).toInt ∧ (((3 : Int32) + r364.1)).toInt ≤ 4 * (x2).toInt + 1 from ⟨rfl, by first | assumption | omega, by first | assumption | omega⟩)
                      · have c377 : x1.toInt ≠ (1 : Int) := o_ne h362
                        unfold J_X5_mostTouches_115
                        refine ok_bind (k_J9_max_7cf53 L hN (x0 := r257.1) (x1 := vx340)  I) (fun r378 hr379 => ?_)
                        obtain ⟨i380, p381, p382, p383⟩ := hr379
                        try rw [i380]
                        have f384 := ti_b r378.1
                        have f385 := ti_b r378.1
                        first | (have q387 := te_cadd (c := 2) (n := 2) rfl r378.1 (by omega) (by omega); obtain ⟨f388, f389, f390⟩ := q387) | (obtain ⟨q387, f388, f389, f390⟩ := ti_cadd (c := 2) (n := 2) rfl r378.1)
                        exact ok_some (show δ = δ ∧ 1 ≤ (((2 : Int32) + r378.1)).toInt ∧ (((2 : Int32) + r378.1)).toInt ≤ 4 * (x2).toInt + 1 from ⟨rfl, by first | assumption | omega, by first | assumption | omega⟩)
                  · have c391 : x1.toInt ≠ (1 : Int) := o_ne h338
                    refine ok_ite (fun h392 => ?_) (fun h392 => ?_)
                    · have c393 : vx2.toInt ≤ (1 : Int) := o_le h392
                      unfold J_X5_mostTouches_97
                      refine ok_ite (fun h394 => ?_) (fun h394 => ?_)
                      · have c395 : x1.toInt = (0 : Int) := o_eq h394
                        unfold J_X5_mostTouches_115
                        refine ok_bind (k_J9_max_7cf53 L hN (x0 := r257.1) (x1 := r272.1)  I) (fun r396 hr397 => ?_)
                        obtain ⟨i398, p399, p400, p401⟩ := hr397
                        try rw [i398]
                        have f402 := ti_b r396.1
                        have f403 := ti_b r396.1
                        first | (have q405 := te_cadd (c := 1) (n := 1) rfl r396.1 (by omega) (by omega); obtain ⟨f406, f407, f408⟩ := q405) | (obtain ⟨q405, f406, f407, f408⟩ := ti_cadd (c := 1) (n := 1) rfl r396.1)
                        exact ok_some (show δ = δ ∧ 1 ≤ (((1 : Int32) + r396.1)).toInt ∧ (((1 : Int32) + r396.1)).toInt ≤ 4 * (x2).toInt + 1 from ⟨rfl, by first | assumption | omega, by first | assumption | omega⟩)
                      · have c409 : x1.toInt ≠ (0 : Int) := o_ne h394
                        refine ok_ite (fun h410 => ?_) (fun h410 => ?_)
                        · have c411 : x1.toInt = (1 : Int) := o_eq h410
                          unfold J_X5_mostTouches_115
                          refine ok_bind (k_J9_max_7cf53 L hN (x0 := r257.1) (x1 := r272.1)  I) (fun r412 hr413 => ?_)
                          obtain ⟨i414, p415, p416, p417⟩ := hr413
                          try rw [i414]
                          have f418 := ti_b r412.1
                          have f419 := ti_b r412.1
                          first | (have q421 := te_cadd (c := 3) (n := 3) rfl r412.1 (by omega) (by omega); obtain ⟨f422, f423, f424⟩ := q421) | (obtain ⟨q421, f422, f423, f424⟩ := ti_cadd (c := 3) (n := 3) rfl r412.1)
                          exact ok_some (show δ = δ ∧ 1 ≤ (((3 : Int32) + r412.1)).toInt ∧ (((3 : Int32) + r412.1)).toInt ≤ 4 * (x2).toInt + 1 from ⟨rfl, by first | assumption | omega, by first | assumption | omega⟩)
                        · have c425 : x1.toInt ≠ (1 : Int) := o_ne h410
                          unfold J_X5_mostTouches_115
                          refine ok_bind (k_J9_max_7cf53 L hN (x0 := r257.1) (x1 := r272.1)  I) (fun r426 hr427 => ?_)
                          obtain ⟨i428, p429, p430, p431⟩ := hr427
                          try rw [i428]
                          have f432 := ti_b r426.1
                          have f433 := ti_b r426.1
                          first | (have q435 := te_cadd (c := 2) (n := 2) rfl r426.1 (by omega) (by omega); obtain ⟨f436, f437, f438⟩ := q435) | (obtain ⟨q435, f436, f437, f438⟩ := ti_cadd (c := 2) (n := 2) rfl r426.1)
                          exact ok_some (show δ = δ ∧ 1 ≤ (((2 : Int32) + r426.1)).toInt ∧ (((2 : Int32) + r426.1)).toInt ≤ 4 * (x2).toInt + 1 from ⟨rfl, by first | assumption | omega, by first | assumption | omega⟩)
                    · have c439 : (1 : Int) < vx2.toInt := o_nle h392
                      unfold J_X5_mostTouches_94
                      refine ok_biv (fun vx440 e441 => ?_)
                      first | (have q442 := te_addc (c := 1) (n := 1) rfl r272.1 (by omega) (by omega); rw [← e441] at q442; obtain ⟨f443, f444, f445⟩ := q442) | (obtain ⟨q442, f443, f444, f445⟩ : ∃ q : Int, vx440.toInt = r272.1.toInt + (1 : Int) + 4294967296 * q ∧ -2147483648 ≤ vx440.toInt ∧ vx440.toInt ≤ 2147483647 := by rw [e441]; exact ti_addc (c := 1) (n := 1) rfl r272.1)
                      unfold J_X5_mostTouches_97
                      refine ok_ite (fun h446 => ?_) (fun h446 => ?_)
                      · have c447 : x1.toInt = (0 : Int) := o_eq h446
                        unfold J_X5_mostTouches_115
                        refine ok_bind (k_J9_max_7cf53 L hN (x0 := r257.1) (x1 := vx440)  I) (fun r448 hr449 => ?_)
                        obtain ⟨i450, p451, p452, p453⟩ := hr449
                        try rw [i450]
                        have f454 := ti_b r448.1
                        have f455 := ti_b r448.1
                        first | (have q457 := te_cadd (c := 1) (n := 1) rfl r448.1 (by omega) (by omega); obtain ⟨f458, f459, f460⟩ := q457) | (obtain ⟨q457, f458, f459, f460⟩ := ti_cadd (c := 1) (n := 1) rfl r448.1)
                        exact ok_some (show δ = δ ∧ 1 ≤ (((1 : Int32) + r448.1)).toInt ∧ (((1 : Int32) + r448.1)).toInt ≤ 4 * (x2).toInt + 1 from ⟨rfl, by first | assumption | omega, by first | assumption | omega⟩)
                      · have c461 : x1.toInt ≠ (0 : Int) := o_ne h446
                        refine ok_ite (fun h462 => ?_) (fun h462 => ?_)
                        · have c463 : x1.toInt = (1 : Int) := o_eq h462
                          unfold J_X5_mostTouches_115
                          refine ok_bind (k_J9_max_7cf53 L hN (x0 := r257.1) (x1 := vx440)  I) (fun r464 hr465 => ?_)
                          obtain ⟨i466, p467, p468, p469⟩ := hr465
                          try rw [i466]
                          have f470 := ti_b r464.1
                          have f471 := ti_b r464.1
                          first | (have q473 := te_cadd (c := 3) (n := 3) rfl r464.1 (by omega) (by omega); obtain ⟨f474, f475, f476⟩ := q473) | (obtain ⟨q473, f474, f475, f476⟩ := ti_cadd (c := 3) (n := 3) rfl r464.1)
                          exact ok_some (show δ = δ ∧ 1 ≤ (((3 : Int32) + r464.1)).toInt ∧ (((3 : Int32) + r464.1)).toInt ≤ 4 * (x2).toInt + 1 from ⟨rfl, by first | assumption | omega, by first | assumption | omega⟩)
                        · have c477 : x1.toInt ≠ (1 : Int) := o_ne h462
                          unfold J_X5_mostTouches_115
                          refine ok_bind (k_J9_max_7cf53 L hN (x0 := r257.1) (x1 := vx440)  I) (fun r478 hr479 => ?_)
                          obtain ⟨i480, p481, p482, p483⟩ := hr479
                          try rw [i480]
                          have f484 := ti_b r478.1
                          have f485 := ti_b r478.1
                          first | (have q487 := te_cadd (c := 2) (n := 2) rfl r478.1 (by omega) (by omega); obtain ⟨f488, f489, f490⟩ := q487) | (obtain ⟨q487, f488, f489, f490⟩ := ti_cadd (c := 2) (n := 2) rfl r478.1)
                          exact ok_some (show δ = δ ∧ 1 ≤ (((2 : Int32) + r478.1)).toInt ∧ (((2 : Int32) + r478.1)).toInt ≤ 4 * (x2).toInt + 1 from ⟨rfl, by first | assumption | omega, by first | assumption | omega⟩)
          · have c491 : x1.toInt ≠ (0 : Int) := o_ne h19
            unfold J_X5_mostTouches_27
            exact ok_some (show δ = δ ∧ 1 ≤ (1 : Int) ∧ (1 : Int) ≤ 4 * (x2).toInt + 1 from ⟨rfl, by first | assumption | omega, by first | assumption | omega⟩)
        · have c492 : vx2.toInt ≠ (0 : Int) := o_ne h16
          unfold J_X5_mostTouches_29
          refine ok_bind (k_X5_lowerBits L hN (a0 := a0) (x1 := x2) k_a0 I) (fun r493 hr494 => ?_)
          obtain ⟨i495, p496⟩ := hr494
          try rw [i495]
          have f497 := ti_b r493.1
          have f498 := ti_b r493.1
          refine ok_ite (fun h499 => ?_) (fun h499 => ?_)
          · have c500 : vx2.toInt = (0 : Int) := o_eq h499
            unfold J_X5_mostTouches_54
            have f501 := ti_b x1
            refine ok_ite (fun h502 => ?_) (fun h502 => ?_)
            · have c503 : x1.toInt = (2 : Int) := o_eq h502
              first | (have q505 := te_cadd (c := 1) (n := 1) rfl (0 : Int32) (by omega) (by omega); obtain ⟨f506, f507, f508⟩ := q505) | (obtain ⟨q505, f506, f507, f508⟩ := ti_cadd (c := 1) (n := 1) rfl (0 : Int32))
              exact ok_some (show δ = δ ∧ 1 ≤ (((1 : Int32) + (0 : Int32))).toInt ∧ (((1 : Int32) + (0 : Int32))).toInt ≤ 4 * (x2).toInt + 1 from ⟨rfl, by first | assumption | omega, by first | assumption | omega⟩)
            · have c509 : x1.toInt ≠ (2 : Int) := o_ne h502
              first | (have q513 := te_sub x2 r493.1 (by omega) (by omega); obtain ⟨f514, f515, f516⟩ := q513) | (obtain ⟨q513, f514, f515, f516⟩ := ti_sub x2 r493.1)
              refine ok_bind (ih a0 x1 (x2 - r493.1) vx2 δ k_a0 (show 0 ≤ ((x2 - r493.1)).toInt by first | assumption | omega) (show ((x2 - r493.1)).toInt ≤ 16 by first | assumption | omega) (show ((x2 - r493.1)).toInt < _ by first | assumption | omega) I) (fun r510 hr511 => ?_)
              obtain ⟨i517, p518, p519⟩ := hr511
              try rw [i517]
              have f520 := ti_b r510.1
              have f521 := ti_b r510.1
              refine ok_ite (fun h522 => ?_) (fun h522 => ?_)
              · have c523 : x1.toInt = (0 : Int) := o_eq h522
                unfold J_X5_mostTouches_94
                refine ok_biv (fun vx524 e525 => ?_)
                first | (have q526 := te_addc (c := 1) (n := 1) rfl r510.1 (by omega) (by omega); rw [← e525] at q526; obtain ⟨f527, f528, f529⟩ := q526) | (obtain ⟨q526, f527, f528, f529⟩ : ∃ q : Int, vx524.toInt = r510.1.toInt + (1 : Int) + 4294967296 * q ∧ -2147483648 ≤ vx524.toInt ∧ vx524.toInt ≤ 2147483647 := by rw [e525]; exact ti_addc (c := 1) (n := 1) rfl r510.1)
                unfold J_X5_mostTouches_97
                refine ok_ite (fun h530 => ?_) (fun h530 => ?_)
                · have c531 : x1.toInt = (0 : Int) := o_eq h530
                  unfold J_X5_mostTouches_115
                  refine ok_bind (k_J9_max_7cf53 L hN (x0 := (0 : Int32)) (x1 := vx524)  I) (fun r532 hr533 => ?_)
                  obtain ⟨i534, p535, p536, p537⟩ := hr533
                  try rw [i534]
                  have f538 := ti_b r532.1
                  replace p535 : (0 : Int) ≤ (r532.1).toInt := p535
                  replace p537 : ((r532.1).toInt = (0 : Int) ∨ (r532.1).toInt = (vx524).toInt) := p537
                  have f539 := ti_b r532.1
                  first | (have q541 := te_cadd (c := 1) (n := 1) rfl r532.1 (by omega) (by omega); obtain ⟨f542, f543, f544⟩ := q541) | (obtain ⟨q541, f542, f543, f544⟩ := ti_cadd (c := 1) (n := 1) rfl r532.1)
                  exact ok_some (show δ = δ ∧ 1 ≤ (((1 : Int32) + r532.1)).toInt ∧ (((1 : Int32) + r532.1)).toInt ≤ 4 * (x2).toInt + 1 from ⟨rfl, by first | assumption | omega, by first | assumption | omega⟩)
                · have c545 : x1.toInt ≠ (0 : Int) := o_ne h530
                  refine ok_ite (fun h546 => ?_) (fun h546 => ?_)
                  · have c547 : x1.toInt = (1 : Int) := o_eq h546
                    unfold J_X5_mostTouches_115
                    refine ok_bind (k_J9_max_7cf53 L hN (x0 := (0 : Int32)) (x1 := vx524)  I) (fun r548 hr549 => ?_)
                    obtain ⟨i550, p551, p552, p553⟩ := hr549
                    try rw [i550]
                    have f554 := ti_b r548.1
                    replace p551 : (0 : Int) ≤ (r548.1).toInt := p551
                    replace p553 : ((r548.1).toInt = (0 : Int) ∨ (r548.1).toInt = (vx524).toInt) := p553
                    have f555 := ti_b r548.1
                    first | (have q557 := te_cadd (c := 3) (n := 3) rfl r548.1 (by omega) (by omega); obtain ⟨f558, f559, f560⟩ := q557) | (obtain ⟨q557, f558, f559, f560⟩ := ti_cadd (c := 3) (n := 3) rfl r548.1)
                    exact ok_some (show δ = δ ∧ 1 ≤ (((3 : Int32) + r548.1)).toInt ∧ (((3 : Int32) + r548.1)).toInt ≤ 4 * (x2).toInt + 1 from ⟨rfl, by first | assumption | omega, by first | assumption | omega⟩)
                  · have c561 : x1.toInt ≠ (1 : Int) := o_ne h546
                    unfold J_X5_mostTouches_115
                    refine ok_bind (k_J9_max_7cf53 L hN (x0 := (0 : Int32)) (x1 := vx524)  I) (fun r562 hr563 => ?_)
                    obtain ⟨i564, p565, p566, p567⟩ := hr563
                    try rw [i564]
                    have f568 := ti_b r562.1
                    replace p565 : (0 : Int) ≤ (r562.1).toInt := p565
                    replace p567 : ((r562.1).toInt = (0 : Int) ∨ (r562.1).toInt = (vx524).toInt) := p567
                    have f569 := ti_b r562.1
                    first | (have q571 := te_cadd (c := 2) (n := 2) rfl r562.1 (by omega) (by omega); obtain ⟨f572, f573, f574⟩ := q571) | (obtain ⟨q571, f572, f573, f574⟩ := ti_cadd (c := 2) (n := 2) rfl r562.1)
                    exact ok_some (show δ = δ ∧ 1 ≤ (((2 : Int32) + r562.1)).toInt ∧ (((2 : Int32) + r562.1)).toInt ≤ 4 * (x2).toInt + 1 from ⟨rfl, by first | assumption | omega, by first | assumption | omega⟩)
              · have c575 : x1.toInt ≠ (0 : Int) := o_ne h522
                refine ok_ite (fun h576 => ?_) (fun h576 => ?_)
                · have c577 : x1.toInt = (1 : Int) := o_eq h576
                  unfold J_X5_mostTouches_94
                  refine ok_biv (fun vx578 e579 => ?_)
                  first | (have q580 := te_addc (c := 1) (n := 1) rfl r510.1 (by omega) (by omega); rw [← e579] at q580; obtain ⟨f581, f582, f583⟩ := q580) | (obtain ⟨q580, f581, f582, f583⟩ : ∃ q : Int, vx578.toInt = r510.1.toInt + (1 : Int) + 4294967296 * q ∧ -2147483648 ≤ vx578.toInt ∧ vx578.toInt ≤ 2147483647 := by rw [e579]; exact ti_addc (c := 1) (n := 1) rfl r510.1)
                  unfold J_X5_mostTouches_97
                  refine ok_ite (fun h584 => ?_) (fun h584 => ?_)
                  · have c585 : x1.toInt = (0 : Int) := o_eq h584
                    unfold J_X5_mostTouches_115
                    refine ok_bind (k_J9_max_7cf53 L hN (x0 := (0 : Int32)) (x1 := vx578)  I) (fun r586 hr587 => ?_)
                    obtain ⟨i588, p589, p590, p591⟩ := hr587
                    try rw [i588]
                    have f592 := ti_b r586.1
                    replace p589 : (0 : Int) ≤ (r586.1).toInt := p589
                    replace p591 : ((r586.1).toInt = (0 : Int) ∨ (r586.1).toInt = (vx578).toInt) := p591
                    have f593 := ti_b r586.1
                    first | (have q595 := te_cadd (c := 1) (n := 1) rfl r586.1 (by omega) (by omega); obtain ⟨f596, f597, f598⟩ := q595) | (obtain ⟨q595, f596, f597, f598⟩ := ti_cadd (c := 1) (n := 1) rfl r586.1)
                    exact ok_some (show δ = δ ∧ 1 ≤ (((1 : Int32) + r586.1)).toInt ∧ (((1 : Int32) + r586.1)).toInt ≤ 4 * (x2).toInt + 1 from ⟨rfl, by first | assumption | omega, by first | assumption | omega⟩)
                  · have c599 : x1.toInt ≠ (0 : Int) := o_ne h584
                    refine ok_ite (fun h600 => ?_) (fun h600 => ?_)
                    · have c601 : x1.toInt = (1 : Int) := o_eq h600
                      unfold J_X5_mostTouches_115
                      refine ok_bind (k_J9_max_7cf53 L hN (x0 := (0 : Int32)) (x1 := vx578)  I) (fun r602 hr603 => ?_)
                      obtain ⟨i604, p605, p606, p607⟩ := hr603
                      try rw [i604]
                      have f608 := ti_b r602.1
                      replace p605 : (0 : Int) ≤ (r602.1).toInt := p605
                      replace p607 : ((r602.1).toInt = (0 : Int) ∨ (r602.1).toInt = (vx578).toInt) := p607
                      have f609 := ti_b r602.1
                      first | (have q611 := te_cadd (c := 3) (n := 3) rfl r602.1 (by omega) (by omega); obtain ⟨f612, f613, f614⟩ := q611) | (obtain ⟨q611, f612, f613, f614⟩ := ti_cadd (c := 3) (n := 3) rfl r602.1)
                      exact ok_some (show δ = δ ∧ 1 ≤ (((3 : Int32) + r602.1)).toInt ∧ (((3 : Int32) + r602.1)).toInt ≤ 4 * (x2).toInt + 1 from ⟨rfl, by first | assumption | omega, by first | assumption | omega⟩)
                    · have c615 : x1.toInt ≠ (1 : Int) := o_ne h600
                      unfold J_X5_mostTouches_115
                      refine ok_bind (k_J9_max_7cf53 L hN (x0 := (0 : Int32)) (x1 := vx578)  I) (fun r616 hr617 => ?_)
                      obtain ⟨i618, p619, p620, p621⟩ := hr617
                      try rw [i618]
                      have f622 := ti_b r616.1
                      replace p619 : (0 : Int) ≤ (r616.1).toInt := p619
                      replace p621 : ((r616.1).toInt = (0 : Int) ∨ (r616.1).toInt = (vx578).toInt) := p621
                      have f623 := ti_b r616.1
                      first | (have q625 := te_cadd (c := 2) (n := 2) rfl r616.1 (by omega) (by omega); obtain ⟨f626, f627, f628⟩ := q625) | (obtain ⟨q625, f626, f627, f628⟩ := ti_cadd (c := 2) (n := 2) rfl r616.1)
                      exact ok_some (show δ = δ ∧ 1 ≤ (((2 : Int32) + r616.1)).toInt ∧ (((2 : Int32) + r616.1)).toInt ≤ 4 * (x2).toInt + 1 from ⟨rfl, by first | assumption | omega, by first | assumption | omega⟩)
                · have c629 : x1.toInt ≠ (1 : Int) := o_ne h576
                  refine ok_ite (fun h630 => ?_) (fun h630 => ?_)
                  · have c631 : vx2.toInt ≤ (1 : Int) := o_le h630
                    unfold J_X5_mostTouches_97
                    refine ok_ite (fun h632 => ?_) (fun h632 => ?_)
                    · have c633 : x1.toInt = (0 : Int) := o_eq h632
                      unfold J_X5_mostTouches_115
                      refine ok_bind (k_J9_max_7cf53 L hN (x0 := (0 : Int32)) (x1 := r510.1)  I) (fun r634 hr635 => ?_)
                      obtain ⟨i636, p637, p638, p639⟩ := hr635
                      try rw [i636]
                      have f640 := ti_b r634.1
                      replace p637 : (0 : Int) ≤ (r634.1).toInt := p637
                      replace p639 : ((r634.1).toInt = (0 : Int) ∨ (r634.1).toInt = (r510.1).toInt) := p639
                      have f641 := ti_b r634.1
                      first | (have q643 := te_cadd (c := 1) (n := 1) rfl r634.1 (by omega) (by omega); obtain ⟨f644, f645, f646⟩ := q643) | (obtain ⟨q643, f644, f645, f646⟩ := ti_cadd (c := 1) (n := 1) rfl r634.1)
                      exact ok_some (show δ = δ ∧ 1 ≤ (((1 : Int32) + r634.1)).toInt ∧ (((1 : Int32) + r634.1)).toInt ≤ 4 * (x2).toInt + 1 from ⟨rfl, by first | assumption | omega, by first | assumption | omega⟩)
                    · have c647 : x1.toInt ≠ (0 : Int) := o_ne h632
                      refine ok_ite (fun h648 => ?_) (fun h648 => ?_)
                      · have c649 : x1.toInt = (1 : Int) := o_eq h648
                        unfold J_X5_mostTouches_115
                        refine ok_bind (k_J9_max_7cf53 L hN (x0 := (0 : Int32)) (x1 := r510.1)  I) (fun r650 hr651 => ?_)
                        obtain ⟨i652, p653, p654, p655⟩ := hr651
                        try rw [i652]
                        have f656 := ti_b r650.1
                        replace p653 : (0 : Int) ≤ (r650.1).toInt := p653
                        replace p655 : ((r650.1).toInt = (0 : Int) ∨ (r650.1).toInt = (r510.1).toInt) := p655
                        have f657 := ti_b r650.1
                        first | (have q659 := te_cadd (c := 3) (n := 3) rfl r650.1 (by omega) (by omega); obtain ⟨f660, f661, f662⟩ := q659) | (obtain ⟨q659, f660, f661, f662⟩ := ti_cadd (c := 3) (n := 3) rfl r650.1)
                        exact ok_some (show δ = δ ∧ 1 ≤ (((3 : Int32) + r650.1)).toInt ∧ (((3 : Int32) + r650.1)).toInt ≤ 4 * (x2).toInt + 1 from ⟨rfl, by first | assumption | omega, by first | assumption | omega⟩)
                      · have c663 : x1.toInt ≠ (1 : Int) := o_ne h648
                        unfold J_X5_mostTouches_115
                        refine ok_bind (k_J9_max_7cf53 L hN (x0 := (0 : Int32)) (x1 := r510.1)  I) (fun r664 hr665 => ?_)
                        obtain ⟨i666, p667, p668, p669⟩ := hr665
                        try rw [i666]
                        have f670 := ti_b r664.1
                        replace p667 : (0 : Int) ≤ (r664.1).toInt := p667
                        replace p669 : ((r664.1).toInt = (0 : Int) ∨ (r664.1).toInt = (r510.1).toInt) := p669
                        have f671 := ti_b r664.1
                        first | (have q673 := te_cadd (c := 2) (n := 2) rfl r664.1 (by omega) (by omega); obtain ⟨f674, f675, f676⟩ := q673) | (obtain ⟨q673, f674, f675, f676⟩ := ti_cadd (c := 2) (n := 2) rfl r664.1)
                        exact ok_some (show δ = δ ∧ 1 ≤ (((2 : Int32) + r664.1)).toInt ∧ (((2 : Int32) + r664.1)).toInt ≤ 4 * (x2).toInt + 1 from ⟨rfl, by first | assumption | omega, by first | assumption | omega⟩)
                  · have c677 : (1 : Int) < vx2.toInt := o_nle h630
                    unfold J_X5_mostTouches_94
                    refine ok_biv (fun vx678 e679 => ?_)
                    first | (have q680 := te_addc (c := 1) (n := 1) rfl r510.1 (by omega) (by omega); rw [← e679] at q680; obtain ⟨f681, f682, f683⟩ := q680) | (obtain ⟨q680, f681, f682, f683⟩ : ∃ q : Int, vx678.toInt = r510.1.toInt + (1 : Int) + 4294967296 * q ∧ -2147483648 ≤ vx678.toInt ∧ vx678.toInt ≤ 2147483647 := by rw [e679]; exact ti_addc (c := 1) (n := 1) rfl r510.1)
                    unfold J_X5_mostTouches_97
                    refine ok_ite (fun h684 => ?_) (fun h684 => ?_)
                    · have c685 : x1.toInt = (0 : Int) := o_eq h684
                      unfold J_X5_mostTouches_115
                      refine ok_bind (k_J9_max_7cf53 L hN (x0 := (0 : Int32)) (x1 := vx678)  I) (fun r686 hr687 => ?_)
                      obtain ⟨i688, p689, p690, p691⟩ := hr687
                      try rw [i688]
                      have f692 := ti_b r686.1
                      replace p689 : (0 : Int) ≤ (r686.1).toInt := p689
                      replace p691 : ((r686.1).toInt = (0 : Int) ∨ (r686.1).toInt = (vx678).toInt) := p691
                      have f693 := ti_b r686.1
                      first | (have q695 := te_cadd (c := 1) (n := 1) rfl r686.1 (by omega) (by omega); obtain ⟨f696, f697, f698⟩ := q695) | (obtain ⟨q695, f696, f697, f698⟩ := ti_cadd (c := 1) (n := 1) rfl r686.1)
                      exact ok_some (show δ = δ ∧ 1 ≤ (((1 : Int32) + r686.1)).toInt ∧ (((1 : Int32) + r686.1)).toInt ≤ 4 * (x2).toInt + 1 from ⟨rfl, by first | assumption | omega, by first | assumption | omega⟩)
                    · have c699 : x1.toInt ≠ (0 : Int) := o_ne h684
                      refine ok_ite (fun h700 => ?_) (fun h700 => ?_)
                      · have c701 : x1.toInt = (1 : Int) := o_eq h700
                        unfold J_X5_mostTouches_115
                        refine ok_bind (k_J9_max_7cf53 L hN (x0 := (0 : Int32)) (x1 := vx678)  I) (fun r702 hr703 => ?_)
                        obtain ⟨i704, p705, p706, p707⟩ := hr703
                        try rw [i704]
                        have f708 := ti_b r702.1
                        replace p705 : (0 : Int) ≤ (r702.1).toInt := p705
                        replace p707 : ((r702.1).toInt = (0 : Int) ∨ (r702.1).toInt = (vx678).toInt) := p707
                        have f709 := ti_b r702.1
                        first | (have q711 := te_cadd (c := 3) (n := 3) rfl r702.1 (by omega) (by omega); obtain ⟨f712, f713, f714⟩ := q711) | (obtain ⟨q711, f712, f713, f714⟩ := ti_cadd (c := 3) (n := 3) rfl r702.1)
                        exact ok_some (show δ = δ ∧ 1 ≤ (((3 : Int32) + r702.1)).toInt ∧ (((3 : Int32) + r702.1)).toInt ≤ 4 * (x2).toInt + 1 from ⟨rfl, by first | assumption | omega, by first | assumption | omega⟩)
                      · have c715 : x1.toInt ≠ (1 : Int) := o_ne h700
                        unfold J_X5_mostTouches_115
                        refine ok_bind (k_J9_max_7cf53 L hN (x0 := (0 : Int32)) (x1 := vx678)  I) (fun r716 hr717 => ?_)
                        obtain ⟨i718, p719, p720, p721⟩ := hr717
                        try rw [i718]
                        have f722 := ti_b r716.1
                        replace p719 : (0 : Int) ≤ (r716.1).toInt := p719
                        replace p721 : ((r716.1).toInt = (0 : Int) ∨ (r716.1).toInt = (vx678).toInt) := p721
                        have f723 := ti_b r716.1
                        first | (have q725 := te_cadd (c := 2) (n := 2) rfl r716.1 (by omega) (by omega); obtain ⟨f726, f727, f728⟩ := q725) | (obtain ⟨q725, f726, f727, f728⟩ := ti_cadd (c := 2) (n := 2) rfl r716.1)
                        exact ok_some (show δ = δ ∧ 1 ≤ (((2 : Int32) + r716.1)).toInt ∧ (((2 : Int32) + r716.1)).toInt ≤ 4 * (x2).toInt + 1 from ⟨rfl, by first | assumption | omega, by first | assumption | omega⟩)
          · have c729 : vx2.toInt ≠ (0 : Int) := o_ne h499
            refine ok_bind (ih a0 x1 r493.1 vx2 δ k_a0 (show 0 ≤ (r493.1).toInt by first | assumption | omega) (show (r493.1).toInt ≤ 16 by first | assumption | omega) (show (r493.1).toInt < _ by first | assumption | omega) I) (fun r730 hr731 => ?_)
            obtain ⟨i732, p733, p734⟩ := hr731
            try rw [i732]
            have f735 := ti_b r730.1
            have f736 := ti_b r730.1
            unfold J_X5_mostTouches_54
            have f737 := ti_b x1
            refine ok_ite (fun h738 => ?_) (fun h738 => ?_)
            · have c739 : x1.toInt = (2 : Int) := o_eq h738
              first | (have q741 := te_cadd (c := 1) (n := 1) rfl r730.1 (by omega) (by omega); obtain ⟨f742, f743, f744⟩ := q741) | (obtain ⟨q741, f742, f743, f744⟩ := ti_cadd (c := 1) (n := 1) rfl r730.1)
              exact ok_some (show δ = δ ∧ 1 ≤ (((1 : Int32) + r730.1)).toInt ∧ (((1 : Int32) + r730.1)).toInt ≤ 4 * (x2).toInt + 1 from ⟨rfl, by first | assumption | omega, by first | assumption | omega⟩)
            · have c745 : x1.toInt ≠ (2 : Int) := o_ne h738
              first | (have q749 := te_sub x2 r493.1 (by omega) (by omega); obtain ⟨f750, f751, f752⟩ := q749) | (obtain ⟨q749, f750, f751, f752⟩ := ti_sub x2 r493.1)
              refine ok_bind (ih a0 x1 (x2 - r493.1) vx2 δ k_a0 (show 0 ≤ ((x2 - r493.1)).toInt by first | assumption | omega) (show ((x2 - r493.1)).toInt ≤ 16 by first | assumption | omega) (show ((x2 - r493.1)).toInt < _ by first | assumption | omega) I) (fun r746 hr747 => ?_)
              obtain ⟨i753, p754, p755⟩ := hr747
              try rw [i753]
              have f756 := ti_b r746.1
              have f757 := ti_b r746.1
              refine ok_ite (fun h758 => ?_) (fun h758 => ?_)
              · have c759 : x1.toInt = (0 : Int) := o_eq h758
                unfold J_X5_mostTouches_94
                refine ok_biv (fun vx760 e761 => ?_)
                first | (have q762 := te_addc (c := 1) (n := 1) rfl r746.1 (by omega) (by omega); rw [← e761] at q762; obtain ⟨f763, f764, f765⟩ := q762) | (obtain ⟨q762, f763, f764, f765⟩ : ∃ q : Int, vx760.toInt = r746.1.toInt + (1 : Int) + 4294967296 * q ∧ -2147483648 ≤ vx760.toInt ∧ vx760.toInt ≤ 2147483647 := by rw [e761]; exact ti_addc (c := 1) (n := 1) rfl r746.1)
                unfold J_X5_mostTouches_97
                refine ok_ite (fun h766 => ?_) (fun h766 => ?_)
                · have c767 : x1.toInt = (0 : Int) := o_eq h766
                  unfold J_X5_mostTouches_115
                  refine ok_bind (k_J9_max_7cf53 L hN (x0 := r730.1) (x1 := vx760)  I) (fun r768 hr769 => ?_)
                  obtain ⟨i770, p771, p772, p773⟩ := hr769
                  try rw [i770]
                  have f774 := ti_b r768.1
                  have f775 := ti_b r768.1
                  first | (have q777 := te_cadd (c := 1) (n := 1) rfl r768.1 (by omega) (by omega); obtain ⟨f778, f779, f780⟩ := q777) | (obtain ⟨q777, f778, f779, f780⟩ := ti_cadd (c := 1) (n := 1) rfl r768.1)
                  exact ok_some (show δ = δ ∧ 1 ≤ (((1 : Int32) + r768.1)).toInt ∧ (((1 : Int32) + r768.1)).toInt ≤ 4 * (x2).toInt + 1 from ⟨rfl, by first | assumption | omega, by first | assumption | omega⟩)
                · have c781 : x1.toInt ≠ (0 : Int) := o_ne h766
                  refine ok_ite (fun h782 => ?_) (fun h782 => ?_)
                  · have c783 : x1.toInt = (1 : Int) := o_eq h782
                    unfold J_X5_mostTouches_115
                    refine ok_bind (k_J9_max_7cf53 L hN (x0 := r730.1) (x1 := vx760)  I) (fun r784 hr785 => ?_)
                    obtain ⟨i786, p787, p788, p789⟩ := hr785
                    try rw [i786]
                    have f790 := ti_b r784.1
                    have f791 := ti_b r784.1
                    first | (have q793 := te_cadd (c := 3) (n := 3) rfl r784.1 (by omega) (by omega); obtain ⟨f794, f795, f796⟩ := q793) | (obtain ⟨q793, f794, f795, f796⟩ := ti_cadd (c := 3) (n := 3) rfl r784.1)
                    exact ok_some (show δ = δ ∧ 1 ≤ (((3 : Int32) + r784.1)).toInt ∧ (((3 : Int32) + r784.1)).toInt ≤ 4 * (x2).toInt + 1 from ⟨rfl, by first | assumption | omega, by first | assumption | omega⟩)
                  · have c797 : x1.toInt ≠ (1 : Int) := o_ne h782
                    unfold J_X5_mostTouches_115
                    refine ok_bind (k_J9_max_7cf53 L hN (x0 := r730.1) (x1 := vx760)  I) (fun r798 hr799 => ?_)
                    obtain ⟨i800, p801, p802, p803⟩ := hr799
                    try rw [i800]
                    have f804 := ti_b r798.1
                    have f805 := ti_b r798.1
                    first | (have q807 := te_cadd (c := 2) (n := 2) rfl r798.1 (by omega) (by omega); obtain ⟨f808, f809, f810⟩ := q807) | (obtain ⟨q807, f808, f809, f810⟩ := ti_cadd (c := 2) (n := 2) rfl r798.1)
                    exact ok_some (show δ = δ ∧ 1 ≤ (((2 : Int32) + r798.1)).toInt ∧ (((2 : Int32) + r798.1)).toInt ≤ 4 * (x2).toInt + 1 from ⟨rfl, by first | assumption | omega, by first | assumption | omega⟩)
              · have c811 : x1.toInt ≠ (0 : Int) := o_ne h758
                refine ok_ite (fun h812 => ?_) (fun h812 => ?_)
                · have c813 : x1.toInt = (1 : Int) := o_eq h812
                  unfold J_X5_mostTouches_94
                  refine ok_biv (fun vx814 e815 => ?_)
                  first | (have q816 := te_addc (c := 1) (n := 1) rfl r746.1 (by omega) (by omega); rw [← e815] at q816; obtain ⟨f817, f818, f819⟩ := q816) | (obtain ⟨q816, f817, f818, f819⟩ : ∃ q : Int, vx814.toInt = r746.1.toInt + (1 : Int) + 4294967296 * q ∧ -2147483648 ≤ vx814.toInt ∧ vx814.toInt ≤ 2147483647 := by rw [e815]; exact ti_addc (c := 1) (n := 1) rfl r746.1)
                  unfold J_X5_mostTouches_97
                  refine ok_ite (fun h820 => ?_) (fun h820 => ?_)
                  · have c821 : x1.toInt = (0 : Int) := o_eq h820
                    unfold J_X5_mostTouches_115
                    refine ok_bind (k_J9_max_7cf53 L hN (x0 := r730.1) (x1 := vx814)  I) (fun r822 hr823 => ?_)
                    obtain ⟨i824, p825, p826, p827⟩ := hr823
                    try rw [i824]
                    have f828 := ti_b r822.1
                    have f829 := ti_b r822.1
                    first | (have q831 := te_cadd (c := 1) (n := 1) rfl r822.1 (by omega) (by omega); obtain ⟨f832, f833, f834⟩ := q831) | (obtain ⟨q831, f832, f833, f834⟩ := ti_cadd (c := 1) (n := 1) rfl r822.1)
                    exact ok_some (show δ = δ ∧ 1 ≤ (((1 : Int32) + r822.1)).toInt ∧ (((1 : Int32) + r822.1)).toInt ≤ 4 * (x2).toInt + 1 from ⟨rfl, by first | assumption | omega, by first | assumption | omega⟩)
                  · have c835 : x1.toInt ≠ (0 : Int) := o_ne h820
                    refine ok_ite (fun h836 => ?_) (fun h836 => ?_)
                    · have c837 : x1.toInt = (1 : Int) := o_eq h836
                      unfold J_X5_mostTouches_115
                      refine ok_bind (k_J9_max_7cf53 L hN (x0 := r730.1) (x1 := vx814)  I) (fun r838 hr839 => ?_)
                      obtain ⟨i840, p841, p842, p843⟩ := hr839
                      try rw [i840]
                      have f844 := ti_b r838.1
                      have f845 := ti_b r838.1
                      first | (have q847 := te_cadd (c := 3) (n := 3) rfl r838.1 (by omega) (by omega); obtain ⟨f848, f849, f850⟩ := q847) | (obtain ⟨q847, f848, f849, f850⟩ := ti_cadd (c := 3) (n := 3) rfl r838.1)
                      exact ok_some (show δ = δ ∧ 1 ≤ (((3 : Int32) + r838.1)).toInt ∧ (((3 : Int32) + r838.1)).toInt ≤ 4 * (x2).toInt + 1 from ⟨rfl, by first | assumption | omega, by first | assumption | omega⟩)
                    · have c851 : x1.toInt ≠ (1 : Int) := o_ne h836
                      unfold J_X5_mostTouches_115
                      refine ok_bind (k_J9_max_7cf53 L hN (x0 := r730.1) (x1 := vx814)  I) (fun r852 hr853 => ?_)
                      obtain ⟨i854, p855, p856, p857⟩ := hr853
                      try rw [i854]
                      have f858 := ti_b r852.1
                      have f859 := ti_b r852.1
                      first | (have q861 := te_cadd (c := 2) (n := 2) rfl r852.1 (by omega) (by omega); obtain ⟨f862, f863, f864⟩ := q861) | (obtain ⟨q861, f862, f863, f864⟩ := ti_cadd (c := 2) (n := 2) rfl r852.1)
                      exact ok_some (show δ = δ ∧ 1 ≤ (((2 : Int32) + r852.1)).toInt ∧ (((2 : Int32) + r852.1)).toInt ≤ 4 * (x2).toInt + 1 from ⟨rfl, by first | assumption | omega, by first | assumption | omega⟩)
                · have c865 : x1.toInt ≠ (1 : Int) := o_ne h812
                  refine ok_ite (fun h866 => ?_) (fun h866 => ?_)
                  · have c867 : vx2.toInt ≤ (1 : Int) := o_le h866
                    unfold J_X5_mostTouches_97
                    refine ok_ite (fun h868 => ?_) (fun h868 => ?_)
                    · have c869 : x1.toInt = (0 : Int) := o_eq h868
                      unfold J_X5_mostTouches_115
                      refine ok_bind (k_J9_max_7cf53 L hN (x0 := r730.1) (x1 := r746.1)  I) (fun r870 hr871 => ?_)
                      obtain ⟨i872, p873, p874, p875⟩ := hr871
                      try rw [i872]
                      have f876 := ti_b r870.1
                      have f877 := ti_b r870.1
                      first | (have q879 := te_cadd (c := 1) (n := 1) rfl r870.1 (by omega) (by omega); obtain ⟨f880, f881, f882⟩ := q879) | (obtain ⟨q879, f880, f881, f882⟩ := ti_cadd (c := 1) (n := 1) rfl r870.1)
                      exact ok_some (show δ = δ ∧ 1 ≤ (((1 : Int32) + r870.1)).toInt ∧ (((1 : Int32) + r870.1)).toInt ≤ 4 * (x2).toInt + 1 from ⟨rfl, by first | assumption | omega, by first | assumption | omega⟩)
                    · have c883 : x1.toInt ≠ (0 : Int) := o_ne h868
                      refine ok_ite (fun h884 => ?_) (fun h884 => ?_)
                      · have c885 : x1.toInt = (1 : Int) := o_eq h884
                        unfold J_X5_mostTouches_115
                        refine ok_bind (k_J9_max_7cf53 L hN (x0 := r730.1) (x1 := r746.1)  I) (fun r886 hr887 => ?_)
                        obtain ⟨i888, p889, p890, p891⟩ := hr887
                        try rw [i888]
                        have f892 := ti_b r886.1
                        have f893 := ti_b r886.1
                        first | (have q895 := te_cadd (c := 3) (n := 3) rfl r886.1 (by omega) (by omega); obtain ⟨f896, f897, f898⟩ := q895) | (obtain ⟨q895, f896, f897, f898⟩ := ti_cadd (c := 3) (n := 3) rfl r886.1)
                        exact ok_some (show δ = δ ∧ 1 ≤ (((3 : Int32) + r886.1)).toInt ∧ (((3 : Int32) + r886.1)).toInt ≤ 4 * (x2).toInt + 1 from ⟨rfl, by first | assumption | omega, by first | assumption | omega⟩)
                      · have c899 : x1.toInt ≠ (1 : Int) := o_ne h884
                        unfold J_X5_mostTouches_115
                        refine ok_bind (k_J9_max_7cf53 L hN (x0 := r730.1) (x1 := r746.1)  I) (fun r900 hr901 => ?_)
                        obtain ⟨i902, p903, p904, p905⟩ := hr901
                        try rw [i902]
                        have f906 := ti_b r900.1
                        have f907 := ti_b r900.1
                        first | (have q909 := te_cadd (c := 2) (n := 2) rfl r900.1 (by omega) (by omega); obtain ⟨f910, f911, f912⟩ := q909) | (obtain ⟨q909, f910, f911, f912⟩ := ti_cadd (c := 2) (n := 2) rfl r900.1)
                        exact ok_some (show δ = δ ∧ 1 ≤ (((2 : Int32) + r900.1)).toInt ∧ (((2 : Int32) + r900.1)).toInt ≤ 4 * (x2).toInt + 1 from ⟨rfl, by first | assumption | omega, by first | assumption | omega⟩)
                  · have c913 : (1 : Int) < vx2.toInt := o_nle h866
                    unfold J_X5_mostTouches_94
                    refine ok_biv (fun vx914 e915 => ?_)
                    first | (have q916 := te_addc (c := 1) (n := 1) rfl r746.1 (by omega) (by omega); rw [← e915] at q916; obtain ⟨f917, f918, f919⟩ := q916) | (obtain ⟨q916, f917, f918, f919⟩ : ∃ q : Int, vx914.toInt = r746.1.toInt + (1 : Int) + 4294967296 * q ∧ -2147483648 ≤ vx914.toInt ∧ vx914.toInt ≤ 2147483647 := by rw [e915]; exact ti_addc (c := 1) (n := 1) rfl r746.1)
                    unfold J_X5_mostTouches_97
                    refine ok_ite (fun h920 => ?_) (fun h920 => ?_)
                    · have c921 : x1.toInt = (0 : Int) := o_eq h920
                      unfold J_X5_mostTouches_115
                      refine ok_bind (k_J9_max_7cf53 L hN (x0 := r730.1) (x1 := vx914)  I) (fun r922 hr923 => ?_)
                      obtain ⟨i924, p925, p926, p927⟩ := hr923
                      try rw [i924]
                      have f928 := ti_b r922.1
                      have f929 := ti_b r922.1
                      first | (have q931 := te_cadd (c := 1) (n := 1) rfl r922.1 (by omega) (by omega); obtain ⟨f932, f933, f934⟩ := q931) | (obtain ⟨q931, f932, f933, f934⟩ := ti_cadd (c := 1) (n := 1) rfl r922.1)
                      exact ok_some (show δ = δ ∧ 1 ≤ (((1 : Int32) + r922.1)).toInt ∧ (((1 : Int32) + r922.1)).toInt ≤ 4 * (x2).toInt + 1 from ⟨rfl, by first | assumption | omega, by first | assumption | omega⟩)
                    · have c935 : x1.toInt ≠ (0 : Int) := o_ne h920
                      refine ok_ite (fun h936 => ?_) (fun h936 => ?_)
                      · have c937 : x1.toInt = (1 : Int) := o_eq h936
                        unfold J_X5_mostTouches_115
                        refine ok_bind (k_J9_max_7cf53 L hN (x0 := r730.1) (x1 := vx914)  I) (fun r938 hr939 => ?_)
                        obtain ⟨i940, p941, p942, p943⟩ := hr939
                        try rw [i940]
                        have f944 := ti_b r938.1
                        have f945 := ti_b r938.1
                        first | (have q947 := te_cadd (c := 3) (n := 3) rfl r938.1 (by omega) (by omega); obtain ⟨f948, f949, f950⟩ := q947) | (obtain ⟨q947, f948, f949, f950⟩ := ti_cadd (c := 3) (n := 3) rfl r938.1)
                        exact ok_some (show δ = δ ∧ 1 ≤ (((3 : Int32) + r938.1)).toInt ∧ (((3 : Int32) + r938.1)).toInt ≤ 4 * (x2).toInt + 1 from ⟨rfl, by first | assumption | omega, by first | assumption | omega⟩)
                      · have c951 : x1.toInt ≠ (1 : Int) := o_ne h936
                        unfold J_X5_mostTouches_115
                        refine ok_bind (k_J9_max_7cf53 L hN (x0 := r730.1) (x1 := vx914)  I) (fun r952 hr953 => ?_)
                        obtain ⟨i954, p955, p956, p957⟩ := hr953
                        try rw [i954]
                        have f958 := ti_b r952.1
                        have f959 := ti_b r952.1
                        first | (have q961 := te_cadd (c := 2) (n := 2) rfl r952.1 (by omega) (by omega); obtain ⟨f962, f963, f964⟩ := q961) | (obtain ⟨q961, f962, f963, f964⟩ := ti_cadd (c := 2) (n := 2) rfl r952.1)
                        exact ok_some (show δ = δ ∧ 1 ≤ (((2 : Int32) + r952.1)).toInt ∧ (((2 : Int32) + r952.1)).toInt ≤ 4 * (x2).toInt + 1 from ⟨rfl, by first | assumption | omega, by first | assumption | omega⟩)
set_option maxHeartbeats 4000000 in
theorem k_X5_mostTouches {ad : List Nat} {h : hp} (L : Lay TLx ad h) {δ0 : dp} {N : Nat} (hN : 10000000 ≤ N) {a0 : Nat} {x1 : Int32} {x2 : Int32} {x3 : Int32} (k_a0 : q_K h.1 a0 = 5) {δ : dp} (z0 : 0 ≤ (x2).toInt) (z1 : (x2).toInt ≤ 16) (hd : (x2).toInt < 20) (I : CI ad h.1 δ0 δ) : ok (D_X5_mostTouches N h.1 a0 x1 x2 x3 δ) (fun r => r.2 = δ ∧ 1 ≤ (r.1).toInt ∧ (r.1).toInt ≤ 4 * (x2).toInt + 1) := ke_X5_mostTouches L hN 20 a0 x1 x2 x3 δ k_a0 z0 z1 hd I
set_option maxHeartbeats 4000000 in
theorem k_X5_boundOf {ad : List Nat} {h : hp} (L : Lay TLx ad h) {δ0 : dp} {N : Nat} (hN : 10000000 ≤ N) {a0 : Nat} {x1 : Int32} (k_a0 : q_K h.1 a0 = 5) {δ : dp} (I : CI ad h.1 δ0 δ) : ok (D_X5_boundOf N h.1 a0 x1 δ) (fun r => r.2 = δ) := by
  unfold D_X5_boundOf
  have f3 := cb_5_0 I k_a0
  refine ok_bind (k_X5_mostTouches L hN (a0 := a0) (x1 := x1) (x2 := (q_I δ 5 0 a0)) (x3 := (1048576 : Int32)) k_a0 (show 0 ≤ ((q_I δ 5 0 a0)).toInt by first | assumption | omega) (show ((q_I δ 5 0 a0)).toInt ≤ 16 by first | assumption | omega) (show ((q_I δ 5 0 a0)).toInt < 20 by first | assumption | omega) I) (fun r1 hr2 => ?_)
  obtain ⟨i4, p5, p6⟩ := hr2
  try rw [i4]
  have f7 := ti_b r1.1
  have f8 := ti_b r1.1
  exact ok_some (show δ = δ from rfl)
