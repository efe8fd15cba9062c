/-! 54.kX5 (by gen_safe.py) -/
set_option maxHeartbeats 4000000 in
theorem k_J9_max_7cf53 {ad : List Nat} {h : hp} (L : Lay TLx ad h) {δ0 : dp} {N : Nat} (hN : 10000000 ≤ N) {x0 : Int32} {x1 : Int32} {δ : dp} (I : CI ad h.1 δ0 δ) : ok (D_J9_max_7cf53 N h.1 x0 x1 δ) (fun r => r.2 = δ) := by
  unfold D_J9_max_7cf53
  have f1 := ti_b x0
  have f2 := ti_b x1
  refine ok_ite (fun h3 => ?_) (fun h3 => ?_)
  · have c4 : x0.toInt < x1.toInt := o_lt h3
    unfold J_J9_max_7cf53_10
    exact ok_some (show δ = δ from rfl)
  · have c5 : x1.toInt ≤ x0.toInt := o_nlt h3
    unfold J_J9_max_7cf53_10
    exact ok_some (show δ = δ from rfl)
set_option maxHeartbeats 4000000 in
theorem k_J9_min_7cf53 {ad : List Nat} {h : hp} (L : Lay TLx ad h) {δ0 : dp} {N : Nat} (hN : 10000000 ≤ N) {x0 : Int32} {x1 : Int32} {δ : dp} (I : CI ad h.1 δ0 δ) : ok (D_J9_min_7cf53 N h.1 x0 x1 δ) (fun r => r.2 = δ ∧ (r.1).toInt ≤ (x0).toInt ∧ (r.1).toInt ≤ (x1).toInt ∧ ((r.1).toInt = (x0).toInt ∨ (r.1).toInt = (x1).toInt)) := by
  unfold D_J9_min_7cf53
  have f1 := ti_b x1
  have f2 := ti_b x0
  refine ok_ite (fun h3 => ?_) (fun h3 => ?_)
  · have c4 : x1.toInt < x0.toInt := o_lt h3
    unfold J_J9_min_7cf53_10
    exact ok_some (show δ = δ ∧ (x1).toInt ≤ (x0).toInt ∧ (x1).toInt ≤ (x1).toInt ∧ ((x1).toInt = (x0).toInt ∨ (x1).toInt = (x1).toInt) from ⟨rfl, by first | assumption | omega, by first | assumption | omega, by first | assumption | omega⟩)
  · have c5 : x0.toInt ≤ x1.toInt := o_nlt h3
    unfold J_J9_min_7cf53_10
    exact ok_some (show δ = δ ∧ (x0).toInt ≤ (x0).toInt ∧ (x0).toInt ≤ (x1).toInt ∧ ((x0).toInt = (x0).toInt ∨ (x0).toInt = (x1).toInt) from ⟨rfl, by first | assumption | omega, by first | assumption | omega, by first | assumption | omega⟩)
set_option maxHeartbeats 4000000 in
theorem k_J6_compare_7cf53 {ad : List Nat} {h : hp} (L : Lay TLx ad h) {δ0 : dp} {N : Nat} (hN : 10000000 ≤ N) {x0 : Int32} {x1 : Int32} {δ : dp} (I : CI ad h.1 δ0 δ) : ok (D_J6_compare_7cf53 N h.1 x0 x1 δ) (fun r => r.2 = δ ∧ ((r.1).toInt = 0 ∨ (r.1).toInt = 1 ∨ (r.1).toInt = -1)) := by
  unfold D_J6_compare_7cf53
  have f1 := ti_b x1
  have f2 := ti_b x0
  refine ok_ite (fun h3 => ?_) (fun h3 => ?_)
  · have c4 : x1.toInt ≤ x0.toInt := o_le h3
    refine ok_ite (fun h5 => ?_) (fun h5 => ?_)
    · have c6 : x0.toInt = x1.toInt := o_eq h5
      unfold J_J6_compare_7cf53_19
      exact ok_some (show δ = δ ∧ ((0 : Int) = 0 ∨ (0 : Int) = 1 ∨ (0 : Int) = -1) from ⟨rfl, by first | assumption | omega⟩)
    · have c7 : x0.toInt ≠ x1.toInt := o_ne h5
      unfold J_J6_compare_7cf53_19
      exact ok_some (show δ = δ ∧ ((1 : Int) = 0 ∨ (1 : Int) = 1 ∨ (1 : Int) = -1) from ⟨rfl, by first | assumption | omega⟩)
  · have c8 : x0.toInt < x1.toInt := o_nle h3
    unfold J_J6_compare_7cf53_19
    exact ok_some (show δ = δ ∧ ((-1 : Int) = 0 ∨ (-1 : Int) = 1 ∨ (-1 : Int) = -1) from ⟨rfl, by first | assumption | omega⟩)
set_option maxHeartbeats 4000000 in
theorem k_X5_greatest {ad : List Nat} {h : hp} (L : Lay TLx ad h) {δ0 : dp} {N : Nat} (hN : 10000000 ≤ N) {a0 : Nat} (k_a0 : q_K h.1 a0 = 5) {δ : dp} (I : CI ad h.1 δ0 δ) : ok (D_X5_greatest N h.1 a0 δ) (fun r => r.2 = δ ∧ 3 ≤ (r.1).toInt ∧ (r.1).toInt ≤ 65535 ∧ ((q_I δ 5 0 a0).toInt ≤ 6 → (r.1).toInt ≤ 63) ∧ ((q_I δ 5 0 a0).toInt ≤ 4 → (r.1).toInt ≤ 15)) := by
  unfold D_X5_greatest
  have f1 := cb_5_0 I k_a0
  have f2 := sh_b (q_I δ 5 0 a0)
  have f3 := ti_b ((1 : Int32) <<< ((q_I δ 5 0 a0) &&& 31))
  first | (have q5 := te_subc (c := 1) (n := 1) rfl ((1 : Int32) <<< ((q_I δ 5 0 a0) &&& 31)) (by omega) (by omega); obtain ⟨f6, f7, f8⟩ := q5) | (obtain ⟨q5, f6, f7, f8⟩ := ti_subc (c := 1) (n := 1) rfl ((1 : Int32) <<< ((q_I δ 5 0 a0) &&& 31)))
  exact ok_some (show δ = δ ∧ 3 ≤ ((((1 : Int32) <<< ((q_I δ 5 0 a0) &&& 31)) - (1 : Int32))).toInt ∧ ((((1 : Int32) <<< ((q_I δ 5 0 a0) &&& 31)) - (1 : Int32))).toInt ≤ 65535 ∧ ((q_I δ 5 0 a0).toInt ≤ 6 → ((((1 : Int32) <<< ((q_I δ 5 0 a0) &&& 31)) - (1 : Int32))).toInt ≤ 63) ∧ ((q_I δ 5 0 a0).toInt ≤ 4 → ((((1 : Int32) <<< ((q_I δ 5 0 a0) &&& 31)) - (1 : Int32))).toInt ≤ 15) from ⟨rfl, by first | assumption | omega, by first | assumption | omega, by first | assumption | omega, by first | assumption | omega⟩)
set_option maxHeartbeats 4000000 in
theorem k_X5_isSmall {ad : List Nat} {h : hp} (L : Lay TLx ad h) {δ0 : dp} {N : Nat} (hN : 10000000 ≤ N) {a0 : Nat} (k_a0 : q_K h.1 a0 = 5) {δ : dp} (I : CI ad h.1 δ0 δ) : ok (D_X5_isSmall N h.1 a0 δ) (fun r => r.2 = δ ∧ bo (r.1) ∧ ((r.1).toInt = 0 ∨ (q_I δ 5 0 a0).toInt ≤ 6)) := by
  unfold D_X5_isSmall
  have f1 := cb_5_0 I k_a0
  refine ok_ite (fun h2 => ?_) (fun h2 => ?_)
  · have c3 : (6 : Int) < (q_I δ 5 0 a0).toInt := o_lt h2
    unfold J_X5_isSmall_14
    refine ok_gp (by decide) ?_
    exact ok_some (show δ = δ ∧ bo ((0 : Int32)) ∧ ((0 : Int) = 0 ∨ (q_I δ 5 0 a0).toInt ≤ 6) from ⟨rfl, bo_0, by first | assumption | omega⟩)
  · have c4 : (q_I δ 5 0 a0).toInt ≤ (6 : Int) := o_nlt h2
    unfold J_X5_isSmall_14
    refine ok_gp (by decide) ?_
    exact ok_some (show δ = δ ∧ bo ((1 : Int32)) ∧ ((1 : Int) = 0 ∨ (q_I δ 5 0 a0).toInt ≤ 6) from ⟨rfl, bo_1, by first | assumption | omega⟩)
set_option maxHeartbeats 4000000 in
theorem k_X5_mostInSets {ad : List Nat} {h : hp} (L : Lay TLx ad h) {δ0 : dp} {N : Nat} (hN : 10000000 ≤ N) {a0 : Nat} (k_a0 : q_K h.1 a0 = 5) {δ : dp} (I : CI ad h.1 δ0 δ) : ok (D_X5_mostInSets N h.1 a0 δ) (fun r => r.2 = δ ∧ ((r.1).toInt = 3 ∨ (r.1).toInt = 16 ∧ (q_I δ 5 0 a0).toInt ≤ 4)) := by
  unfold D_X5_mostInSets
  have f1 := cb_5_0 I k_a0
  refine ok_ite (fun h2 => ?_) (fun h2 => ?_)
  · have c3 : (4 : Int) < (q_I δ 5 0 a0).toInt := o_lt h2
    unfold J_X5_mostInSets_14
    exact ok_some (show δ = δ ∧ ((3 : Int) = 3 ∨ (3 : Int) = 16 ∧ (q_I δ 5 0 a0).toInt ≤ 4) from ⟨rfl, by first | assumption | omega⟩)
  · have c4 : (q_I δ 5 0 a0).toInt ≤ (4 : Int) := o_nlt h2
    unfold J_X5_mostInSets_14
    exact ok_some (show δ = δ ∧ ((16 : Int) = 3 ∨ (16 : Int) = 16 ∧ (q_I δ 5 0 a0).toInt ≤ 4) from ⟨rfl, by first | assumption | omega⟩)
set_option maxHeartbeats 4000000 in
theorem k_X5_mostInRows {ad : List Nat} {h : hp} (L : Lay TLx ad h) {δ0 : dp} {N : Nat} (hN : 10000000 ≤ N) {a0 : Nat} (k_a0 : q_K h.1 a0 = 5) {δ : dp} (I : CI ad h.1 δ0 δ) : ok (D_X5_mostInRows N h.1 a0 δ) (fun r => r.2 = δ ∧ ((r.1).toInt = 2 ∨ (r.1).toInt = 6 ∧ (q_I δ 5 0 a0).toInt ≤ 4)) := by
  unfold D_X5_mostInRows
  have f1 := cb_5_0 I k_a0
  refine ok_ite (fun h2 => ?_) (fun h2 => ?_)
  · have c3 : (4 : Int) < (q_I δ 5 0 a0).toInt := o_lt h2
    unfold J_X5_mostInRows_14
    exact ok_some (show δ = δ ∧ ((2 : Int) = 2 ∨ (2 : Int) = 6 ∧ (q_I δ 5 0 a0).toInt ≤ 4) from ⟨rfl, by first | assumption | omega⟩)
  · have c4 : (q_I δ 5 0 a0).toInt ≤ (4 : Int) := o_nlt h2
    unfold J_X5_mostInRows_14
    exact ok_some (show δ = δ ∧ ((6 : Int) = 2 ∨ (6 : Int) = 6 ∧ (q_I δ 5 0 a0).toInt ≤ 4) from ⟨rfl, by first | assumption | omega⟩)
set_option maxHeartbeats 4000000 in
theorem k_X5_lowerBits {ad : List Nat} {h : hp} (L : Lay TLx ad h) {δ0 : dp} {N : Nat} (hN : 10000000 ≤ N) {a0 : Nat} {x1 : Int32} (k_a0 : q_K h.1 a0 = 5) {δ : dp} (I : CI ad h.1 δ0 δ) : ok (D_X5_lowerBits N h.1 a0 x1 δ) (fun r => r.2 = δ ∧ (2 ≤ (x1).toInt ∧ (x1).toInt ≤ 16 → 1 ≤ (r.1).toInt ∧ (r.1).toInt < (x1).toInt)) := by
  unfold D_X5_lowerBits
  have f1 := cb_5_1 I k_a0
  refine ok_ite (fun h2 => ?_) (fun h2 => ?_)
  · have c3 : (q_I δ 5 1 a0).toInt = (0 : Int) := o_eq h2
    unfold J_X5_lowerBits_18
    have f4 := ti_b x1
    first | (have q6 := te_addc (c := 1) (n := 1) rfl x1 (by omega) (by omega); obtain ⟨f7, f8, f9⟩ := q6) | (obtain ⟨q6, f7, f8, f9⟩ := ti_addc (c := 1) (n := 1) rfl x1)
    have f10 := ti_div (c := 2) (n := 2) rfl (by decide) (x1 + (1 : Int32))
    have f11 := ti_b ((x1 + (1 : Int32)) / (2 : Int32))
    exact ok_some (show δ = δ ∧ (2 ≤ (x1).toInt ∧ (x1).toInt ≤ 16 → 1 ≤ (((x1 + (1 : Int32)) / (2 : Int32))).toInt ∧ (((x1 + (1 : Int32)) / (2 : Int32))).toInt < (x1).toInt) from ⟨rfl, by first | assumption | omega⟩)
  · have c12 : (q_I δ 5 1 a0).toInt ≠ (0 : Int) := o_ne h2
    unfold J_X5_lowerBits_18
    have f13 := ti_b x1
    have f14 := ti_div (c := 2) (n := 2) rfl (by decide) x1
    have f15 := ti_b (x1 / (2 : Int32))
    exact ok_some (show δ = δ ∧ (2 ≤ (x1).toInt ∧ (x1).toInt ≤ 16 → 1 ≤ ((x1 / (2 : Int32))).toInt ∧ ((x1 / (2 : Int32))).toInt < (x1).toInt) from ⟨rfl, by first | assumption | omega⟩)
set_option maxHeartbeats 4000000 in
theorem ke_X5_mostTouches {ad : List Nat} {h : hp} (L : Lay TLx ad h) {δ0 : dp} {N : Nat} (hN : 10000000 ≤ N) : ∀ (k : Nat), ∀ (a0 : Nat) (x1 : Int32) (x2 : Int32) (x3 : Int32) (δ : dp), q_K h.1 a0 = 5 → 0 ≤ (x2).toInt → (x2).toInt ≤ 16 → (x2).toInt < (k : Int) → CI ad h.1 δ0 δ → ok (E_X5_mostTouches N h.1 k a0 x1 x2 x3 δ) (fun r => r.2 = δ) := by
  intro k
  induction k with
  | zero =>
    intro a0 x1 x2 x3 δ k_a0 z0 z1 hd I
    exfalso; omega
  | succ k ih =>
    intro a0 x1 x2 x3 δ k_a0 z0 z1 hd I
    unfold E_X5_mostTouches B_X5_mostTouches
    have f1 := ti_b x2
    have f4 := ti_b x3
    refine ok_biv (fun vx2 e3 => ?_)
    first | (have q5 := te_subc (c := 2) (n := 2) rfl x3 (by omega) (by omega); rw [← e3] at q5; obtain ⟨f6, f7, f8⟩ := q5) | (obtain ⟨q5, f6, f7, f8⟩ : ∃ q : Int, vx2.toInt = x3.toInt - (2 : Int) + 4294967296 * q ∧ -2147483648 ≤ vx2.toInt ∧ vx2.toInt ≤ 2147483647 := by rw [e3]; exact ti_subc (c := 2) (n := 2) rfl x3)
    have f9 := cb_5_2 I k_a0
    refine ok_ite (fun h10 => ?_) (fun h10 => ?_)
    · have c11 : x2.toInt ≤ (q_I δ 5 2 a0).toInt := o_le h10
      unfold J_X5_mostTouches_27
      exact ok_some (show δ = δ from rfl)
    · have c12 : (q_I δ 5 2 a0).toInt < x2.toInt := o_nle h10
      refine ok_ite (fun h13 => ?_) (fun h13 => ?_)
      · have c14 : vx2.toInt < (0 : Int) := o_lt h13
        unfold J_X5_mostTouches_27
        exact ok_some (show δ = δ from rfl)
      · have c15 : (0 : Int) ≤ vx2.toInt := o_nlt h13
        refine ok_ite (fun h16 => ?_) (fun h16 => ?_)
        · have c17 : vx2.toInt = (0 : Int) := o_eq h16
          have f18 := ti_b x1
          refine ok_ite (fun h19 => ?_) (fun h19 => ?_)
          · have c20 : x1.toInt = (0 : Int) := o_eq h19
            unfold J_X5_mostTouches_29
            refine ok_bind (k_X5_lowerBits L hN (a0 := a0) (x1 := x2) k_a0 I) (fun r21 hr22 => ?_)
            obtain ⟨i23, p24⟩ := hr22
            try rw [i23]
            have f25 := ti_b r21.1
            have f26 := ti_b r21.1
            refine ok_ite (fun h27 => ?_) (fun h27 => ?_)
            · have c28 : vx2.toInt = (0 : Int) := o_eq h27
              unfold J_X5_mostTouches_54
              refine ok_ite (fun h29 => ?_) (fun h29 => ?_)
              · have c30 : x1.toInt = (2 : Int) := o_eq h29
                exact ok_some (show δ = δ from rfl)
              · have c31 : x1.toInt ≠ (2 : Int) := o_ne h29
                first | (have q35 := te_sub x2 r21.1 (by omega) (by omega); obtain ⟨f36, f37, f38⟩ := q35) | (obtain ⟨q35, f36, f37, f38⟩ := ti_sub x2 r21.1)
                refine ok_bind (ih a0 x1 (x2 - r21.1) vx2 δ k_a0 (show 0 ≤ ((x2 - r21.1)).toInt by first | assumption | omega) (show ((x2 - r21.1)).toInt ≤ 16 by first | assumption | omega) (show ((x2 - r21.1)).toInt < _ by first | assumption | omega) I) (fun r32 hr33 => ?_)
                have i39 := hr33
                try rw [i39]
                have f40 := ti_b r32.1
                refine ok_ite (fun h41 => ?_) (fun h41 => ?_)
                · have c42 : x1.toInt = (0 : Int) := o_eq h41
                  unfold J_X5_mostTouches_94
                  refine ok_biv (fun vx43 e44 => ?_)
                  first | (have q45 := te_addc (c := 1) (n := 1) rfl r32.1 (by omega) (by omega); rw [← e44] at q45; obtain ⟨f46, f47, f48⟩ := q45) | (obtain ⟨q45, f46, f47, f48⟩ : ∃ q : Int, vx43.toInt = r32.1.toInt + (1 : Int) + 4294967296 * q ∧ -2147483648 ≤ vx43.toInt ∧ vx43.toInt ≤ 2147483647 := by rw [e44]; exact ti_addc (c := 1) (n := 1) rfl r32.1)
                  unfold J_X5_mostTouches_97
                  refine ok_ite (fun h49 => ?_) (fun h49 => ?_)
                  · have c50 : x1.toInt = (0 : Int) := o_eq h49
                    unfold J_X5_mostTouches_115
                    refine ok_bind (k_J9_max_7cf53 L hN (x0 := (0 : Int32)) (x1 := vx43)  I) (fun r51 hr52 => ?_)
                    have i53 := hr52
                    try rw [i53]
                    have f54 := ti_b r51.1
                    exact ok_some (show δ = δ from rfl)
                  · have c55 : x1.toInt ≠ (0 : Int) := o_ne h49
                    refine ok_ite (fun h56 => ?_) (fun h56 => ?_)
                    · have c57 : x1.toInt = (1 : Int) := o_eq h56
                      unfold J_X5_mostTouches_115
                      refine ok_bind (k_J9_max_7cf53 L hN (x0 := (0 : Int32)) (x1 := vx43)  I) (fun r58 hr59 => ?_)
                      have i60 := hr59
                      try rw [i60]
                      have f61 := ti_b r58.1
                      exact ok_some (show δ = δ from rfl)
                    · have c62 : x1.toInt ≠ (1 : Int) := o_ne h56
                      unfold J_X5_mostTouches_115
                      refine ok_bind (k_J9_max_7cf53 L hN (x0 := (0 : Int32)) (x1 := vx43)  I) (fun r63 hr64 => ?_)
                      have i65 := hr64
                      try rw [i65]
                      have f66 := ti_b r63.1
                      exact ok_some (show δ = δ from rfl)
                · have c67 : x1.toInt ≠ (0 : Int) := o_ne h41
                  refine ok_ite (fun h68 => ?_) (fun h68 => ?_)
                  · have c69 : x1.toInt = (1 : Int) := o_eq h68
                    unfold J_X5_mostTouches_94
                    refine ok_biv (fun vx70 e71 => ?_)
                    first | (have q72 := te_addc (c := 1) (n := 1) rfl r32.1 (by omega) (by omega); rw [← e71] at q72; obtain ⟨f73, f74, f75⟩ := q72) | (obtain ⟨q72, f73, f74, f75⟩ : ∃ q : Int, vx70.toInt = r32.1.toInt + (1 : Int) + 4294967296 * q ∧ -2147483648 ≤ vx70.toInt ∧ vx70.toInt ≤ 2147483647 := by rw [e71]; exact ti_addc (c := 1) (n := 1) rfl r32.1)
                    unfold J_X5_mostTouches_97
                    refine ok_ite (fun h76 => ?_) (fun h76 => ?_)
                    · have c77 : x1.toInt = (0 : Int) := o_eq h76
                      unfold J_X5_mostTouches_115
                      refine ok_bind (k_J9_max_7cf53 L hN (x0 := (0 : Int32)) (x1 := vx70)  I) (fun r78 hr79 => ?_)
                      have i80 := hr79
                      try rw [i80]
                      have f81 := ti_b r78.1
                      exact ok_some (show δ = δ from rfl)
                    · have c82 : x1.toInt ≠ (0 : Int) := o_ne h76
                      refine ok_ite (fun h83 => ?_) (fun h83 => ?_)
                      · have c84 : x1.toInt = (1 : Int) := o_eq h83
                        unfold J_X5_mostTouches_115
                        refine ok_bind (k_J9_max_7cf53 L hN (x0 := (0 : Int32)) (x1 := vx70)  I) (fun r85 hr86 => ?_)
                        have i87 := hr86
                        try rw [i87]
                        have f88 := ti_b r85.1
                        exact ok_some (show δ = δ from rfl)
                      · have c89 : x1.toInt ≠ (1 : Int) := o_ne h83
                        unfold J_X5_mostTouches_115
                        refine ok_bind (k_J9_max_7cf53 L hN (x0 := (0 : Int32)) (x1 := vx70)  I) (fun r90 hr91 => ?_)
                        have i92 := hr91
                        try rw [i92]
                        have f93 := ti_b r90.1
                        exact ok_some (show δ = δ from rfl)
                  · have c94 : x1.toInt ≠ (1 : Int) := o_ne h68
                    refine ok_ite (fun h95 => ?_) (fun h95 => ?_)
                    · have c96 : vx2.toInt ≤ (1 : Int) := o_le h95
                      unfold J_X5_mostTouches_97
                      refine ok_ite (fun h97 => ?_) (fun h97 => ?_)
                      · have c98 : x1.toInt = (0 : Int) := o_eq h97
                        unfold J_X5_mostTouches_115
                        refine ok_bind (k_J9_max_7cf53 L hN (x0 := (0 : Int32)) (x1 := r32.1)  I) (fun r99 hr100 => ?_)
                        have i101 := hr100
                        try rw [i101]
                        have f102 := ti_b r99.1
                        exact ok_some (show δ = δ from rfl)
                      · have c103 : x1.toInt ≠ (0 : Int) := o_ne h97
                        refine ok_ite (fun h104 => ?_) (fun h104 => ?_)
                        · have c105 : x1.toInt = (1 : Int) := o_eq h104
                          unfold J_X5_mostTouches_115
                          refine ok_bind (k_J9_max_7cf53 L hN (x0 := (0 : Int32)) (x1 := r32.1)  I) (fun r106 hr107 => ?_)
                          have i108 := hr107
                          try rw [i108]
                          have f109 := ti_b r106.1
                          exact ok_some (show δ = δ from rfl)
                        · have c110 : x1.toInt ≠ (1 : Int) := o_ne h104
                          unfold J_X5_mostTouches_115
                          refine ok_bind (k_J9_max_7cf53 L hN (x0 := (0 : Int32)) (x1 := r32.1)  I) (fun r111 hr112 => ?_)
                          have i113 := hr112
                          try rw [i113]
                          have f114 := ti_b r111.1
                          exact ok_some (show δ = δ from rfl)
                    · have c115 : (1 : Int) < vx2.toInt := o_nle h95
                      unfold J_X5_mostTouches_94
                      refine ok_biv (fun vx116 e117 => ?_)
                      first | (have q118 := te_addc (c := 1) (n := 1) rfl r32.1 (by omega) (by omega); rw [← e117] at q118; obtain ⟨f119, f120, f121⟩ := q118) | (obtain ⟨q118, f119, f120, f121⟩ : ∃ q : Int, vx116.toInt = r32.1.toInt + (1 : Int) + 4294967296 * q ∧ -2147483648 ≤ vx116.toInt ∧ vx116.toInt ≤ 2147483647 := by rw [e117]; exact ti_addc (c := 1) (n := 1) rfl r32.1)
                      unfold J_X5_mostTouches_97
                      refine ok_ite (fun h122 => ?_) (fun h122 => ?_)
                      · have c123 : x1.toInt = (0 : Int) := o_eq h122
                        unfold J_X5_mostTouches_115
                        refine ok_bind (k_J9_max_7cf53 L hN (x0 := (0 : Int32)) (x1 := vx116)  I) (fun r124 hr125 => ?_)
                        have i126 := hr125
                        try rw [i126]
                        have f127 := ti_b r124.1
                        exact ok_some (show δ = δ from rfl)
                      · have c128 : x1.toInt ≠ (0 : Int) := o_ne h122
                        refine ok_ite (fun h129 => ?_) (fun h129 => ?_)
                        · have c130 : x1.toInt = (1 : Int) := o_eq h129
                          unfold J_X5_mostTouches_115
                          refine ok_bind (k_J9_max_7cf53 L hN (x0 := (0 : Int32)) (x1 := vx116)  I) (fun r131 hr132 => ?_)
                          have i133 := hr132
                          try rw [i133]
                          have f134 := ti_b r131.1
                          exact ok_some (show δ = δ from rfl)
                        · have c135 : x1.toInt ≠ (1 : Int) := o_ne h129
                          unfold J_X5_mostTouches_115
                          refine ok_bind (k_J9_max_7cf53 L hN (x0 := (0 : Int32)) (x1 := vx116)  I) (fun r136 hr137 => ?_)
                          have i138 := hr137
                          try rw [i138]
                          have f139 := ti_b r136.1
                          exact ok_some (show δ = δ from rfl)
            · have c140 : vx2.toInt ≠ (0 : Int) := o_ne h27
              refine ok_bind (ih a0 x1 r21.1 vx2 δ k_a0 (show 0 ≤ (r21.1).toInt by first | assumption | omega) (show (r21.1).toInt ≤ 16 by first | assumption | omega) (show (r21.1).toInt < _ by first | assumption | omega) I) (fun r141 hr142 => ?_)
              have i143 := hr142
              try rw [i143]
              have f144 := ti_b r141.1
              unfold J_X5_mostTouches_54
              refine ok_ite (fun h145 => ?_) (fun h145 => ?_)
              · have c146 : x1.toInt = (2 : Int) := o_eq h145
                exact ok_some (show δ = δ from rfl)
              · have c147 : x1.toInt ≠ (2 : Int) := o_ne h145
                first | (have q151 := te_sub x2 r21.1 (by omega) (by omega); obtain ⟨f152, f153, f154⟩ := q151) | (obtain ⟨q151, f152, f153, f154⟩ := ti_sub x2 r21.1)
                refine ok_bind (ih a0 x1 (x2 - r21.1) vx2 δ k_a0 (show 0 ≤ ((x2 - r21.1)).toInt by first | assumption | omega) (show ((x2 - r21.1)).toInt ≤ 16 by first | assumption | omega) (show ((x2 - r21.1)).toInt < _ by first | assumption | omega) I) (fun r148 hr149 => ?_)
                have i155 := hr149
                try rw [i155]
                have f156 := ti_b r148.1
                refine ok_ite (fun h157 => ?_) (fun h157 => ?_)
                · have c158 : x1.toInt = (0 : Int) := o_eq h157
                  unfold J_X5_mostTouches_94
                  refine ok_biv (fun vx159 e160 => ?_)
                  first | (have q161 := te_addc (c := 1) (n := 1) rfl r148.1 (by omega) (by omega); rw [← e160] at q161; obtain ⟨f162, f163, f164⟩ := q161) | (obtain ⟨q161, f162, f163, f164⟩ : ∃ q : Int, vx159.toInt = r148.1.toInt + (1 : Int) + 4294967296 * q ∧ -2147483648 ≤ vx159.toInt ∧ vx159.toInt ≤ 2147483647 := by rw [e160]; exact ti_addc (c := 1) (n := 1) rfl r148.1)
                  unfold J_X5_mostTouches_97
                  refine ok_ite (fun h165 => ?_) (fun h165 => ?_)
                  · have c166 : x1.toInt = (0 : Int) := o_eq h165
                    unfold J_X5_mostTouches_115
                    refine ok_bind (k_J9_max_7cf53 L hN (x0 := r141.1) (x1 := vx159)  I) (fun r167 hr168 => ?_)
                    have i169 := hr168
                    try rw [i169]
                    have f170 := ti_b r167.1
                    exact ok_some (show δ = δ from rfl)
                  · have c171 : x1.toInt ≠ (0 : Int) := o_ne h165
                    refine ok_ite (fun h172 => ?_) (fun h172 => ?_)
                    · have c173 : x1.toInt = (1 : Int) := o_eq h172
                      unfold J_X5_mostTouches_115
                      refine ok_bind (k_J9_max_7cf53 L hN (x0 := r141.1) (x1 := vx159)  I) (fun r174 hr175 => ?_)
                      have i176 := hr175
                      try rw [i176]
                      have f177 := ti_b r174.1
                      exact ok_some (show δ = δ from rfl)
                    · have c178 : x1.toInt ≠ (1 : Int) := o_ne h172
                      unfold J_X5_mostTouches_115
                      refine ok_bind (k_J9_max_7cf53 L hN (x0 := r141.1) (x1 := vx159)  I) (fun r179 hr180 => ?_)
                      have i181 := hr180
                      try rw [i181]
                      have f182 := ti_b r179.1
                      exact ok_some (show δ = δ from rfl)
                · have c183 : x1.toInt ≠ (0 : Int) := o_ne h157
                  refine ok_ite (fun h184 => ?_) (fun h184 => ?_)
                  · have c185 : x1.toInt = (1 : Int) := o_eq h184
                    unfold J_X5_mostTouches_94
                    refine ok_biv (fun vx186 e187 => ?_)
                    first | (have q188 := te_addc (c := 1) (n := 1) rfl r148.1 (by omega) (by omega); rw [← e187] at q188; obtain ⟨f189, f190, f191⟩ := q188) | (obtain ⟨q188, f189, f190, f191⟩ : ∃ q : Int, vx186.toInt = r148.1.toInt + (1 : Int) + 4294967296 * q ∧ -2147483648 ≤ vx186.toInt ∧ vx186.toInt ≤ 2147483647 := by rw [e187]; exact ti_addc (c := 1) (n := 1) rfl r148.1)
                    unfold J_X5_mostTouches_97
                    refine ok_ite (fun h192 => ?_) (fun h192 => ?_)
                    · have c193 : x1.toInt = (0 : Int) := o_eq h192
                      unfold J_X5_mostTouches_115
                      refine ok_bind (k_J9_max_7cf53 L hN (x0 := r141.1) (x1 := vx186)  I) (fun r194 hr195 => ?_)
                      have i196 := hr195
                      try rw [i196]
                      have f197 := ti_b r194.1
                      exact ok_some (show δ = δ from rfl)
                    · have c198 : x1.toInt ≠ (0 : Int) := o_ne h192
                      refine ok_ite (fun h199 => ?_) (fun h199 => ?_)
                      · have c200 : x1.toInt = (1 : Int) := o_eq h199
                        unfold J_X5_mostTouches_115
                        refine ok_bind (k_J9_max_7cf53 L hN (x0 := r141.1) (x1 := vx186)  I) (fun r201 hr202 => ?_)
                        have i203 := hr202
                        try rw [i203]
                        have f204 := ti_b r201.1
                        exact ok_some (show δ = δ from rfl)
                      · have c205 : x1.toInt ≠ (1 : Int) := o_ne h199
                        unfold J_X5_mostTouches_115
                        refine ok_bind (k_J9_max_7cf53 L hN (x0 := r141.1) (x1 := vx186)  I) (fun r206 hr207 => ?_)
                        have i208 := hr207
                        try rw [i208]
                        have f209 := ti_b r206.1
                        exact ok_some (show δ = δ from rfl)
                  · have c210 : x1.toInt ≠ (1 : Int) := o_ne h184
                    refine ok_ite (fun h211 => ?_) (fun h211 => ?_)
                    · have c212 : vx2.toInt ≤ (1 : Int) := o_le h211
                      unfold J_X5_mostTouches_97
                      refine ok_ite (fun h213 => ?_) (fun h213 => ?_)
                      · have c214 : x1.toInt = (0 : Int) := o_eq h213
                        unfold J_X5_mostTouches_115
                        refine ok_bind (k_J9_max_7cf53 L hN (x0 := r141.1) (x1 := r148.1)  I) (fun r215 hr216 => ?_)
                        have i217 := hr216
                        try rw [i217]
                        have f218 := ti_b r215.1
                        exact ok_some (show δ = δ from rfl)
                      · have c219 : x1.toInt ≠ (0 : Int) := o_ne h213
                        refine ok_ite (fun h220 => ?_) (fun h220 => ?_)
                        · have c221 : x1.toInt = (1 : Int) := o_eq h220
                          unfold J_X5_mostTouches_115
                          refine ok_bind (k_J9_max_7cf53 L hN (x0 := r141.1) (x1 := r148.1)  I) (fun r222 hr223 => ?_)
                          have i224 := hr223
                          try rw [i224]
                          have f225 := ti_b r222.1
                          exact ok_some (show δ = δ from rfl)
                        · have c226 : x1.toInt ≠ (1 : Int) := o_ne h220
                          unfold J_X5_mostTouches_115
                          refine ok_bind (k_J9_max_7cf53 L hN (x0 := r141.1) (x1 := r148.1)  I) (fun r227 hr228 => ?_)
                          have i229 := hr228
                          try rw [i229]
                          have f230 := ti_b r227.1
                          exact ok_some (show δ = δ from rfl)
                    · have c231 : (1 : Int) < vx2.toInt := o_nle h211
                      unfold J_X5_mostTouches_94
                      refine ok_biv (fun vx232 e233 => ?_)
                      first | (have q234 := te_addc (c := 1) (n := 1) rfl r148.1 (by omega) (by omega); rw [← e233] at q234; obtain ⟨f235, f236, f237⟩ := q234) | (obtain ⟨q234, f235, f236, f237⟩ : ∃ q : Int, vx232.toInt = r148.1.toInt + (1 : Int) + 4294967296 * q ∧ -2147483648 ≤ vx232.toInt ∧ vx232.toInt ≤ 2147483647 := by rw [e233]; exact ti_addc (c := 1) (n := 1) rfl r148.1)
                      unfold J_X5_mostTouches_97
                      refine ok_ite (fun h238 => ?_) (fun h238 => ?_)
                      · have c239 : x1.toInt = (0 : Int) := o_eq h238
                        unfold J_X5_mostTouches_115
                        refine ok_bind (k_J9_max_7cf53 L hN (x0 := r141.1) (x1 := vx232)  I) (fun r240 hr241 => ?_)
                        have i242 := hr241
                        try rw [i242]
                        have f243 := ti_b r240.1
                        exact ok_some (show δ = δ from rfl)
                      · have c244 : x1.toInt ≠ (0 : Int) := o_ne h238
                        refine ok_ite (fun h245 => ?_) (fun h245 => ?_)
                        · have c246 : x1.toInt = (1 : Int) := o_eq h245
                          unfold J_X5_mostTouches_115
                          refine ok_bind (k_J9_max_7cf53 L hN (x0 := r141.1) (x1 := vx232)  I) (fun r247 hr248 => ?_)
                          have i249 := hr248
                          try rw [i249]
                          have f250 := ti_b r247.1
                          exact ok_some (show δ = δ from rfl)
                        · have c251 : x1.toInt ≠ (1 : Int) := o_ne h245
                          unfold J_X5_mostTouches_115
                          refine ok_bind (k_J9_max_7cf53 L hN (x0 := r141.1) (x1 := vx232)  I) (fun r252 hr253 => ?_)
                          have i254 := hr253
                          try rw [i254]
                          have f255 := ti_b r252.1
                          exact ok_some (show δ = δ from rfl)
          · have c256 : x1.toInt ≠ (0 : Int) := o_ne h19
            unfold J_X5_mostTouches_27
            exact ok_some (show δ = δ from rfl)
        · have c257 : vx2.toInt ≠ (0 : Int) := o_ne h16
          unfold J_X5_mostTouches_29
          refine ok_bind (k_X5_lowerBits L hN (a0 := a0) (x1 := x2) k_a0 I) (fun r258 hr259 => ?_)
          obtain ⟨i260, p261⟩ := hr259
          try rw [i260]
          have f262 := ti_b r258.1
          have f263 := ti_b r258.1
          refine ok_ite (fun h264 => ?_) (fun h264 => ?_)
          · have c265 : vx2.toInt = (0 : Int) := o_eq h264
            unfold J_X5_mostTouches_54
            have f266 := ti_b x1
            refine ok_ite (fun h267 => ?_) (fun h267 => ?_)
            · have c268 : x1.toInt = (2 : Int) := o_eq h267
              exact ok_some (show δ = δ from rfl)
            · have c269 : x1.toInt ≠ (2 : Int) := o_ne h267
              first | (have q273 := te_sub x2 r258.1 (by omega) (by omega); obtain ⟨f274, f275, f276⟩ := q273) | (obtain ⟨q273, f274, f275, f276⟩ := ti_sub x2 r258.1)
              refine ok_bind (ih a0 x1 (x2 - r258.1) vx2 δ k_a0 (show 0 ≤ ((x2 - r258.1)).toInt by first | assumption | omega) (show ((x2 - r258.1)).toInt ≤ 16 by first | assumption | omega) (show ((x2 - r258.1)).toInt < _ by first | assumption | omega) I) (fun r270 hr271 => ?_)
              have i277 := hr271
              try rw [i277]
              have f278 := ti_b r270.1
              refine ok_ite (fun h279 => ?_) (fun h279 => ?_)
              · have c280 : x1.toInt = (0 : Int) := o_eq h279
                unfold J_X5_mostTouches_94
                refine ok_biv (fun vx281 e282 => ?_)
                first | (have q283 := te_addc (c := 1) (n := 1) rfl r270.1 (by omega) (by omega); rw [← e282] at q283; obtain ⟨f284, f285, f286⟩ := q283) | (obtain ⟨q283, f284, f285, f286⟩ : ∃ q : Int, vx281.toInt = r270.1.toInt + (1 : Int) + 4294967296 * q ∧ -2147483648 ≤ vx281.toInt ∧ vx281.toInt ≤ 2147483647 := by rw [e282]; exact ti_addc (c := 1) (n := 1) rfl r270.1)
                unfold J_X5_mostTouches_97
                refine ok_ite (fun h287 => ?_) (fun h287 => ?_)
                · have c288 : x1.toInt = (0 : Int) := o_eq h287
                  unfold J_X5_mostTouches_115
                  refine ok_bind (k_J9_max_7cf53 L hN (x0 := (0 : Int32)) (x1 := vx281)  I) (fun r289 hr290 => ?_)
                  have i291 := hr290
                  try rw [i291]
                  have f292 := ti_b r289.1
                  exact ok_some (show δ = δ from rfl)
                · have c293 : x1.toInt ≠ (0 : Int) := o_ne h287
                  refine ok_ite (fun h294 => ?_) (fun h294 => ?_)
                  · have c295 : x1.toInt = (1 : Int) := o_eq h294
                    unfold J_X5_mostTouches_115
                    refine ok_bind (k_J9_max_7cf53 L hN (x0 := (0 : Int32)) (x1 := vx281)  I) (fun r296 hr297 => ?_)
                    have i298 := hr297
                    try rw [i298]
                    have f299 := ti_b r296.1
                    exact ok_some (show δ = δ from rfl)
                  · have c300 : x1.toInt ≠ (1 : Int) := o_ne h294
                    unfold J_X5_mostTouches_115
                    refine ok_bind (k_J9_max_7cf53 L hN (x0 := (0 : Int32)) (x1 := vx281)  I) (fun r301 hr302 => ?_)
                    have i303 := hr302
                    try rw [i303]
                    have f304 := ti_b r301.1
                    exact ok_some (show δ = δ from rfl)
              · have c305 : x1.toInt ≠ (0 : Int) := o_ne h279
                refine ok_ite (fun h306 => ?_) (fun h306 => ?_)
                · have c307 : x1.toInt = (1 : Int) := o_eq h306
                  unfold J_X5_mostTouches_94
                  refine ok_biv (fun vx308 e309 => ?_)
                  first | (have q310 := te_addc (c := 1) (n := 1) rfl r270.1 (by omega) (by omega); rw [← e309] at q310; obtain ⟨f311, f312, f313⟩ := q310) | (obtain ⟨q310, f311, f312, f313⟩ : ∃ q : Int, vx308.toInt = r270.1.toInt + (1 : Int) + 4294967296 * q ∧ -2147483648 ≤ vx308.toInt ∧ vx308.toInt ≤ 2147483647 := by rw [e309]; exact ti_addc (c := 1) (n := 1) rfl r270.1)
                  unfold J_X5_mostTouches_97
                  refine ok_ite (fun h314 => ?_) (fun h314 => ?_)
                  · have c315 : x1.toInt = (0 : Int) := o_eq h314
                    unfold J_X5_mostTouches_115
                    refine ok_bind (k_J9_max_7cf53 L hN (x0 := (0 : Int32)) (x1 := vx308)  I) (fun r316 hr317 => ?_)
                    have i318 := hr317
                    try rw [i318]
                    have f319 := ti_b r316.1
                    exact ok_some (show δ = δ from rfl)
                  · have c320 : x1.toInt ≠ (0 : Int) := o_ne h314
                    refine ok_ite (fun h321 => ?_) (fun h321 => ?_)
                    · have c322 : x1.toInt = (1 : Int) := o_eq h321
                      unfold J_X5_mostTouches_115
                      refine ok_bind (k_J9_max_7cf53 L hN (x0 := (0 : Int32)) (x1 := vx308)  I) (fun r323 hr324 => ?_)
                      have i325 := hr324
                      try rw [i325]
                      have f326 := ti_b r323.1
                      exact ok_some (show δ = δ from rfl)
                    · have c327 : x1.toInt ≠ (1 : Int) := o_ne h321
                      unfold J_X5_mostTouches_115
                      refine ok_bind (k_J9_max_7cf53 L hN (x0 := (0 : Int32)) (x1 := vx308)  I) (fun r328 hr329 => ?_)
                      have i330 := hr329
                      try rw [i330]
                      have f331 := ti_b r328.1
                      exact ok_some (show δ = δ from rfl)
                · have c332 : x1.toInt ≠ (1 : Int) := o_ne h306
                  refine ok_ite (fun h333 => ?_) (fun h333 => ?_)
                  · have c334 : vx2.toInt ≤ (1 : Int) := o_le h333
                    unfold J_X5_mostTouches_97
                    refine ok_ite (fun h335 => ?_) (fun h335 => ?_)
                    · have c336 : x1.toInt = (0 : Int) := o_eq h335
                      unfold J_X5_mostTouches_115
                      refine ok_bind (k_J9_max_7cf53 L hN (x0 := (0 : Int32)) (x1 := r270.1)  I) (fun r337 hr338 => ?_)
                      have i339 := hr338
                      try rw [i339]
                      have f340 := ti_b r337.1
                      exact ok_some (show δ = δ from rfl)
                    · have c341 : x1.toInt ≠ (0 : Int) := o_ne h335
                      refine ok_ite (fun h342 => ?_) (fun h342 => ?_)
                      · have c343 : x1.toInt = (1 : Int) := o_eq h342
                        unfold J_X5_mostTouches_115
                        refine ok_bind (k_J9_max_7cf53 L hN (x0 := (0 : Int32)) (x1 := r270.1)  I) (fun r344 hr345 => ?_)
                        have i346 := hr345
                        try rw [i346]
                        have f347 := ti_b r344.1
                        exact ok_some (show δ = δ from rfl)
                      · have c348 : x1.toInt ≠ (1 : Int) := o_ne h342
                        unfold J_X5_mostTouches_115
                        refine ok_bind (k_J9_max_7cf53 L hN (x0 := (0 : Int32)) (x1 := r270.1)  I) (fun r349 hr350 => ?_)
                        have i351 := hr350
                        try rw [i351]
                        have f352 := ti_b r349.1
                        exact ok_some (show δ = δ from rfl)
                  · have c353 : (1 : Int) < vx2.toInt := o_nle h333
                    unfold J_X5_mostTouches_94
                    refine ok_biv (fun vx354 e355 => ?_)
                    first | (have q356 := te_addc (c := 1) (n := 1) rfl r270.1 (by omega) (by omega); rw [← e355] at q356; obtain ⟨f357, f358, f359⟩ := q356) | (obtain ⟨q356, f357, f358, f359⟩ : ∃ q : Int, vx354.toInt = r270.1.toInt + (1 : Int) + 4294967296 * q ∧ -2147483648 ≤ vx354.toInt ∧ vx354.toInt ≤ 2147483647 := by rw [e355]; exact ti_addc (c := 1) (n := 1) rfl r270.1)
                    unfold J_X5_mostTouches_97
                    refine ok_ite (fun h360 => ?_) (fun h360 => ?_)
                    · have c361 : x1.toInt = (0 : Int) := o_eq h360
                      unfold J_X5_mostTouches_115
                      refine ok_bind (k_J9_max_7cf53 L hN (x0 := (0 : Int32)) (x1 := vx354)  I) (fun r362 hr363 => ?_)
                      have i364 := hr363
                      try rw [i364]
                      have f365 := ti_b r362.1
                      exact ok_some (show δ = δ from rfl)
                    · have c366 : x1.toInt ≠ (0 : Int) := o_ne h360
                      refine ok_ite (fun h367 => ?_) (fun h367 => ?_)
                      · have c368 : x1.toInt = (1 : Int) := o_eq h367
                        unfold J_X5_mostTouches_115
                        refine ok_bind (k_J9_max_7cf53 L hN (x0 := (0 : Int32)) (x1 := vx354)  I) (fun r369 hr370 => ?_)
                        have i371 := hr370
                        try rw [i371]
                        have f372 := ti_b r369.1
                        exact ok_some (show δ = δ from rfl)
                      · have c373 : x1.toInt ≠ (1 : Int) := o_ne h367
                        unfold J_X5_mostTouches_115
                        refine ok_bind (k_J9_max_7cf53 L hN (x0 := (0 : Int32)) (x1 := vx354)  I) (fun r374 hr375 => ?_)
                        have i376 := hr375
                        try rw [i376]
                        have f377 := ti_b r374.1
                        exact ok_some (show δ = δ from rfl)
          · have c378 : vx2.toInt ≠ (0 : Int) := o_ne h264
            refine ok_bind (ih a0 x1 r258.1 vx2 δ k_a0 (show 0 ≤ (r258.1).toInt by first | assumption | omega) (show (r258.1).toInt ≤ 16 by first | assumption | omega) (show (r258.1).toInt < _ by first | assumption | omega) I) (fun r379 hr380 => ?_)
            have i381 := hr380
            try rw [i381]
            have f382 := ti_b r379.1
            unfold J_X5_mostTouches_54
            have f383 := ti_b x1
            refine ok_ite (fun h384 => ?_) (fun h384 => ?_)
            · have c385 : x1.toInt = (2 : Int) := o_eq h384
              exact ok_some (show δ = δ from rfl)
            · have c386 : x1.toInt ≠ (2 : Int) := o_ne h384
              first | (have q390 := te_sub x2 r258.1 (by omega) (by omega); obtain ⟨f391, f392, f393⟩ := q390) | (obtain ⟨q390, f391, f392, f393⟩ := ti_sub x2 r258.1)
              refine ok_bind (ih a0 x1 (x2 - r258.1) vx2 δ k_a0 (show 0 ≤ ((x2 - r258.1)).toInt by first | assumption | omega) (show ((x2 - r258.1)).toInt ≤ 16 by first | assumption | omega) (show ((x2 - r258.1)).toInt < _ by first | assumption | omega) I) (fun r387 hr388 => ?_)
              have i394 := hr388
              try rw [i394]
              have f395 := ti_b r387.1
              refine ok_ite (fun h396 => ?_) (fun h396 => ?_)
              · have c397 : x1.toInt = (0 : Int) := o_eq h396
                unfold J_X5_mostTouches_94
                refine ok_biv (fun vx398 e399 => ?_)
                first | (have q400 := te_addc (c := 1) (n := 1) rfl r387.1 (by omega) (by omega); rw [← e399] at q400; obtain ⟨f401, f402, f403⟩ := q400) | (obtain ⟨q400, f401, f402, f403⟩ : ∃ q : Int, vx398.toInt = r387.1.toInt + (1 : Int) + 4294967296 * q ∧ -2147483648 ≤ vx398.toInt ∧ vx398.toInt ≤ 2147483647 := by rw [e399]; exact ti_addc (c := 1) (n := 1) rfl r387.1)
                unfold J_X5_mostTouches_97
                refine ok_ite (fun h404 => ?_) (fun h404 => ?_)
                · have c405 : x1.toInt = (0 : Int) := o_eq h404
                  unfold J_X5_mostTouches_115
                  refine ok_bind (k_J9_max_7cf53 L hN (x0 := r379.1) (x1 := vx398)  I) (fun r406 hr407 => ?_)
                  have i408 := hr407
                  try rw [i408]
                  have f409 := ti_b r406.1
                  exact ok_some (show δ = δ from rfl)
                · have c410 : x1.toInt ≠ (0 : Int) := o_ne h404
                  refine ok_ite (fun h411 => ?_) (fun h411 => ?_)
                  · have c412 : x1.toInt = (1 : Int) := o_eq h411
                    unfold J_X5_mostTouches_115
                    refine ok_bind (k_J9_max_7cf53 L hN (x0 := r379.1) (x1 := vx398)  I) (fun r413 hr414 => ?_)
                    have i415 := hr414
                    try rw [i415]
                    have f416 := ti_b r413.1
                    exact ok_some (show δ = δ from rfl)
                  · have c417 : x1.toInt ≠ (1 : Int) := o_ne h411
                    unfold J_X5_mostTouches_115
                    refine ok_bind (k_J9_max_7cf53 L hN (x0 := r379.1) (x1 := vx398)  I) (fun r418 hr419 => ?_)
                    have i420 := hr419
                    try rw [i420]
                    have f421 := ti_b r418.1
                    exact ok_some (show δ = δ from rfl)
              · have c422 : x1.toInt ≠ (0 : Int) := o_ne h396
                refine ok_ite (fun h423 => ?_) (fun h423 => ?_)
                · have c424 : x1.toInt = (1 : Int) := o_eq h423
                  unfold J_X5_mostTouches_94
                  refine ok_biv (fun vx425 e426 => ?_)
                  first | (have q427 := te_addc (c := 1) (n := 1) rfl r387.1 (by omega) (by omega); rw [← e426] at q427; obtain ⟨f428, f429, f430⟩ := q427) | (obtain ⟨q427, f428, f429, f430⟩ : ∃ q : Int, vx425.toInt = r387.1.toInt + (1 : Int) + 4294967296 * q ∧ -2147483648 ≤ vx425.toInt ∧ vx425.toInt ≤ 2147483647 := by rw [e426]; exact ti_addc (c := 1) (n := 1) rfl r387.1)
                  unfold J_X5_mostTouches_97
                  refine ok_ite (fun h431 => ?_) (fun h431 => ?_)
                  · have c432 : x1.toInt = (0 : Int) := o_eq h431
                    unfold J_X5_mostTouches_115
                    refine ok_bind (k_J9_max_7cf53 L hN (x0 := r379.1) (x1 := vx425)  I) (fun r433 hr434 => ?_)
                    have i435 := hr434
                    try rw [i435]
                    have f436 := ti_b r433.1
                    exact ok_some (show δ = δ from rfl)
                  · have c437 : x1.toInt ≠ (0 : Int) := o_ne h431
                    refine ok_ite (fun h438 => ?_) (fun h438 => ?_)
                    · have c439 : x1.toInt = (1 : Int) := o_eq h438
                      unfold J_X5_mostTouches_115
                      refine ok_bind (k_J9_max_7cf53 L hN (x0 := r379.1) (x1 := vx425)  I) (fun r440 hr441 => ?_)
                      have i442 := hr441
                      try rw [i442]
                      have f443 := ti_b r440.1
                      exact ok_some (show δ = δ from rfl)
                    · have c444 : x1.toInt ≠ (1 : Int) := o_ne h438
                      unfold J_X5_mostTouches_115
                      refine ok_bind (k_J9_max_7cf53 L hN (x0 := r379.1) (x1 := vx425)  I) (fun r445 hr446 => ?_)
                      have i447 := hr446
                      try rw [i447]
                      have f448 := ti_b r445.1
                      exact ok_some (show δ = δ from rfl)
                · have c449 : x1.toInt ≠ (1 : Int) := o_ne h423
                  refine ok_ite (fun h450 => ?_) (fun h450 => ?_)
                  · have c451 : vx2.toInt ≤ (1 : Int) := o_le h450
                    unfold J_X5_mostTouches_97
                    refine ok_ite (fun h452 => ?_) (fun h452 => ?_)
                    · have c453 : x1.toInt = (0 : Int) := o_eq h452
                      unfold J_X5_mostTouches_115
                      refine ok_bind (k_J9_max_7cf53 L hN (x0 := r379.1) (x1 := r387.1)  I) (fun r454 hr455 => ?_)
                      have i456 := hr455
                      try rw [i456]
                      have f457 := ti_b r454.1
                      exact ok_some (show δ = δ from rfl)
                    · have c458 : x1.toInt ≠ (0 : Int) := o_ne h452
                      refine ok_ite (fun h459 => ?_) (fun h459 => ?_)
                      · have c460 : x1.toInt = (1 : Int) := o_eq h459
                        unfold J_X5_mostTouches_115
                        refine ok_bind (k_J9_max_7cf53 L hN (x0 := r379.1) (x1 := r387.1)  I) (fun r461 hr462 => ?_)
                        have i463 := hr462
                        try rw [i463]
                        have f464 := ti_b r461.1
                        exact ok_some (show δ = δ from rfl)
                      · have c465 : x1.toInt ≠ (1 : Int) := o_ne h459
                        unfold J_X5_mostTouches_115
                        refine ok_bind (k_J9_max_7cf53 L hN (x0 := r379.1) (x1 := r387.1)  I) (fun r466 hr467 => ?_)
                        have i468 := hr467
                        try rw [i468]
                        have f469 := ti_b r466.1
                        exact ok_some (show δ = δ from rfl)
                  · have c470 : (1 : Int) < vx2.toInt := o_nle h450
                    unfold J_X5_mostTouches_94
                    refine ok_biv (fun vx471 e472 => ?_)
                    first | (have q473 := te_addc (c := 1) (n := 1) rfl r387.1 (by omega) (by omega); rw [← e472] at q473; obtain ⟨f474, f475, f476⟩ := q473) | (obtain ⟨q473, f474, f475, f476⟩ : ∃ q : Int, vx471.toInt = r387.1.toInt + (1 : Int) + 4294967296 * q ∧ -2147483648 ≤ vx471.toInt ∧ vx471.toInt ≤ 2147483647 := by rw [e472]; exact ti_addc (c := 1) (n := 1) rfl r387.1)
                    unfold J_X5_mostTouches_97
                    refine ok_ite (fun h477 => ?_) (fun h477 => ?_)
                    · have c478 : x1.toInt = (0 : Int) := o_eq h477
                      unfold J_X5_mostTouches_115
                      refine ok_bind (k_J9_max_7cf53 L hN (x0 := r379.1) (x1 := vx471)  I) (fun r479 hr480 => ?_)
                      have i481 := hr480
                      try rw [i481]
                      have f482 := ti_b r479.1
                      exact ok_some (show δ = δ from rfl)
                    · have c483 : x1.toInt ≠ (0 : Int) := o_ne h477
                      refine ok_ite (fun h484 => ?_) (fun h484 => ?_)
                      · have c485 : x1.toInt = (1 : Int) := o_eq h484
                        unfold J_X5_mostTouches_115
                        refine ok_bind (k_J9_max_7cf53 L hN (x0 := r379.1) (x1 := vx471)  I) (fun r486 hr487 => ?_)
                        have i488 := hr487
                        try rw [i488]
                        have f489 := ti_b r486.1
                        exact ok_some (show δ = δ from rfl)
                      · have c490 : x1.toInt ≠ (1 : Int) := o_ne h484
                        unfold J_X5_mostTouches_115
                        refine ok_bind (k_J9_max_7cf53 L hN (x0 := r379.1) (x1 := vx471)  I) (fun r491 hr492 => ?_)
                        have i493 := hr492
                        try rw [i493]
                        have f494 := ti_b r491.1
                        exact ok_some (show δ = δ from rfl)
set_option maxHeartbeats 4000000 in
theorem k_X5_mostTouches {ad : List Nat} {h : hp} (L : Lay TLx ad h) {δ0 : dp} {N : Nat} (hN : 10000000 ≤ N) {a0 : Nat} {x1 : Int32} {x2 : Int32} {x3 : Int32} (k_a0 : q_K h.1 a0 = 5) {δ : dp} (z0 : 0 ≤ (x2).toInt) (z1 : (x2).toInt ≤ 16) (hd : (x2).toInt < 20) (I : CI ad h.1 δ0 δ) : ok (D_X5_mostTouches N h.1 a0 x1 x2 x3 δ) (fun r => r.2 = δ) := ke_X5_mostTouches L hN 20 a0 x1 x2 x3 δ k_a0 z0 z1 hd I
set_option maxHeartbeats 4000000 in
theorem k_X5_boundOf {ad : List Nat} {h : hp} (L : Lay TLx ad h) {δ0 : dp} {N : Nat} (hN : 10000000 ≤ N) {a0 : Nat} {x1 : Int32} (k_a0 : q_K h.1 a0 = 5) {δ : dp} (I : CI ad h.1 δ0 δ) : ok (D_X5_boundOf N h.1 a0 x1 δ) (fun r => r.2 = δ) := by
  unfold D_X5_boundOf
  have f3 := cb_5_0 I k_a0
  refine ok_bind (k_X5_mostTouches L hN (a0 := a0) (x1 := x1) (x2 := (q_I δ 5 0 a0)) (x3 := (1048576 : Int32)) k_a0 (show 0 ≤ ((q_I δ 5 0 a0)).toInt by first | assumption | omega) (show ((q_I δ 5 0 a0)).toInt ≤ 16 by first | assumption | omega) (show ((q_I δ 5 0 a0)).toInt < 20 by first | assumption | omega) I) (fun r1 hr2 => ?_)
  have i4 := hr2
  try rw [i4]
  have f5 := ti_b r1.1
  exact ok_some (show δ = δ from rfl)
