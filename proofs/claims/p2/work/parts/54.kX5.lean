/-! 54.kX5 (by gen_safe.py) -/
set_option maxHeartbeats 4000000 in
theorem k_J9_max_7cf53 {ad : List Nat} {h : hp} (L : Lay TLx ad h) {δ0 : dp} {N : Nat} (hN : 10000000 ≤ N) {x0 : Int32} {x1 : Int32} {δ : dp} (I : CI ad h.1 δ0 δ) : ok (D_J9_max_7cf53 N h.1 x0 x1 δ) (fun r => r.2 = δ) := by
  unfold D_J9_max_7cf53
  have f1 := ti_b x0
  have f2 := ti_b x1
  refine ok_ite (fun h3 => ?_) (fun h3 => ?_)
  · have c4 := o_lt h3
    unfold J_J9_max_7cf53_10
    exact ok_some (show δ = δ from rfl)
  · have c5 := o_nlt h3
    unfold J_J9_max_7cf53_10
    exact ok_some (show δ = δ from rfl)
set_option maxHeartbeats 4000000 in
theorem k_J9_min_7cf53 {ad : List Nat} {h : hp} (L : Lay TLx ad h) {δ0 : dp} {N : Nat} (hN : 10000000 ≤ N) {x0 : Int32} {x1 : Int32} {δ : dp} (I : CI ad h.1 δ0 δ) : ok (D_J9_min_7cf53 N h.1 x0 x1 δ) (fun r => r.2 = δ ∧ (r.1).toInt ≤ (x0).toInt ∧ (r.1).toInt ≤ (x1).toInt ∧ (r.1).toInt = (x0).toInt ∨ (r.1).toInt = (x1).toInt) := by
  unfold D_J9_min_7cf53
  have f1 := ti_b x1
  have f2 := ti_b x0
  refine ok_ite (fun h3 => ?_) (fun h3 => ?_)
  · have c4 := o_lt h3
    unfold J_J9_min_7cf53_10
    exact ok_some (show δ = δ ∧ (x1).toInt ≤ (x0).toInt ∧ (x1).toInt ≤ (x1).toInt ∧ (x1).toInt = (x0).toInt ∨ (x1).toInt = (x1).toInt from ⟨rfl, by first | omega | assumption, by first | omega | assumption, by first | omega | assumption⟩)
  · have c5 := o_nlt h3
    unfold J_J9_min_7cf53_10
    exact ok_some (show δ = δ ∧ (x0).toInt ≤ (x0).toInt ∧ (x0).toInt ≤ (x1).toInt ∧ (x0).toInt = (x0).toInt ∨ (x0).toInt = (x1).toInt from ⟨rfl, by first | omega | assumption, by first | omega | assumption, by first | omega | assumption⟩)
set_option maxHeartbeats 4000000 in
theorem k_J6_compare_7cf53 {ad : List Nat} {h : hp} (L : Lay TLx ad h) {δ0 : dp} {N : Nat} (hN : 10000000 ≤ N) {x0 : Int32} {x1 : Int32} {δ : dp} (I : CI ad h.1 δ0 δ) : ok (D_J6_compare_7cf53 N h.1 x0 x1 δ) (fun r => r.2 = δ ∧ (r.1).toInt = 0 ∨ (r.1).toInt = 1 ∨ (r.1).toInt = -1) := by
  unfold D_J6_compare_7cf53
  have f1 := ti_b x1
  have f2 := ti_b x0
  refine ok_ite (fun h3 => ?_) (fun h3 => ?_)
  · have c4 := o_le h3
    refine ok_ite (fun h5 => ?_) (fun h5 => ?_)
    · have c6 := o_eq h5
      unfold J_J6_compare_7cf53_19
      have f7 : (0 : Int32).toInt = 0 := rfl
      exact ok_some (show δ = δ ∧ ((0 : Int32)).toInt = 0 ∨ ((0 : Int32)).toInt = 1 ∨ ((0 : Int32)).toInt = -1 from ⟨rfl, by first | omega | assumption⟩)
    · have c8 := o_ne h5
      unfold J_J6_compare_7cf53_19
      have f9 : (1 : Int32).toInt = 1 := rfl
      exact ok_some (show δ = δ ∧ ((1 : Int32)).toInt = 0 ∨ ((1 : Int32)).toInt = 1 ∨ ((1 : Int32)).toInt = -1 from ⟨rfl, by first | omega | assumption⟩)
  · have c10 := o_nle h3
    unfold J_J6_compare_7cf53_19
    have f11 : (-1 : Int32).toInt = -1 := rfl
    exact ok_some (show δ = δ ∧ ((-1 : Int32)).toInt = 0 ∨ ((-1 : Int32)).toInt = 1 ∨ ((-1 : Int32)).toInt = -1 from ⟨rfl, by first | omega | assumption⟩)
set_option maxHeartbeats 4000000 in
theorem k_X5_greatest {ad : List Nat} {h : hp} (L : Lay TLx ad h) {δ0 : dp} {N : Nat} (hN : 10000000 ≤ N) {a0 : Nat} (k_a0 : q_K h.1 a0 = 5) {δ : dp} (I : CI ad h.1 δ0 δ) : ok (D_X5_greatest N h.1 a0 δ) (fun r => r.2 = δ ∧ 3 ≤ (r.1).toInt ∧ (r.1).toInt ≤ 65535 ∧ (q_I δ 5 0 a0).toInt ≤ 6 → (r.1).toInt ≤ 63 ∧ (q_I δ 5 0 a0).toInt ≤ 4 → (r.1).toInt ≤ 15) := by
  unfold D_X5_greatest
  have f1 := cb_5_0 I k_a0
  have f2 := sh_b (q_I δ 5 0 a0)
  have f3 := ti_b ((1 : Int32) <<< ((q_I δ 5 0 a0) &&& 31))
  have f4 : (1 : Int32).toInt = 1 := rfl
  obtain ⟨q5, f6, f7, f8⟩ := ti_sub ((1 : Int32) <<< ((q_I δ 5 0 a0) &&& 31)) (1 : Int32)
  exact ok_some (show δ = δ ∧ 3 ≤ ((((1 : Int32) <<< ((q_I δ 5 0 a0) &&& 31)) - (1 : Int32))).toInt ∧ ((((1 : Int32) <<< ((q_I δ 5 0 a0) &&& 31)) - (1 : Int32))).toInt ≤ 65535 ∧ (q_I δ 5 0 a0).toInt ≤ 6 → ((((1 : Int32) <<< ((q_I δ 5 0 a0) &&& 31)) - (1 : Int32))).toInt ≤ 63 ∧ (q_I δ 5 0 a0).toInt ≤ 4 → ((((1 : Int32) <<< ((q_I δ 5 0 a0) &&& 31)) - (1 : Int32))).toInt ≤ 15 from ⟨rfl, by first | omega | assumption, by first | omega | assumption, by first | omega | assumption, by first | omega | assumption⟩)
set_option maxHeartbeats 4000000 in
theorem k_X5_isSmall {ad : List Nat} {h : hp} (L : Lay TLx ad h) {δ0 : dp} {N : Nat} (hN : 10000000 ≤ N) {a0 : Nat} (k_a0 : q_K h.1 a0 = 5) {δ : dp} (I : CI ad h.1 δ0 δ) : ok (D_X5_isSmall N h.1 a0 δ) (fun r => r.2 = δ ∧ bo (r.1) ∧ (r.1).toInt = 0 ∨ (q_I δ 5 0 a0).toInt ≤ 6) := by
  unfold D_X5_isSmall
  have f1 : (6 : Int32).toInt = 6 := rfl
  have f2 := cb_5_0 I k_a0
  refine ok_ite (fun h3 => ?_) (fun h3 => ?_)
  · have c4 := o_lt h3
    unfold J_X5_isSmall_14
    refine ok_gp (by decide) ?_
    have f5 : (0 : Int32).toInt = 0 := rfl
    exact ok_some (show δ = δ ∧ bo ((0 : Int32)) ∧ ((0 : Int32)).toInt = 0 ∨ (q_I δ 5 0 a0).toInt ≤ 6 from ⟨rfl, bo_0, by first | omega | assumption⟩)
  · have c6 := o_nlt h3
    unfold J_X5_isSmall_14
    refine ok_gp (by decide) ?_
    have f7 : (1 : Int32).toInt = 1 := rfl
    exact ok_some (show δ = δ ∧ bo ((1 : Int32)) ∧ ((1 : Int32)).toInt = 0 ∨ (q_I δ 5 0 a0).toInt ≤ 6 from ⟨rfl, bo_1, by first | omega | assumption⟩)
set_option maxHeartbeats 4000000 in
theorem k_X5_mostInSets {ad : List Nat} {h : hp} (L : Lay TLx ad h) {δ0 : dp} {N : Nat} (hN : 10000000 ≤ N) {a0 : Nat} (k_a0 : q_K h.1 a0 = 5) {δ : dp} (I : CI ad h.1 δ0 δ) : ok (D_X5_mostInSets N h.1 a0 δ) (fun r => r.2 = δ ∧ (r.1).toInt = 3 ∨ (r.1).toInt = 16 ∧ (q_I δ 5 0 a0).toInt ≤ 4) := by
  unfold D_X5_mostInSets
  have f1 : (4 : Int32).toInt = 4 := rfl
  have f2 := cb_5_0 I k_a0
  refine ok_ite (fun h3 => ?_) (fun h3 => ?_)
  · have c4 := o_lt h3
    unfold J_X5_mostInSets_14
    have f5 : (3 : Int32).toInt = 3 := rfl
    exact ok_some (show δ = δ ∧ ((3 : Int32)).toInt = 3 ∨ ((3 : Int32)).toInt = 16 ∧ (q_I δ 5 0 a0).toInt ≤ 4 from ⟨rfl, by first | omega | assumption⟩)
  · have c6 := o_nlt h3
    unfold J_X5_mostInSets_14
    have f7 : (16 : Int32).toInt = 16 := rfl
    exact ok_some (show δ = δ ∧ ((16 : Int32)).toInt = 3 ∨ ((16 : Int32)).toInt = 16 ∧ (q_I δ 5 0 a0).toInt ≤ 4 from ⟨rfl, by first | omega | assumption⟩)
set_option maxHeartbeats 4000000 in
theorem k_X5_mostInRows {ad : List Nat} {h : hp} (L : Lay TLx ad h) {δ0 : dp} {N : Nat} (hN : 10000000 ≤ N) {a0 : Nat} (k_a0 : q_K h.1 a0 = 5) {δ : dp} (I : CI ad h.1 δ0 δ) : ok (D_X5_mostInRows N h.1 a0 δ) (fun r => r.2 = δ ∧ (r.1).toInt = 2 ∨ (r.1).toInt = 6 ∧ (q_I δ 5 0 a0).toInt ≤ 4) := by
  unfold D_X5_mostInRows
  have f1 : (4 : Int32).toInt = 4 := rfl
  have f2 := cb_5_0 I k_a0
  refine ok_ite (fun h3 => ?_) (fun h3 => ?_)
  · have c4 := o_lt h3
    unfold J_X5_mostInRows_14
    have f5 : (2 : Int32).toInt = 2 := rfl
    exact ok_some (show δ = δ ∧ ((2 : Int32)).toInt = 2 ∨ ((2 : Int32)).toInt = 6 ∧ (q_I δ 5 0 a0).toInt ≤ 4 from ⟨rfl, by first | omega | assumption⟩)
  · have c6 := o_nlt h3
    unfold J_X5_mostInRows_14
    have f7 : (6 : Int32).toInt = 6 := rfl
    exact ok_some (show δ = δ ∧ ((6 : Int32)).toInt = 2 ∨ ((6 : Int32)).toInt = 6 ∧ (q_I δ 5 0 a0).toInt ≤ 4 from ⟨rfl, by first | omega | assumption⟩)
set_option maxHeartbeats 4000000 in
theorem k_X5_lowerBits {ad : List Nat} {h : hp} (L : Lay TLx ad h) {δ0 : dp} {N : Nat} (hN : 10000000 ≤ N) {a0 : Nat} {x1 : Int32} (k_a0 : q_K h.1 a0 = 5) {δ : dp} (I : CI ad h.1 δ0 δ) : ok (D_X5_lowerBits N h.1 a0 x1 δ) (fun r => r.2 = δ ∧ 2 ≤ (x1).toInt ∧ (x1).toInt ≤ 16 → 1 ≤ (r.1).toInt ∧ (r.1).toInt < (x1).toInt) := by
  unfold D_X5_lowerBits
  have f1 := cb_5_1 I k_a0
  have f2 : (0 : Int32).toInt = 0 := rfl
  refine ok_ite (fun h3 => ?_) (fun h3 => ?_)
  · have c4 := o_eq h3
    unfold J_X5_lowerBits_18
    have f5 := ti_b x1
    have f6 : (1 : Int32).toInt = 1 := rfl
    obtain ⟨q7, f8, f9, f10⟩ := ti_add x1 (1 : Int32)
    have f11 := ti_div (c := 2) (n := 2) rfl (by decide) (x1 + (1 : Int32))
    have f12 := ti_b ((x1 + (1 : Int32)) / (2 : Int32))
    exact ok_some (show δ = δ ∧ 2 ≤ (x1).toInt ∧ (x1).toInt ≤ 16 → 1 ≤ (((x1 + (1 : Int32)) / (2 : Int32))).toInt ∧ (((x1 + (1 : Int32)) / (2 : Int32))).toInt < (x1).toInt from ⟨rfl, by first | omega | assumption⟩)
  · have c13 := o_ne h3
    unfold J_X5_lowerBits_18
    have f14 := ti_b x1
    have f15 := ti_div (c := 2) (n := 2) rfl (by decide) x1
    have f16 := ti_b (x1 / (2 : Int32))
    exact ok_some (show δ = δ ∧ 2 ≤ (x1).toInt ∧ (x1).toInt ≤ 16 → 1 ≤ ((x1 / (2 : Int32))).toInt ∧ ((x1 / (2 : Int32))).toInt < (x1).toInt from ⟨rfl, by first | omega | assumption⟩)
set_option maxHeartbeats 4000000 in
theorem ke_X5_mostTouches {ad : List Nat} {h : hp} (L : Lay TLx ad h) {δ0 : dp} {N : Nat} (hN : 10000000 ≤ N) : ∀ (k : Nat), ∀ (a0 : Nat) (x1 : Int32) (x2 : Int32) (x3 : Int32) (δ : dp), q_K h.1 a0 = 5 → 0 ≤ (x2).toInt → (x2).toInt ≤ 16 → (x2).toInt < (k : Int) → CI ad h.1 δ0 δ → ok (E_X5_mostTouches N h.1 k a0 x1 x2 x3 δ) (fun r => r.2 = δ) := by
  intro k
  induction k with
  | zero =>
    intro a0 x1 x2 x3 δ k_a0 z0 z1 hd I
    exfalso; omega
  | succ k ih =>
    intro a0 x1 x2 x3 δ k_a0 z0 z1 hd I
    unfold E_X5_mostTouches B_X5_mostTouches
    have f3 := ti_b x3
    have f4 : (2 : Int32).toInt = 2 := rfl
    obtain ⟨q5, f6, f7, f8⟩ := ti_sub x3 (2 : Int32)
    refine ok_biv (fun vx1 e2 => ?_)
    have f9 := congrArg Int32.toInt e2
    have f10 := ti_b x2
    have f11 := cb_5_2 I k_a0
    refine ok_ite (fun h12 => ?_) (fun h12 => ?_)
    · have c13 := o_le h12
      unfold J_X5_mostTouches_27
      exact ok_some (show δ = δ from rfl)
    · have c14 := o_nle h12
      have f15 : (0 : Int32).toInt = 0 := rfl
      refine ok_ite (fun h16 => ?_) (fun h16 => ?_)
      · have c17 := o_lt h16
        unfold J_X5_mostTouches_27
        exact ok_some (show δ = δ from rfl)
      · have c18 := o_nlt h16
        refine ok_ite (fun h19 => ?_) (fun h19 => ?_)
        · have c20 := o_eq h19
          have f21 := ti_b x1
          refine ok_ite (fun h22 => ?_) (fun h22 => ?_)
          · have c23 := o_eq h22
            unfold J_X5_mostTouches_29
            refine ok_bind (k_X5_lowerBits L hN (a0 := a0) (x1 := x2) k_a0 I) (fun r24 hr25 => ?_)
            obtain ⟨i26, p27⟩ := hr25
            try simp only [i26]
            have f28 := ti_b r24.1
            refine ok_ite (fun h29 => ?_) (fun h29 => ?_)
            · have c30 := o_eq h29
              unfold J_X5_mostTouches_54
              refine ok_ite (fun h31 => ?_) (fun h31 => ?_)
              · have c32 := o_eq h31
                exact ok_some (show δ = δ from rfl)
              · have c33 := o_ne h31
                obtain ⟨q36, f37, f38, f39⟩ := ti_sub x2 r24.1
                refine ok_bind (ih a0 x1 (x2 - r24.1) vx1 δ k_a0 (show 0 ≤ ((x2 - r24.1)).toInt by first | omega | assumption) (show ((x2 - r24.1)).toInt ≤ 16 by first | omega | assumption) (show ((x2 - r24.1)).toInt < _ by first | omega | assumption) I) (fun r34 hr35 => ?_)
                have i40 := hr35
                try simp only [i40]
                have f41 := ti_b r34.1
                refine ok_ite (fun h42 => ?_) (fun h42 => ?_)
                · have c43 := o_eq h42
                  unfold J_X5_mostTouches_94
                  have f46 : (1 : Int32).toInt = 1 := rfl
                  obtain ⟨q47, f48, f49, f50⟩ := ti_add r34.1 (1 : Int32)
                  refine ok_biv (fun vx44 e45 => ?_)
                  have f51 := congrArg Int32.toInt e45
                  unfold J_X5_mostTouches_97
                  refine ok_ite (fun h52 => ?_) (fun h52 => ?_)
                  · have c53 := o_eq h52
                    unfold J_X5_mostTouches_115
                    refine ok_bind (k_J9_max_7cf53 L hN (x0 := (0 : Int32)) (x1 := vx44)  I) (fun r54 hr55 => ?_)
                    have i56 := hr55
                    try simp only [i56]
                    have f57 := ti_b r54.1
                    exact ok_some (show δ = δ from rfl)
                  · have c58 := o_ne h52
                    have f59 : (1 : Int32).toInt = 1 := rfl
                    refine ok_ite (fun h60 => ?_) (fun h60 => ?_)
                    · have c61 := o_eq h60
                      unfold J_X5_mostTouches_115
                      refine ok_bind (k_J9_max_7cf53 L hN (x0 := (0 : Int32)) (x1 := vx44)  I) (fun r62 hr63 => ?_)
                      have i64 := hr63
                      try simp only [i64]
                      have f65 := ti_b r62.1
                      exact ok_some (show δ = δ from rfl)
                    · have c66 := o_ne h60
                      unfold J_X5_mostTouches_115
                      refine ok_bind (k_J9_max_7cf53 L hN (x0 := (0 : Int32)) (x1 := vx44)  I) (fun r67 hr68 => ?_)
                      have i69 := hr68
                      try simp only [i69]
                      have f70 := ti_b r67.1
                      exact ok_some (show δ = δ from rfl)
                · have c71 := o_ne h42
                  have f72 : (1 : Int32).toInt = 1 := rfl
                  refine ok_ite (fun h73 => ?_) (fun h73 => ?_)
                  · have c74 := o_eq h73
                    unfold J_X5_mostTouches_94
                    have f77 : (1 : Int32).toInt = 1 := rfl
                    obtain ⟨q78, f79, f80, f81⟩ := ti_add r34.1 (1 : Int32)
                    refine ok_biv (fun vx75 e76 => ?_)
                    have f82 := congrArg Int32.toInt e76
                    unfold J_X5_mostTouches_97
                    refine ok_ite (fun h83 => ?_) (fun h83 => ?_)
                    · have c84 := o_eq h83
                      unfold J_X5_mostTouches_115
                      refine ok_bind (k_J9_max_7cf53 L hN (x0 := (0 : Int32)) (x1 := vx75)  I) (fun r85 hr86 => ?_)
                      have i87 := hr86
                      try simp only [i87]
                      have f88 := ti_b r85.1
                      exact ok_some (show δ = δ from rfl)
                    · have c89 := o_ne h83
                      refine ok_ite (fun h90 => ?_) (fun h90 => ?_)
                      · have c91 := o_eq h90
                        unfold J_X5_mostTouches_115
                        refine ok_bind (k_J9_max_7cf53 L hN (x0 := (0 : Int32)) (x1 := vx75)  I) (fun r92 hr93 => ?_)
                        have i94 := hr93
                        try simp only [i94]
                        have f95 := ti_b r92.1
                        exact ok_some (show δ = δ from rfl)
                      · have c96 := o_ne h90
                        unfold J_X5_mostTouches_115
                        refine ok_bind (k_J9_max_7cf53 L hN (x0 := (0 : Int32)) (x1 := vx75)  I) (fun r97 hr98 => ?_)
                        have i99 := hr98
                        try simp only [i99]
                        have f100 := ti_b r97.1
                        exact ok_some (show δ = δ from rfl)
                  · have c101 := o_ne h73
                    refine ok_ite (fun h102 => ?_) (fun h102 => ?_)
                    · have c103 := o_le h102
                      unfold J_X5_mostTouches_97
                      refine ok_ite (fun h104 => ?_) (fun h104 => ?_)
                      · have c105 := o_eq h104
                        unfold J_X5_mostTouches_115
                        refine ok_bind (k_J9_max_7cf53 L hN (x0 := (0 : Int32)) (x1 := r34.1)  I) (fun r106 hr107 => ?_)
                        have i108 := hr107
                        try simp only [i108]
                        have f109 := ti_b r106.1
                        exact ok_some (show δ = δ from rfl)
                      · have c110 := o_ne h104
                        refine ok_ite (fun h111 => ?_) (fun h111 => ?_)
                        · have c112 := o_eq h111
                          unfold J_X5_mostTouches_115
                          refine ok_bind (k_J9_max_7cf53 L hN (x0 := (0 : Int32)) (x1 := r34.1)  I) (fun r113 hr114 => ?_)
                          have i115 := hr114
                          try simp only [i115]
                          have f116 := ti_b r113.1
                          exact ok_some (show δ = δ from rfl)
                        · have c117 := o_ne h111
                          unfold J_X5_mostTouches_115
                          refine ok_bind (k_J9_max_7cf53 L hN (x0 := (0 : Int32)) (x1 := r34.1)  I) (fun r118 hr119 => ?_)
                          have i120 := hr119
                          try simp only [i120]
                          have f121 := ti_b r118.1
                          exact ok_some (show δ = δ from rfl)
                    · have c122 := o_nle h102
                      unfold J_X5_mostTouches_94
                      have f125 : (1 : Int32).toInt = 1 := rfl
                      obtain ⟨q126, f127, f128, f129⟩ := ti_add r34.1 (1 : Int32)
                      refine ok_biv (fun vx123 e124 => ?_)
                      have f130 := congrArg Int32.toInt e124
                      unfold J_X5_mostTouches_97
                      refine ok_ite (fun h131 => ?_) (fun h131 => ?_)
                      · have c132 := o_eq h131
                        unfold J_X5_mostTouches_115
                        refine ok_bind (k_J9_max_7cf53 L hN (x0 := (0 : Int32)) (x1 := vx123)  I) (fun r133 hr134 => ?_)
                        have i135 := hr134
                        try simp only [i135]
                        have f136 := ti_b r133.1
                        exact ok_some (show δ = δ from rfl)
                      · have c137 := o_ne h131
                        refine ok_ite (fun h138 => ?_) (fun h138 => ?_)
                        · have c139 := o_eq h138
                          unfold J_X5_mostTouches_115
                          refine ok_bind (k_J9_max_7cf53 L hN (x0 := (0 : Int32)) (x1 := vx123)  I) (fun r140 hr141 => ?_)
                          have i142 := hr141
                          try simp only [i142]
                          have f143 := ti_b r140.1
                          exact ok_some (show δ = δ from rfl)
                        · have c144 := o_ne h138
                          unfold J_X5_mostTouches_115
                          refine ok_bind (k_J9_max_7cf53 L hN (x0 := (0 : Int32)) (x1 := vx123)  I) (fun r145 hr146 => ?_)
                          have i147 := hr146
                          try simp only [i147]
                          have f148 := ti_b r145.1
                          exact ok_some (show δ = δ from rfl)
            · have c149 := o_ne h29
              refine ok_bind (ih a0 x1 r24.1 vx1 δ k_a0 (show 0 ≤ (r24.1).toInt by first | omega | assumption) (show (r24.1).toInt ≤ 16 by first | omega | assumption) (show (r24.1).toInt < _ by first | omega | assumption) I) (fun r150 hr151 => ?_)
              have i152 := hr151
              try simp only [i152]
              have f153 := ti_b r150.1
              unfold J_X5_mostTouches_54
              refine ok_ite (fun h154 => ?_) (fun h154 => ?_)
              · have c155 := o_eq h154
                exact ok_some (show δ = δ from rfl)
              · have c156 := o_ne h154
                obtain ⟨q159, f160, f161, f162⟩ := ti_sub x2 r24.1
                refine ok_bind (ih a0 x1 (x2 - r24.1) vx1 δ k_a0 (show 0 ≤ ((x2 - r24.1)).toInt by first | omega | assumption) (show ((x2 - r24.1)).toInt ≤ 16 by first | omega | assumption) (show ((x2 - r24.1)).toInt < _ by first | omega | assumption) I) (fun r157 hr158 => ?_)
                have i163 := hr158
                try simp only [i163]
                have f164 := ti_b r157.1
                refine ok_ite (fun h165 => ?_) (fun h165 => ?_)
                · have c166 := o_eq h165
                  unfold J_X5_mostTouches_94
                  have f169 : (1 : Int32).toInt = 1 := rfl
                  obtain ⟨q170, f171, f172, f173⟩ := ti_add r157.1 (1 : Int32)
                  refine ok_biv (fun vx167 e168 => ?_)
                  have f174 := congrArg Int32.toInt e168
                  unfold J_X5_mostTouches_97
                  refine ok_ite (fun h175 => ?_) (fun h175 => ?_)
                  · have c176 := o_eq h175
                    unfold J_X5_mostTouches_115
                    refine ok_bind (k_J9_max_7cf53 L hN (x0 := r150.1) (x1 := vx167)  I) (fun r177 hr178 => ?_)
                    have i179 := hr178
                    try simp only [i179]
                    have f180 := ti_b r177.1
                    exact ok_some (show δ = δ from rfl)
                  · have c181 := o_ne h175
                    have f182 : (1 : Int32).toInt = 1 := rfl
                    refine ok_ite (fun h183 => ?_) (fun h183 => ?_)
                    · have c184 := o_eq h183
                      unfold J_X5_mostTouches_115
                      refine ok_bind (k_J9_max_7cf53 L hN (x0 := r150.1) (x1 := vx167)  I) (fun r185 hr186 => ?_)
                      have i187 := hr186
                      try simp only [i187]
                      have f188 := ti_b r185.1
                      exact ok_some (show δ = δ from rfl)
                    · have c189 := o_ne h183
                      unfold J_X5_mostTouches_115
                      refine ok_bind (k_J9_max_7cf53 L hN (x0 := r150.1) (x1 := vx167)  I) (fun r190 hr191 => ?_)
                      have i192 := hr191
                      try simp only [i192]
                      have f193 := ti_b r190.1
                      exact ok_some (show δ = δ from rfl)
                · have c194 := o_ne h165
                  have f195 : (1 : Int32).toInt = 1 := rfl
                  refine ok_ite (fun h196 => ?_) (fun h196 => ?_)
                  · have c197 := o_eq h196
                    unfold J_X5_mostTouches_94
                    have f200 : (1 : Int32).toInt = 1 := rfl
                    obtain ⟨q201, f202, f203, f204⟩ := ti_add r157.1 (1 : Int32)
                    refine ok_biv (fun vx198 e199 => ?_)
                    have f205 := congrArg Int32.toInt e199
                    unfold J_X5_mostTouches_97
                    refine ok_ite (fun h206 => ?_) (fun h206 => ?_)
                    · have c207 := o_eq h206
                      unfold J_X5_mostTouches_115
                      refine ok_bind (k_J9_max_7cf53 L hN (x0 := r150.1) (x1 := vx198)  I) (fun r208 hr209 => ?_)
                      have i210 := hr209
                      try simp only [i210]
                      have f211 := ti_b r208.1
                      exact ok_some (show δ = δ from rfl)
                    · have c212 := o_ne h206
                      refine ok_ite (fun h213 => ?_) (fun h213 => ?_)
                      · have c214 := o_eq h213
                        unfold J_X5_mostTouches_115
                        refine ok_bind (k_J9_max_7cf53 L hN (x0 := r150.1) (x1 := vx198)  I) (fun r215 hr216 => ?_)
                        have i217 := hr216
                        try simp only [i217]
                        have f218 := ti_b r215.1
                        exact ok_some (show δ = δ from rfl)
                      · have c219 := o_ne h213
                        unfold J_X5_mostTouches_115
                        refine ok_bind (k_J9_max_7cf53 L hN (x0 := r150.1) (x1 := vx198)  I) (fun r220 hr221 => ?_)
                        have i222 := hr221
                        try simp only [i222]
                        have f223 := ti_b r220.1
                        exact ok_some (show δ = δ from rfl)
                  · have c224 := o_ne h196
                    refine ok_ite (fun h225 => ?_) (fun h225 => ?_)
                    · have c226 := o_le h225
                      unfold J_X5_mostTouches_97
                      refine ok_ite (fun h227 => ?_) (fun h227 => ?_)
                      · have c228 := o_eq h227
                        unfold J_X5_mostTouches_115
                        refine ok_bind (k_J9_max_7cf53 L hN (x0 := r150.1) (x1 := r157.1)  I) (fun r229 hr230 => ?_)
                        have i231 := hr230
                        try simp only [i231]
                        have f232 := ti_b r229.1
                        exact ok_some (show δ = δ from rfl)
                      · have c233 := o_ne h227
                        refine ok_ite (fun h234 => ?_) (fun h234 => ?_)
                        · have c235 := o_eq h234
                          unfold J_X5_mostTouches_115
                          refine ok_bind (k_J9_max_7cf53 L hN (x0 := r150.1) (x1 := r157.1)  I) (fun r236 hr237 => ?_)
                          have i238 := hr237
                          try simp only [i238]
                          have f239 := ti_b r236.1
                          exact ok_some (show δ = δ from rfl)
                        · have c240 := o_ne h234
                          unfold J_X5_mostTouches_115
                          refine ok_bind (k_J9_max_7cf53 L hN (x0 := r150.1) (x1 := r157.1)  I) (fun r241 hr242 => ?_)
                          have i243 := hr242
                          try simp only [i243]
                          have f244 := ti_b r241.1
                          exact ok_some (show δ = δ from rfl)
                    · have c245 := o_nle h225
                      unfold J_X5_mostTouches_94
                      have f248 : (1 : Int32).toInt = 1 := rfl
                      obtain ⟨q249, f250, f251, f252⟩ := ti_add r157.1 (1 : Int32)
                      refine ok_biv (fun vx246 e247 => ?_)
                      have f253 := congrArg Int32.toInt e247
                      unfold J_X5_mostTouches_97
                      refine ok_ite (fun h254 => ?_) (fun h254 => ?_)
                      · have c255 := o_eq h254
                        unfold J_X5_mostTouches_115
                        refine ok_bind (k_J9_max_7cf53 L hN (x0 := r150.1) (x1 := vx246)  I) (fun r256 hr257 => ?_)
                        have i258 := hr257
                        try simp only [i258]
                        have f259 := ti_b r256.1
                        exact ok_some (show δ = δ from rfl)
                      · have c260 := o_ne h254
                        refine ok_ite (fun h261 => ?_) (fun h261 => ?_)
                        · have c262 := o_eq h261
                          unfold J_X5_mostTouches_115
                          refine ok_bind (k_J9_max_7cf53 L hN (x0 := r150.1) (x1 := vx246)  I) (fun r263 hr264 => ?_)
                          have i265 := hr264
                          try simp only [i265]
                          have f266 := ti_b r263.1
                          exact ok_some (show δ = δ from rfl)
                        · have c267 := o_ne h261
                          unfold J_X5_mostTouches_115
                          refine ok_bind (k_J9_max_7cf53 L hN (x0 := r150.1) (x1 := vx246)  I) (fun r268 hr269 => ?_)
                          have i270 := hr269
                          try simp only [i270]
                          have f271 := ti_b r268.1
                          exact ok_some (show δ = δ from rfl)
          · have c272 := o_ne h22
            unfold J_X5_mostTouches_27
            exact ok_some (show δ = δ from rfl)
        · have c273 := o_ne h19
          unfold J_X5_mostTouches_29
          refine ok_bind (k_X5_lowerBits L hN (a0 := a0) (x1 := x2) k_a0 I) (fun r274 hr275 => ?_)
          obtain ⟨i276, p277⟩ := hr275
          try simp only [i276]
          have f278 := ti_b r274.1
          refine ok_ite (fun h279 => ?_) (fun h279 => ?_)
          · have c280 := o_eq h279
            unfold J_X5_mostTouches_54
            have f281 := ti_b x1
            refine ok_ite (fun h282 => ?_) (fun h282 => ?_)
            · have c283 := o_eq h282
              exact ok_some (show δ = δ from rfl)
            · have c284 := o_ne h282
              obtain ⟨q287, f288, f289, f290⟩ := ti_sub x2 r274.1
              refine ok_bind (ih a0 x1 (x2 - r274.1) vx1 δ k_a0 (show 0 ≤ ((x2 - r274.1)).toInt by first | omega | assumption) (show ((x2 - r274.1)).toInt ≤ 16 by first | omega | assumption) (show ((x2 - r274.1)).toInt < _ by first | omega | assumption) I) (fun r285 hr286 => ?_)
              have i291 := hr286
              try simp only [i291]
              have f292 := ti_b r285.1
              refine ok_ite (fun h293 => ?_) (fun h293 => ?_)
              · have c294 := o_eq h293
                unfold J_X5_mostTouches_94
                have f297 : (1 : Int32).toInt = 1 := rfl
                obtain ⟨q298, f299, f300, f301⟩ := ti_add r285.1 (1 : Int32)
                refine ok_biv (fun vx295 e296 => ?_)
                have f302 := congrArg Int32.toInt e296
                unfold J_X5_mostTouches_97
                refine ok_ite (fun h303 => ?_) (fun h303 => ?_)
                · have c304 := o_eq h303
                  unfold J_X5_mostTouches_115
                  refine ok_bind (k_J9_max_7cf53 L hN (x0 := (0 : Int32)) (x1 := vx295)  I) (fun r305 hr306 => ?_)
                  have i307 := hr306
                  try simp only [i307]
                  have f308 := ti_b r305.1
                  exact ok_some (show δ = δ from rfl)
                · have c309 := o_ne h303
                  have f310 : (1 : Int32).toInt = 1 := rfl
                  refine ok_ite (fun h311 => ?_) (fun h311 => ?_)
                  · have c312 := o_eq h311
                    unfold J_X5_mostTouches_115
                    refine ok_bind (k_J9_max_7cf53 L hN (x0 := (0 : Int32)) (x1 := vx295)  I) (fun r313 hr314 => ?_)
                    have i315 := hr314
                    try simp only [i315]
                    have f316 := ti_b r313.1
                    exact ok_some (show δ = δ from rfl)
                  · have c317 := o_ne h311
                    unfold J_X5_mostTouches_115
                    refine ok_bind (k_J9_max_7cf53 L hN (x0 := (0 : Int32)) (x1 := vx295)  I) (fun r318 hr319 => ?_)
                    have i320 := hr319
                    try simp only [i320]
                    have f321 := ti_b r318.1
                    exact ok_some (show δ = δ from rfl)
              · have c322 := o_ne h293
                have f323 : (1 : Int32).toInt = 1 := rfl
                refine ok_ite (fun h324 => ?_) (fun h324 => ?_)
                · have c325 := o_eq h324
                  unfold J_X5_mostTouches_94
                  have f328 : (1 : Int32).toInt = 1 := rfl
                  obtain ⟨q329, f330, f331, f332⟩ := ti_add r285.1 (1 : Int32)
                  refine ok_biv (fun vx326 e327 => ?_)
                  have f333 := congrArg Int32.toInt e327
                  unfold J_X5_mostTouches_97
                  refine ok_ite (fun h334 => ?_) (fun h334 => ?_)
                  · have c335 := o_eq h334
                    unfold J_X5_mostTouches_115
                    refine ok_bind (k_J9_max_7cf53 L hN (x0 := (0 : Int32)) (x1 := vx326)  I) (fun r336 hr337 => ?_)
                    have i338 := hr337
                    try simp only [i338]
                    have f339 := ti_b r336.1
                    exact ok_some (show δ = δ from rfl)
                  · have c340 := o_ne h334
                    refine ok_ite (fun h341 => ?_) (fun h341 => ?_)
                    · have c342 := o_eq h341
                      unfold J_X5_mostTouches_115
                      refine ok_bind (k_J9_max_7cf53 L hN (x0 := (0 : Int32)) (x1 := vx326)  I) (fun r343 hr344 => ?_)
                      have i345 := hr344
                      try simp only [i345]
                      have f346 := ti_b r343.1
                      exact ok_some (show δ = δ from rfl)
                    · have c347 := o_ne h341
                      unfold J_X5_mostTouches_115
                      refine ok_bind (k_J9_max_7cf53 L hN (x0 := (0 : Int32)) (x1 := vx326)  I) (fun r348 hr349 => ?_)
                      have i350 := hr349
                      try simp only [i350]
                      have f351 := ti_b r348.1
                      exact ok_some (show δ = δ from rfl)
                · have c352 := o_ne h324
                  refine ok_ite (fun h353 => ?_) (fun h353 => ?_)
                  · have c354 := o_le h353
                    unfold J_X5_mostTouches_97
                    refine ok_ite (fun h355 => ?_) (fun h355 => ?_)
                    · have c356 := o_eq h355
                      unfold J_X5_mostTouches_115
                      refine ok_bind (k_J9_max_7cf53 L hN (x0 := (0 : Int32)) (x1 := r285.1)  I) (fun r357 hr358 => ?_)
                      have i359 := hr358
                      try simp only [i359]
                      have f360 := ti_b r357.1
                      exact ok_some (show δ = δ from rfl)
                    · have c361 := o_ne h355
                      refine ok_ite (fun h362 => ?_) (fun h362 => ?_)
                      · have c363 := o_eq h362
                        unfold J_X5_mostTouches_115
                        refine ok_bind (k_J9_max_7cf53 L hN (x0 := (0 : Int32)) (x1 := r285.1)  I) (fun r364 hr365 => ?_)
                        have i366 := hr365
                        try simp only [i366]
                        have f367 := ti_b r364.1
                        exact ok_some (show δ = δ from rfl)
                      · have c368 := o_ne h362
                        unfold J_X5_mostTouches_115
                        refine ok_bind (k_J9_max_7cf53 L hN (x0 := (0 : Int32)) (x1 := r285.1)  I) (fun r369 hr370 => ?_)
                        have i371 := hr370
                        try simp only [i371]
                        have f372 := ti_b r369.1
                        exact ok_some (show δ = δ from rfl)
                  · have c373 := o_nle h353
                    unfold J_X5_mostTouches_94
                    have f376 : (1 : Int32).toInt = 1 := rfl
                    obtain ⟨q377, f378, f379, f380⟩ := ti_add r285.1 (1 : Int32)
                    refine ok_biv (fun vx374 e375 => ?_)
                    have f381 := congrArg Int32.toInt e375
                    unfold J_X5_mostTouches_97
                    refine ok_ite (fun h382 => ?_) (fun h382 => ?_)
                    · have c383 := o_eq h382
                      unfold J_X5_mostTouches_115
                      refine ok_bind (k_J9_max_7cf53 L hN (x0 := (0 : Int32)) (x1 := vx374)  I) (fun r384 hr385 => ?_)
                      have i386 := hr385
                      try simp only [i386]
                      have f387 := ti_b r384.1
                      exact ok_some (show δ = δ from rfl)
                    · have c388 := o_ne h382
                      refine ok_ite (fun h389 => ?_) (fun h389 => ?_)
                      · have c390 := o_eq h389
                        unfold J_X5_mostTouches_115
                        refine ok_bind (k_J9_max_7cf53 L hN (x0 := (0 : Int32)) (x1 := vx374)  I) (fun r391 hr392 => ?_)
                        have i393 := hr392
                        try simp only [i393]
                        have f394 := ti_b r391.1
                        exact ok_some (show δ = δ from rfl)
                      · have c395 := o_ne h389
                        unfold J_X5_mostTouches_115
                        refine ok_bind (k_J9_max_7cf53 L hN (x0 := (0 : Int32)) (x1 := vx374)  I) (fun r396 hr397 => ?_)
                        have i398 := hr397
                        try simp only [i398]
                        have f399 := ti_b r396.1
                        exact ok_some (show δ = δ from rfl)
          · have c400 := o_ne h279
            refine ok_bind (ih a0 x1 r274.1 vx1 δ k_a0 (show 0 ≤ (r274.1).toInt by first | omega | assumption) (show (r274.1).toInt ≤ 16 by first | omega | assumption) (show (r274.1).toInt < _ by first | omega | assumption) I) (fun r401 hr402 => ?_)
            have i403 := hr402
            try simp only [i403]
            have f404 := ti_b r401.1
            unfold J_X5_mostTouches_54
            have f405 := ti_b x1
            refine ok_ite (fun h406 => ?_) (fun h406 => ?_)
            · have c407 := o_eq h406
              exact ok_some (show δ = δ from rfl)
            · have c408 := o_ne h406
              obtain ⟨q411, f412, f413, f414⟩ := ti_sub x2 r274.1
              refine ok_bind (ih a0 x1 (x2 - r274.1) vx1 δ k_a0 (show 0 ≤ ((x2 - r274.1)).toInt by first | omega | assumption) (show ((x2 - r274.1)).toInt ≤ 16 by first | omega | assumption) (show ((x2 - r274.1)).toInt < _ by first | omega | assumption) I) (fun r409 hr410 => ?_)
              have i415 := hr410
              try simp only [i415]
              have f416 := ti_b r409.1
              refine ok_ite (fun h417 => ?_) (fun h417 => ?_)
              · have c418 := o_eq h417
                unfold J_X5_mostTouches_94
                have f421 : (1 : Int32).toInt = 1 := rfl
                obtain ⟨q422, f423, f424, f425⟩ := ti_add r409.1 (1 : Int32)
                refine ok_biv (fun vx419 e420 => ?_)
                have f426 := congrArg Int32.toInt e420
                unfold J_X5_mostTouches_97
                refine ok_ite (fun h427 => ?_) (fun h427 => ?_)
                · have c428 := o_eq h427
                  unfold J_X5_mostTouches_115
                  refine ok_bind (k_J9_max_7cf53 L hN (x0 := r401.1) (x1 := vx419)  I) (fun r429 hr430 => ?_)
                  have i431 := hr430
                  try simp only [i431]
                  have f432 := ti_b r429.1
                  exact ok_some (show δ = δ from rfl)
                · have c433 := o_ne h427
                  have f434 : (1 : Int32).toInt = 1 := rfl
                  refine ok_ite (fun h435 => ?_) (fun h435 => ?_)
                  · have c436 := o_eq h435
                    unfold J_X5_mostTouches_115
                    refine ok_bind (k_J9_max_7cf53 L hN (x0 := r401.1) (x1 := vx419)  I) (fun r437 hr438 => ?_)
                    have i439 := hr438
                    try simp only [i439]
                    have f440 := ti_b r437.1
                    exact ok_some (show δ = δ from rfl)
                  · have c441 := o_ne h435
                    unfold J_X5_mostTouches_115
                    refine ok_bind (k_J9_max_7cf53 L hN (x0 := r401.1) (x1 := vx419)  I) (fun r442 hr443 => ?_)
                    have i444 := hr443
                    try simp only [i444]
                    have f445 := ti_b r442.1
                    exact ok_some (show δ = δ from rfl)
              · have c446 := o_ne h417
                have f447 : (1 : Int32).toInt = 1 := rfl
                refine ok_ite (fun h448 => ?_) (fun h448 => ?_)
                · have c449 := o_eq h448
                  unfold J_X5_mostTouches_94
                  have f452 : (1 : Int32).toInt = 1 := rfl
                  obtain ⟨q453, f454, f455, f456⟩ := ti_add r409.1 (1 : Int32)
                  refine ok_biv (fun vx450 e451 => ?_)
                  have f457 := congrArg Int32.toInt e451
                  unfold J_X5_mostTouches_97
                  refine ok_ite (fun h458 => ?_) (fun h458 => ?_)
                  · have c459 := o_eq h458
                    unfold J_X5_mostTouches_115
                    refine ok_bind (k_J9_max_7cf53 L hN (x0 := r401.1) (x1 := vx450)  I) (fun r460 hr461 => ?_)
                    have i462 := hr461
                    try simp only [i462]
                    have f463 := ti_b r460.1
                    exact ok_some (show δ = δ from rfl)
                  · have c464 := o_ne h458
                    refine ok_ite (fun h465 => ?_) (fun h465 => ?_)
                    · have c466 := o_eq h465
                      unfold J_X5_mostTouches_115
                      refine ok_bind (k_J9_max_7cf53 L hN (x0 := r401.1) (x1 := vx450)  I) (fun r467 hr468 => ?_)
                      have i469 := hr468
                      try simp only [i469]
                      have f470 := ti_b r467.1
                      exact ok_some (show δ = δ from rfl)
                    · have c471 := o_ne h465
                      unfold J_X5_mostTouches_115
                      refine ok_bind (k_J9_max_7cf53 L hN (x0 := r401.1) (x1 := vx450)  I) (fun r472 hr473 => ?_)
                      have i474 := hr473
                      try simp only [i474]
                      have f475 := ti_b r472.1
                      exact ok_some (show δ = δ from rfl)
                · have c476 := o_ne h448
                  refine ok_ite (fun h477 => ?_) (fun h477 => ?_)
                  · have c478 := o_le h477
                    unfold J_X5_mostTouches_97
                    refine ok_ite (fun h479 => ?_) (fun h479 => ?_)
                    · have c480 := o_eq h479
                      unfold J_X5_mostTouches_115
                      refine ok_bind (k_J9_max_7cf53 L hN (x0 := r401.1) (x1 := r409.1)  I) (fun r481 hr482 => ?_)
                      have i483 := hr482
                      try simp only [i483]
                      have f484 := ti_b r481.1
                      exact ok_some (show δ = δ from rfl)
                    · have c485 := o_ne h479
                      refine ok_ite (fun h486 => ?_) (fun h486 => ?_)
                      · have c487 := o_eq h486
                        unfold J_X5_mostTouches_115
                        refine ok_bind (k_J9_max_7cf53 L hN (x0 := r401.1) (x1 := r409.1)  I) (fun r488 hr489 => ?_)
                        have i490 := hr489
                        try simp only [i490]
                        have f491 := ti_b r488.1
                        exact ok_some (show δ = δ from rfl)
                      · have c492 := o_ne h486
                        unfold J_X5_mostTouches_115
                        refine ok_bind (k_J9_max_7cf53 L hN (x0 := r401.1) (x1 := r409.1)  I) (fun r493 hr494 => ?_)
                        have i495 := hr494
                        try simp only [i495]
                        have f496 := ti_b r493.1
                        exact ok_some (show δ = δ from rfl)
                  · have c497 := o_nle h477
                    unfold J_X5_mostTouches_94
                    have f500 : (1 : Int32).toInt = 1 := rfl
                    obtain ⟨q501, f502, f503, f504⟩ := ti_add r409.1 (1 : Int32)
                    refine ok_biv (fun vx498 e499 => ?_)
                    have f505 := congrArg Int32.toInt e499
                    unfold J_X5_mostTouches_97
                    refine ok_ite (fun h506 => ?_) (fun h506 => ?_)
                    · have c507 := o_eq h506
                      unfold J_X5_mostTouches_115
                      refine ok_bind (k_J9_max_7cf53 L hN (x0 := r401.1) (x1 := vx498)  I) (fun r508 hr509 => ?_)
                      have i510 := hr509
                      try simp only [i510]
                      have f511 := ti_b r508.1
                      exact ok_some (show δ = δ from rfl)
                    · have c512 := o_ne h506
                      refine ok_ite (fun h513 => ?_) (fun h513 => ?_)
                      · have c514 := o_eq h513
                        unfold J_X5_mostTouches_115
                        refine ok_bind (k_J9_max_7cf53 L hN (x0 := r401.1) (x1 := vx498)  I) (fun r515 hr516 => ?_)
                        have i517 := hr516
                        try simp only [i517]
                        have f518 := ti_b r515.1
                        exact ok_some (show δ = δ from rfl)
                      · have c519 := o_ne h513
                        unfold J_X5_mostTouches_115
                        refine ok_bind (k_J9_max_7cf53 L hN (x0 := r401.1) (x1 := vx498)  I) (fun r520 hr521 => ?_)
                        have i522 := hr521
                        try simp only [i522]
                        have f523 := ti_b r520.1
                        exact ok_some (show δ = δ from rfl)
set_option maxHeartbeats 4000000 in
theorem k_X5_mostTouches {ad : List Nat} {h : hp} (L : Lay TLx ad h) {δ0 : dp} {N : Nat} (hN : 10000000 ≤ N) {a0 : Nat} {x1 : Int32} {x2 : Int32} {x3 : Int32} (k_a0 : q_K h.1 a0 = 5) {δ : dp} (z0 : 0 ≤ (x2).toInt) (z1 : (x2).toInt ≤ 16) (hd : (x2).toInt < 20) (I : CI ad h.1 δ0 δ) : ok (D_X5_mostTouches N h.1 a0 x1 x2 x3 δ) (fun r => r.2 = δ) := ke_X5_mostTouches L hN 20 a0 x1 x2 x3 δ k_a0 z0 z1 hd I
set_option maxHeartbeats 4000000 in
theorem k_X5_boundOf {ad : List Nat} {h : hp} (L : Lay TLx ad h) {δ0 : dp} {N : Nat} (hN : 10000000 ≤ N) {a0 : Nat} {x1 : Int32} (k_a0 : q_K h.1 a0 = 5) {δ : dp} (I : CI ad h.1 δ0 δ) : ok (D_X5_boundOf N h.1 a0 x1 δ) (fun r => r.2 = δ) := by
  unfold D_X5_boundOf
  have f3 := cb_5_0 I k_a0
  refine ok_bind (k_X5_mostTouches L hN (a0 := a0) (x1 := x1) (x2 := (q_I δ 5 0 a0)) (x3 := (1048576 : Int32)) k_a0 (show 0 ≤ ((q_I δ 5 0 a0)).toInt by first | omega | assumption) (show ((q_I δ 5 0 a0)).toInt ≤ 16 by first | omega | assumption) (show ((q_I δ 5 0 a0)).toInt < 20 by first | omega | assumption) I) (fun r1 hr2 => ?_)
  have i4 := hr2
  try simp only [i4]
  have f5 := ti_b r1.1
  exact ok_some (show δ = δ from rfl)
