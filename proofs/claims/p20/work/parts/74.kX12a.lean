/-! 74.kX12a (by gen_safe.py) -/
set_option maxHeartbeats 4000000 in
theorem k_X12_may {ad : List Nat} {h : hp} (L : Lay TLx ad h) {δ0 : dp} {N : Nat} (hN : 10000000 ≤ N) {a0 : Nat} {x1 : Int32} {x2 : Int32} {x3 : Int32} (k_a0 : q_K h.1 a0 = 12) {δ : dp} (z0 : (x2).toInt ≠ 0) (z1 : 0 ≤ (x3).toInt) (z2 : (x3).toInt ≤ 2) (I : RI ad h.1 δ0 δ) : ok (D_X12_may N h.1 a0 x1 x2 x3 δ) (fun r => RI ad h.1 δ0 r.2 ∧ (kp [(12, 0)] δ r.2 ∧ q_V r.2 = q_V δ ∧ kr ad [100] δ r.2) ∧ bo (r.1) ∧ ((r.1).toInt = 1 → (x1).toInt ≠ 0) ∧ ((q_I δ 12 0 a0).toInt = 0 → (r.1).toInt = 0 → (x1).toInt = 0)) := by
  unfold D_X12_may
  have f1 := ti_b x2
  have f2 := ti_b x3
  have f3 := ti_b x1
  refine ok_ite (fun h4 => ?_) (fun h4 => ?_)
  · have c5 : x1.toInt = (0 : Int) := o_eq h4
    have f6 := ti_b (q_I δ 12 0 a0)
    refine ok_ite (fun h7 => ?_) (fun h7 => ?_)
    · have c8 : (q_I δ 12 0 a0).toInt = (0 : Int) := o_eq h7
      refine ok_bdv (fun d9 e10 => ?_)
      have i11 : RI ad h.1 δ0 d9 := by rw [e10]; exact cs_12_0 L I
      have u12 := kp_I kp_r e10
      have v13 : q_V d9 = q_V δ := ((show q_V d9 = q_V δ by rw [e10]; rfl)).trans rfl
      have v14 := kr_N (kr_r (ad := ad)) (show q_R d9 = q_R δ by rw [e10]; rfl)
      obtain ⟨b15, o16, k17, n18, w19⟩ := gO_12_1 L k_a0
      obtain rfl := gS_12_1 L k_a0 o16
      refine ok_at o16 ?_
      have t20 := ti_tn x3
      refine ok_gd (fun hc21 => ?_) ?_
      · rcases hc21 with hc21 | hc21
        · have c22 : x3.toInt < (0 : Int) := o_lt hc21
          omega
        · omega
      refine ok_gd (fun hc23 => ?_) ?_
      · rcases hc23 with hc23 | hc23
        · have c24 : x3.toInt < (0 : Int) := o_lt hc23
          omega
        · omega
      refine ok_bdv (fun d25 e26 => ?_)
      have i27 : RI ad h.1 δ0 d25 := by rw [e26]; exact RI.sR L i11 w19
      have u28 := kp_N u12 (show q_I d25 = q_I d9 by rw [e26]; rfl)
      have v29 : q_V d25 = q_V δ := ((show q_V d25 = q_V d9 by rw [e26]; rfl)).trans v13
      have v30 := kr_s L (by decide) v14 e26
      unfold J_X12_may_26
      have f31 : (q_I d25 12 0 a0).toInt = (q_I d9 12 0 a0).toInt := congrArg Int32.toInt (by rw [e26]; rfl)
      have f32 := ti_b (q_I d9 12 0 a0)
      have f33 : (q_I d9 12 0 a0).toInt = x2.toInt := congrArg Int32.toInt (show q_I d9 12 0 a0 = x2 by rw [e10]; exact rI_s)
      refine ok_ite (fun h34 => ?_) (fun h34 => ?_)
      · have c35 : (q_I d25 12 0 a0).toInt = (0 : Int) := o_eq h34
        unfold J_X12_may_38
        refine ok_gp (by decide) ?_
        exact ok_some (show RI ad h.1 δ0 d25 ∧ (kp [(12, 0)] δ d25 ∧ q_V d25 = q_V δ ∧ kr ad [100] δ d25) ∧ bo ((1 : Int32)) ∧ ((1 : Int) = 1 → (x1).toInt ≠ 0) ∧ ((q_I δ 12 0 a0).toInt = 0 → (1 : Int) = 0 → (x1).toInt = 0) from ⟨i27, ⟨kp_w (by decide) u28, v29, kr_w (by decide) v30⟩, bo_1, by first | with_reducible assumption | omega, by first | with_reducible assumption | omega⟩)
      · have c36 : (q_I d25 12 0 a0).toInt ≠ (0 : Int) := o_ne h34
        unfold J_X12_may_38
        refine ok_gp (by decide) ?_
        exact ok_some (show RI ad h.1 δ0 d25 ∧ (kp [(12, 0)] δ d25 ∧ q_V d25 = q_V δ ∧ kr ad [100] δ d25) ∧ bo ((0 : Int32)) ∧ ((0 : Int) = 1 → (x1).toInt ≠ 0) ∧ ((q_I δ 12 0 a0).toInt = 0 → (0 : Int) = 0 → (x1).toInt = 0) from ⟨i27, ⟨kp_w (by decide) u28, v29, kr_w (by decide) v30⟩, bo_0, by first | with_reducible assumption | omega, by first | with_reducible assumption | omega⟩)
    · have c37 : (q_I δ 12 0 a0).toInt ≠ (0 : Int) := o_ne h7
      unfold J_X12_may_26
      refine ok_ite (fun h38 => ?_) (fun h38 => ?_)
      · have c39 : (q_I δ 12 0 a0).toInt = (0 : Int) := o_eq h38
        unfold J_X12_may_38
        refine ok_gp (by decide) ?_
        exact ok_some (show RI ad h.1 δ0 δ ∧ (kp [(12, 0)] δ δ ∧ q_V δ = q_V δ ∧ kr ad [100] δ δ) ∧ bo ((1 : Int32)) ∧ ((1 : Int) = 1 → (x1).toInt ≠ 0) ∧ ((q_I δ 12 0 a0).toInt = 0 → (1 : Int) = 0 → (x1).toInt = 0) from ⟨I, ⟨kp_w (by decide) kp_r, rfl, kr_w (by decide) (kr_r (ad := ad))⟩, bo_1, by first | with_reducible assumption | omega, by first | with_reducible assumption | omega⟩)
      · have c40 : (q_I δ 12 0 a0).toInt ≠ (0 : Int) := o_ne h38
        unfold J_X12_may_38
        refine ok_gp (by decide) ?_
        exact ok_some (show RI ad h.1 δ0 δ ∧ (kp [(12, 0)] δ δ ∧ q_V δ = q_V δ ∧ kr ad [100] δ δ) ∧ bo ((0 : Int32)) ∧ ((0 : Int) = 1 → (x1).toInt ≠ 0) ∧ ((q_I δ 12 0 a0).toInt = 0 → (0 : Int) = 0 → (x1).toInt = 0) from ⟨I, ⟨kp_w (by decide) kp_r, rfl, kr_w (by decide) (kr_r (ad := ad))⟩, bo_0, by first | with_reducible assumption | omega, by first | with_reducible assumption | omega⟩)
  · have c41 : x1.toInt ≠ (0 : Int) := o_ne h4
    unfold J_X12_may_26
    have f42 := ti_b (q_I δ 12 0 a0)
    refine ok_ite (fun h43 => ?_) (fun h43 => ?_)
    · have c44 : (q_I δ 12 0 a0).toInt = (0 : Int) := o_eq h43
      unfold J_X12_may_38
      refine ok_gp (by decide) ?_
      exact ok_some (show RI ad h.1 δ0 δ ∧ (kp [(12, 0)] δ δ ∧ q_V δ = q_V δ ∧ kr ad [100] δ δ) ∧ bo ((1 : Int32)) ∧ ((1 : Int) = 1 → (x1).toInt ≠ 0) ∧ ((q_I δ 12 0 a0).toInt = 0 → (1 : Int) = 0 → (x1).toInt = 0) from ⟨I, ⟨kp_w (by decide) kp_r, rfl, kr_w (by decide) (kr_r (ad := ad))⟩, bo_1, by first | with_reducible assumption | omega, by first | with_reducible assumption | omega⟩)
    · have c45 : (q_I δ 12 0 a0).toInt ≠ (0 : Int) := o_ne h43
      unfold J_X12_may_38
      refine ok_gp (by decide) ?_
      exact ok_some (show RI ad h.1 δ0 δ ∧ (kp [(12, 0)] δ δ ∧ q_V δ = q_V δ ∧ kr ad [100] δ δ) ∧ bo ((0 : Int32)) ∧ ((0 : Int) = 1 → (x1).toInt ≠ 0) ∧ ((q_I δ 12 0 a0).toInt = 0 → (0 : Int) = 0 → (x1).toInt = 0) from ⟨I, ⟨kp_w (by decide) kp_r, rfl, kr_w (by decide) (kr_r (ad := ad))⟩, bo_0, by first | with_reducible assumption | omega, by first | with_reducible assumption | omega⟩)
set_option maxHeartbeats 4000000 in
theorem k_X12_within {ad : List Nat} {h : hp} (L : Lay TLx ad h) {δ0 : dp} {N : Nat} (hN : 10000000 ≤ N) {x0 : Int32} {x1 : Int32} {x2 : Int32} {δ : dp} (I : RI ad h.1 δ0 δ) : ok (D_X12_within N h.1 x0 x1 x2 δ) (fun r => r.2 = δ ∧ bo (r.1) ∧ ((r.1).toInt = 1 → (x1).toInt ≤ (x0).toInt ∧ (x0).toInt ≤ (x2).toInt) ∧ ((r.1).toInt = 0 → (x0).toInt < (x1).toInt ∨ (x2).toInt < (x0).toInt)) := by
  unfold D_X12_within
  have f1 := ti_b x0
  have f2 := ti_b x1
  refine ok_ite (fun h3 => ?_) (fun h3 => ?_)
  · have c4 : x0.toInt < x1.toInt := o_lt h3
    unfold J_X12_within_14
    unfold J_X12_within_15
    refine ok_gp (by decide) ?_
    have f5 := ti_b x2
    exact ok_some (show δ = δ ∧ bo ((0 : Int32)) ∧ ((0 : Int) = 1 → (x1).toInt ≤ (x0).toInt ∧ (x0).toInt ≤ (x2).toInt) ∧ ((0 : Int) = 0 → (x0).toInt < (x1).toInt ∨ (x2).toInt < (x0).toInt) from ⟨rfl, bo_0, by first | with_reducible assumption | omega, by first | with_reducible assumption | omega⟩)
  · have c6 : x1.toInt ≤ x0.toInt := o_nlt h3
    have f7 := ti_b x2
    refine ok_ite (fun h8 => ?_) (fun h8 => ?_)
    · have c9 : x2.toInt < x0.toInt := o_lt h8
      unfold J_X12_within_14
      unfold J_X12_within_15
      refine ok_gp (by decide) ?_
      exact ok_some (show δ = δ ∧ bo ((0 : Int32)) ∧ ((0 : Int) = 1 → (x1).toInt ≤ (x0).toInt ∧ (x0).toInt ≤ (x2).toInt) ∧ ((0 : Int) = 0 → (x0).toInt < (x1).toInt ∨ (x2).toInt < (x0).toInt) from ⟨rfl, bo_0, by first | with_reducible assumption | omega, by first | with_reducible assumption | omega⟩)
    · have c10 : x0.toInt ≤ x2.toInt := o_nlt h8
      unfold J_X12_within_15
      refine ok_gp (by decide) ?_
      exact ok_some (show δ = δ ∧ bo ((1 : Int32)) ∧ ((1 : Int) = 1 → (x1).toInt ≤ (x0).toInt ∧ (x0).toInt ≤ (x2).toInt) ∧ ((1 : Int) = 0 → (x0).toInt < (x1).toInt ∨ (x2).toInt < (x0).toInt) from ⟨rfl, bo_1, by first | with_reducible assumption | omega, by first | with_reducible assumption | omega⟩)
set_option maxHeartbeats 4000000 in
theorem kl_X12_feed_23 {ad : List Nat} {h : hp} (L : Lay TLx ad h) {δ0 : dp} {N : Nat} (hN : 10000000 ≤ N) {a0 : Nat} {x1 : Int32} {x2 : Int32} {x3 : Int32} {x4 : Int32} {x5 : Int32} (k_a0 : q_K h.1 a0 = 12) : ∀ (n : Nat) (x6v : Int32) (δ : dp), RI ad h.1 δ0 δ → 0 ≤ (x6v).toInt → (x6v).toInt ≤ 20 → (q_I δ 12 2 a0).toInt + 20 - (x6v).toInt ≤ 500 → 20 - (x6v).toInt < (n : Int) → ok (L_X12_feed_23 N h.1 a0 x1 x2 x3 x4 x5 n x6v δ) (fun r => RI ad h.1 δ0 r.2 ∧ (kp [(12, 0), (12, 2)] δ r.2 ∧ q_V r.2 = q_V δ ∧ kr ad [101] δ r.2) ∧ (r.1).toInt = (q_I δ 12 2 a0).toInt + 20 - (x6v).toInt ∧ (q_I r.2 12 2 a0).toInt = (q_I δ 12 2 a0).toInt + 20 - (x6v).toInt) := by
  intro n
  induction n with
  | zero =>
    intro x6v δ I j0 j1 j2 hm
    have f1 := ti_b x6v
    have f2 := cb_12_2 I k_a0
    exfalso; omega
  | succ n ih =>
    intro x6v δ I j0 j1 j2 hm
    unfold L_X12_feed_23
    have f1 := ti_b x6v
    have f2 := cb_12_2 I k_a0
    refine ok_ite (fun h3 => ?_) (fun h3 => ?_)
    · have c4 : (20 : Int) ≤ x6v.toInt := o_le h3
      exact ok_some (show RI ad h.1 δ0 δ ∧ (kp [(12, 0), (12, 2)] δ δ ∧ q_V δ = q_V δ ∧ kr ad [101] δ δ) ∧ ((q_I δ 12 2 a0)).toInt = (q_I δ 12 2 a0).toInt + 20 - (x6v).toInt ∧ (q_I δ 12 2 a0).toInt = (q_I δ 12 2 a0).toInt + 20 - (x6v).toInt from ⟨I, ⟨kp_w (by decide) kp_r, rfl, kr_w (by decide) (kr_r (ad := ad))⟩, by first | with_reducible assumption | omega, by first | with_reducible assumption | omega⟩)
    · have c5 : x6v.toInt < (20 : Int) := o_nle h3
      refine ok_ite (fun h6 => ?_) (fun h6 => ?_)
      · have c7 : (4 : Int) ≤ x6v.toInt := o_le h6
        refine ok_ite (fun h8 => ?_) (fun h8 => ?_)
        · have c9 : (8 : Int) ≤ x6v.toInt := o_le h8
          refine ok_ite (fun h10 => ?_) (fun h10 => ?_)
          · have c11 : (12 : Int) ≤ x6v.toInt := o_le h10
            refine ok_ite (fun h12 => ?_) (fun h12 => ?_)
            · have c13 : (16 : Int) ≤ x6v.toInt := o_le h12
              unfold J_X12_feed_76
              obtain ⟨b14, o15, k16, n17, w18⟩ := gO_12_9 L k_a0
              obtain rfl := gS_12_9 L k_a0 o15
              refine ok_at o15 ?_
              have t19 := ti_tn (q_I δ 12 2 a0)
              refine ok_gd (fun hc20 => ?_) ?_
              · rcases hc20 with hc20 | hc20
                · have c21 : (q_I δ 12 2 a0).toInt < (0 : Int) := o_lt hc20
                  omega
                · omega
              refine ok_bdv (fun d22 e23 => ?_)
              have i24 : RI ad h.1 δ0 d22 := by rw [e23]; exact RI.sR L I w18
              have u25 := kp_N kp_r (show q_I d22 = q_I δ by rw [e23]; rfl)
              have v26 : q_V d22 = q_V δ := ((show q_V d22 = q_V δ by rw [e23]; rfl)).trans rfl
              have v27 := kr_s L (by decide) (kr_r (ad := ad)) e23
              have f31 : (q_I d22 12 2 a0).toInt = (q_I δ 12 2 a0).toInt := congrArg Int32.toInt (by rw [e23]; rfl)
              first | (have q33 := te_addc (c := 1) (n := 1) rfl (q_I d22 12 2 a0) (by omega) (by omega); obtain ⟨f34, f35, f36⟩ := q33) | (obtain ⟨q33, f34, f35, f36⟩ := ti_addc (c := 1) (n := 1) rfl (q_I d22 12 2 a0))
              refine ok_bdv (fun d28 e29 => ?_)
              have i30 : RI ad h.1 δ0 d28 := by rw [e29]; exact cs_12_2 L i24 k_a0 (show 0 ≤ ((q_I d22 12 2 a0) + (1 : Int32)).toInt by omega) (show ((q_I d22 12 2 a0) + (1 : Int32)).toInt ≤ 500 by omega)
              have u37 := kp_I u25 e29
              have v38 : q_V d28 = q_V δ := ((show q_V d28 = q_V d22 by rw [e29]; rfl)).trans v26
              have v39 := kr_N v27 (show q_R d28 = q_R d22 by rw [e29]; rfl)
              refine ok_biv (fun vx40 e41 => ?_)
              first | (have q42 := te_addc (c := 1) (n := 1) rfl x6v (by omega) (by omega); rw [← e41] at q42; obtain ⟨f43, f44, f45⟩ := q42) | (obtain ⟨q42, f43, f44, f45⟩ : ∃ q : Int, vx40.toInt = x6v.toInt + (1 : Int) + 4294967296 * q ∧ -2147483648 ≤ vx40.toInt ∧ vx40.toInt ≤ 2147483647 := by rw [e41]; exact ti_addc (c := 1) (n := 1) rfl x6v)
              have f46 := cb_12_2 i30 k_a0
              have f47 : (q_I d28 12 2 a0).toInt = ((q_I d22 12 2 a0) + (1 : Int32)).toInt := congrArg Int32.toInt (show q_I d28 12 2 a0 = ((q_I d22 12 2 a0) + (1 : Int32)) by rw [e29]; exact rI_s)
              refine ok_mono (ih vx40 d28 i30 (show 0 ≤ (vx40).toInt by first | with_reducible assumption | omega) (show (vx40).toInt ≤ 20 by first | with_reducible assumption | omega) (show (q_I d28 12 2 a0).toInt + 20 - (vx40).toInt ≤ 500 by first | with_reducible assumption | omega) (show 20 - (vx40).toInt < _ by omega)) (fun r48 hr49 => ?_)
              obtain ⟨i50, ⟨u53, u54, u55⟩, p51, p52⟩ := hr49
              have u56 := kp_t u37 u53
              have v57 : q_V r48.2 = q_V δ := (u54).trans v38
              have v58 := kr_t v39 u55
              have f59 := ti_b r48.1
              have f60 := cb_12_2 i50 k_a0
              exact ⟨by first | with_reducible assumption | assumption, ⟨kp_w (by decide) u56, v57, kr_w (by decide) v58⟩, by first | with_reducible assumption | omega, by first | with_reducible assumption | omega⟩
            · have c61 : x6v.toInt < (16 : Int) := o_nle h12
              unfold J_X12_feed_76
              obtain ⟨b62, o63, k64, n65, w66⟩ := gO_12_9 L k_a0
              obtain rfl := gS_12_9 L k_a0 o63
              refine ok_at o63 ?_
              have t67 := ti_tn (q_I δ 12 2 a0)
              refine ok_gd (fun hc68 => ?_) ?_
              · rcases hc68 with hc68 | hc68
                · have c69 : (q_I δ 12 2 a0).toInt < (0 : Int) := o_lt hc68
                  omega
                · omega
              refine ok_bdv (fun d70 e71 => ?_)
              have i72 : RI ad h.1 δ0 d70 := by rw [e71]; exact RI.sR L I w66
              have u73 := kp_N kp_r (show q_I d70 = q_I δ by rw [e71]; rfl)
              have v74 : q_V d70 = q_V δ := ((show q_V d70 = q_V δ by rw [e71]; rfl)).trans rfl
              have v75 := kr_s L (by decide) (kr_r (ad := ad)) e71
              have f79 : (q_I d70 12 2 a0).toInt = (q_I δ 12 2 a0).toInt := congrArg Int32.toInt (by rw [e71]; rfl)
              first | (have q81 := te_addc (c := 1) (n := 1) rfl (q_I d70 12 2 a0) (by omega) (by omega); obtain ⟨f82, f83, f84⟩ := q81) | (obtain ⟨q81, f82, f83, f84⟩ := ti_addc (c := 1) (n := 1) rfl (q_I d70 12 2 a0))
              refine ok_bdv (fun d76 e77 => ?_)
              have i78 : RI ad h.1 δ0 d76 := by rw [e77]; exact cs_12_2 L i72 k_a0 (show 0 ≤ ((q_I d70 12 2 a0) + (1 : Int32)).toInt by omega) (show ((q_I d70 12 2 a0) + (1 : Int32)).toInt ≤ 500 by omega)
              have u85 := kp_I u73 e77
              have v86 : q_V d76 = q_V δ := ((show q_V d76 = q_V d70 by rw [e77]; rfl)).trans v74
              have v87 := kr_N v75 (show q_R d76 = q_R d70 by rw [e77]; rfl)
              refine ok_biv (fun vx88 e89 => ?_)
              first | (have q90 := te_addc (c := 1) (n := 1) rfl x6v (by omega) (by omega); rw [← e89] at q90; obtain ⟨f91, f92, f93⟩ := q90) | (obtain ⟨q90, f91, f92, f93⟩ : ∃ q : Int, vx88.toInt = x6v.toInt + (1 : Int) + 4294967296 * q ∧ -2147483648 ≤ vx88.toInt ∧ vx88.toInt ≤ 2147483647 := by rw [e89]; exact ti_addc (c := 1) (n := 1) rfl x6v)
              have f94 := cb_12_2 i78 k_a0
              have f95 : (q_I d76 12 2 a0).toInt = ((q_I d70 12 2 a0) + (1 : Int32)).toInt := congrArg Int32.toInt (show q_I d76 12 2 a0 = ((q_I d70 12 2 a0) + (1 : Int32)) by rw [e77]; exact rI_s)
              refine ok_mono (ih vx88 d76 i78 (show 0 ≤ (vx88).toInt by first | with_reducible assumption | omega) (show (vx88).toInt ≤ 20 by first | with_reducible assumption | omega) (show (q_I d76 12 2 a0).toInt + 20 - (vx88).toInt ≤ 500 by first | with_reducible assumption | omega) (show 20 - (vx88).toInt < _ by omega)) (fun r96 hr97 => ?_)
              obtain ⟨i98, ⟨u101, u102, u103⟩, p99, p100⟩ := hr97
              have u104 := kp_t u85 u101
              have v105 : q_V r96.2 = q_V δ := (u102).trans v86
              have v106 := kr_t v87 u103
              have f107 := ti_b r96.1
              have f108 := cb_12_2 i98 k_a0
              exact ⟨by first | with_reducible assumption | assumption, ⟨kp_w (by decide) u104, v105, kr_w (by decide) v106⟩, by first | with_reducible assumption | omega, by first | with_reducible assumption | omega⟩
          · have c109 : x6v.toInt < (12 : Int) := o_nle h10
            unfold J_X12_feed_76
            obtain ⟨b110, o111, k112, n113, w114⟩ := gO_12_9 L k_a0
            obtain rfl := gS_12_9 L k_a0 o111
            refine ok_at o111 ?_
            have t115 := ti_tn (q_I δ 12 2 a0)
            refine ok_gd (fun hc116 => ?_) ?_
            · rcases hc116 with hc116 | hc116
              · have c117 : (q_I δ 12 2 a0).toInt < (0 : Int) := o_lt hc116
                omega
              · omega
            refine ok_bdv (fun d118 e119 => ?_)
            have i120 : RI ad h.1 δ0 d118 := by rw [e119]; exact RI.sR L I w114
            have u121 := kp_N kp_r (show q_I d118 = q_I δ by rw [e119]; rfl)
            have v122 : q_V d118 = q_V δ := ((show q_V d118 = q_V δ by rw [e119]; rfl)).trans rfl
            have v123 := kr_s L (by decide) (kr_r (ad := ad)) e119
            have f127 : (q_I d118 12 2 a0).toInt = (q_I δ 12 2 a0).toInt := congrArg Int32.toInt (by rw [e119]; rfl)
            first | (have q129 := te_addc (c := 1) (n := 1) rfl (q_I d118 12 2 a0) (by omega) (by omega); obtain ⟨f130, f131, f132⟩ := q129) | (obtain ⟨q129, f130, f131, f132⟩ := ti_addc (c := 1) (n := 1) rfl (q_I d118 12 2 a0))
            refine ok_bdv (fun d124 e125 => ?_)
            have i126 : RI ad h.1 δ0 d124 := by rw [e125]; exact cs_12_2 L i120 k_a0 (show 0 ≤ ((q_I d118 12 2 a0) + (1 : Int32)).toInt by omega) (show ((q_I d118 12 2 a0) + (1 : Int32)).toInt ≤ 500 by omega)
            have u133 := kp_I u121 e125
            have v134 : q_V d124 = q_V δ := ((show q_V d124 = q_V d118 by rw [e125]; rfl)).trans v122
            have v135 := kr_N v123 (show q_R d124 = q_R d118 by rw [e125]; rfl)
            refine ok_biv (fun vx136 e137 => ?_)
            first | (have q138 := te_addc (c := 1) (n := 1) rfl x6v (by omega) (by omega); rw [← e137] at q138; obtain ⟨f139, f140, f141⟩ := q138) | (obtain ⟨q138, f139, f140, f141⟩ : ∃ q : Int, vx136.toInt = x6v.toInt + (1 : Int) + 4294967296 * q ∧ -2147483648 ≤ vx136.toInt ∧ vx136.toInt ≤ 2147483647 := by rw [e137]; exact ti_addc (c := 1) (n := 1) rfl x6v)
            have f142 := cb_12_2 i126 k_a0
            have f143 : (q_I d124 12 2 a0).toInt = ((q_I d118 12 2 a0) + (1 : Int32)).toInt := congrArg Int32.toInt (show q_I d124 12 2 a0 = ((q_I d118 12 2 a0) + (1 : Int32)) by rw [e125]; exact rI_s)
            refine ok_mono (ih vx136 d124 i126 (show 0 ≤ (vx136).toInt by first | with_reducible assumption | omega) (show (vx136).toInt ≤ 20 by first | with_reducible assumption | omega) (show (q_I d124 12 2 a0).toInt + 20 - (vx136).toInt ≤ 500 by first | with_reducible assumption | omega) (show 20 - (vx136).toInt < _ by omega)) (fun r144 hr145 => ?_)
            obtain ⟨i146, ⟨u149, u150, u151⟩, p147, p148⟩ := hr145
            have u152 := kp_t u133 u149
            have v153 : q_V r144.2 = q_V δ := (u150).trans v134
            have v154 := kr_t v135 u151
            have f155 := ti_b r144.1
            have f156 := cb_12_2 i146 k_a0
            exact ⟨by first | with_reducible assumption | assumption, ⟨kp_w (by decide) u152, v153, kr_w (by decide) v154⟩, by first | with_reducible assumption | omega, by first | with_reducible assumption | omega⟩
        · have c157 : x6v.toInt < (8 : Int) := o_nle h8
          unfold J_X12_feed_76
          obtain ⟨b158, o159, k160, n161, w162⟩ := gO_12_9 L k_a0
          obtain rfl := gS_12_9 L k_a0 o159
          refine ok_at o159 ?_
          have t163 := ti_tn (q_I δ 12 2 a0)
          refine ok_gd (fun hc164 => ?_) ?_
          · rcases hc164 with hc164 | hc164
            · have c165 : (q_I δ 12 2 a0).toInt < (0 : Int) := o_lt hc164
              omega
            · omega
          refine ok_bdv (fun d166 e167 => ?_)
          have i168 : RI ad h.1 δ0 d166 := by rw [e167]; exact RI.sR L I w162
          have u169 := kp_N kp_r (show q_I d166 = q_I δ by rw [e167]; rfl)
          have v170 : q_V d166 = q_V δ := ((show q_V d166 = q_V δ by rw [e167]; rfl)).trans rfl
          have v171 := kr_s L (by decide) (kr_r (ad := ad)) e167
          have f175 : (q_I d166 12 2 a0).toInt = (q_I δ 12 2 a0).toInt := congrArg Int32.toInt (by rw [e167]; rfl)
          first | (have q177 := te_addc (c := 1) (n := 1) rfl (q_I d166 12 2 a0) (by omega) (by omega); obtain ⟨f178, f179, f180⟩ := q177) | (obtain ⟨q177, f178, f179, f180⟩ := ti_addc (c := 1) (n := 1) rfl (q_I d166 12 2 a0))
          refine ok_bdv (fun d172 e173 => ?_)
          have i174 : RI ad h.1 δ0 d172 := by rw [e173]; exact cs_12_2 L i168 k_a0 (show 0 ≤ ((q_I d166 12 2 a0) + (1 : Int32)).toInt by omega) (show ((q_I d166 12 2 a0) + (1 : Int32)).toInt ≤ 500 by omega)
          have u181 := kp_I u169 e173
          have v182 : q_V d172 = q_V δ := ((show q_V d172 = q_V d166 by rw [e173]; rfl)).trans v170
          have v183 := kr_N v171 (show q_R d172 = q_R d166 by rw [e173]; rfl)
          refine ok_biv (fun vx184 e185 => ?_)
          first | (have q186 := te_addc (c := 1) (n := 1) rfl x6v (by omega) (by omega); rw [← e185] at q186; obtain ⟨f187, f188, f189⟩ := q186) | (obtain ⟨q186, f187, f188, f189⟩ : ∃ q : Int, vx184.toInt = x6v.toInt + (1 : Int) + 4294967296 * q ∧ -2147483648 ≤ vx184.toInt ∧ vx184.toInt ≤ 2147483647 := by rw [e185]; exact ti_addc (c := 1) (n := 1) rfl x6v)
          have f190 := cb_12_2 i174 k_a0
          have f191 : (q_I d172 12 2 a0).toInt = ((q_I d166 12 2 a0) + (1 : Int32)).toInt := congrArg Int32.toInt (show q_I d172 12 2 a0 = ((q_I d166 12 2 a0) + (1 : Int32)) by rw [e173]; exact rI_s)
          refine ok_mono (ih vx184 d172 i174 (show 0 ≤ (vx184).toInt by first | with_reducible assumption | omega) (show (vx184).toInt ≤ 20 by first | with_reducible assumption | omega) (show (q_I d172 12 2 a0).toInt + 20 - (vx184).toInt ≤ 500 by first | with_reducible assumption | omega) (show 20 - (vx184).toInt < _ by omega)) (fun r192 hr193 => ?_)
          obtain ⟨i194, ⟨u197, u198, u199⟩, p195, p196⟩ := hr193
          have u200 := kp_t u181 u197
          have v201 : q_V r192.2 = q_V δ := (u198).trans v182
          have v202 := kr_t v183 u199
          have f203 := ti_b r192.1
          have f204 := cb_12_2 i194 k_a0
          exact ⟨by first | with_reducible assumption | assumption, ⟨kp_w (by decide) u200, v201, kr_w (by decide) v202⟩, by first | with_reducible assumption | omega, by first | with_reducible assumption | omega⟩
      · have c205 : x6v.toInt < (4 : Int) := o_nle h6
        unfold J_X12_feed_76
        obtain ⟨b206, o207, k208, n209, w210⟩ := gO_12_9 L k_a0
        obtain rfl := gS_12_9 L k_a0 o207
        refine ok_at o207 ?_
        have t211 := ti_tn (q_I δ 12 2 a0)
        refine ok_gd (fun hc212 => ?_) ?_
        · rcases hc212 with hc212 | hc212
          · have c213 : (q_I δ 12 2 a0).toInt < (0 : Int) := o_lt hc212
            omega
          · omega
        refine ok_bdv (fun d214 e215 => ?_)
        have i216 : RI ad h.1 δ0 d214 := by rw [e215]; exact RI.sR L I w210
        have u217 := kp_N kp_r (show q_I d214 = q_I δ by rw [e215]; rfl)
        have v218 : q_V d214 = q_V δ := ((show q_V d214 = q_V δ by rw [e215]; rfl)).trans rfl
        have v219 := kr_s L (by decide) (kr_r (ad := ad)) e215
        have f223 : (q_I d214 12 2 a0).toInt = (q_I δ 12 2 a0).toInt := congrArg Int32.toInt (by rw [e215]; rfl)
        first | (have q225 := te_addc (c := 1) (n := 1) rfl (q_I d214 12 2 a0) (by omega) (by omega); obtain ⟨f226, f227, f228⟩ := q225) | (obtain ⟨q225, f226, f227, f228⟩ := ti_addc (c := 1) (n := 1) rfl (q_I d214 12 2 a0))
        refine ok_bdv (fun d220 e221 => ?_)
        have i222 : RI ad h.1 δ0 d220 := by rw [e221]; exact cs_12_2 L i216 k_a0 (show 0 ≤ ((q_I d214 12 2 a0) + (1 : Int32)).toInt by omega) (show ((q_I d214 12 2 a0) + (1 : Int32)).toInt ≤ 500 by omega)
        have u229 := kp_I u217 e221
        have v230 : q_V d220 = q_V δ := ((show q_V d220 = q_V d214 by rw [e221]; rfl)).trans v218
        have v231 := kr_N v219 (show q_R d220 = q_R d214 by rw [e221]; rfl)
        refine ok_biv (fun vx232 e233 => ?_)
        first | (have q234 := te_addc (c := 1) (n := 1) rfl x6v (by omega) (by omega); rw [← e233] at q234; obtain ⟨f235, f236, f237⟩ := q234) | (obtain ⟨q234, f235, f236, f237⟩ : ∃ q : Int, vx232.toInt = x6v.toInt + (1 : Int) + 4294967296 * q ∧ -2147483648 ≤ vx232.toInt ∧ vx232.toInt ≤ 2147483647 := by rw [e233]; exact ti_addc (c := 1) (n := 1) rfl x6v)
        have f238 := cb_12_2 i222 k_a0
        have f239 : (q_I d220 12 2 a0).toInt = ((q_I d214 12 2 a0) + (1 : Int32)).toInt := congrArg Int32.toInt (show q_I d220 12 2 a0 = ((q_I d214 12 2 a0) + (1 : Int32)) by rw [e221]; exact rI_s)
        refine ok_mono (ih vx232 d220 i222 (show 0 ≤ (vx232).toInt by first | with_reducible assumption | omega) (show (vx232).toInt ≤ 20 by first | with_reducible assumption | omega) (show (q_I d220 12 2 a0).toInt + 20 - (vx232).toInt ≤ 500 by first | with_reducible assumption | omega) (show 20 - (vx232).toInt < _ by omega)) (fun r240 hr241 => ?_)
        obtain ⟨i242, ⟨u245, u246, u247⟩, p243, p244⟩ := hr241
        have u248 := kp_t u229 u245
        have v249 : q_V r240.2 = q_V δ := (u246).trans v230
        have v250 := kr_t v231 u247
        have f251 := ti_b r240.1
        have f252 := cb_12_2 i242 k_a0
        exact ⟨by first | with_reducible assumption | assumption, ⟨kp_w (by decide) u248, v249, kr_w (by decide) v250⟩, by first | with_reducible assumption | omega, by first | with_reducible assumption | omega⟩
set_option maxHeartbeats 4000000 in
theorem k_X12_feed {ad : List Nat} {h : hp} (L : Lay TLx ad h) {δ0 : dp} {N : Nat} (hN : 10000000 ≤ N) {a0 : Nat} {x1 : Int32} {x2 : Int32} {x3 : Int32} {x4 : Int32} {x5 : Int32} (k_a0 : q_K h.1 a0 = 12) {δ : dp} (I : RI ad h.1 δ0 δ) : ok (D_X12_feed N h.1 a0 x1 x2 x3 x4 x5 δ) (fun r => RI ad h.1 δ0 r.2 ∧ (kp [(12, 0), (12, 2)] δ r.2 ∧ q_V r.2 = q_V δ ∧ kr ad [101] δ r.2) ∧ ((q_I δ 12 2 a0).toInt + 20 ≤ 500 → (r.1).toInt = (q_I δ 12 2 a0).toInt + 20 ∧ (q_I r.2 12 2 a0).toInt = (q_I δ 12 2 a0).toInt + 20) ∧ (500 < (q_I δ 12 2 a0).toInt + 20 → (r.1).toInt = -1 ∧ (q_I r.2 12 2 a0).toInt = (q_I δ 12 2 a0).toInt)) := by
  unfold D_X12_feed
  refine ok_bdv (fun d1 e2 => ?_)
  have i3 : RI ad h.1 δ0 d1 := by rw [e2]; exact cs_12_0 L I
  have u4 := kp_I kp_r e2
  have v5 : q_V d1 = q_V δ := ((show q_V d1 = q_V δ by rw [e2]; rfl)).trans rfl
  have v6 := kr_N (kr_r (ad := ad)) (show q_R d1 = q_R δ by rw [e2]; rfl)
  have f7 : (q_I d1 12 2 a0).toInt = (q_I δ 12 2 a0).toInt := congrArg Int32.toInt (by rw [e2]; exact rI_o (by decide))
  have f8 := cb_12_2 I k_a0
  first | (have q10 := te_addc (c := 20) (n := 20) rfl (q_I d1 12 2 a0) (by omega) (by omega); obtain ⟨f11, f12, f13⟩ := q10) | (obtain ⟨q10, f11, f12, f13⟩ := ti_addc (c := 20) (n := 20) rfl (q_I d1 12 2 a0))
  refine ok_ite (fun h14 => ?_) (fun h14 => ?_)
  · have c15 : ((q_I d1 12 2 a0) + (20 : Int32)).toInt ≤ (500 : Int) := o_le h14
    refine ok_mono (kl_X12_feed_23 L hN   k_a0 _ (0 : Int32) d1 i3 (show 0 ≤ (0 : Int) by first | with_reducible assumption | omega) (show (0 : Int) ≤ 20 by first | with_reducible assumption | omega) (show (q_I d1 12 2 a0).toInt + 20 - (0 : Int) ≤ 500 by first | with_reducible assumption | omega) (show 20 - (0 : Int) < _ by omega)) (fun r16 hr17 => ?_)
    obtain ⟨i18, ⟨u21, u22, u23⟩, p19, p20⟩ := hr17
    have u24 := kp_t u4 u21
    have v25 : q_V r16.2 = q_V δ := (u22).trans v5
    have v26 := kr_t v6 u23
    have f27 := ti_b r16.1
    replace p19 : (r16.1).toInt = (q_I d1 12 2 a0).toInt + 20 - (0 : Int) := p19
    have f28 := cb_12_2 i18 k_a0
    replace p20 : (q_I r16.2 12 2 a0).toInt = (q_I d1 12 2 a0).toInt + 20 - (0 : Int) := p20
    exact ⟨by first | with_reducible assumption | assumption, ⟨kp_w (by decide) u24, v25, kr_w (by decide) v26⟩, by first | with_reducible assumption | omega, by first | with_reducible assumption | omega⟩
  · have c29 : (500 : Int) < ((q_I d1 12 2 a0) + (20 : Int32)).toInt := o_nle h14
    exact ok_some (show RI ad h.1 δ0 d1 ∧ (kp [(12, 0), (12, 2)] δ d1 ∧ q_V d1 = q_V δ ∧ kr ad [101] δ d1) ∧ ((q_I δ 12 2 a0).toInt + 20 ≤ 500 → (-1 : Int) = (q_I δ 12 2 a0).toInt + 20 ∧ (q_I d1 12 2 a0).toInt = (q_I δ 12 2 a0).toInt + 20) ∧ (500 < (q_I δ 12 2 a0).toInt + 20 → (-1 : Int) = -1 ∧ (q_I d1 12 2 a0).toInt = (q_I δ 12 2 a0).toInt) from ⟨i3, ⟨kp_w (by decide) u4, v5, kr_w (by decide) v6⟩, by first | with_reducible assumption | omega, by first | with_reducible assumption | omega⟩)
set_option maxHeartbeats 4000000 in
theorem k_X12_fine {ad : List Nat} {h : hp} (L : Lay TLx ad h) {δ0 : dp} {N : Nat} (hN : 10000000 ≤ N) {a0 : Nat} (k_a0 : q_K h.1 a0 = 12) {δ : dp} (I : RI ad h.1 δ0 δ) : ok (D_X12_fine N h.1 a0 δ) (fun r => r.2 = δ ∧ bo (r.1) ∧ 0 ≤ (q_I δ 12 5 a0).toInt + (r.1).toInt ∧ (q_I δ 12 5 a0).toInt + 501 * (r.1).toInt ≤ 500) := by
  unfold D_X12_fine
  have f1 := cb_12_5 I k_a0
  refine ok_ite (fun h2 => ?_) (fun h2 => ?_)
  · have c3 : (q_I δ 12 5 a0).toInt = (-1 : Int) := o_eq h2
    unfold J_X12_fine_13
    refine ok_gp (by decide) ?_
    exact ok_some (show δ = δ ∧ bo ((1 : Int32)) ∧ 0 ≤ (q_I δ 12 5 a0).toInt + (1 : Int) ∧ (q_I δ 12 5 a0).toInt + 501 * (1 : Int) ≤ 500 from ⟨rfl, bo_1, by first | with_reducible assumption | omega, by first | with_reducible assumption | omega⟩)
  · have c4 : (q_I δ 12 5 a0).toInt ≠ (-1 : Int) := o_ne h2
    unfold J_X12_fine_13
    refine ok_gp (by decide) ?_
    exact ok_some (show δ = δ ∧ bo ((0 : Int32)) ∧ 0 ≤ (q_I δ 12 5 a0).toInt + (0 : Int) ∧ (q_I δ 12 5 a0).toInt + 501 * (0 : Int) ≤ 500 from ⟨rfl, bo_0, by first | with_reducible assumption | omega, by first | with_reducible assumption | omega⟩)
set_option maxHeartbeats 4000000 in
theorem k_X12_wrong {ad : List Nat} {h : hp} (L : Lay TLx ad h) {δ0 : dp} {N : Nat} (hN : 10000000 ≤ N) {a0 : Nat} {x1 : Int32} {x2 : Int32} (k_a0 : q_K h.1 a0 = 12) {δ : dp} (z0 : 0 ≤ (x2).toInt) (z1 : (x2).toInt ≤ 500) (z2 : 0 ≤ (x1).toInt) (z3 : (x1).toInt ≤ 4) (I : RI ad h.1 δ0 δ) : ok (D_X12_wrong N h.1 a0 x1 x2 δ) (fun r => RI ad h.1 δ0 r ∧ (kp [(12, 5), (12, 6)] δ r ∧ q_V r = q_V δ ∧ q_R r = q_R δ ∧ kr ad [] δ r) ∧ 0 ≤ (q_I r 12 5 a0).toInt ∧ (q_I δ 12 5 a0).toInt ≤ (q_I r 12 5 a0).toInt) := by
  unfold D_X12_wrong
  have f1 := ti_b x2
  have f2 := ti_b x1
  have f3 := cb_12_5 I k_a0
  refine ok_ite (fun h4 => ?_) (fun h4 => ?_)
  · have c5 : (q_I δ 12 5 a0).toInt = (-1 : Int) := o_eq h4
    refine ok_bdv (fun d6 e7 => ?_)
    have i8 : RI ad h.1 δ0 d6 := by rw [e7]; exact cs_12_5 L I k_a0 (show -1 ≤ x2.toInt by omega) (show x2.toInt ≤ 500 by omega)
    have u9 := kp_I kp_r e7
    have v10 : q_V d6 = q_V δ := ((show q_V d6 = q_V δ by rw [e7]; rfl)).trans rfl
    have v11 : q_R d6 = q_R δ := ((show q_R d6 = q_R δ by rw [e7]; rfl)).trans rfl
    have v12 := kr_N (kr_r (ad := ad)) (show q_R d6 = q_R δ by rw [e7]; rfl)
    refine ok_bdv (fun d13 e14 => ?_)
    have i15 : RI ad h.1 δ0 d13 := by rw [e14]; exact cs_12_6 L i8 k_a0 (show 0 ≤ x1.toInt by omega) (show x1.toInt ≤ 4 by omega)
    have u16 := kp_I u9 e14
    have v17 : q_V d13 = q_V δ := ((show q_V d13 = q_V d6 by rw [e14]; rfl)).trans v10
    have v18 : q_R d13 = q_R δ := ((show q_R d13 = q_R d6 by rw [e14]; rfl)).trans v11
    have v19 := kr_N v12 (show q_R d13 = q_R d6 by rw [e14]; rfl)
    have f20 : (q_I d13 12 5 a0).toInt = (q_I d6 12 5 a0).toInt := congrArg Int32.toInt (by rw [e14]; exact rI_o (by decide))
    have f21 := cb_12_5 i8 k_a0
    have f22 : (q_I d6 12 5 a0).toInt = x2.toInt := congrArg Int32.toInt (show q_I d6 12 5 a0 = x2 by rw [e7]; exact rI_s)
    exact ok_some (show RI ad h.1 δ0 d13 ∧ (kp [(12, 5), (12, 6)] δ d13 ∧ q_V d13 = q_V δ ∧ q_R d13 = q_R δ ∧ kr ad [] δ d13) ∧ 0 ≤ (q_I d13 12 5 a0).toInt ∧ (q_I δ 12 5 a0).toInt ≤ (q_I d13 12 5 a0).toInt from ⟨i15, ⟨kp_w (by decide) u16, v17, v18, kr_w (by decide) v19⟩, by first | with_reducible assumption | omega, by first | with_reducible assumption | omega⟩)
  · have c23 : (q_I δ 12 5 a0).toInt ≠ (-1 : Int) := o_ne h4
    exact ok_some (show RI ad h.1 δ0 δ ∧ (kp [(12, 5), (12, 6)] δ δ ∧ q_V δ = q_V δ ∧ q_R δ = q_R δ ∧ kr ad [] δ δ) ∧ 0 ≤ (q_I δ 12 5 a0).toInt ∧ (q_I δ 12 5 a0).toInt ≤ (q_I δ 12 5 a0).toInt from ⟨I, ⟨kp_w (by decide) kp_r, rfl, rfl, kr_w (by decide) (kr_r (ad := ad))⟩, by first | with_reducible assumption | omega, by first | with_reducible assumption | omega⟩)
set_option maxHeartbeats 4000000 in
theorem kl_X12_here_0 {ad : List Nat} {h : hp} (L : Lay TLx ad h) {δ0 : dp} {N : Nat} (hN : 10000000 ≤ N) {a0 : Nat} (k_a0 : q_K h.1 a0 = 12) : ∀ (n : Nat) (δ : dp), RI ad h.1 δ0 δ → 501 - (q_I δ 12 4 a0).toInt < (n : Int) → ok (L_X12_here_0 N h.1 a0 n δ) (fun r => RI ad h.1 δ0 r.2 ∧ (kp [(12, 4)] δ r.2 ∧ q_V r.2 = q_V δ ∧ q_R r.2 = q_R δ ∧ kr ad [] δ r.2) ∧ (q_I δ 12 4 a0).toInt ≤ (q_I r.2 12 4 a0).toInt ∧ ((r.1).toInt ≠ 0 → (q_I r.2 12 4 a0).toInt < (q_I δ 12 3 a0).toInt ∧ (r.1).toInt = hc ad r.2 a0) ∧ ((q_I δ 12 4 a0).toInt < (q_I δ 12 3 a0).toInt → hc ad δ a0 ≠ 32 → (q_I r.2 12 4 a0).toInt = (q_I δ 12 4 a0).toInt ∧ (r.1).toInt = hc ad δ a0)) := by
  intro n
  induction n with
  | zero =>
    intro δ I hm
    have f1 := cb_12_4 I k_a0
    exfalso; omega
  | succ n ih =>
    intro δ I hm
    unfold L_X12_here_0
    have f1 := cb_12_4 I k_a0
    have f2 := cb_12_3 I k_a0
    refine ok_ite (fun h3 => ?_) (fun h3 => ?_)
    · have c4 : (q_I δ 12 3 a0).toInt ≤ (q_I δ 12 4 a0).toInt := o_le h3
      unfold J_X12_here_38
      refine ok_ite (fun h5 => ?_) (fun h5 => ?_)
      · have c6 : (q_I δ 12 3 a0).toInt ≤ (q_I δ 12 4 a0).toInt := o_le h5
        unfold J_X12_here_62
        have f7 : hc ad δ a0 = (q_R δ (Ad ad 101) (q_I δ 12 4 a0).toNatClampNeg).toInt := rfl
        have t8 := ti_tn (q_I δ 12 4 a0)
        have f9 := ti_b (q_R δ (Ad ad 101) (q_I δ 12 4 a0).toNatClampNeg)
        exact ok_some (show RI ad h.1 δ0 δ ∧ (kp [(12, 4)] δ δ ∧ q_V δ = q_V δ ∧ q_R δ = q_R δ ∧ kr ad [] δ δ) ∧ (q_I δ 12 4 a0).toInt ≤ (q_I δ 12 4 a0).toInt ∧ ((0 : Int) ≠ 0 → (q_I δ 12 4 a0).toInt < (q_I δ 12 3 a0).toInt ∧ (0 : Int) = hc ad δ a0) ∧ ((q_I δ 12 4 a0).toInt < (q_I δ 12 3 a0).toInt → hc ad δ a0 ≠ 32 → (q_I δ 12 4 a0).toInt = (q_I δ 12 4 a0).toInt ∧ (0 : Int) = hc ad δ a0) from ⟨I, ⟨kp_w (by decide) kp_r, rfl, rfl, kr_w (by decide) (kr_r (ad := ad))⟩, by first | with_reducible assumption | omega, by first | with_reducible assumption | omega, by first | with_reducible assumption | omega⟩)
      · have c10 : (q_I δ 12 4 a0).toInt < (q_I δ 12 3 a0).toInt := o_nle h5
        obtain ⟨b11, o12, k13, n14, w15⟩ := gO_12_9 L k_a0
        obtain rfl := gS_12_9 L k_a0 o12
        refine ok_at o12 ?_
        have t16 := ti_tn (q_I δ 12 4 a0)
        refine ok_gd (fun hc17 => ?_) ?_
        · rcases hc17 with hc17 | hc17
          · have c18 : (q_I δ 12 4 a0).toInt < (0 : Int) := o_lt hc17
            omega
          · omega
        unfold J_X12_here_62
        have f19 := ti_b (q_R δ (Ad ad 101) (q_I δ 12 4 a0).toNatClampNeg)
        have f20 : hc ad δ a0 = (q_R δ (Ad ad 101) (q_I δ 12 4 a0).toNatClampNeg).toInt := rfl
        exact ok_some (show RI ad h.1 δ0 δ ∧ (kp [(12, 4)] δ δ ∧ q_V δ = q_V δ ∧ q_R δ = q_R δ ∧ kr ad [] δ δ) ∧ (q_I δ 12 4 a0).toInt ≤ (q_I δ 12 4 a0).toInt ∧ (((q_R δ (Ad ad 101) (q_I δ 12 4 a0).toNatClampNeg)).toInt ≠ 0 → (q_I δ 12 4 a0).toInt < (q_I δ 12 3 a0).toInt ∧ ((q_R δ (Ad ad 101) (q_I δ 12 4 a0).toNatClampNeg)).toInt = hc ad δ a0) ∧ ((q_I δ 12 4 a0).toInt < (q_I δ 12 3 a0).toInt → hc ad δ a0 ≠ 32 → (q_I δ 12 4 a0).toInt = (q_I δ 12 4 a0).toInt ∧ ((q_R δ (Ad ad 101) (q_I δ 12 4 a0).toNatClampNeg)).toInt = hc ad δ a0) from ⟨I, ⟨kp_w (by decide) kp_r, rfl, rfl, kr_w (by decide) (kr_r (ad := ad))⟩, by first | with_reducible assumption | omega, by first | with_reducible assumption | omega, by first | with_reducible assumption | omega⟩)
    · have c21 : (q_I δ 12 4 a0).toInt < (q_I δ 12 3 a0).toInt := o_nle h3
      obtain ⟨b22, o23, k24, n25, w26⟩ := gO_12_9 L k_a0
      obtain rfl := gS_12_9 L k_a0 o23
      refine ok_at o23 ?_
      have t27 := ti_tn (q_I δ 12 4 a0)
      refine ok_gd (fun hc28 => ?_) ?_
      · rcases hc28 with hc28 | hc28
        · have c29 : (q_I δ 12 4 a0).toInt < (0 : Int) := o_lt hc28
          omega
        · omega
      have f30 := ti_b (q_R δ (Ad ad 101) (q_I δ 12 4 a0).toNatClampNeg)
      refine ok_ite (fun h31 => ?_) (fun h31 => ?_)
      · have c32 : (q_R δ (Ad ad 101) (q_I δ 12 4 a0).toNatClampNeg).toInt = (32 : Int) := o_eq h31
        first | (have q37 := te_addc (c := 1) (n := 1) rfl (q_I δ 12 4 a0) (by omega) (by omega); obtain ⟨f38, f39, f40⟩ := q37) | (obtain ⟨q37, f38, f39, f40⟩ := ti_addc (c := 1) (n := 1) rfl (q_I δ 12 4 a0))
        refine ok_bdv (fun d33 e34 => ?_)
        have i35 : RI ad h.1 δ0 d33 := by rw [e34]; exact cs_12_4 L I k_a0 (show 0 ≤ ((q_I δ 12 4 a0) + (1 : Int32)).toInt by omega) (show ((q_I δ 12 4 a0) + (1 : Int32)).toInt ≤ 500 by omega)
        have u41 := kp_I kp_r e34
        have v42 : q_V d33 = q_V δ := ((show q_V d33 = q_V δ by rw [e34]; rfl)).trans rfl
        have v43 : q_R d33 = q_R δ := ((show q_R d33 = q_R δ by rw [e34]; rfl)).trans rfl
        have v44 := kr_N (kr_r (ad := ad)) (show q_R d33 = q_R δ by rw [e34]; rfl)
        have f45 := cb_12_4 i35 k_a0
        have f46 : (q_I d33 12 4 a0).toInt = ((q_I δ 12 4 a0) + (1 : Int32)).toInt := congrArg Int32.toInt (show q_I d33 12 4 a0 = ((q_I δ 12 4 a0) + (1 : Int32)) by rw [e34]; exact rI_s)
        refine ok_mono (ih d33 i35  (show 501 - (q_I d33 12 4 a0).toInt < _ by omega)) (fun r47 hr48 => ?_)
        obtain ⟨i49, ⟨u53, u54, u55, u56⟩, p50, p51, p52⟩ := hr48
        have u57 := kp_t u41 u53
        have v58 : q_V r47.2 = q_V δ := (u54).trans v42
        have v59 : q_R r47.2 = q_R δ := (u55).trans v43
        have v60 := kr_t v44 u56
        have f61 := cb_12_4 i49 k_a0
        have f62 : hc ad r47.2 a0 = (q_R r47.2 (Ad ad 101) (q_I r47.2 12 4 a0).toNatClampNeg).toInt := rfl
        have t63 := ti_tn (q_I r47.2 12 4 a0)
        have f64 : (q_R r47.2 (Ad ad 101) (q_I r47.2 12 4 a0).toNatClampNeg).toInt = (q_R d33 (Ad ad 101) (q_I r47.2 12 4 a0).toNatClampNeg).toInt := congrArg Int32.toInt (congrFun (u56 101 (by decide) (by decide) (by decide)) _)
        have f65 : (q_R d33 (Ad ad 101) (q_I r47.2 12 4 a0).toNatClampNeg).toInt = (q_R δ (Ad ad 101) (q_I r47.2 12 4 a0).toNatClampNeg).toInt := congrArg Int32.toInt (show q_R d33 (Ad ad 101) (q_I r47.2 12 4 a0).toNatClampNeg = _ by rw [e34]; rfl)
        have f66 := ti_b (q_R δ (Ad ad 101) (q_I r47.2 12 4 a0).toNatClampNeg)
        have f67 := ti_b (q_R d33 (Ad ad 101) (q_I r47.2 12 4 a0).toNatClampNeg)
        have f68 := ti_b (q_R r47.2 (Ad ad 101) (q_I r47.2 12 4 a0).toNatClampNeg)
        have f69 := ti_b r47.1
        have f70 : (q_I d33 12 3 a0).toInt = (q_I δ 12 3 a0).toInt := congrArg Int32.toInt (by rw [e34]; exact rI_o (by decide))
        have f71 : hc ad d33 a0 = (q_R d33 (Ad ad 101) (q_I d33 12 4 a0).toNatClampNeg).toInt := rfl
        have t72 := ti_tn (q_I d33 12 4 a0)
        have f73 : (q_R d33 (Ad ad 101) (q_I d33 12 4 a0).toNatClampNeg).toInt = (q_R δ (Ad ad 101) (q_I d33 12 4 a0).toNatClampNeg).toInt := congrArg Int32.toInt (show q_R d33 (Ad ad 101) (q_I d33 12 4 a0).toNatClampNeg = _ by rw [e34]; rfl)
        have f74 := ti_b (q_R δ (Ad ad 101) (q_I d33 12 4 a0).toNatClampNeg)
        have f75 := ti_b (q_R d33 (Ad ad 101) (q_I d33 12 4 a0).toNatClampNeg)
        have f76 : hc ad δ a0 = (q_R δ (Ad ad 101) (q_I δ 12 4 a0).toNatClampNeg).toInt := rfl
        exact ⟨by first | with_reducible assumption | assumption, ⟨kp_w (by decide) u57, v58, v59, kr_w (by decide) v60⟩, by first | with_reducible assumption | omega, by first | with_reducible assumption | omega, by first | with_reducible assumption | omega⟩
      · have c77 : (q_R δ (Ad ad 101) (q_I δ 12 4 a0).toNatClampNeg).toInt ≠ (32 : Int) := o_ne h31
        unfold J_X12_here_38
        refine ok_ite (fun h78 => ?_) (fun h78 => ?_)
        · have c79 : (q_I δ 12 3 a0).toInt ≤ (q_I δ 12 4 a0).toInt := o_le h78
          unfold J_X12_here_62
          have f80 : hc ad δ a0 = (q_R δ (Ad ad 101) (q_I δ 12 4 a0).toNatClampNeg).toInt := rfl
          exact ok_some (show RI ad h.1 δ0 δ ∧ (kp [(12, 4)] δ δ ∧ q_V δ = q_V δ ∧ q_R δ = q_R δ ∧ kr ad [] δ δ) ∧ (q_I δ 12 4 a0).toInt ≤ (q_I δ 12 4 a0).toInt ∧ ((0 : Int) ≠ 0 → (q_I δ 12 4 a0).toInt < (q_I δ 12 3 a0).toInt ∧ (0 : Int) = hc ad δ a0) ∧ ((q_I δ 12 4 a0).toInt < (q_I δ 12 3 a0).toInt → hc ad δ a0 ≠ 32 → (q_I δ 12 4 a0).toInt = (q_I δ 12 4 a0).toInt ∧ (0 : Int) = hc ad δ a0) from ⟨I, ⟨kp_w (by decide) kp_r, rfl, rfl, kr_w (by decide) (kr_r (ad := ad))⟩, by first | with_reducible assumption | omega, by first | with_reducible assumption | omega, by first | with_reducible assumption | omega⟩)
        · have c81 : (q_I δ 12 4 a0).toInt < (q_I δ 12 3 a0).toInt := o_nle h78
          refine ok_at o23 ?_
          refine ok_gd (fun hc82 => ?_) ?_
          · rcases hc82 with hc82 | hc82
            · have c83 : (q_I δ 12 4 a0).toInt < (0 : Int) := o_lt hc82
              omega
            · omega
          unfold J_X12_here_62
          have f84 : hc ad δ a0 = (q_R δ (Ad ad 101) (q_I δ 12 4 a0).toNatClampNeg).toInt := rfl
          exact ok_some (show RI ad h.1 δ0 δ ∧ (kp [(12, 4)] δ δ ∧ q_V δ = q_V δ ∧ q_R δ = q_R δ ∧ kr ad [] δ δ) ∧ (q_I δ 12 4 a0).toInt ≤ (q_I δ 12 4 a0).toInt ∧ (((q_R δ (Ad ad 101) (q_I δ 12 4 a0).toNatClampNeg)).toInt ≠ 0 → (q_I δ 12 4 a0).toInt < (q_I δ 12 3 a0).toInt ∧ ((q_R δ (Ad ad 101) (q_I δ 12 4 a0).toNatClampNeg)).toInt = hc ad δ a0) ∧ ((q_I δ 12 4 a0).toInt < (q_I δ 12 3 a0).toInt → hc ad δ a0 ≠ 32 → (q_I δ 12 4 a0).toInt = (q_I δ 12 4 a0).toInt ∧ ((q_R δ (Ad ad 101) (q_I δ 12 4 a0).toNatClampNeg)).toInt = hc ad δ a0) from ⟨I, ⟨kp_w (by decide) kp_r, rfl, rfl, kr_w (by decide) (kr_r (ad := ad))⟩, by first | with_reducible assumption | omega, by first | with_reducible assumption | omega, by first | with_reducible assumption | omega⟩)
set_option maxHeartbeats 4000000 in
theorem k_X12_here {ad : List Nat} {h : hp} (L : Lay TLx ad h) {δ0 : dp} {N : Nat} (hN : 10000000 ≤ N) {a0 : Nat} (k_a0 : q_K h.1 a0 = 12) {δ : dp} (I : RI ad h.1 δ0 δ) : ok (D_X12_here N h.1 a0 δ) (fun r => RI ad h.1 δ0 r.2 ∧ (kp [(12, 4)] δ r.2 ∧ q_V r.2 = q_V δ ∧ q_R r.2 = q_R δ ∧ kr ad [] δ r.2) ∧ (q_I δ 12 4 a0).toInt ≤ (q_I r.2 12 4 a0).toInt ∧ ((r.1).toInt ≠ 0 → (q_I r.2 12 4 a0).toInt < (q_I δ 12 3 a0).toInt ∧ (r.1).toInt = hc ad r.2 a0) ∧ ((q_I δ 12 4 a0).toInt < (q_I δ 12 3 a0).toInt → hc ad δ a0 ≠ 32 → (q_I r.2 12 4 a0).toInt = (q_I δ 12 4 a0).toInt ∧ (r.1).toInt = hc ad δ a0)) := by
  unfold D_X12_here
  have f1 := cb_12_4 I k_a0
  refine ok_mono (kl_X12_here_0 L hN   k_a0 _ δ I  (show 501 - (q_I δ 12 4 a0).toInt < _ by omega)) (fun r2 hr3 => ?_)
  obtain ⟨i4, ⟨u8, u9, u10, u11⟩, p5, p6, p7⟩ := hr3
  have u12 := kp_t kp_r u8
  have v13 : q_V r2.2 = q_V δ := (u9).trans rfl
  have v14 : q_R r2.2 = q_R δ := (u10).trans rfl
  have v15 := kr_t (kr_r (ad := ad)) u11
  have f16 := cb_12_4 i4 k_a0
  have f17 : hc ad r2.2 a0 = (q_R r2.2 (Ad ad 101) (q_I r2.2 12 4 a0).toNatClampNeg).toInt := rfl
  have t18 := ti_tn (q_I r2.2 12 4 a0)
  have f19 : (q_R r2.2 (Ad ad 101) (q_I r2.2 12 4 a0).toNatClampNeg).toInt = (q_R δ (Ad ad 101) (q_I r2.2 12 4 a0).toNatClampNeg).toInt := congrArg Int32.toInt (congrFun (u11 101 (by decide) (by decide) (by decide)) _)
  have f20 := ti_b (q_R δ (Ad ad 101) (q_I r2.2 12 4 a0).toNatClampNeg)
  have f21 := ti_b (q_R r2.2 (Ad ad 101) (q_I r2.2 12 4 a0).toNatClampNeg)
  have f22 := ti_b r2.1
  have f23 := cb_12_3 I k_a0
  have f24 : hc ad δ a0 = (q_R δ (Ad ad 101) (q_I δ 12 4 a0).toNatClampNeg).toInt := rfl
  have t25 := ti_tn (q_I δ 12 4 a0)
  have f26 := ti_b (q_R δ (Ad ad 101) (q_I δ 12 4 a0).toNatClampNeg)
  exact ⟨by first | with_reducible assumption | assumption, ⟨kp_w (by decide) u12, v13, v14, kr_w (by decide) v15⟩, by first | with_reducible assumption | omega, by first | with_reducible assumption | omega, by first | with_reducible assumption | omega⟩
set_option maxHeartbeats 4000000 in
theorem k_X12_isSmall {ad : List Nat} {h : hp} (L : Lay TLx ad h) {δ0 : dp} {N : Nat} (hN : 10000000 ≤ N) {x0 : Int32} {δ : dp} (I : RI ad h.1 δ0 δ) : ok (D_X12_isSmall N h.1 x0 δ) (fun r => r.2 = δ ∧ bo (r.1) ∧ ((r.1).toInt = 1 → 97 ≤ (x0).toInt ∧ (x0).toInt ≤ 122) ∧ ((r.1).toInt = 0 → (x0).toInt < 97 ∨ 122 < (x0).toInt)) := by
  unfold D_X12_isSmall
  have f1 := ti_b x0
  refine ok_ite (fun h2 => ?_) (fun h2 => ?_)
  · have c3 : x0.toInt < (97 : Int) := o_lt h2
    unfold J_X12_isSmall_16
    unfold J_X12_isSmall_17
    refine ok_gp (by decide) ?_
    exact ok_some (show δ = δ ∧ bo ((0 : Int32)) ∧ ((0 : Int) = 1 → 97 ≤ (x0).toInt ∧ (x0).toInt ≤ 122) ∧ ((0 : Int) = 0 → (x0).toInt < 97 ∨ 122 < (x0).toInt) from ⟨rfl, bo_0, by first | with_reducible assumption | omega, by first | with_reducible assumption | omega⟩)
  · have c4 : (97 : Int) ≤ x0.toInt := o_nlt h2
    refine ok_ite (fun h5 => ?_) (fun h5 => ?_)
    · have c6 : (122 : Int) < x0.toInt := o_lt h5
      unfold J_X12_isSmall_16
      unfold J_X12_isSmall_17
      refine ok_gp (by decide) ?_
      exact ok_some (show δ = δ ∧ bo ((0 : Int32)) ∧ ((0 : Int) = 1 → 97 ≤ (x0).toInt ∧ (x0).toInt ≤ 122) ∧ ((0 : Int) = 0 → (x0).toInt < 97 ∨ 122 < (x0).toInt) from ⟨rfl, bo_0, by first | with_reducible assumption | omega, by first | with_reducible assumption | omega⟩)
    · have c7 : x0.toInt ≤ (122 : Int) := o_nlt h5
      unfold J_X12_isSmall_17
      refine ok_gp (by decide) ?_
      exact ok_some (show δ = δ ∧ bo ((1 : Int32)) ∧ ((1 : Int) = 1 → 97 ≤ (x0).toInt ∧ (x0).toInt ≤ 122) ∧ ((1 : Int) = 0 → (x0).toInt < 97 ∨ 122 < (x0).toInt) from ⟨rfl, bo_1, by first | with_reducible assumption | omega, by first | with_reducible assumption | omega⟩)
set_option maxHeartbeats 4000000 in
theorem k_X12_isDigit {ad : List Nat} {h : hp} (L : Lay TLx ad h) {δ0 : dp} {N : Nat} (hN : 10000000 ≤ N) {x0 : Int32} {δ : dp} (I : RI ad h.1 δ0 δ) : ok (D_X12_isDigit N h.1 x0 δ) (fun r => r.2 = δ ∧ bo (r.1) ∧ ((r.1).toInt = 1 → 48 ≤ (x0).toInt ∧ (x0).toInt ≤ 57) ∧ ((r.1).toInt = 0 → (x0).toInt < 48 ∨ 57 < (x0).toInt)) := by
  unfold D_X12_isDigit
  have f1 := ti_b x0
  refine ok_ite (fun h2 => ?_) (fun h2 => ?_)
  · have c3 : x0.toInt < (48 : Int) := o_lt h2
    unfold J_X12_isDigit_16
    unfold J_X12_isDigit_17
    refine ok_gp (by decide) ?_
    exact ok_some (show δ = δ ∧ bo ((0 : Int32)) ∧ ((0 : Int) = 1 → 48 ≤ (x0).toInt ∧ (x0).toInt ≤ 57) ∧ ((0 : Int) = 0 → (x0).toInt < 48 ∨ 57 < (x0).toInt) from ⟨rfl, bo_0, by first | with_reducible assumption | omega, by first | with_reducible assumption | omega⟩)
  · have c4 : (48 : Int) ≤ x0.toInt := o_nlt h2
    refine ok_ite (fun h5 => ?_) (fun h5 => ?_)
    · have c6 : (57 : Int) < x0.toInt := o_lt h5
      unfold J_X12_isDigit_16
      unfold J_X12_isDigit_17
      refine ok_gp (by decide) ?_
      exact ok_some (show δ = δ ∧ bo ((0 : Int32)) ∧ ((0 : Int) = 1 → 48 ≤ (x0).toInt ∧ (x0).toInt ≤ 57) ∧ ((0 : Int) = 0 → (x0).toInt < 48 ∨ 57 < (x0).toInt) from ⟨rfl, bo_0, by first | with_reducible assumption | omega, by first | with_reducible assumption | omega⟩)
    · have c7 : x0.toInt ≤ (57 : Int) := o_nlt h5
      unfold J_X12_isDigit_17
      refine ok_gp (by decide) ?_
      exact ok_some (show δ = δ ∧ bo ((1 : Int32)) ∧ ((1 : Int) = 1 → 48 ≤ (x0).toInt ∧ (x0).toInt ≤ 57) ∧ ((1 : Int) = 0 → (x0).toInt < 48 ∨ 57 < (x0).toInt) from ⟨rfl, bo_1, by first | with_reducible assumption | omega, by first | with_reducible assumption | omega⟩)
set_option maxHeartbeats 4000000 in
theorem kl_X12_word_14 {ad : List Nat} {h : hp} (L : Lay TLx ad h) {δ0 : dp} {N : Nat} (hN : 10000000 ≤ N) {a0 : Nat} (k_a0 : q_K h.1 a0 = 12) : ∀ (n : Nat) (x1v : Int32) (x2v : Int32) (x3v : Int32) (δ : dp), RI ad h.1 δ0 δ → 0 ≤ (x3v).toInt → (x3v).toInt ≤ 500 → ((x3v).toInt = (q_I δ 12 4 a0).toInt ∨ (q_I δ 12 4 a0).toInt < (q_I δ 12 3 a0).toInt ∧ 97 ≤ hc ad δ a0 ∧ hc ad δ a0 ≤ 122) → ((x1v).toInt = 0 ∨ (q_I δ 12 4 a0).toInt < (q_I δ 12 3 a0).toInt ∧ 97 ≤ hc ad δ a0 ∧ hc ad δ a0 ≤ 122) → 500 - (x3v).toInt < (n : Int) → ok (L_X12_word_14 N h.1 a0 n x1v x2v x3v δ) (fun r => RI ad h.1 δ0 r.2 ∧ (kp [(12, 4)] δ r.2 ∧ q_V r.2 = q_V δ ∧ q_R r.2 = q_R δ ∧ kr ad [] δ r.2) ∧ (q_I δ 12 4 a0).toInt ≤ (q_I r.2 12 4 a0).toInt ∧ ((r.1).toInt ≠ 0 → (q_I r.2 12 4 a0).toInt < (q_I δ 12 3 a0).toInt ∧ 97 ≤ hc ad r.2 a0 ∧ hc ad r.2 a0 ≤ 122)) := by
  intro n
  induction n with
  | zero =>
    intro x1v x2v x3v δ I j0 j1 j2 j3 hm
    have f1 : hc ad δ a0 = (q_R δ (Ad ad 101) (q_I δ 12 4 a0).toNatClampNeg).toInt := rfl
    have f2 := cb_12_4 I k_a0
    have t3 := ti_tn (q_I δ 12 4 a0)
    have f4 := ti_b (q_R δ (Ad ad 101) (q_I δ 12 4 a0).toNatClampNeg)
    have f5 := ti_b x3v
    have f6 := cb_12_3 I k_a0
    have f7 := ti_b x1v
    exfalso; omega
  | succ n ih =>
    intro x1v x2v x3v δ I j0 j1 j2 j3 hm
    unfold L_X12_word_14
    have f1 : hc ad δ a0 = (q_R δ (Ad ad 101) (q_I δ 12 4 a0).toNatClampNeg).toInt := rfl
    have f2 := cb_12_4 I k_a0
    have t3 := ti_tn (q_I δ 12 4 a0)
    have f4 := ti_b (q_R δ (Ad ad 101) (q_I δ 12 4 a0).toNatClampNeg)
    have f5 := ti_b x3v
    have f6 := cb_12_3 I k_a0
    have f7 := ti_b x1v
    have hint0 : x3v.toInt = (q_I δ 12 4 a0).toInt → (q_R δ (Ad ad 101) x3v.toNatClampNeg).toInt = hc ad δ a0 := fun e => by rw [i_eq e]; rfl
    refine ok_ite (fun h8 => ?_) (fun h8 => ?_)
    · have c9 : (q_I δ 12 3 a0).toInt ≤ x3v.toInt := o_le h8
      unfold J_X12_word_67
      have f10 := ti_b x2v
      refine ok_ite (fun h11 => ?_) (fun h11 => ?_)
      · have c12 : x2v.toInt ≤ (6 : Int) := o_le h11
        unfold J_X12_word_78
        exact ok_some (show RI ad h.1 δ0 δ ∧ (kp [(12, 4)] δ δ ∧ q_V δ = q_V δ ∧ q_R δ = q_R δ ∧ kr ad [] δ δ) ∧ (q_I δ 12 4 a0).toInt ≤ (q_I δ 12 4 a0).toInt ∧ ((x1v).toInt ≠ 0 → (q_I δ 12 4 a0).toInt < (q_I δ 12 3 a0).toInt ∧ 97 ≤ hc ad δ a0 ∧ hc ad δ a0 ≤ 122) from ⟨I, ⟨kp_w (by decide) kp_r, rfl, rfl, kr_w (by decide) (kr_r (ad := ad))⟩, by first | with_reducible assumption | omega, by first | with_reducible assumption | omega⟩)
      · have c13 : (6 : Int) < x2v.toInt := o_nle h11
        unfold J_X12_word_78
        exact ok_some (show RI ad h.1 δ0 δ ∧ (kp [(12, 4)] δ δ ∧ q_V δ = q_V δ ∧ q_R δ = q_R δ ∧ kr ad [] δ δ) ∧ (q_I δ 12 4 a0).toInt ≤ (q_I δ 12 4 a0).toInt ∧ ((0 : Int) ≠ 0 → (q_I δ 12 4 a0).toInt < (q_I δ 12 3 a0).toInt ∧ 97 ≤ hc ad δ a0 ∧ hc ad δ a0 ≤ 122) from ⟨I, ⟨kp_w (by decide) kp_r, rfl, rfl, kr_w (by decide) (kr_r (ad := ad))⟩, by first | with_reducible assumption | omega, by first | with_reducible assumption | omega⟩)
    · have c14 : x3v.toInt < (q_I δ 12 3 a0).toInt := o_nle h8
      obtain ⟨b15, o16, k17, n18, w19⟩ := gO_12_9 L k_a0
      obtain rfl := gS_12_9 L k_a0 o16
      refine ok_at o16 ?_
      have t20 := ti_tn x3v
      refine ok_gd (fun hc21 => ?_) ?_
      · rcases hc21 with hc21 | hc21
        · have c22 : x3v.toInt < (0 : Int) := o_lt hc21
          omega
        · omega
      refine ok_bind (k_X12_isSmall L hN (x0 := (q_R δ (Ad ad 101) x3v.toNatClampNeg))  I) (fun r23 hr24 => ?_)
      obtain ⟨i25, p26, p27, p28⟩ := hr24
      try rw [i25]
      have f29 := bo_l p26
      have f30 := ti_b r23.1
      have f31 := ti_b (q_R δ (Ad ad 101) x3v.toNatClampNeg)
      refine ok_ite (fun h32 => ?_) (fun h32 => ?_)
      · have c33 : r23.1.toInt = (0 : Int) := o_eq h32
        unfold J_X12_word_67
        have f34 := ti_b x2v
        refine ok_ite (fun h35 => ?_) (fun h35 => ?_)
        · have c36 : x2v.toInt ≤ (6 : Int) := o_le h35
          unfold J_X12_word_78
          exact ok_some (show RI ad h.1 δ0 δ ∧ (kp [(12, 4)] δ δ ∧ q_V δ = q_V δ ∧ q_R δ = q_R δ ∧ kr ad [] δ δ) ∧ (q_I δ 12 4 a0).toInt ≤ (q_I δ 12 4 a0).toInt ∧ ((x1v).toInt ≠ 0 → (q_I δ 12 4 a0).toInt < (q_I δ 12 3 a0).toInt ∧ 97 ≤ hc ad δ a0 ∧ hc ad δ a0 ≤ 122) from ⟨I, ⟨kp_w (by decide) kp_r, rfl, rfl, kr_w (by decide) (kr_r (ad := ad))⟩, by first | with_reducible assumption | omega, by first | with_reducible assumption | omega⟩)
        · have c37 : (6 : Int) < x2v.toInt := o_nle h35
          unfold J_X12_word_78
          exact ok_some (show RI ad h.1 δ0 δ ∧ (kp [(12, 4)] δ δ ∧ q_V δ = q_V δ ∧ q_R δ = q_R δ ∧ kr ad [] δ δ) ∧ (q_I δ 12 4 a0).toInt ≤ (q_I δ 12 4 a0).toInt ∧ ((0 : Int) ≠ 0 → (q_I δ 12 4 a0).toInt < (q_I δ 12 3 a0).toInt ∧ 97 ≤ hc ad δ a0 ∧ hc ad δ a0 ≤ 122) from ⟨I, ⟨kp_w (by decide) kp_r, rfl, rfl, kr_w (by decide) (kr_r (ad := ad))⟩, by first | with_reducible assumption | omega, by first | with_reducible assumption | omega⟩)
      · have c38 : r23.1.toInt ≠ (0 : Int) := o_ne h32
        have f39 := ti_b x2v
        refine ok_ite (fun h40 => ?_) (fun h40 => ?_)
        · have c41 : (6 : Int) ≤ x2v.toInt := o_le h40
          unfold J_X12_word_57
          refine ok_biv (fun vx42 e43 => ?_)
          first | (have q44 := te_addc (c := 1) (n := 1) rfl x2v (by omega) (by omega); rw [← e43] at q44; obtain ⟨f45, f46, f47⟩ := q44) | (obtain ⟨q44, f45, f46, f47⟩ : ∃ q : Int, vx42.toInt = x2v.toInt + (1 : Int) + 4294967296 * q ∧ -2147483648 ≤ vx42.toInt ∧ vx42.toInt ≤ 2147483647 := by rw [e43]; exact ti_addc (c := 1) (n := 1) rfl x2v)
          refine ok_biv (fun vx48 e49 => ?_)
          first | (have q50 := te_addc (c := 1) (n := 1) rfl x3v (by omega) (by omega); rw [← e49] at q50; obtain ⟨f51, f52, f53⟩ := q50) | (obtain ⟨q50, f51, f52, f53⟩ : ∃ q : Int, vx48.toInt = x3v.toInt + (1 : Int) + 4294967296 * q ∧ -2147483648 ≤ vx48.toInt ∧ vx48.toInt ≤ 2147483647 := by rw [e49]; exact ti_addc (c := 1) (n := 1) rfl x3v)
          refine ok_mono (ih (0 : Int32) vx42 vx48 δ I (show 0 ≤ (vx48).toInt by first | with_reducible assumption | omega) (show (vx48).toInt ≤ 500 by first | with_reducible assumption | omega) (show (vx48).toInt = (q_I δ 12 4 a0).toInt ∨ (q_I δ 12 4 a0).toInt < (q_I δ 12 3 a0).toInt ∧ 97 ≤ hc ad δ a0 ∧ hc ad δ a0 ≤ 122 by first | with_reducible assumption | omega) (show (0 : Int) = 0 ∨ (q_I δ 12 4 a0).toInt < (q_I δ 12 3 a0).toInt ∧ 97 ≤ hc ad δ a0 ∧ hc ad δ a0 ≤ 122 by first | with_reducible assumption | omega) (show 500 - (vx48).toInt < _ by omega)) (fun r54 hr55 => ?_)
          obtain ⟨i56, ⟨u59, u60, u61, u62⟩, p57, p58⟩ := hr55
          have u63 := kp_t kp_r u59
          have v64 : q_V r54.2 = q_V δ := (u60).trans rfl
          have v65 : q_R r54.2 = q_R δ := (u61).trans rfl
          have v66 := kr_t (kr_r (ad := ad)) u62
          have f67 := cb_12_4 i56 k_a0
          have f68 : hc ad r54.2 a0 = (q_R r54.2 (Ad ad 101) (q_I r54.2 12 4 a0).toNatClampNeg).toInt := rfl
          have t69 := ti_tn (q_I r54.2 12 4 a0)
          have f70 : (q_R r54.2 (Ad ad 101) (q_I r54.2 12 4 a0).toNatClampNeg).toInt = (q_R δ (Ad ad 101) (q_I r54.2 12 4 a0).toNatClampNeg).toInt := congrArg Int32.toInt (congrFun (u62 101 (by decide) (by decide) (by decide)) _)
          have f71 := ti_b (q_R δ (Ad ad 101) (q_I r54.2 12 4 a0).toNatClampNeg)
          have f72 := ti_b (q_R r54.2 (Ad ad 101) (q_I r54.2 12 4 a0).toNatClampNeg)
          have f73 := ti_b r54.1
          exact ⟨by first | with_reducible assumption | assumption, ⟨kp_w (by decide) u63, v64, v65, kr_w (by decide) v66⟩, by first | with_reducible assumption | omega, by first | with_reducible assumption | omega⟩
        · have c74 : x2v.toInt < (6 : Int) := o_nle h40
          refine ok_at o16 ?_
          refine ok_gd (fun hc75 => ?_) ?_
          · rcases hc75 with hc75 | hc75
            · have c76 : x3v.toInt < (0 : Int) := o_lt hc75
              omega
            · omega
          unfold J_X12_word_57
          refine ok_biv (fun vx77 e78 => ?_)
          first | (have q79 := te_addc (c := 1) (n := 1) rfl x2v (by omega) (by omega); rw [← e78] at q79; obtain ⟨f80, f81, f82⟩ := q79) | (obtain ⟨q79, f80, f81, f82⟩ : ∃ q : Int, vx77.toInt = x2v.toInt + (1 : Int) + 4294967296 * q ∧ -2147483648 ≤ vx77.toInt ∧ vx77.toInt ≤ 2147483647 := by rw [e78]; exact ti_addc (c := 1) (n := 1) rfl x2v)
          refine ok_biv (fun vx83 e84 => ?_)
          first | (have q85 := te_addc (c := 1) (n := 1) rfl x3v (by omega) (by omega); rw [← e84] at q85; obtain ⟨f86, f87, f88⟩ := q85) | (obtain ⟨q85, f86, f87, f88⟩ : ∃ q : Int, vx83.toInt = x3v.toInt + (1 : Int) + 4294967296 * q ∧ -2147483648 ≤ vx83.toInt ∧ vx83.toInt ≤ 2147483647 := by rw [e84]; exact ti_addc (c := 1) (n := 1) rfl x3v)
          have f89 := ti_b ((x1v <<< ((5 : Int32) &&& 31)) ||| ((q_R δ (Ad ad 101) x3v.toNatClampNeg) - (96 : Int32)))
          refine ok_mono (ih ((x1v <<< ((5 : Int32) &&& 31)) ||| ((q_R δ (Ad ad 101) x3v.toNatClampNeg) - (96 : Int32))) vx77 vx83 δ I (show 0 ≤ (vx83).toInt by first | with_reducible assumption | omega) (show (vx83).toInt ≤ 500 by first | with_reducible assumption | omega) (show (vx83).toInt = (q_I δ 12 4 a0).toInt ∨ (q_I δ 12 4 a0).toInt < (q_I δ 12 3 a0).toInt ∧ 97 ≤ hc ad δ a0 ∧ hc ad δ a0 ≤ 122 by first | with_reducible assumption | omega) (show (((x1v <<< ((5 : Int32) &&& 31)) ||| ((q_R δ (Ad ad 101) x3v.toNatClampNeg) - (96 : Int32)))).toInt = 0 ∨ (q_I δ 12 4 a0).toInt < (q_I δ 12 3 a0).toInt ∧ 97 ≤ hc ad δ a0 ∧ hc ad δ a0 ≤ 122 by first | with_reducible assumption | omega) (show 500 - (vx83).toInt < _ by omega)) (fun r90 hr91 => ?_)
          obtain ⟨i92, ⟨u95, u96, u97, u98⟩, p93, p94⟩ := hr91
          have u99 := kp_t kp_r u95
          have v100 : q_V r90.2 = q_V δ := (u96).trans rfl
          have v101 : q_R r90.2 = q_R δ := (u97).trans rfl
          have v102 := kr_t (kr_r (ad := ad)) u98
          have f103 := cb_12_4 i92 k_a0
          have f104 : hc ad r90.2 a0 = (q_R r90.2 (Ad ad 101) (q_I r90.2 12 4 a0).toNatClampNeg).toInt := rfl
          have t105 := ti_tn (q_I r90.2 12 4 a0)
          have f106 : (q_R r90.2 (Ad ad 101) (q_I r90.2 12 4 a0).toNatClampNeg).toInt = (q_R δ (Ad ad 101) (q_I r90.2 12 4 a0).toNatClampNeg).toInt := congrArg Int32.toInt (congrFun (u98 101 (by decide) (by decide) (by decide)) _)
          have f107 := ti_b (q_R δ (Ad ad 101) (q_I r90.2 12 4 a0).toNatClampNeg)
          have f108 := ti_b (q_R r90.2 (Ad ad 101) (q_I r90.2 12 4 a0).toNatClampNeg)
          have f109 := ti_b r90.1
          exact ⟨by first | with_reducible assumption | assumption, ⟨kp_w (by decide) u99, v100, v101, kr_w (by decide) v102⟩, by first | with_reducible assumption | omega, by first | with_reducible assumption | omega⟩
set_option maxHeartbeats 4000000 in
theorem k_X12_word {ad : List Nat} {h : hp} (L : Lay TLx ad h) {δ0 : dp} {N : Nat} (hN : 10000000 ≤ N) {a0 : Nat} (k_a0 : q_K h.1 a0 = 12) {δ : dp} (I : RI ad h.1 δ0 δ) : ok (D_X12_word N h.1 a0 δ) (fun r => RI ad h.1 δ0 r.2 ∧ (kp [(12, 4)] δ r.2 ∧ q_V r.2 = q_V δ ∧ q_R r.2 = q_R δ ∧ kr ad [] δ r.2) ∧ (q_I δ 12 4 a0).toInt ≤ (q_I r.2 12 4 a0).toInt ∧ ((r.1).toInt ≠ 0 → (q_I r.2 12 4 a0).toInt < (q_I δ 12 3 a0).toInt ∧ 97 ≤ hc ad r.2 a0 ∧ hc ad r.2 a0 ≤ 122)) := by
  unfold D_X12_word
  refine ok_bind (k_X12_here L hN (a0 := a0) k_a0 I) (fun r1 hr2 => ?_)
  obtain ⟨i3, ⟨u7, u8, u9, u10⟩, p4, p5, p6⟩ := hr2
  have u11 := kp_t kp_r u7
  have v12 : q_V r1.2 = q_V δ := (u8).trans rfl
  have v13 : q_R r1.2 = q_R δ := (u9).trans rfl
  have v14 := kr_t (kr_r (ad := ad)) u10
  have f15 := cb_12_4 I k_a0
  have f16 := cb_12_4 i3 k_a0
  have f17 : hc ad r1.2 a0 = (q_R r1.2 (Ad ad 101) (q_I r1.2 12 4 a0).toNatClampNeg).toInt := rfl
  have t18 := ti_tn (q_I r1.2 12 4 a0)
  have f19 : (q_R r1.2 (Ad ad 101) (q_I r1.2 12 4 a0).toNatClampNeg).toInt = (q_R δ (Ad ad 101) (q_I r1.2 12 4 a0).toNatClampNeg).toInt := congrArg Int32.toInt (congrFun (u10 101 (by decide) (by decide) (by decide)) _)
  have f20 := ti_b (q_R δ (Ad ad 101) (q_I r1.2 12 4 a0).toNatClampNeg)
  have f21 := ti_b (q_R r1.2 (Ad ad 101) (q_I r1.2 12 4 a0).toNatClampNeg)
  have f22 := ti_b r1.1
  have f23 := cb_12_3 I k_a0
  have f24 : hc ad δ a0 = (q_R δ (Ad ad 101) (q_I δ 12 4 a0).toNatClampNeg).toInt := rfl
  have t25 := ti_tn (q_I δ 12 4 a0)
  have f26 := ti_b (q_R δ (Ad ad 101) (q_I δ 12 4 a0).toNatClampNeg)
  refine ok_biv (fun vx27 e28 => ?_)
  have f29 : vx27.toInt = (q_I r1.2 12 4 a0).toInt := congrArg Int32.toInt e28
  have f30 : (q_I r1.2 12 3 a0).toInt = (q_I δ 12 3 a0).toInt := congrArg Int32.toInt (u7 12 3 a0 (by decide))
  refine ok_mono (kl_X12_word_14 L hN   k_a0 _ (0 : Int32) (0 : Int32) vx27 r1.2 i3 (show 0 ≤ (vx27).toInt by first | with_reducible assumption | omega) (show (vx27).toInt ≤ 500 by first | with_reducible assumption | omega) (show (vx27).toInt = (q_I r1.2 12 4 a0).toInt ∨ (q_I r1.2 12 4 a0).toInt < (q_I r1.2 12 3 a0).toInt ∧ 97 ≤ hc ad r1.2 a0 ∧ hc ad r1.2 a0 ≤ 122 by first | with_reducible assumption | omega) (show (0 : Int) = 0 ∨ (q_I r1.2 12 4 a0).toInt < (q_I r1.2 12 3 a0).toInt ∧ 97 ≤ hc ad r1.2 a0 ∧ hc ad r1.2 a0 ≤ 122 by first | with_reducible assumption | omega) (show 500 - (vx27).toInt < _ by omega)) (fun r31 hr32 => ?_)
  obtain ⟨i33, ⟨u36, u37, u38, u39⟩, p34, p35⟩ := hr32
  have u40 := kp_t u11 u36
  have v41 : q_V r31.2 = q_V δ := (u37).trans v12
  have v42 : q_R r31.2 = q_R δ := (u38).trans v13
  have v43 := kr_t v14 u39
  have f44 := cb_12_4 i33 k_a0
  have f45 : hc ad r31.2 a0 = (q_R r31.2 (Ad ad 101) (q_I r31.2 12 4 a0).toNatClampNeg).toInt := rfl
  have t46 := ti_tn (q_I r31.2 12 4 a0)
  have f47 : (q_R r31.2 (Ad ad 101) (q_I r31.2 12 4 a0).toNatClampNeg).toInt = (q_R r1.2 (Ad ad 101) (q_I r31.2 12 4 a0).toNatClampNeg).toInt := congrArg Int32.toInt (congrFun (u39 101 (by decide) (by decide) (by decide)) _)
  have f48 : (q_R r1.2 (Ad ad 101) (q_I r31.2 12 4 a0).toNatClampNeg).toInt = (q_R δ (Ad ad 101) (q_I r31.2 12 4 a0).toNatClampNeg).toInt := congrArg Int32.toInt (congrFun (u10 101 (by decide) (by decide) (by decide)) _)
  have f49 := ti_b (q_R δ (Ad ad 101) (q_I r31.2 12 4 a0).toNatClampNeg)
  have f50 := ti_b (q_R r1.2 (Ad ad 101) (q_I r31.2 12 4 a0).toNatClampNeg)
  have f51 := ti_b (q_R r31.2 (Ad ad 101) (q_I r31.2 12 4 a0).toNatClampNeg)
  have f52 := ti_b r31.1
  exact ⟨by first | with_reducible assumption | assumption, ⟨kp_w (by decide) u40, v41, v42, kr_w (by decide) v43⟩, by first | with_reducible assumption | omega, by first | with_reducible assumption | omega⟩
set_option maxHeartbeats 4000000 in
theorem kl_X12_pass_0 {ad : List Nat} {h : hp} (L : Lay TLx ad h) {δ0 : dp} {N : Nat} (hN : 10000000 ≤ N) {a0 : Nat} (k_a0 : q_K h.1 a0 = 12) : ∀ (n : Nat) (δ : dp), RI ad h.1 δ0 δ → 501 - (q_I δ 12 4 a0).toInt < (n : Int) → ok (L_X12_pass_0 N h.1 a0 n δ) (fun r => RI ad h.1 δ0 r ∧ (kp [(12, 4)] δ r ∧ q_V r = q_V δ ∧ q_R r = q_R δ ∧ kr ad [] δ r) ∧ (q_I δ 12 4 a0).toInt ≤ (q_I r 12 4 a0).toInt ∧ ((q_I δ 12 4 a0).toInt < (q_I δ 12 3 a0).toInt ∧ 97 ≤ hc ad δ a0 ∧ hc ad δ a0 ≤ 122 → (q_I δ 12 4 a0).toInt < (q_I r 12 4 a0).toInt)) := by
  intro n
  induction n with
  | zero =>
    intro δ I hm
    have f1 := cb_12_4 I k_a0
    exfalso; omega
  | succ n ih =>
    intro δ I hm
    unfold L_X12_pass_0
    have f1 := cb_12_4 I k_a0
    have f2 := cb_12_3 I k_a0
    refine ok_ite (fun h3 => ?_) (fun h3 => ?_)
    · have c4 : (q_I δ 12 3 a0).toInt ≤ (q_I δ 12 4 a0).toInt := o_le h3
      unfold J_X12_pass_39
      have f5 : hc ad δ a0 = (q_R δ (Ad ad 101) (q_I δ 12 4 a0).toNatClampNeg).toInt := rfl
      have t6 := ti_tn (q_I δ 12 4 a0)
      have f7 := ti_b (q_R δ (Ad ad 101) (q_I δ 12 4 a0).toNatClampNeg)
      exact ok_some (show RI ad h.1 δ0 δ ∧ (kp [(12, 4)] δ δ ∧ q_V δ = q_V δ ∧ q_R δ = q_R δ ∧ kr ad [] δ δ) ∧ (q_I δ 12 4 a0).toInt ≤ (q_I δ 12 4 a0).toInt ∧ ((q_I δ 12 4 a0).toInt < (q_I δ 12 3 a0).toInt ∧ 97 ≤ hc ad δ a0 ∧ hc ad δ a0 ≤ 122 → (q_I δ 12 4 a0).toInt < (q_I δ 12 4 a0).toInt) from ⟨I, ⟨kp_w (by decide) kp_r, rfl, rfl, kr_w (by decide) (kr_r (ad := ad))⟩, by first | with_reducible assumption | omega, by first | with_reducible assumption | omega⟩)
    · have c8 : (q_I δ 12 4 a0).toInt < (q_I δ 12 3 a0).toInt := o_nle h3
      obtain ⟨b9, o10, k11, n12, w13⟩ := gO_12_9 L k_a0
      obtain rfl := gS_12_9 L k_a0 o10
      refine ok_at o10 ?_
      have t14 := ti_tn (q_I δ 12 4 a0)
      refine ok_gd (fun hc15 => ?_) ?_
      · rcases hc15 with hc15 | hc15
        · have c16 : (q_I δ 12 4 a0).toInt < (0 : Int) := o_lt hc15
          omega
        · omega
      refine ok_bind (k_X12_isSmall L hN (x0 := (q_R δ (Ad ad 101) (q_I δ 12 4 a0).toNatClampNeg))  I) (fun r17 hr18 => ?_)
      obtain ⟨i19, p20, p21, p22⟩ := hr18
      try rw [i19]
      have f23 := bo_l p20
      have f24 := ti_b r17.1
      have f25 := ti_b (q_R δ (Ad ad 101) (q_I δ 12 4 a0).toNatClampNeg)
      refine ok_ite (fun h26 => ?_) (fun h26 => ?_)
      · have c27 : r17.1.toInt = (0 : Int) := o_eq h26
        unfold J_X12_pass_39
        have f28 : hc ad δ a0 = (q_R δ (Ad ad 101) (q_I δ 12 4 a0).toNatClampNeg).toInt := rfl
        exact ok_some (show RI ad h.1 δ0 δ ∧ (kp [(12, 4)] δ δ ∧ q_V δ = q_V δ ∧ q_R δ = q_R δ ∧ kr ad [] δ δ) ∧ (q_I δ 12 4 a0).toInt ≤ (q_I δ 12 4 a0).toInt ∧ ((q_I δ 12 4 a0).toInt < (q_I δ 12 3 a0).toInt ∧ 97 ≤ hc ad δ a0 ∧ hc ad δ a0 ≤ 122 → (q_I δ 12 4 a0).toInt < (q_I δ 12 4 a0).toInt) from ⟨I, ⟨kp_w (by decide) kp_r, rfl, rfl, kr_w (by decide) (kr_r (ad := ad))⟩, by first | with_reducible assumption | omega, by first | with_reducible assumption | omega⟩)
      · have c29 : r17.1.toInt ≠ (0 : Int) := o_ne h26
        first | (have q34 := te_addc (c := 1) (n := 1) rfl (q_I δ 12 4 a0) (by omega) (by omega); obtain ⟨f35, f36, f37⟩ := q34) | (obtain ⟨q34, f35, f36, f37⟩ := ti_addc (c := 1) (n := 1) rfl (q_I δ 12 4 a0))
        refine ok_bdv (fun d30 e31 => ?_)
        have i32 : RI ad h.1 δ0 d30 := by rw [e31]; exact cs_12_4 L I k_a0 (show 0 ≤ ((q_I δ 12 4 a0) + (1 : Int32)).toInt by omega) (show ((q_I δ 12 4 a0) + (1 : Int32)).toInt ≤ 500 by omega)
        have u38 := kp_I kp_r e31
        have v39 : q_V d30 = q_V δ := ((show q_V d30 = q_V δ by rw [e31]; rfl)).trans rfl
        have v40 : q_R d30 = q_R δ := ((show q_R d30 = q_R δ by rw [e31]; rfl)).trans rfl
        have v41 := kr_N (kr_r (ad := ad)) (show q_R d30 = q_R δ by rw [e31]; rfl)
        have f42 := cb_12_4 i32 k_a0
        have f43 : (q_I d30 12 4 a0).toInt = ((q_I δ 12 4 a0) + (1 : Int32)).toInt := congrArg Int32.toInt (show q_I d30 12 4 a0 = ((q_I δ 12 4 a0) + (1 : Int32)) by rw [e31]; exact rI_s)
        refine ok_mono (ih d30 i32  (show 501 - (q_I d30 12 4 a0).toInt < _ by omega)) (fun r44 hr45 => ?_)
        obtain ⟨i46, ⟨u49, u50, u51, u52⟩, p47, p48⟩ := hr45
        have u53 := kp_t u38 u49
        have v54 : q_V r44 = q_V δ := (u50).trans v39
        have v55 : q_R r44 = q_R δ := (u51).trans v40
        have v56 := kr_t v41 u52
        have f57 := cb_12_4 i46 k_a0
        have f58 : hc ad d30 a0 = (q_R d30 (Ad ad 101) (q_I d30 12 4 a0).toNatClampNeg).toInt := rfl
        have t59 := ti_tn (q_I d30 12 4 a0)
        have f60 : (q_R d30 (Ad ad 101) (q_I d30 12 4 a0).toNatClampNeg).toInt = (q_R δ (Ad ad 101) (q_I d30 12 4 a0).toNatClampNeg).toInt := congrArg Int32.toInt (show q_R d30 (Ad ad 101) (q_I d30 12 4 a0).toNatClampNeg = _ by rw [e31]; rfl)
        have f61 := ti_b (q_R δ (Ad ad 101) (q_I d30 12 4 a0).toNatClampNeg)
        have f62 := ti_b (q_R d30 (Ad ad 101) (q_I d30 12 4 a0).toNatClampNeg)
        have f63 : (q_I d30 12 3 a0).toInt = (q_I δ 12 3 a0).toInt := congrArg Int32.toInt (by rw [e31]; exact rI_o (by decide))
        have f64 : hc ad δ a0 = (q_R δ (Ad ad 101) (q_I δ 12 4 a0).toNatClampNeg).toInt := rfl
        exact ⟨by first | with_reducible assumption | assumption, ⟨kp_w (by decide) u53, v54, v55, kr_w (by decide) v56⟩, by first | with_reducible assumption | omega, by first | with_reducible assumption | omega⟩
set_option maxHeartbeats 4000000 in
theorem k_X12_pass {ad : List Nat} {h : hp} (L : Lay TLx ad h) {δ0 : dp} {N : Nat} (hN : 10000000 ≤ N) {a0 : Nat} (k_a0 : q_K h.1 a0 = 12) {δ : dp} (I : RI ad h.1 δ0 δ) : ok (D_X12_pass N h.1 a0 δ) (fun r => RI ad h.1 δ0 r ∧ (kp [(12, 4)] δ r ∧ q_V r = q_V δ ∧ q_R r = q_R δ ∧ kr ad [] δ r) ∧ (q_I δ 12 4 a0).toInt ≤ (q_I r 12 4 a0).toInt ∧ ((q_I δ 12 4 a0).toInt < (q_I δ 12 3 a0).toInt ∧ 97 ≤ hc ad δ a0 ∧ hc ad δ a0 ≤ 122 → (q_I δ 12 4 a0).toInt < (q_I r 12 4 a0).toInt)) := by
  unfold D_X12_pass
  have f1 := cb_12_4 I k_a0
  refine ok_mono (kl_X12_pass_0 L hN   k_a0 _ δ I  (show 501 - (q_I δ 12 4 a0).toInt < _ by omega)) (fun r2 hr3 => ?_)
  obtain ⟨i4, ⟨u7, u8, u9, u10⟩, p5, p6⟩ := hr3
  have u11 := kp_t kp_r u7
  have v12 : q_V r2 = q_V δ := (u8).trans rfl
  have v13 : q_R r2 = q_R δ := (u9).trans rfl
  have v14 := kr_t (kr_r (ad := ad)) u10
  have f15 := cb_12_4 i4 k_a0
  have f16 : hc ad δ a0 = (q_R δ (Ad ad 101) (q_I δ 12 4 a0).toNatClampNeg).toInt := rfl
  have t17 := ti_tn (q_I δ 12 4 a0)
  have f18 := ti_b (q_R δ (Ad ad 101) (q_I δ 12 4 a0).toNatClampNeg)
  have f19 := cb_12_3 I k_a0
  exact ⟨by first | with_reducible assumption | assumption, ⟨kp_w (by decide) u11, v12, v13, kr_w (by decide) v14⟩, by first | with_reducible assumption | omega, by first | with_reducible assumption | omega⟩
set_option maxHeartbeats 4000000 in
theorem kl_X12_readNumber_41 {ad : List Nat} {h : hp} (L : Lay TLx ad h) {δ0 : dp} {N : Nat} (hN : 10000000 ≤ N) {a0 : Nat} {x1 : Int32} {x2 : Int32} (k_a0 : q_K h.1 a0 = 12) : ∀ (n : Nat) (x4v : Int32) (x5v : Int32) (δ : dp), RI ad h.1 δ0 δ → 0 ≤ (x4v).toInt → (x4v).toInt ≤ 500 → 0 ≤ (x5v).toInt → (x5v).toInt ≤ 1000000 → (q_I δ 12 5 a0).toInt < 0 → 501 - (q_I δ 12 4 a0).toInt < (n : Int) → ok (L_X12_readNumber_41 N h.1 a0 x1 x2 n x4v x5v δ) (fun r => RI ad h.1 δ0 r.2 ∧ (kp [(12, 4), (12, 5), (12, 6)] δ r.2 ∧ q_V r.2 = q_V δ ∧ q_R r.2 = q_R δ ∧ kr ad [] δ r.2) ∧ (q_I δ 12 4 a0).toInt ≤ (q_I r.2 12 4 a0).toInt ∧ 0 ≤ (r.1).toInt ∧ (r.1).toInt ≤ 1000000 ∧ ((q_I δ 12 4 a0).toInt < (q_I δ 12 3 a0).toInt ∧ 48 ≤ hc ad δ a0 ∧ hc ad δ a0 ≤ 57 → (q_I δ 12 4 a0).toInt < (q_I r.2 12 4 a0).toInt) ∧ ((q_I r.2 12 5 a0).toInt < 0 → (x1).toInt ≤ (r.1).toInt ∧ (r.1).toInt ≤ (x2).toInt)) := by
  intro n
  induction n with
  | zero =>
    intro x4v x5v δ I j0 j1 j2 j3 j4 hm
    have f1 := ti_b x4v
    have f2 := ti_b x5v
    have f3 := cb_12_5 I k_a0
    have f4 := cb_12_4 I k_a0
    exfalso; omega
  | succ n ih =>
    intro x4v x5v δ I j0 j1 j2 j3 j4 hm
    unfold L_X12_readNumber_41
    have f1 := ti_b x4v
    have f2 := ti_b x5v
    have f3 := cb_12_5 I k_a0
    have f4 := cb_12_4 I k_a0
    have f5 := cb_12_3 I k_a0
    refine ok_ite (fun h6 => ?_) (fun h6 => ?_)
    · have c7 : (q_I δ 12 3 a0).toInt ≤ (q_I δ 12 4 a0).toInt := o_le h6
      unfold J_X12_readNumber_112
      have f8 := ti_b x1
      refine ok_ite (fun h9 => ?_) (fun h9 => ?_)
      · have c10 : x5v.toInt < x1.toInt := o_lt h9
        unfold J_X12_readNumber_124
        refine ok_bind (k_X12_wrong L hN (a0 := a0) (x1 := (2 : Int32)) (x2 := x4v) k_a0 (show 0 ≤ (x4v).toInt by first | with_reducible assumption | omega) (show (x4v).toInt ≤ 500 by first | with_reducible assumption | omega) (show 0 ≤ (2 : Int) by first | with_reducible assumption | omega) (show (2 : Int) ≤ 4 by first | with_reducible assumption | omega) I) (fun r11 hr12 => ?_)
        obtain ⟨i13, ⟨u16, u17, u18, u19⟩, p14, p15⟩ := hr12
        have u20 := kp_t kp_r u16
        have v21 : q_V r11 = q_V δ := (u17).trans rfl
        have v22 : q_R r11 = q_R δ := (u18).trans rfl
        have v23 := kr_t (kr_r (ad := ad)) u19
        have f24 := cb_12_5 i13 k_a0
        have f25 : (q_I r11 12 4 a0).toInt = (q_I δ 12 4 a0).toInt := congrArg Int32.toInt (u16 12 4 a0 (by decide))
        have f26 : hc ad δ a0 = (q_R δ (Ad ad 101) (q_I δ 12 4 a0).toNatClampNeg).toInt := rfl
        have t27 := ti_tn (q_I δ 12 4 a0)
        have f28 := ti_b (q_R δ (Ad ad 101) (q_I δ 12 4 a0).toNatClampNeg)
        have f29 := ti_b x2
        exact ok_some (show RI ad h.1 δ0 r11 ∧ (kp [(12, 4), (12, 5), (12, 6)] δ r11 ∧ q_V r11 = q_V δ ∧ q_R r11 = q_R δ ∧ kr ad [] δ r11) ∧ (q_I δ 12 4 a0).toInt ≤ (q_I r11 12 4 a0).toInt ∧ 0 ≤ (0 : Int) ∧ (0 : Int) ≤ 1000000 ∧ ((q_I δ 12 4 a0).toInt < (q_I δ 12 3 a0).toInt ∧ 48 ≤ hc ad δ a0 ∧ hc ad δ a0 ≤ 57 → (q_I δ 12 4 a0).toInt < (q_I r11 12 4 a0).toInt) ∧ ((q_I r11 12 5 a0).toInt < 0 → (x1).toInt ≤ (0 : Int) ∧ (0 : Int) ≤ (x2).toInt) from ⟨i13, ⟨kp_w (by decide) u20, v21, v22, kr_w (by decide) v23⟩, by first | with_reducible assumption | omega, by first | with_reducible assumption | omega, by first | with_reducible assumption | omega, by first | with_reducible assumption | omega, by first | with_reducible assumption | omega⟩)
      · have c30 : x1.toInt ≤ x5v.toInt := o_nlt h9
        have f31 := ti_b x2
        refine ok_ite (fun h32 => ?_) (fun h32 => ?_)
        · have c33 : x5v.toInt ≤ x2.toInt := o_le h32
          have f34 : hc ad δ a0 = (q_R δ (Ad ad 101) (q_I δ 12 4 a0).toNatClampNeg).toInt := rfl
          have t35 := ti_tn (q_I δ 12 4 a0)
          have f36 := ti_b (q_R δ (Ad ad 101) (q_I δ 12 4 a0).toNatClampNeg)
          exact ok_some (show RI ad h.1 δ0 δ ∧ (kp [(12, 4), (12, 5), (12, 6)] δ δ ∧ q_V δ = q_V δ ∧ q_R δ = q_R δ ∧ kr ad [] δ δ) ∧ (q_I δ 12 4 a0).toInt ≤ (q_I δ 12 4 a0).toInt ∧ 0 ≤ (x5v).toInt ∧ (x5v).toInt ≤ 1000000 ∧ ((q_I δ 12 4 a0).toInt < (q_I δ 12 3 a0).toInt ∧ 48 ≤ hc ad δ a0 ∧ hc ad δ a0 ≤ 57 → (q_I δ 12 4 a0).toInt < (q_I δ 12 4 a0).toInt) ∧ ((q_I δ 12 5 a0).toInt < 0 → (x1).toInt ≤ (x5v).toInt ∧ (x5v).toInt ≤ (x2).toInt) from ⟨I, ⟨kp_w (by decide) kp_r, rfl, rfl, kr_w (by decide) (kr_r (ad := ad))⟩, by first | with_reducible assumption | omega, by first | with_reducible assumption | omega, by first | with_reducible assumption | omega, by first | with_reducible assumption | omega, by first | with_reducible assumption | omega⟩)
        · have c37 : x2.toInt < x5v.toInt := o_nle h32
          unfold J_X12_readNumber_124
          refine ok_bind (k_X12_wrong L hN (a0 := a0) (x1 := (2 : Int32)) (x2 := x4v) k_a0 (show 0 ≤ (x4v).toInt by first | with_reducible assumption | omega) (show (x4v).toInt ≤ 500 by first | with_reducible assumption | omega) (show 0 ≤ (2 : Int) by first | with_reducible assumption | omega) (show (2 : Int) ≤ 4 by first | with_reducible assumption | omega) I) (fun r38 hr39 => ?_)
          obtain ⟨i40, ⟨u43, u44, u45, u46⟩, p41, p42⟩ := hr39
          have u47 := kp_t kp_r u43
          have v48 : q_V r38 = q_V δ := (u44).trans rfl
          have v49 : q_R r38 = q_R δ := (u45).trans rfl
          have v50 := kr_t (kr_r (ad := ad)) u46
          have f51 := cb_12_5 i40 k_a0
          have f52 : (q_I r38 12 4 a0).toInt = (q_I δ 12 4 a0).toInt := congrArg Int32.toInt (u43 12 4 a0 (by decide))
          have f53 : hc ad δ a0 = (q_R δ (Ad ad 101) (q_I δ 12 4 a0).toNatClampNeg).toInt := rfl
          have t54 := ti_tn (q_I δ 12 4 a0)
          have f55 := ti_b (q_R δ (Ad ad 101) (q_I δ 12 4 a0).toNatClampNeg)
          exact ok_some (show RI ad h.1 δ0 r38 ∧ (kp [(12, 4), (12, 5), (12, 6)] δ r38 ∧ q_V r38 = q_V δ ∧ q_R r38 = q_R δ ∧ kr ad [] δ r38) ∧ (q_I δ 12 4 a0).toInt ≤ (q_I r38 12 4 a0).toInt ∧ 0 ≤ (0 : Int) ∧ (0 : Int) ≤ 1000000 ∧ ((q_I δ 12 4 a0).toInt < (q_I δ 12 3 a0).toInt ∧ 48 ≤ hc ad δ a0 ∧ hc ad δ a0 ≤ 57 → (q_I δ 12 4 a0).toInt < (q_I r38 12 4 a0).toInt) ∧ ((q_I r38 12 5 a0).toInt < 0 → (x1).toInt ≤ (0 : Int) ∧ (0 : Int) ≤ (x2).toInt) from ⟨i40, ⟨kp_w (by decide) u47, v48, v49, kr_w (by decide) v50⟩, by first | with_reducible assumption | omega, by first | with_reducible assumption | omega, by first | with_reducible assumption | omega, by first | with_reducible assumption | omega, by first | with_reducible assumption | omega⟩)
    · have c56 : (q_I δ 12 4 a0).toInt < (q_I δ 12 3 a0).toInt := o_nle h6
      obtain ⟨b57, o58, k59, n60, w61⟩ := gO_12_9 L k_a0
      obtain rfl := gS_12_9 L k_a0 o58
      refine ok_at o58 ?_
      have t62 := ti_tn (q_I δ 12 4 a0)
      refine ok_gd (fun hc63 => ?_) ?_
      · rcases hc63 with hc63 | hc63
        · have c64 : (q_I δ 12 4 a0).toInt < (0 : Int) := o_lt hc63
          omega
        · omega
      refine ok_bind (k_X12_isDigit L hN (x0 := (q_R δ (Ad ad 101) (q_I δ 12 4 a0).toNatClampNeg))  I) (fun r65 hr66 => ?_)
      obtain ⟨i67, p68, p69, p70⟩ := hr66
      try rw [i67]
      have f71 := bo_l p68
      have f72 := ti_b r65.1
      have f73 := ti_b (q_R δ (Ad ad 101) (q_I δ 12 4 a0).toNatClampNeg)
      refine ok_ite (fun h74 => ?_) (fun h74 => ?_)
      · have c75 : r65.1.toInt = (0 : Int) := o_eq h74
        unfold J_X12_readNumber_112
        have f76 := ti_b x1
        refine ok_ite (fun h77 => ?_) (fun h77 => ?_)
        · have c78 : x5v.toInt < x1.toInt := o_lt h77
          unfold J_X12_readNumber_124
          refine ok_bind (k_X12_wrong L hN (a0 := a0) (x1 := (2 : Int32)) (x2 := x4v) k_a0 (show 0 ≤ (x4v).toInt by first | with_reducible assumption | omega) (show (x4v).toInt ≤ 500 by first | with_reducible assumption | omega) (show 0 ≤ (2 : Int) by first | with_reducible assumption | omega) (show (2 : Int) ≤ 4 by first | with_reducible assumption | omega) I) (fun r79 hr80 => ?_)
          obtain ⟨i81, ⟨u84, u85, u86, u87⟩, p82, p83⟩ := hr80
          have u88 := kp_t kp_r u84
          have v89 : q_V r79 = q_V δ := (u85).trans rfl
          have v90 : q_R r79 = q_R δ := (u86).trans rfl
          have v91 := kr_t (kr_r (ad := ad)) u87
          have f92 := cb_12_5 i81 k_a0
          have f93 : (q_I r79 12 4 a0).toInt = (q_I δ 12 4 a0).toInt := congrArg Int32.toInt (u84 12 4 a0 (by decide))
          have f94 : hc ad δ a0 = (q_R δ (Ad ad 101) (q_I δ 12 4 a0).toNatClampNeg).toInt := rfl
          have f95 := ti_b x2
          exact ok_some (show RI ad h.1 δ0 r79 ∧ (kp [(12, 4), (12, 5), (12, 6)] δ r79 ∧ q_V r79 = q_V δ ∧ q_R r79 = q_R δ ∧ kr ad [] δ r79) ∧ (q_I δ 12 4 a0).toInt ≤ (q_I r79 12 4 a0).toInt ∧ 0 ≤ (0 : Int) ∧ (0 : Int) ≤ 1000000 ∧ ((q_I δ 12 4 a0).toInt < (q_I δ 12 3 a0).toInt ∧ 48 ≤ hc ad δ a0 ∧ hc ad δ a0 ≤ 57 → (q_I δ 12 4 a0).toInt < (q_I r79 12 4 a0).toInt) ∧ ((q_I r79 12 5 a0).toInt < 0 → (x1).toInt ≤ (0 : Int) ∧ (0 : Int) ≤ (x2).toInt) from ⟨i81, ⟨kp_w (by decide) u88, v89, v90, kr_w (by decide) v91⟩, by first | with_reducible assumption | omega, by first | with_reducible assumption | omega, by first | with_reducible assumption | omega, by first | with_reducible assumption | omega, by first | with_reducible assumption | omega⟩)
        · have c96 : x1.toInt ≤ x5v.toInt := o_nlt h77
          have f97 := ti_b x2
          refine ok_ite (fun h98 => ?_) (fun h98 => ?_)
          · have c99 : x5v.toInt ≤ x2.toInt := o_le h98
            have f100 : hc ad δ a0 = (q_R δ (Ad ad 101) (q_I δ 12 4 a0).toNatClampNeg).toInt := rfl
            exact ok_some (show RI ad h.1 δ0 δ ∧ (kp [(12, 4), (12, 5), (12, 6)] δ δ ∧ q_V δ = q_V δ ∧ q_R δ = q_R δ ∧ kr ad [] δ δ) ∧ (q_I δ 12 4 a0).toInt ≤ (q_I δ 12 4 a0).toInt ∧ 0 ≤ (x5v).toInt ∧ (x5v).toInt ≤ 1000000 ∧ ((q_I δ 12 4 a0).toInt < (q_I δ 12 3 a0).toInt ∧ 48 ≤ hc ad δ a0 ∧ hc ad δ a0 ≤ 57 → (q_I δ 12 4 a0).toInt < (q_I δ 12 4 a0).toInt) ∧ ((q_I δ 12 5 a0).toInt < 0 → (x1).toInt ≤ (x5v).toInt ∧ (x5v).toInt ≤ (x2).toInt) from ⟨I, ⟨kp_w (by decide) kp_r, rfl, rfl, kr_w (by decide) (kr_r (ad := ad))⟩, by first | with_reducible assumption | omega, by first | with_reducible assumption | omega, by first | with_reducible assumption | omega, by first | with_reducible assumption | omega, by first | with_reducible assumption | omega⟩)
          · have c101 : x2.toInt < x5v.toInt := o_nle h98
            unfold J_X12_readNumber_124
            refine ok_bind (k_X12_wrong L hN (a0 := a0) (x1 := (2 : Int32)) (x2 := x4v) k_a0 (show 0 ≤ (x4v).toInt by first | with_reducible assumption | omega) (show (x4v).toInt ≤ 500 by first | with_reducible assumption | omega) (show 0 ≤ (2 : Int) by first | with_reducible assumption | omega) (show (2 : Int) ≤ 4 by first | with_reducible assumption | omega) I) (fun r102 hr103 => ?_)
            obtain ⟨i104, ⟨u107, u108, u109, u110⟩, p105, p106⟩ := hr103
            have u111 := kp_t kp_r u107
            have v112 : q_V r102 = q_V δ := (u108).trans rfl
            have v113 : q_R r102 = q_R δ := (u109).trans rfl
            have v114 := kr_t (kr_r (ad := ad)) u110
            have f115 := cb_12_5 i104 k_a0
            have f116 : (q_I r102 12 4 a0).toInt = (q_I δ 12 4 a0).toInt := congrArg Int32.toInt (u107 12 4 a0 (by decide))
            have f117 : hc ad δ a0 = (q_R δ (Ad ad 101) (q_I δ 12 4 a0).toNatClampNeg).toInt := rfl
            exact ok_some (show RI ad h.1 δ0 r102 ∧ (kp [(12, 4), (12, 5), (12, 6)] δ r102 ∧ q_V r102 = q_V δ ∧ q_R r102 = q_R δ ∧ kr ad [] δ r102) ∧ (q_I δ 12 4 a0).toInt ≤ (q_I r102 12 4 a0).toInt ∧ 0 ≤ (0 : Int) ∧ (0 : Int) ≤ 1000000 ∧ ((q_I δ 12 4 a0).toInt < (q_I δ 12 3 a0).toInt ∧ 48 ≤ hc ad δ a0 ∧ hc ad δ a0 ≤ 57 → (q_I δ 12 4 a0).toInt < (q_I r102 12 4 a0).toInt) ∧ ((q_I r102 12 5 a0).toInt < 0 → (x1).toInt ≤ (0 : Int) ∧ (0 : Int) ≤ (x2).toInt) from ⟨i104, ⟨kp_w (by decide) u111, v112, v113, kr_w (by decide) v114⟩, by first | with_reducible assumption | omega, by first | with_reducible assumption | omega, by first | with_reducible assumption | omega, by first | with_reducible assumption | omega, by first | with_reducible assumption | omega⟩)
      · have c118 : r65.1.toInt ≠ (0 : Int) := o_ne h74
        refine ok_ite (fun h119 => ?_) (fun h119 => ?_)
        · have c120 : x5v.toInt ≤ (99999 : Int) := o_le h119
          refine ok_at o58 ?_
          refine ok_gd (fun hc121 => ?_) ?_
          · rcases hc121 with hc121 | hc121
            · have c122 : (q_I δ 12 4 a0).toInt < (0 : Int) := o_lt hc121
              omega
            · omega
          unfold J_X12_readNumber_97
          first | (have q127 := te_addc (c := 1) (n := 1) rfl (q_I δ 12 4 a0) (by omega) (by omega); obtain ⟨f128, f129, f130⟩ := q127) | (obtain ⟨q127, f128, f129, f130⟩ := ti_addc (c := 1) (n := 1) rfl (q_I δ 12 4 a0))
          refine ok_bdv (fun d123 e124 => ?_)
          have i125 : RI ad h.1 δ0 d123 := by rw [e124]; exact cs_12_4 L I k_a0 (show 0 ≤ ((q_I δ 12 4 a0) + (1 : Int32)).toInt by omega) (show ((q_I δ 12 4 a0) + (1 : Int32)).toInt ≤ 500 by omega)
          have u131 := kp_I kp_r e124
          have v132 : q_V d123 = q_V δ := ((show q_V d123 = q_V δ by rw [e124]; rfl)).trans rfl
          have v133 : q_R d123 = q_R δ := ((show q_R d123 = q_R δ by rw [e124]; rfl)).trans rfl
          have v134 := kr_N (kr_r (ad := ad)) (show q_R d123 = q_R δ by rw [e124]; rfl)
          first | (have q136 := te_mulc (c := 10) (n := 10) rfl x5v (by omega) (by omega); obtain ⟨f137, f138, f139⟩ := q136) | (obtain ⟨q136, f137, f138, f139⟩ := ti_mulc (c := 10) (n := 10) rfl x5v)
          first | (have q141 := te_add ((10 : Int32) * x5v) (q_R δ (Ad ad 101) (q_I δ 12 4 a0).toNatClampNeg) (by omega) (by omega); obtain ⟨f142, f143, f144⟩ := q141) | (obtain ⟨q141, f142, f143, f144⟩ := ti_add ((10 : Int32) * x5v) (q_R δ (Ad ad 101) (q_I δ 12 4 a0).toNatClampNeg))
          first | (have q146 := te_subc (c := 48) (n := 48) rfl (((10 : Int32) * x5v) + (q_R δ (Ad ad 101) (q_I δ 12 4 a0).toNatClampNeg)) (by omega) (by omega); obtain ⟨f147, f148, f149⟩ := q146) | (obtain ⟨q146, f147, f148, f149⟩ := ti_subc (c := 48) (n := 48) rfl (((10 : Int32) * x5v) + (q_R δ (Ad ad 101) (q_I δ 12 4 a0).toNatClampNeg)))
          have f150 : (q_I d123 12 5 a0).toInt = (q_I δ 12 5 a0).toInt := congrArg Int32.toInt (by rw [e124]; exact rI_o (by decide))
          have f151 := cb_12_4 i125 k_a0
          have f152 : (q_I d123 12 4 a0).toInt = ((q_I δ 12 4 a0) + (1 : Int32)).toInt := congrArg Int32.toInt (show q_I d123 12 4 a0 = ((q_I δ 12 4 a0) + (1 : Int32)) by rw [e124]; exact rI_s)
          refine ok_mono (ih x4v ((((10 : Int32) * x5v) + (q_R δ (Ad ad 101) (q_I δ 12 4 a0).toNatClampNeg)) - (48 : Int32)) d123 i125 (show 0 ≤ (x4v).toInt by first | with_reducible assumption | omega) (show (x4v).toInt ≤ 500 by first | with_reducible assumption | omega) (show 0 ≤ (((((10 : Int32) * x5v) + (q_R δ (Ad ad 101) (q_I δ 12 4 a0).toNatClampNeg)) - (48 : Int32))).toInt by first | with_reducible assumption | omega) (show (((((10 : Int32) * x5v) + (q_R δ (Ad ad 101) (q_I δ 12 4 a0).toNatClampNeg)) - (48 : Int32))).toInt ≤ 1000000 by first | with_reducible assumption | omega) (show (q_I d123 12 5 a0).toInt < 0 by first | with_reducible assumption | omega) (show 501 - (q_I d123 12 4 a0).toInt < _ by omega)) (fun r153 hr154 => ?_)
          obtain ⟨i155, ⟨u161, u162, u163, u164⟩, p156, p157, p158, p159, p160⟩ := hr154
          have u165 := kp_t u131 u161
          have v166 : q_V r153.2 = q_V δ := (u162).trans v132
          have v167 : q_R r153.2 = q_R δ := (u163).trans v133
          have v168 := kr_t v134 u164
          have f169 := cb_12_4 i155 k_a0
          have f170 := ti_b r153.1
          have f171 : hc ad d123 a0 = (q_R d123 (Ad ad 101) (q_I d123 12 4 a0).toNatClampNeg).toInt := rfl
          have t172 := ti_tn (q_I d123 12 4 a0)
          have f173 : (q_R d123 (Ad ad 101) (q_I d123 12 4 a0).toNatClampNeg).toInt = (q_R δ (Ad ad 101) (q_I d123 12 4 a0).toNatClampNeg).toInt := congrArg Int32.toInt (show q_R d123 (Ad ad 101) (q_I d123 12 4 a0).toNatClampNeg = _ by rw [e124]; rfl)
          have f174 := ti_b (q_R δ (Ad ad 101) (q_I d123 12 4 a0).toNatClampNeg)
          have f175 := ti_b (q_R d123 (Ad ad 101) (q_I d123 12 4 a0).toNatClampNeg)
          have f176 : (q_I d123 12 3 a0).toInt = (q_I δ 12 3 a0).toInt := congrArg Int32.toInt (by rw [e124]; exact rI_o (by decide))
          have f177 := cb_12_5 i155 k_a0
          have f178 := ti_b x1
          have f179 := ti_b x2
          have f180 : hc ad δ a0 = (q_R δ (Ad ad 101) (q_I δ 12 4 a0).toNatClampNeg).toInt := rfl
          exact ⟨by first | with_reducible assumption | assumption, ⟨kp_w (by decide) u165, v166, v167, kr_w (by decide) v168⟩, by first | with_reducible assumption | omega, by first | with_reducible assumption | omega, by first | with_reducible assumption | omega, by first | with_reducible assumption | omega, by first | with_reducible assumption | omega⟩
        · have c181 : (99999 : Int) < x5v.toInt := o_nle h119
          unfold J_X12_readNumber_97
          first | (have q186 := te_addc (c := 1) (n := 1) rfl (q_I δ 12 4 a0) (by omega) (by omega); obtain ⟨f187, f188, f189⟩ := q186) | (obtain ⟨q186, f187, f188, f189⟩ := ti_addc (c := 1) (n := 1) rfl (q_I δ 12 4 a0))
          refine ok_bdv (fun d182 e183 => ?_)
          have i184 : RI ad h.1 δ0 d182 := by rw [e183]; exact cs_12_4 L I k_a0 (show 0 ≤ ((q_I δ 12 4 a0) + (1 : Int32)).toInt by omega) (show ((q_I δ 12 4 a0) + (1 : Int32)).toInt ≤ 500 by omega)
          have u190 := kp_I kp_r e183
          have v191 : q_V d182 = q_V δ := ((show q_V d182 = q_V δ by rw [e183]; rfl)).trans rfl
          have v192 : q_R d182 = q_R δ := ((show q_R d182 = q_R δ by rw [e183]; rfl)).trans rfl
          have v193 := kr_N (kr_r (ad := ad)) (show q_R d182 = q_R δ by rw [e183]; rfl)
          have f194 : (q_I d182 12 5 a0).toInt = (q_I δ 12 5 a0).toInt := congrArg Int32.toInt (by rw [e183]; exact rI_o (by decide))
          have f195 := cb_12_4 i184 k_a0
          have f196 : (q_I d182 12 4 a0).toInt = ((q_I δ 12 4 a0) + (1 : Int32)).toInt := congrArg Int32.toInt (show q_I d182 12 4 a0 = ((q_I δ 12 4 a0) + (1 : Int32)) by rw [e183]; exact rI_s)
          refine ok_mono (ih x4v (100000 : Int32) d182 i184 (show 0 ≤ (x4v).toInt by first | with_reducible assumption | omega) (show (x4v).toInt ≤ 500 by first | with_reducible assumption | omega) (show 0 ≤ (100000 : Int) by first | with_reducible assumption | omega) (show (100000 : Int) ≤ 1000000 by first | with_reducible assumption | omega) (show (q_I d182 12 5 a0).toInt < 0 by first | with_reducible assumption | omega) (show 501 - (q_I d182 12 4 a0).toInt < _ by omega)) (fun r197 hr198 => ?_)
          obtain ⟨i199, ⟨u205, u206, u207, u208⟩, p200, p201, p202, p203, p204⟩ := hr198
          have u209 := kp_t u190 u205
          have v210 : q_V r197.2 = q_V δ := (u206).trans v191
          have v211 : q_R r197.2 = q_R δ := (u207).trans v192
          have v212 := kr_t v193 u208
          have f213 := cb_12_4 i199 k_a0
          have f214 := ti_b r197.1
          have f215 : hc ad d182 a0 = (q_R d182 (Ad ad 101) (q_I d182 12 4 a0).toNatClampNeg).toInt := rfl
          have t216 := ti_tn (q_I d182 12 4 a0)
          have f217 : (q_R d182 (Ad ad 101) (q_I d182 12 4 a0).toNatClampNeg).toInt = (q_R δ (Ad ad 101) (q_I d182 12 4 a0).toNatClampNeg).toInt := congrArg Int32.toInt (show q_R d182 (Ad ad 101) (q_I d182 12 4 a0).toNatClampNeg = _ by rw [e183]; rfl)
          have f218 := ti_b (q_R δ (Ad ad 101) (q_I d182 12 4 a0).toNatClampNeg)
          have f219 := ti_b (q_R d182 (Ad ad 101) (q_I d182 12 4 a0).toNatClampNeg)
          have f220 : (q_I d182 12 3 a0).toInt = (q_I δ 12 3 a0).toInt := congrArg Int32.toInt (by rw [e183]; exact rI_o (by decide))
          have f221 := cb_12_5 i199 k_a0
          have f222 := ti_b x1
          have f223 := ti_b x2
          have f224 : hc ad δ a0 = (q_R δ (Ad ad 101) (q_I δ 12 4 a0).toNatClampNeg).toInt := rfl
          exact ⟨by first | with_reducible assumption | assumption, ⟨kp_w (by decide) u209, v210, v211, kr_w (by decide) v212⟩, by first | with_reducible assumption | omega, by first | with_reducible assumption | omega, by first | with_reducible assumption | omega, by first | with_reducible assumption | omega, by first | with_reducible assumption | omega⟩
set_option maxHeartbeats 4000000 in
theorem k_X12_readNumber {ad : List Nat} {h : hp} (L : Lay TLx ad h) {δ0 : dp} {N : Nat} (hN : 10000000 ≤ N) {a0 : Nat} {x1 : Int32} {x2 : Int32} (k_a0 : q_K h.1 a0 = 12) {δ : dp} (I : RI ad h.1 δ0 δ) : ok (D_X12_readNumber N h.1 a0 x1 x2 δ) (fun r => RI ad h.1 δ0 r.2 ∧ (kp [(12, 4), (12, 5), (12, 6)] δ r.2 ∧ q_V r.2 = q_V δ ∧ q_R r.2 = q_R δ ∧ kr ad [] δ r.2) ∧ (q_I δ 12 4 a0).toInt ≤ (q_I r.2 12 4 a0).toInt ∧ (q_I δ 12 5 a0).toInt ≤ (q_I r.2 12 5 a0).toInt ∧ 0 ≤ (r.1).toInt ∧ (r.1).toInt ≤ 1000000 ∧ ((q_I r.2 12 5 a0).toInt < 0 → (q_I δ 12 4 a0).toInt < (q_I r.2 12 4 a0).toInt) ∧ ((q_I r.2 12 5 a0).toInt < 0 → (x1).toInt ≤ (r.1).toInt ∧ (r.1).toInt ≤ (x2).toInt)) := by
  unfold D_X12_readNumber
  refine ok_bind (k_X12_fine L hN (a0 := a0) k_a0 I) (fun r1 hr2 => ?_)
  obtain ⟨i3, p4, p5, p6⟩ := hr2
  try rw [i3]
  have f7 := bo_l p4
  have f8 := cb_12_5 I k_a0
  have f9 := ti_b r1.1
  refine ok_ite (fun h10 => ?_) (fun h10 => ?_)
  · have c11 : r1.1.toInt = (0 : Int) := o_eq h10
    have f12 := cb_12_4 I k_a0
    have f13 := ti_b x1
    have f14 := ti_b x2
    exact ok_some (show RI ad h.1 δ0 δ ∧ (kp [(12, 4), (12, 5), (12, 6)] δ δ ∧ q_V δ = q_V δ ∧ q_R δ = q_R δ ∧ kr ad [] δ δ) ∧ (q_I δ 12 4 a0).toInt ≤ (q_I δ 12 4 a0).toInt ∧ (q_I δ 12 5 a0).toInt ≤ (q_I δ 12 5 a0).toInt ∧ 0 ≤ (0 : Int) ∧ (0 : Int) ≤ 1000000 ∧ ((q_I δ 12 5 a0).toInt < 0 → (q_I δ 12 4 a0).toInt < (q_I δ 12 4 a0).toInt) ∧ ((q_I δ 12 5 a0).toInt < 0 → (x1).toInt ≤ (0 : Int) ∧ (0 : Int) ≤ (x2).toInt) from ⟨I, ⟨kp_w (by decide) kp_r, rfl, rfl, kr_w (by decide) (kr_r (ad := ad))⟩, by first | with_reducible assumption | omega, by first | with_reducible assumption | omega, by first | with_reducible assumption | omega, by first | with_reducible assumption | omega, by first | with_reducible assumption | omega, by first | with_reducible assumption | omega⟩)
  · have c15 : r1.1.toInt ≠ (0 : Int) := o_ne h10
    refine ok_bind (k_X12_here L hN (a0 := a0) k_a0 I) (fun r16 hr17 => ?_)
    obtain ⟨i18, ⟨u22, u23, u24, u25⟩, p19, p20, p21⟩ := hr17
    have u26 := kp_t kp_r u22
    have v27 : q_V r16.2 = q_V δ := (u23).trans rfl
    have v28 : q_R r16.2 = q_R δ := (u24).trans rfl
    have v29 := kr_t (kr_r (ad := ad)) u25
    have f30 := cb_12_4 I k_a0
    have f31 := cb_12_4 i18 k_a0
    have f32 : hc ad r16.2 a0 = (q_R r16.2 (Ad ad 101) (q_I r16.2 12 4 a0).toNatClampNeg).toInt := rfl
    have t33 := ti_tn (q_I r16.2 12 4 a0)
    have f34 : (q_R r16.2 (Ad ad 101) (q_I r16.2 12 4 a0).toNatClampNeg).toInt = (q_R δ (Ad ad 101) (q_I r16.2 12 4 a0).toNatClampNeg).toInt := congrArg Int32.toInt (congrFun (u25 101 (by decide) (by decide) (by decide)) _)
    have f35 := ti_b (q_R δ (Ad ad 101) (q_I r16.2 12 4 a0).toNatClampNeg)
    have f36 := ti_b (q_R r16.2 (Ad ad 101) (q_I r16.2 12 4 a0).toNatClampNeg)
    have f37 := ti_b r16.1
    have f38 := cb_12_3 I k_a0
    have f39 : hc ad δ a0 = (q_R δ (Ad ad 101) (q_I δ 12 4 a0).toNatClampNeg).toInt := rfl
    have t40 := ti_tn (q_I δ 12 4 a0)
    have f41 := ti_b (q_R δ (Ad ad 101) (q_I δ 12 4 a0).toNatClampNeg)
    refine ok_biv (fun vx42 e43 => ?_)
    have f44 : vx42.toInt = (q_I r16.2 12 4 a0).toInt := congrArg Int32.toInt e43
    refine ok_bind (k_X12_isDigit L hN (x0 := r16.1)  i18) (fun r45 hr46 => ?_)
    obtain ⟨i47, p48, p49, p50⟩ := hr46
    try rw [i47]
    have f51 := bo_l p48
    have f52 := ti_b r45.1
    refine ok_ite (fun h53 => ?_) (fun h53 => ?_)
    · have c54 : r45.1.toInt = (0 : Int) := o_eq h53
      refine ok_bind (k_X12_wrong L hN (a0 := a0) (x1 := (1 : Int32)) (x2 := (q_I r16.2 12 4 a0)) k_a0 (show 0 ≤ ((q_I r16.2 12 4 a0)).toInt by first | with_reducible assumption | omega) (show ((q_I r16.2 12 4 a0)).toInt ≤ 500 by first | with_reducible assumption | omega) (show 0 ≤ (1 : Int) by first | with_reducible assumption | omega) (show (1 : Int) ≤ 4 by first | with_reducible assumption | omega) i18) (fun r55 hr56 => ?_)
      obtain ⟨i57, ⟨u60, u61, u62, u63⟩, p58, p59⟩ := hr56
      have u64 := kp_t u26 u60
      have v65 : q_V r55 = q_V δ := (u61).trans v27
      have v66 : q_R r55 = q_R δ := (u62).trans v28
      have v67 := kr_t v29 u63
      have f68 := cb_12_5 i57 k_a0
      have f69 : (q_I r16.2 12 5 a0).toInt = (q_I δ 12 5 a0).toInt := congrArg Int32.toInt (u22 12 5 a0 (by decide))
      have f70 : (q_I r55 12 4 a0).toInt = (q_I r16.2 12 4 a0).toInt := congrArg Int32.toInt (u60 12 4 a0 (by decide))
      have f71 := ti_b x1
      have f72 := ti_b x2
      exact ok_some (show RI ad h.1 δ0 r55 ∧ (kp [(12, 4), (12, 5), (12, 6)] δ r55 ∧ q_V r55 = q_V δ ∧ q_R r55 = q_R δ ∧ kr ad [] δ r55) ∧ (q_I δ 12 4 a0).toInt ≤ (q_I r55 12 4 a0).toInt ∧ (q_I δ 12 5 a0).toInt ≤ (q_I r55 12 5 a0).toInt ∧ 0 ≤ (0 : Int) ∧ (0 : Int) ≤ 1000000 ∧ ((q_I r55 12 5 a0).toInt < 0 → (q_I δ 12 4 a0).toInt < (q_I r55 12 4 a0).toInt) ∧ ((q_I r55 12 5 a0).toInt < 0 → (x1).toInt ≤ (0 : Int) ∧ (0 : Int) ≤ (x2).toInt) from ⟨i57, ⟨kp_w (by decide) u64, v65, v66, kr_w (by decide) v67⟩, by first | with_reducible assumption | omega, by first | with_reducible assumption | omega, by first | with_reducible assumption | omega, by first | with_reducible assumption | omega, by first | with_reducible assumption | omega, by first | with_reducible assumption | omega⟩)
    · have c73 : r45.1.toInt ≠ (0 : Int) := o_ne h53
      have f74 : (q_I r16.2 12 5 a0).toInt = (q_I δ 12 5 a0).toInt := congrArg Int32.toInt (u22 12 5 a0 (by decide))
      refine ok_mono (kl_X12_readNumber_41 L hN   k_a0 _ vx42 (0 : Int32) r16.2 i18 (show 0 ≤ (vx42).toInt by first | with_reducible assumption | omega) (show (vx42).toInt ≤ 500 by first | with_reducible assumption | omega) (show 0 ≤ (0 : Int) by first | with_reducible assumption | omega) (show (0 : Int) ≤ 1000000 by first | with_reducible assumption | omega) (show (q_I r16.2 12 5 a0).toInt < 0 by first | with_reducible assumption | omega) (show 501 - (q_I r16.2 12 4 a0).toInt < _ by omega)) (fun r75 hr76 => ?_)
      obtain ⟨i77, ⟨u83, u84, u85, u86⟩, p78, p79, p80, p81, p82⟩ := hr76
      have u87 := kp_t u26 u83
      have v88 : q_V r75.2 = q_V δ := (u84).trans v27
      have v89 : q_R r75.2 = q_R δ := (u85).trans v28
      have v90 := kr_t v29 u86
      have f91 := cb_12_4 i77 k_a0
      have f92 := ti_b r75.1
      have f93 : (q_I r16.2 12 3 a0).toInt = (q_I δ 12 3 a0).toInt := congrArg Int32.toInt (u22 12 3 a0 (by decide))
      have f94 := cb_12_5 i77 k_a0
      have f95 := ti_b x1
      have f96 := ti_b x2
      exact ⟨by first | with_reducible assumption | assumption, ⟨kp_w (by decide) u87, v88, v89, kr_w (by decide) v90⟩, by first | with_reducible assumption | omega, by first | with_reducible assumption | omega, by first | with_reducible assumption | omega, by first | with_reducible assumption | omega, by first | with_reducible assumption | omega, by first | with_reducible assumption | omega⟩
set_option maxHeartbeats 4000000 in
theorem k_X12_sign {ad : List Nat} {h : hp} (L : Lay TLx ad h) {δ0 : dp} {N : Nat} (hN : 10000000 ≤ N) {a0 : Nat} {x1 : Int32} (k_a0 : q_K h.1 a0 = 12) {δ : dp} (z0 : (x1).toInt ≠ 0) (I : RI ad h.1 δ0 δ) : ok (D_X12_sign N h.1 a0 x1 δ) (fun r => RI ad h.1 δ0 r ∧ (kp [(12, 4), (12, 5), (12, 6)] δ r ∧ q_V r = q_V δ ∧ q_R r = q_R δ ∧ kr ad [] δ r) ∧ (q_I δ 12 4 a0).toInt ≤ (q_I r 12 4 a0).toInt ∧ (q_I δ 12 5 a0).toInt ≤ (q_I r 12 5 a0).toInt ∧ ((q_I r 12 5 a0).toInt < 0 → (q_I δ 12 4 a0).toInt < (q_I r 12 4 a0).toInt)) := by
  unfold D_X12_sign
  have f1 := ti_b x1
  refine ok_bind (k_X12_fine L hN (a0 := a0) k_a0 I) (fun r2 hr3 => ?_)
  obtain ⟨i4, p5, p6, p7⟩ := hr3
  try rw [i4]
  have f8 := bo_l p5
  have f9 := cb_12_5 I k_a0
  have f10 := ti_b r2.1
  refine ok_ite (fun h11 => ?_) (fun h11 => ?_)
  · have c12 : r2.1.toInt = (0 : Int) := o_eq h11
    unfold J_X12_sign_24
    refine ok_bind (k_X12_fine L hN (a0 := a0) k_a0 I) (fun r13 hr14 => ?_)
    obtain ⟨i15, p16, p17, p18⟩ := hr14
    try rw [i15]
    have f19 := bo_l p16
    have f20 := ti_b r13.1
    refine ok_ite (fun h21 => ?_) (fun h21 => ?_)
    · have c22 : r13.1.toInt = (0 : Int) := o_eq h21
      unfold J_X12_sign_41
      have f23 := cb_12_4 I k_a0
      exact ok_some (show RI ad h.1 δ0 δ ∧ (kp [(12, 4), (12, 5), (12, 6)] δ δ ∧ q_V δ = q_V δ ∧ q_R δ = q_R δ ∧ kr ad [] δ δ) ∧ (q_I δ 12 4 a0).toInt ≤ (q_I δ 12 4 a0).toInt ∧ (q_I δ 12 5 a0).toInt ≤ (q_I δ 12 5 a0).toInt ∧ ((q_I δ 12 5 a0).toInt < 0 → (q_I δ 12 4 a0).toInt < (q_I δ 12 4 a0).toInt) from ⟨I, ⟨kp_w (by decide) kp_r, rfl, rfl, kr_w (by decide) (kr_r (ad := ad))⟩, by first | with_reducible assumption | omega, by first | with_reducible assumption | omega, by first | with_reducible assumption | omega⟩)
    · have c24 : r13.1.toInt ≠ (0 : Int) := o_ne h21
      have f28 := cb_12_4 I k_a0
      first | (have q30 := te_addc (c := 1) (n := 1) rfl (q_I δ 12 4 a0) (by omega) (by omega); obtain ⟨f31, f32, f33⟩ := q30) | (obtain ⟨q30, f31, f32, f33⟩ := ti_addc (c := 1) (n := 1) rfl (q_I δ 12 4 a0))
      refine ok_bdv (fun d25 e26 => ?_)
      have i27 : RI ad h.1 δ0 d25 := by rw [e26]; exact cs_12_4 L I k_a0 (show 0 ≤ ((q_I δ 12 4 a0) + (1 : Int32)).toInt by omega) (show ((q_I δ 12 4 a0) + (1 : Int32)).toInt ≤ 500 by omega)
      have u34 := kp_I kp_r e26
      have v35 : q_V d25 = q_V δ := ((show q_V d25 = q_V δ by rw [e26]; rfl)).trans rfl
      have v36 : q_R d25 = q_R δ := ((show q_R d25 = q_R δ by rw [e26]; rfl)).trans rfl
      have v37 := kr_N (kr_r (ad := ad)) (show q_R d25 = q_R δ by rw [e26]; rfl)
      unfold J_X12_sign_41
      have f38 := cb_12_4 i27 k_a0
      have f39 : (q_I d25 12 4 a0).toInt = ((q_I δ 12 4 a0) + (1 : Int32)).toInt := congrArg Int32.toInt (show q_I d25 12 4 a0 = ((q_I δ 12 4 a0) + (1 : Int32)) by rw [e26]; exact rI_s)
      have f40 : (q_I d25 12 5 a0).toInt = (q_I δ 12 5 a0).toInt := congrArg Int32.toInt (by rw [e26]; exact rI_o (by decide))
      exact ok_some (show RI ad h.1 δ0 d25 ∧ (kp [(12, 4), (12, 5), (12, 6)] δ d25 ∧ q_V d25 = q_V δ ∧ q_R d25 = q_R δ ∧ kr ad [] δ d25) ∧ (q_I δ 12 4 a0).toInt ≤ (q_I d25 12 4 a0).toInt ∧ (q_I δ 12 5 a0).toInt ≤ (q_I d25 12 5 a0).toInt ∧ ((q_I d25 12 5 a0).toInt < 0 → (q_I δ 12 4 a0).toInt < (q_I d25 12 4 a0).toInt) from ⟨i27, ⟨kp_w (by decide) u34, v35, v36, kr_w (by decide) v37⟩, by first | with_reducible assumption | omega, by first | with_reducible assumption | omega, by first | with_reducible assumption | omega⟩)
  · have c41 : r2.1.toInt ≠ (0 : Int) := o_ne h11
    refine ok_bind (k_X12_here L hN (a0 := a0) k_a0 I) (fun r42 hr43 => ?_)
    obtain ⟨i44, ⟨u48, u49, u50, u51⟩, p45, p46, p47⟩ := hr43
    have u52 := kp_t kp_r u48
    have v53 : q_V r42.2 = q_V δ := (u49).trans rfl
    have v54 : q_R r42.2 = q_R δ := (u50).trans rfl
    have v55 := kr_t (kr_r (ad := ad)) u51
    have f56 := cb_12_4 I k_a0
    have f57 := cb_12_4 i44 k_a0
    have f58 : hc ad r42.2 a0 = (q_R r42.2 (Ad ad 101) (q_I r42.2 12 4 a0).toNatClampNeg).toInt := rfl
    have t59 := ti_tn (q_I r42.2 12 4 a0)
    have f60 : (q_R r42.2 (Ad ad 101) (q_I r42.2 12 4 a0).toNatClampNeg).toInt = (q_R δ (Ad ad 101) (q_I r42.2 12 4 a0).toNatClampNeg).toInt := congrArg Int32.toInt (congrFun (u51 101 (by decide) (by decide) (by decide)) _)
    have f61 := ti_b (q_R δ (Ad ad 101) (q_I r42.2 12 4 a0).toNatClampNeg)
    have f62 := ti_b (q_R r42.2 (Ad ad 101) (q_I r42.2 12 4 a0).toNatClampNeg)
    have f63 := ti_b r42.1
    have f64 := cb_12_3 I k_a0
    have f65 : hc ad δ a0 = (q_R δ (Ad ad 101) (q_I δ 12 4 a0).toNatClampNeg).toInt := rfl
    have t66 := ti_tn (q_I δ 12 4 a0)
    have f67 := ti_b (q_R δ (Ad ad 101) (q_I δ 12 4 a0).toNatClampNeg)
    refine ok_ite (fun h68 => ?_) (fun h68 => ?_)
    · have c69 : r42.1.toInt = x1.toInt := o_eq h68
      unfold J_X12_sign_24
      refine ok_bind (k_X12_fine L hN (a0 := a0) k_a0 i44) (fun r70 hr71 => ?_)
      obtain ⟨i72, p73, p74, p75⟩ := hr71
      try rw [i72]
      have f76 := bo_l p73
      have f77 : (q_I r42.2 12 5 a0).toInt = (q_I δ 12 5 a0).toInt := congrArg Int32.toInt (u48 12 5 a0 (by decide))
      have f78 := ti_b r70.1
      refine ok_ite (fun h79 => ?_) (fun h79 => ?_)
      · have c80 : r70.1.toInt = (0 : Int) := o_eq h79
        unfold J_X12_sign_41
        exact ok_some (show RI ad h.1 δ0 r42.2 ∧ (kp [(12, 4), (12, 5), (12, 6)] δ r42.2 ∧ q_V r42.2 = q_V δ ∧ q_R r42.2 = q_R δ ∧ kr ad [] δ r42.2) ∧ (q_I δ 12 4 a0).toInt ≤ (q_I r42.2 12 4 a0).toInt ∧ (q_I δ 12 5 a0).toInt ≤ (q_I r42.2 12 5 a0).toInt ∧ ((q_I r42.2 12 5 a0).toInt < 0 → (q_I δ 12 4 a0).toInt < (q_I r42.2 12 4 a0).toInt) from ⟨i44, ⟨kp_w (by decide) u52, v53, v54, kr_w (by decide) v55⟩, by first | with_reducible assumption | omega, by first | with_reducible assumption | omega, by first | with_reducible assumption | omega⟩)
      · have c81 : r70.1.toInt ≠ (0 : Int) := o_ne h79
        first | (have q86 := te_addc (c := 1) (n := 1) rfl (q_I r42.2 12 4 a0) (by omega) (by omega); obtain ⟨f87, f88, f89⟩ := q86) | (obtain ⟨q86, f87, f88, f89⟩ := ti_addc (c := 1) (n := 1) rfl (q_I r42.2 12 4 a0))
        refine ok_bdv (fun d82 e83 => ?_)
        have i84 : RI ad h.1 δ0 d82 := by rw [e83]; exact cs_12_4 L i44 k_a0 (show 0 ≤ ((q_I r42.2 12 4 a0) + (1 : Int32)).toInt by omega) (show ((q_I r42.2 12 4 a0) + (1 : Int32)).toInt ≤ 500 by omega)
        have u90 := kp_I u52 e83
        have v91 : q_V d82 = q_V δ := ((show q_V d82 = q_V r42.2 by rw [e83]; rfl)).trans v53
        have v92 : q_R d82 = q_R δ := ((show q_R d82 = q_R r42.2 by rw [e83]; rfl)).trans v54
        have v93 := kr_N v55 (show q_R d82 = q_R r42.2 by rw [e83]; rfl)
        unfold J_X12_sign_41
        have f94 := cb_12_4 i84 k_a0
        have f95 : (q_I d82 12 4 a0).toInt = ((q_I r42.2 12 4 a0) + (1 : Int32)).toInt := congrArg Int32.toInt (show q_I d82 12 4 a0 = ((q_I r42.2 12 4 a0) + (1 : Int32)) by rw [e83]; exact rI_s)
        have f96 : (q_I d82 12 5 a0).toInt = (q_I r42.2 12 5 a0).toInt := congrArg Int32.toInt (by rw [e83]; exact rI_o (by decide))
        exact ok_some (show RI ad h.1 δ0 d82 ∧ (kp [(12, 4), (12, 5), (12, 6)] δ d82 ∧ q_V d82 = q_V δ ∧ q_R d82 = q_R δ ∧ kr ad [] δ d82) ∧ (q_I δ 12 4 a0).toInt ≤ (q_I d82 12 4 a0).toInt ∧ (q_I δ 12 5 a0).toInt ≤ (q_I d82 12 5 a0).toInt ∧ ((q_I d82 12 5 a0).toInt < 0 → (q_I δ 12 4 a0).toInt < (q_I d82 12 4 a0).toInt) from ⟨i84, ⟨kp_w (by decide) u90, v91, v92, kr_w (by decide) v93⟩, by first | with_reducible assumption | omega, by first | with_reducible assumption | omega, by first | with_reducible assumption | omega⟩)
    · have c97 : r42.1.toInt ≠ x1.toInt := o_ne h68
      refine ok_bind (k_X12_wrong L hN (a0 := a0) (x1 := (1 : Int32)) (x2 := (q_I r42.2 12 4 a0)) k_a0 (show 0 ≤ ((q_I r42.2 12 4 a0)).toInt by first | with_reducible assumption | omega) (show ((q_I r42.2 12 4 a0)).toInt ≤ 500 by first | with_reducible assumption | omega) (show 0 ≤ (1 : Int) by first | with_reducible assumption | omega) (show (1 : Int) ≤ 4 by first | with_reducible assumption | omega) i44) (fun r98 hr99 => ?_)
      obtain ⟨i100, ⟨u103, u104, u105, u106⟩, p101, p102⟩ := hr99
      have u107 := kp_t u52 u103
      have v108 : q_V r98 = q_V δ := (u104).trans v53
      have v109 : q_R r98 = q_R δ := (u105).trans v54
      have v110 := kr_t v55 u106
      have f111 := cb_12_5 i100 k_a0
      have f112 : (q_I r42.2 12 5 a0).toInt = (q_I δ 12 5 a0).toInt := congrArg Int32.toInt (u48 12 5 a0 (by decide))
      unfold J_X12_sign_24
      refine ok_bind (k_X12_fine L hN (a0 := a0) k_a0 i100) (fun r113 hr114 => ?_)
      obtain ⟨i115, p116, p117, p118⟩ := hr114
      try rw [i115]
      have f119 := bo_l p116
      have f120 := ti_b r113.1
      refine ok_ite (fun h121 => ?_) (fun h121 => ?_)
      · have c122 : r113.1.toInt = (0 : Int) := o_eq h121
        unfold J_X12_sign_41
        have f123 : (q_I r98 12 4 a0).toInt = (q_I r42.2 12 4 a0).toInt := congrArg Int32.toInt (u103 12 4 a0 (by decide))
        exact ok_some (show RI ad h.1 δ0 r98 ∧ (kp [(12, 4), (12, 5), (12, 6)] δ r98 ∧ q_V r98 = q_V δ ∧ q_R r98 = q_R δ ∧ kr ad [] δ r98) ∧ (q_I δ 12 4 a0).toInt ≤ (q_I r98 12 4 a0).toInt ∧ (q_I δ 12 5 a0).toInt ≤ (q_I r98 12 5 a0).toInt ∧ ((q_I r98 12 5 a0).toInt < 0 → (q_I δ 12 4 a0).toInt < (q_I r98 12 4 a0).toInt) from ⟨i100, ⟨kp_w (by decide) u107, v108, v109, kr_w (by decide) v110⟩, by first | with_reducible assumption | omega, by first | with_reducible assumption | omega, by first | with_reducible assumption | omega⟩)
      · have c124 : r113.1.toInt ≠ (0 : Int) := o_ne h121
        have f128 : (q_I r98 12 4 a0).toInt = (q_I r42.2 12 4 a0).toInt := congrArg Int32.toInt (u103 12 4 a0 (by decide))
        first | (have q130 := te_addc (c := 1) (n := 1) rfl (q_I r98 12 4 a0) (by omega) (by omega); obtain ⟨f131, f132, f133⟩ := q130) | (obtain ⟨q130, f131, f132, f133⟩ := ti_addc (c := 1) (n := 1) rfl (q_I r98 12 4 a0))
        refine ok_bdv (fun d125 e126 => ?_)
        have i127 : RI ad h.1 δ0 d125 := by rw [e126]; exact cs_12_4 L i100 k_a0 (show 0 ≤ ((q_I r98 12 4 a0) + (1 : Int32)).toInt by omega) (show ((q_I r98 12 4 a0) + (1 : Int32)).toInt ≤ 500 by omega)
        have u134 := kp_I u107 e126
        have v135 : q_V d125 = q_V δ := ((show q_V d125 = q_V r98 by rw [e126]; rfl)).trans v108
        have v136 : q_R d125 = q_R δ := ((show q_R d125 = q_R r98 by rw [e126]; rfl)).trans v109
        have v137 := kr_N v110 (show q_R d125 = q_R r98 by rw [e126]; rfl)
        unfold J_X12_sign_41
        have f138 := cb_12_4 i127 k_a0
        have f139 : (q_I d125 12 4 a0).toInt = ((q_I r98 12 4 a0) + (1 : Int32)).toInt := congrArg Int32.toInt (show q_I d125 12 4 a0 = ((q_I r98 12 4 a0) + (1 : Int32)) by rw [e126]; exact rI_s)
        have f140 : (q_I d125 12 5 a0).toInt = (q_I r98 12 5 a0).toInt := congrArg Int32.toInt (by rw [e126]; exact rI_o (by decide))
        exact ok_some (show RI ad h.1 δ0 d125 ∧ (kp [(12, 4), (12, 5), (12, 6)] δ d125 ∧ q_V d125 = q_V δ ∧ q_R d125 = q_R δ ∧ kr ad [] δ d125) ∧ (q_I δ 12 4 a0).toInt ≤ (q_I d125 12 4 a0).toInt ∧ (q_I δ 12 5 a0).toInt ≤ (q_I d125 12 5 a0).toInt ∧ ((q_I d125 12 5 a0).toInt < 0 → (q_I δ 12 4 a0).toInt < (q_I d125 12 4 a0).toInt) from ⟨i127, ⟨kp_w (by decide) u134, v135, v136, kr_w (by decide) v137⟩, by first | with_reducible assumption | omega, by first | with_reducible assumption | omega, by first | with_reducible assumption | omega⟩)
set_option maxHeartbeats 4000000 in
theorem k_X12_isMore {ad : List Nat} {h : hp} (L : Lay TLx ad h) {δ0 : dp} {N : Nat} (hN : 10000000 ≤ N) {a0 : Nat} (k_a0 : q_K h.1 a0 = 12) {δ : dp} (I : RI ad h.1 δ0 δ) : ok (D_X12_isMore N h.1 a0 δ) (fun r => RI ad h.1 δ0 r.2 ∧ (kp [(12, 4)] δ r.2 ∧ q_V r.2 = q_V δ ∧ q_R r.2 = q_R δ ∧ kr ad [] δ r.2) ∧ bo (r.1) ∧ (q_I δ 12 4 a0).toInt ≤ (q_I r.2 12 4 a0).toInt ∧ ((r.1).toInt = 1 → (q_I r.2 12 4 a0).toInt < (q_I δ 12 3 a0).toInt)) := by
  unfold D_X12_isMore
  refine ok_bind (k_X12_here L hN (a0 := a0) k_a0 I) (fun r1 hr2 => ?_)
  obtain ⟨i3, ⟨u7, u8, u9, u10⟩, p4, p5, p6⟩ := hr2
  have u11 := kp_t kp_r u7
  have v12 : q_V r1.2 = q_V δ := (u8).trans rfl
  have v13 : q_R r1.2 = q_R δ := (u9).trans rfl
  have v14 := kr_t (kr_r (ad := ad)) u10
  have f15 := cb_12_4 I k_a0
  have f16 := cb_12_4 i3 k_a0
  have f17 : hc ad r1.2 a0 = (q_R r1.2 (Ad ad 101) (q_I r1.2 12 4 a0).toNatClampNeg).toInt := rfl
  have t18 := ti_tn (q_I r1.2 12 4 a0)
  have f19 : (q_R r1.2 (Ad ad 101) (q_I r1.2 12 4 a0).toNatClampNeg).toInt = (q_R δ (Ad ad 101) (q_I r1.2 12 4 a0).toNatClampNeg).toInt := congrArg Int32.toInt (congrFun (u10 101 (by decide) (by decide) (by decide)) _)
  have f20 := ti_b (q_R δ (Ad ad 101) (q_I r1.2 12 4 a0).toNatClampNeg)
  have f21 := ti_b (q_R r1.2 (Ad ad 101) (q_I r1.2 12 4 a0).toNatClampNeg)
  have f22 := ti_b r1.1
  have f23 := cb_12_3 I k_a0
  have f24 : hc ad δ a0 = (q_R δ (Ad ad 101) (q_I δ 12 4 a0).toNatClampNeg).toInt := rfl
  have t25 := ti_tn (q_I δ 12 4 a0)
  have f26 := ti_b (q_R δ (Ad ad 101) (q_I δ 12 4 a0).toNatClampNeg)
  have f27 : (q_I r1.2 12 3 a0).toInt = (q_I δ 12 3 a0).toInt := congrArg Int32.toInt (u7 12 3 a0 (by decide))
  refine ok_ite (fun h28 => ?_) (fun h28 => ?_)
  · have c29 : (q_I r1.2 12 3 a0).toInt ≤ (q_I r1.2 12 4 a0).toInt := o_le h28
    unfold J_X12_isMore_21
    refine ok_gp (by decide) ?_
    exact ok_some (show RI ad h.1 δ0 r1.2 ∧ (kp [(12, 4)] δ r1.2 ∧ q_V r1.2 = q_V δ ∧ q_R r1.2 = q_R δ ∧ kr ad [] δ r1.2) ∧ bo ((0 : Int32)) ∧ (q_I δ 12 4 a0).toInt ≤ (q_I r1.2 12 4 a0).toInt ∧ ((0 : Int) = 1 → (q_I r1.2 12 4 a0).toInt < (q_I δ 12 3 a0).toInt) from ⟨i3, ⟨kp_w (by decide) u11, v12, v13, kr_w (by decide) v14⟩, bo_0, by first | with_reducible assumption | omega, by first | with_reducible assumption | omega⟩)
  · have c30 : (q_I r1.2 12 4 a0).toInt < (q_I r1.2 12 3 a0).toInt := o_nle h28
    unfold J_X12_isMore_21
    refine ok_gp (by decide) ?_
    exact ok_some (show RI ad h.1 δ0 r1.2 ∧ (kp [(12, 4)] δ r1.2 ∧ q_V r1.2 = q_V δ ∧ q_R r1.2 = q_R δ ∧ kr ad [] δ r1.2) ∧ bo ((1 : Int32)) ∧ (q_I δ 12 4 a0).toInt ≤ (q_I r1.2 12 4 a0).toInt ∧ ((1 : Int) = 1 → (q_I r1.2 12 4 a0).toInt < (q_I δ 12 3 a0).toInt) from ⟨i3, ⟨kp_w (by decide) u11, v12, v13, kr_w (by decide) v14⟩, bo_1, by first | with_reducible assumption | omega, by first | with_reducible assumption | omega⟩)
set_option maxHeartbeats 4000000 in
theorem k_X12_begins {ad : List Nat} {h : hp} (L : Lay TLx ad h) {δ0 : dp} {N : Nat} (hN : 10000000 ≤ N) {a0 : Nat} {x1 : Int32} (k_a0 : q_K h.1 a0 = 12) {δ : dp} (z0 : 0 ≤ (x1).toInt) (z1 : (x1).toInt ≤ 500) (I : RI ad h.1 δ0 δ) : ok (D_X12_begins N h.1 a0 x1 δ) (fun r => RI ad h.1 δ0 r ∧ (kp [(12, 2), (12, 3), (12, 4), (12, 5), (12, 7), (12, 8)] δ r ∧ q_V r = q_V δ ∧ q_R r = q_R δ ∧ kr ad [] δ r) ∧ (q_I r 12 2 a0).toInt = 0 ∧ (q_I r 12 4 a0).toInt = 0 ∧ (q_I r 12 3 a0).toInt = (x1).toInt ∧ (q_I r 12 5 a0).toInt = -1 ∧ (q_I r 12 7 a0).toInt = 0) := by
  unfold D_X12_begins
  have f1 := ti_b x1
  refine ok_bdv (fun d2 e3 => ?_)
  have i4 : RI ad h.1 δ0 d2 := by rw [e3]; exact cs_12_2 L I k_a0 (show 0 ≤ (0 : Int) by omega) (show (0 : Int) ≤ 500 by omega)
  have u5 := kp_I kp_r e3
  have v6 : q_V d2 = q_V δ := ((show q_V d2 = q_V δ by rw [e3]; rfl)).trans rfl
  have v7 : q_R d2 = q_R δ := ((show q_R d2 = q_R δ by rw [e3]; rfl)).trans rfl
  have v8 := kr_N (kr_r (ad := ad)) (show q_R d2 = q_R δ by rw [e3]; rfl)
  refine ok_bdv (fun d9 e10 => ?_)
  have i11 : RI ad h.1 δ0 d9 := by rw [e10]; exact cs_12_8 L i4
  have u12 := kp_I u5 e10
  have v13 : q_V d9 = q_V δ := ((show q_V d9 = q_V d2 by rw [e10]; rfl)).trans v6
  have v14 : q_R d9 = q_R δ := ((show q_R d9 = q_R d2 by rw [e10]; rfl)).trans v7
  have v15 := kr_N v8 (show q_R d9 = q_R d2 by rw [e10]; rfl)
  refine ok_bdv (fun d16 e17 => ?_)
  have i18 : RI ad h.1 δ0 d16 := by rw [e17]; exact cs_12_3 L i11 k_a0 (show 0 ≤ x1.toInt by omega) (show x1.toInt ≤ 500 by omega)
  have u19 := kp_I u12 e17
  have v20 : q_V d16 = q_V δ := ((show q_V d16 = q_V d9 by rw [e17]; rfl)).trans v13
  have v21 : q_R d16 = q_R δ := ((show q_R d16 = q_R d9 by rw [e17]; rfl)).trans v14
  have v22 := kr_N v15 (show q_R d16 = q_R d9 by rw [e17]; rfl)
  refine ok_bdv (fun d23 e24 => ?_)
  have i25 : RI ad h.1 δ0 d23 := by rw [e24]; exact cs_12_4 L i18 k_a0 (show 0 ≤ (0 : Int) by omega) (show (0 : Int) ≤ 500 by omega)
  have u26 := kp_I u19 e24
  have v27 : q_V d23 = q_V δ := ((show q_V d23 = q_V d16 by rw [e24]; rfl)).trans v20
  have v28 : q_R d23 = q_R δ := ((show q_R d23 = q_R d16 by rw [e24]; rfl)).trans v21
  have v29 := kr_N v22 (show q_R d23 = q_R d16 by rw [e24]; rfl)
  refine ok_bdv (fun d30 e31 => ?_)
  have i32 : RI ad h.1 δ0 d30 := by rw [e31]; exact cs_12_5 L i25 k_a0 (show -1 ≤ (-1 : Int) by omega) (show (-1 : Int) ≤ 500 by omega)
  have u33 := kp_I u26 e31
  have v34 : q_V d30 = q_V δ := ((show q_V d30 = q_V d23 by rw [e31]; rfl)).trans v27
  have v35 : q_R d30 = q_R δ := ((show q_R d30 = q_R d23 by rw [e31]; rfl)).trans v28
  have v36 := kr_N v29 (show q_R d30 = q_R d23 by rw [e31]; rfl)
  refine ok_bdv (fun d37 e38 => ?_)
  have i39 : RI ad h.1 δ0 d37 := by rw [e38]; exact cs_12_7 L i32
  have u40 := kp_I u33 e38
  have v41 : q_V d37 = q_V δ := ((show q_V d37 = q_V d30 by rw [e38]; rfl)).trans v34
  have v42 : q_R d37 = q_R δ := ((show q_R d37 = q_R d30 by rw [e38]; rfl)).trans v35
  have v43 := kr_N v36 (show q_R d37 = q_R d30 by rw [e38]; rfl)
  have f44 : (q_I d37 12 2 a0).toInt = (q_I d2 12 2 a0).toInt := ((show (q_I d37 12 2 a0).toInt = (q_I d30 12 2 a0).toInt from congrArg Int32.toInt (by rw [e38]; exact rI_o (by decide))).trans ((show (q_I d30 12 2 a0).toInt = (q_I d23 12 2 a0).toInt from congrArg Int32.toInt (by rw [e31]; exact rI_o (by decide))).trans ((show (q_I d23 12 2 a0).toInt = (q_I d16 12 2 a0).toInt from congrArg Int32.toInt (by rw [e24]; exact rI_o (by decide))).trans ((show (q_I d16 12 2 a0).toInt = (q_I d9 12 2 a0).toInt from congrArg Int32.toInt (by rw [e17]; exact rI_o (by decide))).trans (show (q_I d9 12 2 a0).toInt = (q_I d2 12 2 a0).toInt from congrArg Int32.toInt (by rw [e10]; exact rI_o (by decide)))))))
  have f45 := cb_12_2 i4 k_a0
  have f46 : (q_I d2 12 2 a0).toInt = (0 : Int) := congrArg Int32.toInt (show q_I d2 12 2 a0 = (0 : Int32) by rw [e3]; exact rI_s)
  have f47 : (q_I d37 12 4 a0).toInt = (q_I d23 12 4 a0).toInt := ((show (q_I d37 12 4 a0).toInt = (q_I d30 12 4 a0).toInt from congrArg Int32.toInt (by rw [e38]; exact rI_o (by decide))).trans (show (q_I d30 12 4 a0).toInt = (q_I d23 12 4 a0).toInt from congrArg Int32.toInt (by rw [e31]; exact rI_o (by decide))))
  have f48 := cb_12_4 i25 k_a0
  have f49 : (q_I d23 12 4 a0).toInt = (0 : Int) := congrArg Int32.toInt (show q_I d23 12 4 a0 = (0 : Int32) by rw [e24]; exact rI_s)
  have f50 : (q_I d37 12 3 a0).toInt = (q_I d16 12 3 a0).toInt := ((show (q_I d37 12 3 a0).toInt = (q_I d30 12 3 a0).toInt from congrArg Int32.toInt (by rw [e38]; exact rI_o (by decide))).trans ((show (q_I d30 12 3 a0).toInt = (q_I d23 12 3 a0).toInt from congrArg Int32.toInt (by rw [e31]; exact rI_o (by decide))).trans (show (q_I d23 12 3 a0).toInt = (q_I d16 12 3 a0).toInt from congrArg Int32.toInt (by rw [e24]; exact rI_o (by decide)))))
  have f51 := cb_12_3 i18 k_a0
  have f52 : (q_I d16 12 3 a0).toInt = x1.toInt := congrArg Int32.toInt (show q_I d16 12 3 a0 = x1 by rw [e17]; exact rI_s)
  have f53 : (q_I d37 12 5 a0).toInt = (q_I d30 12 5 a0).toInt := congrArg Int32.toInt (by rw [e38]; exact rI_o (by decide))
  have f54 := cb_12_5 i32 k_a0
  have f55 : (q_I d30 12 5 a0).toInt = (-1 : Int) := congrArg Int32.toInt (show q_I d30 12 5 a0 = (-1 : Int32) by rw [e31]; exact rI_s)
  have f56 := ti_b (q_I d37 12 7 a0)
  have f57 : (q_I d37 12 7 a0).toInt = (0 : Int) := congrArg Int32.toInt (show q_I d37 12 7 a0 = (0 : Int32) by rw [e38]; exact rI_s)
  exact ok_some (show RI ad h.1 δ0 d37 ∧ (kp [(12, 2), (12, 3), (12, 4), (12, 5), (12, 7), (12, 8)] δ d37 ∧ q_V d37 = q_V δ ∧ q_R d37 = q_R δ ∧ kr ad [] δ d37) ∧ (q_I d37 12 2 a0).toInt = 0 ∧ (q_I d37 12 4 a0).toInt = 0 ∧ (q_I d37 12 3 a0).toInt = (x1).toInt ∧ (q_I d37 12 5 a0).toInt = -1 ∧ (q_I d37 12 7 a0).toInt = 0 from ⟨i39, ⟨kp_w (by decide) u40, v41, v42, kr_w (by decide) v43⟩, by first | with_reducible assumption | omega, by first | with_reducible assumption | omega, by first | with_reducible assumption | omega, by first | with_reducible assumption | omega, by first | with_reducible assumption | omega⟩)
set_option maxHeartbeats 4000000 in
theorem k_X12_result {ad : List Nat} {h : hp} (L : Lay TLx ad h) {δ0 : dp} {N : Nat} (hN : 10000000 ≤ N) {a0 : Nat} {x1 : Int32} (k_a0 : q_K h.1 a0 = 12) {δ : dp} (I : RI ad h.1 δ0 δ) : ok (D_X12_result N h.1 a0 x1 δ) (fun r => RI ad h.1 δ0 r.2 ∧ (kp [(12, 8)] δ r.2 ∧ q_V r.2 = q_V δ ∧ q_R r.2 = q_R δ ∧ kr ad [] δ r.2) ∧ ((q_I δ 12 5 a0).toInt < 0 ∨ (r.1).toInt ≤ -6)) := by
  unfold D_X12_result
  have f4 := cb_12_5 I k_a0
  refine ok_bdv (fun d1 e2 => ?_)
  have i3 : RI ad h.1 δ0 d1 := by rw [e2]; exact cs_12_8 L I
  have u5 := kp_I kp_r e2
  have v6 : q_V d1 = q_V δ := ((show q_V d1 = q_V δ by rw [e2]; rfl)).trans rfl
  have v7 : q_R d1 = q_R δ := ((show q_R d1 = q_R δ by rw [e2]; rfl)).trans rfl
  have v8 := kr_N (kr_r (ad := ad)) (show q_R d1 = q_R δ by rw [e2]; rfl)
  refine ok_bind (k_X12_fine L hN (a0 := a0) k_a0 i3) (fun r9 hr10 => ?_)
  obtain ⟨i11, p12, p13, p14⟩ := hr10
  try rw [i11]
  have f15 := bo_l p12
  have f16 : (q_I d1 12 5 a0).toInt = (q_I δ 12 5 a0).toInt := congrArg Int32.toInt (by rw [e2]; exact rI_o (by decide))
  have f17 := ti_b r9.1
  refine ok_ite (fun h18 => ?_) (fun h18 => ?_)
  · have c19 : r9.1.toInt = (0 : Int) := o_eq h18
    unfold J_X12_result_26
    have f20 : (q_I d1 12 6 a0).toInt = (q_I δ 12 6 a0).toInt := congrArg Int32.toInt (by rw [e2]; exact rI_o (by decide))
    have f21 := cb_12_6 I k_a0
    first | (have q23 := te_subc (c := 10) (n := 10) rfl (q_I d1 12 6 a0) (by omega) (by omega); obtain ⟨f24, f25, f26⟩ := q23) | (obtain ⟨q23, f24, f25, f26⟩ := ti_subc (c := 10) (n := 10) rfl (q_I d1 12 6 a0))
    exact ok_some (show RI ad h.1 δ0 d1 ∧ (kp [(12, 8)] δ d1 ∧ q_V d1 = q_V δ ∧ q_R d1 = q_R δ ∧ kr ad [] δ d1) ∧ ((q_I δ 12 5 a0).toInt < 0 ∨ (((q_I d1 12 6 a0) - (10 : Int32))).toInt ≤ -6) from ⟨i3, ⟨kp_w (by decide) u5, v6, v7, kr_w (by decide) v8⟩, by first | with_reducible assumption | omega⟩)
  · have c27 : r9.1.toInt ≠ (0 : Int) := o_ne h18
    unfold J_X12_result_26
    have f28 := ti_b x1
    exact ok_some (show RI ad h.1 δ0 d1 ∧ (kp [(12, 8)] δ d1 ∧ q_V d1 = q_V δ ∧ q_R d1 = q_R δ ∧ kr ad [] δ d1) ∧ ((q_I δ 12 5 a0).toInt < 0 ∨ (x1).toInt ≤ -6) from ⟨i3, ⟨kp_w (by decide) u5, v6, v7, kr_w (by decide) v8⟩, by first | with_reducible assumption | omega⟩)
set_option maxHeartbeats 4000000 in
theorem k_X12_fault {ad : List Nat} {h : hp} (L : Lay TLx ad h) {δ0 : dp} {N : Nat} (hN : 10000000 ≤ N) {a0 : Nat} (k_a0 : q_K h.1 a0 = 12) {δ : dp} (I : RI ad h.1 δ0 δ) : ok (D_X12_fault N h.1 a0 δ) (fun r => RI ad h.1 δ0 r.2 ∧ (kp [(12, 0)] δ r.2 ∧ q_V r.2 = q_V δ ∧ q_R r.2 = q_R δ ∧ kr ad [] δ r.2)) := by
  unfold D_X12_fault
  refine ok_bdv (fun d1 e2 => ?_)
  have i3 : RI ad h.1 δ0 d1 := by rw [e2]; exact cs_12_0 L I
  have u4 := kp_I kp_r e2
  have v5 : q_V d1 = q_V δ := ((show q_V d1 = q_V δ by rw [e2]; rfl)).trans rfl
  have v6 : q_R d1 = q_R δ := ((show q_R d1 = q_R δ by rw [e2]; rfl)).trans rfl
  have v7 := kr_N (kr_r (ad := ad)) (show q_R d1 = q_R δ by rw [e2]; rfl)
  exact ok_some (show RI ad h.1 δ0 d1 ∧ (kp [(12, 0)] δ d1 ∧ q_V d1 = q_V δ ∧ q_R d1 = q_R δ ∧ kr ad [] δ d1) from ⟨i3, ⟨kp_w (by decide) u4, v5, v6, kr_w (by decide) v7⟩⟩)
