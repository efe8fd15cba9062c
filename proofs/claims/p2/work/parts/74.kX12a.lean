/-! 74.kX12a (by gen_safe.py) -/
set_option maxHeartbeats 4000000 in
theorem k_X12_may {ad : List Nat} {h : hp} (L : Lay TLx ad h) {δ0 : dp} {N : Nat} (hN : 10000000 ≤ N) {a0 : Nat} {x1 : Int32} {x2 : Int32} {x3 : Int32} (k_a0 : q_K h.1 a0 = 12) {δ : dp} (z0 : (x2).toInt ≠ 0) (z1 : 0 ≤ (x3).toInt) (z2 : (x3).toInt ≤ 2) (I : RI ad h.1 δ0 δ) : ok (D_X12_may N h.1 a0 x1 x2 x3 δ) (fun r => RI ad h.1 δ0 r.2 ∧ (kp [(12, 0)] δ r.2 ∧ q_V r.2 = q_V δ ∧ kr ad [100] δ r.2) ∧ bo (r.1) ∧ ((r.1).toInt = 1 → (x1).toInt ≠ 0) ∧ ((q_I δ 12 0 a0).toInt = 0 → (r.1).toInt = 0 → (x1).toInt = 0)) := by
  unfold D_X12_may
  have f1 := ti_b x2
  have f2 := ti_b x3
  have f3 := ti_b x1
  refine ok_ite (fun h4 => ?_) (fun h4 => ?_)
  · have c5 : x1.toInt = (0 : Int) := o_eq h4
    have f6 := ti_b (q_I δ 12 0 a0)
    refine ok_ite (fun h7 => ?_) (fun h7 => ?_)
    · have c8 : (q_I δ 12 0 a0).toInt = (0 : Int) := o_eq h7
      refine ok_bdv (fun d9 e10 => ?_)
      have i11 : RI ad h.1 δ0 d9 := by rw [e10]; exact cs_12_0 L I
      have u12 := kp_I kp_r e10
      have v13 : q_V d9 = q_V δ := ((show q_V d9 = q_V δ by rw [e10]; rfl)).trans rfl
      have v14 := kr_N kr_r (show q_R d9 = q_R δ by rw [e10]; rfl)
      obtain ⟨b15, o16, k17, n18, w19⟩ := gO_12_1 L k_a0
      obtain rfl := gS_12_1 L k_a0 o16
      refine ok_at o16 ?_
      have t20 := ti_tn x3
      refine ok_gd (fun hc21 => ?_) ?_
      · rcases hc21 with hc21 | hc21
        · have c22 : x3.toInt < (0 : Int) := o_lt hc21
          omega
        · omega
      refine ok_gd (fun hc23 => ?_) ?_
      · rcases hc23 with hc23 | hc23
        · have c24 : x3.toInt < (0 : Int) := o_lt hc23
          omega
        · omega
      refine ok_bdv (fun d25 e26 => ?_)
      have i27 : RI ad h.1 δ0 d25 := by rw [e26]; exact RI.sR L i11 w19
      have u28 := kp_N u12 (show q_I d25 = q_I d9 by rw [e26]; rfl)
      have v29 : q_V d25 = q_V δ := ((show q_V d25 = q_V d9 by rw [e26]; rfl)).trans v13
      have v30 := kr_s L (by decide) v14 e26
      unfold J_X12_may_26
      have f31 := ti_b (q_I d25 12 0 a0)
      have f32 : (q_I d25 12 0 a0).toInt = (q_I d9 12 0 a0).toInt := congrArg Int32.toInt (by rw [e26]; rfl)
      have f33 := ti_b (q_I d9 12 0 a0)
      have f34 : (q_I d9 12 0 a0).toInt = x2.toInt := congrArg Int32.toInt (show q_I d9 12 0 a0 = x2 by rw [e10]; exact rI_s)
      refine ok_ite (fun h35 => ?_) (fun h35 => ?_)
      · have c36 : (q_I d25 12 0 a0).toInt = (0 : Int) := o_eq h35
        unfold J_X12_may_38
        refine ok_gp (by decide) ?_
        exact ok_some (show RI ad h.1 δ0 d25 ∧ (kp [(12, 0)] δ d25 ∧ q_V d25 = q_V δ ∧ kr ad [100] δ d25) ∧ bo ((1 : Int32)) ∧ ((1 : Int) = 1 → (x1).toInt ≠ 0) ∧ ((q_I δ 12 0 a0).toInt = 0 → (1 : Int) = 0 → (x1).toInt = 0) from ⟨i27, ⟨kp_w (by decide) u28, v29, kr_w (by decide) v30⟩, bo_1, by first | assumption | omega, by first | assumption | omega⟩)
      · have c37 : (q_I d25 12 0 a0).toInt ≠ (0 : Int) := o_ne h35
        unfold J_X12_may_38
        refine ok_gp (by decide) ?_
        exact ok_some (show RI ad h.1 δ0 d25 ∧ (kp [(12, 0)] δ d25 ∧ q_V d25 = q_V δ ∧ kr ad [100] δ d25) ∧ bo ((0 : Int32)) ∧ ((0 : Int) = 1 → (x1).toInt ≠ 0) ∧ ((q_I δ 12 0 a0).toInt = 0 → (0 : Int) = 0 → (x1).toInt = 0) from ⟨i27, ⟨kp_w (by decide) u28, v29, kr_w (by decide) v30⟩, bo_0, by first | assumption | omega, by first | assumption | omega⟩)
    · have c38 : (q_I δ 12 0 a0).toInt ≠ (0 : Int) := o_ne h7
      unfold J_X12_may_26
      refine ok_ite (fun h39 => ?_) (fun h39 => ?_)
      · have c40 : (q_I δ 12 0 a0).toInt = (0 : Int) := o_eq h39
        unfold J_X12_may_38
        refine ok_gp (by decide) ?_
        exact ok_some (show RI ad h.1 δ0 δ ∧ (kp [(12, 0)] δ δ ∧ q_V δ = q_V δ ∧ kr ad [100] δ δ) ∧ bo ((1 : Int32)) ∧ ((1 : Int) = 1 → (x1).toInt ≠ 0) ∧ ((q_I δ 12 0 a0).toInt = 0 → (1 : Int) = 0 → (x1).toInt = 0) from ⟨I, ⟨kp_w (by decide) kp_r, rfl, kr_w (by decide) kr_r⟩, bo_1, by first | assumption | omega, by first | assumption | omega⟩)
      · have c41 : (q_I δ 12 0 a0).toInt ≠ (0 : Int) := o_ne h39
        unfold J_X12_may_38
        refine ok_gp (by decide) ?_
        exact ok_some (show RI ad h.1 δ0 δ ∧ (kp [(12, 0)] δ δ ∧ q_V δ = q_V δ ∧ kr ad [100] δ δ) ∧ bo ((0 : Int32)) ∧ ((0 : Int) = 1 → (x1).toInt ≠ 0) ∧ ((q_I δ 12 0 a0).toInt = 0 → (0 : Int) = 0 → (x1).toInt = 0) from ⟨I, ⟨kp_w (by decide) kp_r, rfl, kr_w (by decide) kr_r⟩, bo_0, by first | assumption | omega, by first | assumption | omega⟩)
  · have c42 : x1.toInt ≠ (0 : Int) := o_ne h4
    unfold J_X12_may_26
    have f43 := ti_b (q_I δ 12 0 a0)
    refine ok_ite (fun h44 => ?_) (fun h44 => ?_)
    · have c45 : (q_I δ 12 0 a0).toInt = (0 : Int) := o_eq h44
      unfold J_X12_may_38
      refine ok_gp (by decide) ?_
      exact ok_some (show RI ad h.1 δ0 δ ∧ (kp [(12, 0)] δ δ ∧ q_V δ = q_V δ ∧ kr ad [100] δ δ) ∧ bo ((1 : Int32)) ∧ ((1 : Int) = 1 → (x1).toInt ≠ 0) ∧ ((q_I δ 12 0 a0).toInt = 0 → (1 : Int) = 0 → (x1).toInt = 0) from ⟨I, ⟨kp_w (by decide) kp_r, rfl, kr_w (by decide) kr_r⟩, bo_1, by first | assumption | omega, by first | assumption | omega⟩)
    · have c46 : (q_I δ 12 0 a0).toInt ≠ (0 : Int) := o_ne h44
      unfold J_X12_may_38
      refine ok_gp (by decide) ?_
      exact ok_some (show RI ad h.1 δ0 δ ∧ (kp [(12, 0)] δ δ ∧ q_V δ = q_V δ ∧ kr ad [100] δ δ) ∧ bo ((0 : Int32)) ∧ ((0 : Int) = 1 → (x1).toInt ≠ 0) ∧ ((q_I δ 12 0 a0).toInt = 0 → (0 : Int) = 0 → (x1).toInt = 0) from ⟨I, ⟨kp_w (by decide) kp_r, rfl, kr_w (by decide) kr_r⟩, bo_0, by first | assumption | omega, by first | assumption | omega⟩)
set_option maxHeartbeats 4000000 in
theorem k_X12_within {ad : List Nat} {h : hp} (L : Lay TLx ad h) {δ0 : dp} {N : Nat} (hN : 10000000 ≤ N) {x0 : Int32} {x1 : Int32} {x2 : Int32} {δ : dp} (I : RI ad h.1 δ0 δ) : ok (D_X12_within N h.1 x0 x1 x2 δ) (fun r => r.2 = δ ∧ bo (r.1) ∧ ((r.1).toInt = 1 → (x1).toInt ≤ (x0).toInt ∧ (x0).toInt ≤ (x2).toInt) ∧ ((r.1).toInt = 0 → (x0).toInt < (x1).toInt ∨ (x2).toInt < (x0).toInt)) := by
  unfold D_X12_within
  have f1 := ti_b x0
  have f2 := ti_b x1
  refine ok_ite (fun h3 => ?_) (fun h3 => ?_)
  · have c4 : x0.toInt < x1.toInt := o_lt h3
    unfold J_X12_within_14
    unfold J_X12_within_15
    refine ok_gp (by decide) ?_
    have f5 := ti_b x2
    exact ok_some (show δ = δ ∧ bo ((0 : Int32)) ∧ ((0 : Int) = 1 → (x1).toInt ≤ (x0).toInt ∧ (x0).toInt ≤ (x2).toInt) ∧ ((0 : Int) = 0 → (x0).toInt < (x1).toInt ∨ (x2).toInt < (x0).toInt) from ⟨rfl, bo_0, by first | assumption | omega, by first | assumption | omega⟩)
  · have c6 : x1.toInt ≤ x0.toInt := o_nlt h3
    have f7 := ti_b x2
    refine ok_ite (fun h8 => ?_) (fun h8 => ?_)
    · have c9 : x2.toInt < x0.toInt := o_lt h8
      unfold J_X12_within_14
      unfold J_X12_within_15
      refine ok_gp (by decide) ?_
      exact ok_some (show δ = δ ∧ bo ((0 : Int32)) ∧ ((0 : Int) = 1 → (x1).toInt ≤ (x0).toInt ∧ (x0).toInt ≤ (x2).toInt) ∧ ((0 : Int) = 0 → (x0).toInt < (x1).toInt ∨ (x2).toInt < (x0).toInt) from ⟨rfl, bo_0, by first | assumption | omega, by first | assumption | omega⟩)
    · have c10 : x0.toInt ≤ x2.toInt := o_nlt h8
      unfold J_X12_within_15
      refine ok_gp (by decide) ?_
      exact ok_some (show δ = δ ∧ bo ((1 : Int32)) ∧ ((1 : Int) = 1 → (x1).toInt ≤ (x0).toInt ∧ (x0).toInt ≤ (x2).toInt) ∧ ((1 : Int) = 0 → (x0).toInt < (x1).toInt ∨ (x2).toInt < (x0).toInt) from ⟨rfl, bo_1, by first | assumption | omega, by first | assumption | omega⟩)
set_option maxHeartbeats 4000000 in
theorem kl_X12_feed_23 {ad : List Nat} {h : hp} (L : Lay TLx ad h) {δ0 : dp} {N : Nat} (hN : 10000000 ≤ N) {a0 : Nat} {x1 : Int32} {x2 : Int32} {x3 : Int32} {x4 : Int32} {x5 : Int32} (k_a0 : q_K h.1 a0 = 12) : ∀ (n : Nat) (x6v : Int32) (δ : dp), RI ad h.1 δ0 δ → 0 ≤ (x6v).toInt → (x6v).toInt ≤ 20 → (q_I δ 12 2 a0).toInt + 20 - (x6v).toInt ≤ 500 → 20 - (x6v).toInt < (n : Int) → ok (L_X12_feed_23 N h.1 a0 x1 x2 x3 x4 x5 n x6v δ) (fun r => RI ad h.1 δ0 r.2 ∧ (kp [(12, 0), (12, 2)] δ r.2 ∧ q_V r.2 = q_V δ ∧ kr ad [101] δ r.2) ∧ (r.1).toInt = (q_I δ 12 2 a0).toInt + 20 - (x6v).toInt ∧ (q_I r.2 12 2 a0).toInt = (q_I δ 12 2 a0).toInt + 20 - (x6v).toInt) := by
  intro n
  induction n with
  | zero =>
    intro x6v δ I j0 j1 j2 hm
    have f1 := ti_b x6v
    have f2 := cb_12_2 I k_a0
    exfalso; omega
  | succ n ih =>
    intro x6v δ I j0 j1 j2 hm
    unfold L_X12_feed_23
    have f1 := ti_b x6v
    have f2 := cb_12_2 I k_a0
    refine ok_ite (fun h3 => ?_) (fun h3 => ?_)
    · have c4 : (20 : Int) ≤ x6v.toInt := o_le h3
      exact ok_some (show RI ad h.1 δ0 δ ∧ (kp [(12, 0), (12, 2)] δ δ ∧ q_V δ = q_V δ ∧ kr ad [101] δ δ) ∧ ((q_I δ 12 2 a0)).toInt = (q_I δ 12 2 a0).toInt + 20 - (x6v).toInt ∧ (q_I δ 12 2 a0).toInt = (q_I δ 12 2 a0).toInt + 20 - (x6v).toInt from ⟨I, ⟨kp_w (by decide) kp_r, rfl, kr_w (by decide) kr_r⟩, by first | assumption | omega, by first | assumption | omega⟩)
    · have c5 : x6v.toInt < (20 : Int) := o_nle h3
      refine ok_ite (fun h6 => ?_) (fun h6 => ?_)
      · have c7 : (4 : Int) ≤ x6v.toInt := o_le h6
        refine ok_ite (fun h8 => ?_) (fun h8 => ?_)
        · have c9 : (8 : Int) ≤ x6v.toInt := o_le h8
          refine ok_ite (fun h10 => ?_) (fun h10 => ?_)
          · have c11 : (12 : Int) ≤ x6v.toInt := o_le h10
            refine ok_ite (fun h12 => ?_) (fun h12 => ?_)
            · have c13 : (16 : Int) ≤ x6v.toInt := o_le h12
              unfold J_X12_feed_76
              obtain ⟨b14, o15, k16, n17, w18⟩ := gO_12_9 L k_a0
              obtain rfl := gS_12_9 L k_a0 o15
              refine ok_at o15 ?_
              have t19 := ti_tn (q_I δ 12 2 a0)
              refine ok_gd (fun hc20 => ?_) ?_
              · rcases hc20 with hc20 | hc20
                · have c21 : (q_I δ 12 2 a0).toInt < (0 : Int) := o_lt hc20
                  omega
                · omega
              refine ok_bdv (fun d22 e23 => ?_)
              have i24 : RI ad h.1 δ0 d22 := by rw [e23]; exact RI.sR L I w18
              have u25 := kp_N kp_r (show q_I d22 = q_I δ by rw [e23]; rfl)
              have v26 : q_V d22 = q_V δ := ((show q_V d22 = q_V δ by rw [e23]; rfl)).trans rfl
              have v27 := kr_s L (by decide) kr_r e23
              have f31 := cb_12_2 i24 k_a0
              have f32 : (q_I d22 12 2 a0).toInt = (q_I δ 12 2 a0).toInt := congrArg Int32.toInt (by rw [e23]; rfl)
              first | (have q34 := te_addc (c := 1) (n := 1) rfl (q_I d22 12 2 a0) (by omega) (by omega); obtain ⟨f35, f36, f37⟩ := q34) | (obtain ⟨q34, f35, f36, f37⟩ := ti_addc (c := 1) (n := 1) rfl (q_I d22 12 2 a0))
              refine ok_bdv (fun d28 e29 => ?_)
              have i30 : RI ad h.1 δ0 d28 := by rw [e29]; exact cs_12_2 L i24 k_a0 (show 0 ≤ ((q_I d22 12 2 a0) + (1 : Int32)).toInt by omega) (show ((q_I d22 12 2 a0) + (1 : Int32)).toInt ≤ 500 by omega)
              have u38 := kp_I u25 e29
              have v39 : q_V d28 = q_V δ := ((show q_V d28 = q_V d22 by rw [e29]; rfl)).trans v26
              have v40 := kr_N v27 (show q_R d28 = q_R d22 by rw [e29]; rfl)
              refine ok_biv (fun vx41 e42 => ?_)
              first | (have q43 := te_addc (c := 1) (n := 1) rfl x6v (by omega) (by omega); rw [← e42] at q43; obtain ⟨f44, f45, f46⟩ := q43) | (obtain ⟨q43, f44, f45, f46⟩ : ∃ q : Int, vx41.toInt = x6v.toInt + (1 : Int) + 4294967296 * q ∧ -2147483648 ≤ vx41.toInt ∧ vx41.toInt ≤ 2147483647 := by rw [e42]; exact ti_addc (c := 1) (n := 1) rfl x6v)
              have f47 := cb_12_2 i30 k_a0
              have f48 : (q_I d28 12 2 a0).toInt = ((q_I d22 12 2 a0) + (1 : Int32)).toInt := congrArg Int32.toInt (show q_I d28 12 2 a0 = ((q_I d22 12 2 a0) + (1 : Int32)) by rw [e29]; exact rI_s)
              refine ok_mono (ih vx41 d28 i30 (show 0 ≤ (vx41).toInt by first | assumption | omega) (show (vx41).toInt ≤ 20 by first | assumption | omega) (show (q_I d28 12 2 a0).toInt + 20 - (vx41).toInt ≤ 500 by first | assumption | omega) (show 20 - (vx41).toInt < _ by omega)) (fun r49 hr50 => ?_)
              obtain ⟨i51, ⟨u54, u55, u56⟩, p52, p53⟩ := hr50
              have u57 := kp_t u38 u54
              have v58 : q_V r49.2 = q_V δ := (u55).trans v39
              have v59 := kr_t v40 u56
              have f60 := ti_b r49.1
              have f61 := cb_12_2 i51 k_a0
              have f62 := ti_b r49.1
              exact ⟨by assumption, ⟨kp_w (by decide) u57, v58, kr_w (by decide) v59⟩, by first | assumption | omega, by first | assumption | omega⟩
            · have c63 : x6v.toInt < (16 : Int) := o_nle h12
              unfold J_X12_feed_76
              obtain ⟨b64, o65, k66, n67, w68⟩ := gO_12_9 L k_a0
              obtain rfl := gS_12_9 L k_a0 o65
              refine ok_at o65 ?_
              have t69 := ti_tn (q_I δ 12 2 a0)
              refine ok_gd (fun hc70 => ?_) ?_
              · rcases hc70 with hc70 | hc70
                · have c71 : (q_I δ 12 2 a0).toInt < (0 : Int) := o_lt hc70
                  omega
                · omega
              refine ok_bdv (fun d72 e73 => ?_)
              have i74 : RI ad h.1 δ0 d72 := by rw [e73]; exact RI.sR L I w68
              have u75 := kp_N kp_r (show q_I d72 = q_I δ by rw [e73]; rfl)
              have v76 : q_V d72 = q_V δ := ((show q_V d72 = q_V δ by rw [e73]; rfl)).trans rfl
              have v77 := kr_s L (by decide) kr_r e73
              have f81 := cb_12_2 i74 k_a0
              have f82 : (q_I d72 12 2 a0).toInt = (q_I δ 12 2 a0).toInt := congrArg Int32.toInt (by rw [e73]; rfl)
              first | (have q84 := te_addc (c := 1) (n := 1) rfl (q_I d72 12 2 a0) (by omega) (by omega); obtain ⟨f85, f86, f87⟩ := q84) | (obtain ⟨q84, f85, f86, f87⟩ := ti_addc (c := 1) (n := 1) rfl (q_I d72 12 2 a0))
              refine ok_bdv (fun d78 e79 => ?_)
              have i80 : RI ad h.1 δ0 d78 := by rw [e79]; exact cs_12_2 L i74 k_a0 (show 0 ≤ ((q_I d72 12 2 a0) + (1 : Int32)).toInt by omega) (show ((q_I d72 12 2 a0) + (1 : Int32)).toInt ≤ 500 by omega)
              have u88 := kp_I u75 e79
              have v89 : q_V d78 = q_V δ := ((show q_V d78 = q_V d72 by rw [e79]; rfl)).trans v76
              have v90 := kr_N v77 (show q_R d78 = q_R d72 by rw [e79]; rfl)
              refine ok_biv (fun vx91 e92 => ?_)
              first | (have q93 := te_addc (c := 1) (n := 1) rfl x6v (by omega) (by omega); rw [← e92] at q93; obtain ⟨f94, f95, f96⟩ := q93) | (obtain ⟨q93, f94, f95, f96⟩ : ∃ q : Int, vx91.toInt = x6v.toInt + (1 : Int) + 4294967296 * q ∧ -2147483648 ≤ vx91.toInt ∧ vx91.toInt ≤ 2147483647 := by rw [e92]; exact ti_addc (c := 1) (n := 1) rfl x6v)
              have f97 := cb_12_2 i80 k_a0
              have f98 : (q_I d78 12 2 a0).toInt = ((q_I d72 12 2 a0) + (1 : Int32)).toInt := congrArg Int32.toInt (show q_I d78 12 2 a0 = ((q_I d72 12 2 a0) + (1 : Int32)) by rw [e79]; exact rI_s)
              refine ok_mono (ih vx91 d78 i80 (show 0 ≤ (vx91).toInt by first | assumption | omega) (show (vx91).toInt ≤ 20 by first | assumption | omega) (show (q_I d78 12 2 a0).toInt + 20 - (vx91).toInt ≤ 500 by first | assumption | omega) (show 20 - (vx91).toInt < _ by omega)) (fun r99 hr100 => ?_)
              obtain ⟨i101, ⟨u104, u105, u106⟩, p102, p103⟩ := hr100
              have u107 := kp_t u88 u104
              have v108 : q_V r99.2 = q_V δ := (u105).trans v89
              have v109 := kr_t v90 u106
              have f110 := ti_b r99.1
              have f111 := cb_12_2 i101 k_a0
              have f112 := ti_b r99.1
              exact ⟨by assumption, ⟨kp_w (by decide) u107, v108, kr_w (by decide) v109⟩, by first | assumption | omega, by first | assumption | omega⟩
          · have c113 : x6v.toInt < (12 : Int) := o_nle h10
            unfold J_X12_feed_76
            obtain ⟨b114, o115, k116, n117, w118⟩ := gO_12_9 L k_a0
            obtain rfl := gS_12_9 L k_a0 o115
            refine ok_at o115 ?_
            have t119 := ti_tn (q_I δ 12 2 a0)
            refine ok_gd (fun hc120 => ?_) ?_
            · rcases hc120 with hc120 | hc120
              · have c121 : (q_I δ 12 2 a0).toInt < (0 : Int) := o_lt hc120
                omega
              · omega
            refine ok_bdv (fun d122 e123 => ?_)
            have i124 : RI ad h.1 δ0 d122 := by rw [e123]; exact RI.sR L I w118
            have u125 := kp_N kp_r (show q_I d122 = q_I δ by rw [e123]; rfl)
            have v126 : q_V d122 = q_V δ := ((show q_V d122 = q_V δ by rw [e123]; rfl)).trans rfl
            have v127 := kr_s L (by decide) kr_r e123
            have f131 := cb_12_2 i124 k_a0
            have f132 : (q_I d122 12 2 a0).toInt = (q_I δ 12 2 a0).toInt := congrArg Int32.toInt (by rw [e123]; rfl)
            first | (have q134 := te_addc (c := 1) (n := 1) rfl (q_I d122 12 2 a0) (by omega) (by omega); obtain ⟨f135, f136, f137⟩ := q134) | (obtain ⟨q134, f135, f136, f137⟩ := ti_addc (c := 1) (n := 1) rfl (q_I d122 12 2 a0))
            refine ok_bdv (fun d128 e129 => ?_)
            have i130 : RI ad h.1 δ0 d128 := by rw [e129]; exact cs_12_2 L i124 k_a0 (show 0 ≤ ((q_I d122 12 2 a0) + (1 : Int32)).toInt by omega) (show ((q_I d122 12 2 a0) + (1 : Int32)).toInt ≤ 500 by omega)
            have u138 := kp_I u125 e129
            have v139 : q_V d128 = q_V δ := ((show q_V d128 = q_V d122 by rw [e129]; rfl)).trans v126
            have v140 := kr_N v127 (show q_R d128 = q_R d122 by rw [e129]; rfl)
            refine ok_biv (fun vx141 e142 => ?_)
            first | (have q143 := te_addc (c := 1) (n := 1) rfl x6v (by omega) (by omega); rw [← e142] at q143; obtain ⟨f144, f145, f146⟩ := q143) | (obtain ⟨q143, f144, f145, f146⟩ : ∃ q : Int, vx141.toInt = x6v.toInt + (1 : Int) + 4294967296 * q ∧ -2147483648 ≤ vx141.toInt ∧ vx141.toInt ≤ 2147483647 := by rw [e142]; exact ti_addc (c := 1) (n := 1) rfl x6v)
            have f147 := cb_12_2 i130 k_a0
            have f148 : (q_I d128 12 2 a0).toInt = ((q_I d122 12 2 a0) + (1 : Int32)).toInt := congrArg Int32.toInt (show q_I d128 12 2 a0 = ((q_I d122 12 2 a0) + (1 : Int32)) by rw [e129]; exact rI_s)
            refine ok_mono (ih vx141 d128 i130 (show 0 ≤ (vx141).toInt by first | assumption | omega) (show (vx141).toInt ≤ 20 by first | assumption | omega) (show (q_I d128 12 2 a0).toInt + 20 - (vx141).toInt ≤ 500 by first | assumption | omega) (show 20 - (vx141).toInt < _ by omega)) (fun r149 hr150 => ?_)
            obtain ⟨i151, ⟨u154, u155, u156⟩, p152, p153⟩ := hr150
            have u157 := kp_t u138 u154
            have v158 : q_V r149.2 = q_V δ := (u155).trans v139
            have v159 := kr_t v140 u156
            have f160 := ti_b r149.1
            have f161 := cb_12_2 i151 k_a0
            have f162 := ti_b r149.1
            exact ⟨by assumption, ⟨kp_w (by decide) u157, v158, kr_w (by decide) v159⟩, by first | assumption | omega, by first | assumption | omega⟩
        · have c163 : x6v.toInt < (8 : Int) := o_nle h8
          unfold J_X12_feed_76
          obtain ⟨b164, o165, k166, n167, w168⟩ := gO_12_9 L k_a0
          obtain rfl := gS_12_9 L k_a0 o165
          refine ok_at o165 ?_
          have t169 := ti_tn (q_I δ 12 2 a0)
          refine ok_gd (fun hc170 => ?_) ?_
          · rcases hc170 with hc170 | hc170
            · have c171 : (q_I δ 12 2 a0).toInt < (0 : Int) := o_lt hc170
              omega
            · omega
          refine ok_bdv (fun d172 e173 => ?_)
          have i174 : RI ad h.1 δ0 d172 := by rw [e173]; exact RI.sR L I w168
          have u175 := kp_N kp_r (show q_I d172 = q_I δ by rw [e173]; rfl)
          have v176 : q_V d172 = q_V δ := ((show q_V d172 = q_V δ by rw [e173]; rfl)).trans rfl
          have v177 := kr_s L (by decide) kr_r e173
          have f181 := cb_12_2 i174 k_a0
          have f182 : (q_I d172 12 2 a0).toInt = (q_I δ 12 2 a0).toInt := congrArg Int32.toInt (by rw [e173]; rfl)
          first | (have q184 := te_addc (c := 1) (n := 1) rfl (q_I d172 12 2 a0) (by omega) (by omega); obtain ⟨f185, f186, f187⟩ := q184) | (obtain ⟨q184, f185, f186, f187⟩ := ti_addc (c := 1) (n := 1) rfl (q_I d172 12 2 a0))
          refine ok_bdv (fun d178 e179 => ?_)
          have i180 : RI ad h.1 δ0 d178 := by rw [e179]; exact cs_12_2 L i174 k_a0 (show 0 ≤ ((q_I d172 12 2 a0) + (1 : Int32)).toInt by omega) (show ((q_I d172 12 2 a0) + (1 : Int32)).toInt ≤ 500 by omega)
          have u188 := kp_I u175 e179
          have v189 : q_V d178 = q_V δ := ((show q_V d178 = q_V d172 by rw [e179]; rfl)).trans v176
          have v190 := kr_N v177 (show q_R d178 = q_R d172 by rw [e179]; rfl)
          refine ok_biv (fun vx191 e192 => ?_)
          first | (have q193 := te_addc (c := 1) (n := 1) rfl x6v (by omega) (by omega); rw [← e192] at q193; obtain ⟨f194, f195, f196⟩ := q193) | (obtain ⟨q193, f194, f195, f196⟩ : ∃ q : Int, vx191.toInt = x6v.toInt + (1 : Int) + 4294967296 * q ∧ -2147483648 ≤ vx191.toInt ∧ vx191.toInt ≤ 2147483647 := by rw [e192]; exact ti_addc (c := 1) (n := 1) rfl x6v)
          have f197 := cb_12_2 i180 k_a0
          have f198 : (q_I d178 12 2 a0).toInt = ((q_I d172 12 2 a0) + (1 : Int32)).toInt := congrArg Int32.toInt (show q_I d178 12 2 a0 = ((q_I d172 12 2 a0) + (1 : Int32)) by rw [e179]; exact rI_s)
          refine ok_mono (ih vx191 d178 i180 (show 0 ≤ (vx191).toInt by first | assumption | omega) (show (vx191).toInt ≤ 20 by first | assumption | omega) (show (q_I d178 12 2 a0).toInt + 20 - (vx191).toInt ≤ 500 by first | assumption | omega) (show 20 - (vx191).toInt < _ by omega)) (fun r199 hr200 => ?_)
          obtain ⟨i201, ⟨u204, u205, u206⟩, p202, p203⟩ := hr200
          have u207 := kp_t u188 u204
          have v208 : q_V r199.2 = q_V δ := (u205).trans v189
          have v209 := kr_t v190 u206
          have f210 := ti_b r199.1
          have f211 := cb_12_2 i201 k_a0
          have f212 := ti_b r199.1
          exact ⟨by assumption, ⟨kp_w (by decide) u207, v208, kr_w (by decide) v209⟩, by first | assumption | omega, by first | assumption | omega⟩
      · have c213 : x6v.toInt < (4 : Int) := o_nle h6
        unfold J_X12_feed_76
        obtain ⟨b214, o215, k216, n217, w218⟩ := gO_12_9 L k_a0
        obtain rfl := gS_12_9 L k_a0 o215
        refine ok_at o215 ?_
        have t219 := ti_tn (q_I δ 12 2 a0)
        refine ok_gd (fun hc220 => ?_) ?_
        · rcases hc220 with hc220 | hc220
          · have c221 : (q_I δ 12 2 a0).toInt < (0 : Int) := o_lt hc220
            omega
          · omega
        refine ok_bdv (fun d222 e223 => ?_)
        have i224 : RI ad h.1 δ0 d222 := by rw [e223]; exact RI.sR L I w218
        have u225 := kp_N kp_r (show q_I d222 = q_I δ by rw [e223]; rfl)
        have v226 : q_V d222 = q_V δ := ((show q_V d222 = q_V δ by rw [e223]; rfl)).trans rfl
        have v227 := kr_s L (by decide) kr_r e223
        have f231 := cb_12_2 i224 k_a0
        have f232 : (q_I d222 12 2 a0).toInt = (q_I δ 12 2 a0).toInt := congrArg Int32.toInt (by rw [e223]; rfl)
        first | (have q234 := te_addc (c := 1) (n := 1) rfl (q_I d222 12 2 a0) (by omega) (by omega); obtain ⟨f235, f236, f237⟩ := q234) | (obtain ⟨q234, f235, f236, f237⟩ := ti_addc (c := 1) (n := 1) rfl (q_I d222 12 2 a0))
        refine ok_bdv (fun d228 e229 => ?_)
        have i230 : RI ad h.1 δ0 d228 := by rw [e229]; exact cs_12_2 L i224 k_a0 (show 0 ≤ ((q_I d222 12 2 a0) + (1 : Int32)).toInt by omega) (show ((q_I d222 12 2 a0) + (1 : Int32)).toInt ≤ 500 by omega)
        have u238 := kp_I u225 e229
        have v239 : q_V d228 = q_V δ := ((show q_V d228 = q_V d222 by rw [e229]; rfl)).trans v226
        have v240 := kr_N v227 (show q_R d228 = q_R d222 by rw [e229]; rfl)
        refine ok_biv (fun vx241 e242 => ?_)
        first | (have q243 := te_addc (c := 1) (n := 1) rfl x6v (by omega) (by omega); rw [← e242] at q243; obtain ⟨f244, f245, f246⟩ := q243) | (obtain ⟨q243, f244, f245, f246⟩ : ∃ q : Int, vx241.toInt = x6v.toInt + (1 : Int) + 4294967296 * q ∧ -2147483648 ≤ vx241.toInt ∧ vx241.toInt ≤ 2147483647 := by rw [e242]; exact ti_addc (c := 1) (n := 1) rfl x6v)
        have f247 := cb_12_2 i230 k_a0
        have f248 : (q_I d228 12 2 a0).toInt = ((q_I d222 12 2 a0) + (1 : Int32)).toInt := congrArg Int32.toInt (show q_I d228 12 2 a0 = ((q_I d222 12 2 a0) + (1 : Int32)) by rw [e229]; exact rI_s)
        refine ok_mono (ih vx241 d228 i230 (show 0 ≤ (vx241).toInt by first | assumption | omega) (show (vx241).toInt ≤ 20 by first | assumption | omega) (show (q_I d228 12 2 a0).toInt + 20 - (vx241).toInt ≤ 500 by first | assumption | omega) (show 20 - (vx241).toInt < _ by omega)) (fun r249 hr250 => ?_)
        obtain ⟨i251, ⟨u254, u255, u256⟩, p252, p253⟩ := hr250
        have u257 := kp_t u238 u254
        have v258 : q_V r249.2 = q_V δ := (u255).trans v239
        have v259 := kr_t v240 u256
        have f260 := ti_b r249.1
        have f261 := cb_12_2 i251 k_a0
        have f262 := ti_b r249.1
        exact ⟨by assumption, ⟨kp_w (by decide) u257, v258, kr_w (by decide) v259⟩, by first | assumption | omega, by first | assumption | omega⟩
set_option maxHeartbeats 4000000 in
theorem k_X12_feed {ad : List Nat} {h : hp} (L : Lay TLx ad h) {δ0 : dp} {N : Nat} (hN : 10000000 ≤ N) {a0 : Nat} {x1 : Int32} {x2 : Int32} {x3 : Int32} {x4 : Int32} {x5 : Int32} (k_a0 : q_K h.1 a0 = 12) {δ : dp} (I : RI ad h.1 δ0 δ) : ok (D_X12_feed N h.1 a0 x1 x2 x3 x4 x5 δ) (fun r => RI ad h.1 δ0 r.2 ∧ (kp [(12, 0), (12, 2)] δ r.2 ∧ q_V r.2 = q_V δ ∧ kr ad [101] δ r.2) ∧ ((q_I δ 12 2 a0).toInt + 20 ≤ 500 → (r.1).toInt = (q_I δ 12 2 a0).toInt + 20 ∧ (q_I r.2 12 2 a0).toInt = (q_I δ 12 2 a0).toInt + 20) ∧ (500 < (q_I δ 12 2 a0).toInt + 20 → (r.1).toInt = -1 ∧ (q_I r.2 12 2 a0).toInt = (q_I δ 12 2 a0).toInt)) := by
  unfold D_X12_feed
  refine ok_bdv (fun d1 e2 => ?_)
  have i3 : RI ad h.1 δ0 d1 := by rw [e2]; exact cs_12_0 L I
  have u4 := kp_I kp_r e2
  have v5 : q_V d1 = q_V δ := ((show q_V d1 = q_V δ by rw [e2]; rfl)).trans rfl
  have v6 := kr_N kr_r (show q_R d1 = q_R δ by rw [e2]; rfl)
  have f7 := cb_12_2 i3 k_a0
  have f8 : (q_I d1 12 2 a0).toInt = (q_I δ 12 2 a0).toInt := congrArg Int32.toInt (by rw [e2]; exact rI_o (by decide))
  have f9 := cb_12_2 I k_a0
  first | (have q11 := te_addc (c := 20) (n := 20) rfl (q_I d1 12 2 a0) (by omega) (by omega); obtain ⟨f12, f13, f14⟩ := q11) | (obtain ⟨q11, f12, f13, f14⟩ := ti_addc (c := 20) (n := 20) rfl (q_I d1 12 2 a0))
  refine ok_ite (fun h15 => ?_) (fun h15 => ?_)
  · have c16 : ((q_I d1 12 2 a0) + (20 : Int32)).toInt ≤ (500 : Int) := o_le h15
    refine ok_mono (kl_X12_feed_23 L hN   k_a0 _ (0 : Int32) d1 i3 (show 0 ≤ (0 : Int) by first | assumption | omega) (show (0 : Int) ≤ 20 by first | assumption | omega) (show (q_I d1 12 2 a0).toInt + 20 - (0 : Int) ≤ 500 by first | assumption | omega) (show 20 - (0 : Int) < _ by omega)) (fun r17 hr18 => ?_)
    obtain ⟨i19, ⟨u22, u23, u24⟩, p20, p21⟩ := hr18
    have u25 := kp_t u4 u22
    have v26 : q_V r17.2 = q_V δ := (u23).trans v5
    have v27 := kr_t v6 u24
    have f28 := ti_b r17.1
    replace p20 : (r17.1).toInt = (q_I d1 12 2 a0).toInt + 20 - (0 : Int) := p20
    have f29 := cb_12_2 i19 k_a0
    replace p21 : (q_I r17.2 12 2 a0).toInt = (q_I d1 12 2 a0).toInt + 20 - (0 : Int) := p21
    have f30 := ti_b r17.1
    exact ⟨by assumption, ⟨kp_w (by decide) u25, v26, kr_w (by decide) v27⟩, by first | assumption | omega, by first | assumption | omega⟩
  · have c31 : (500 : Int) < ((q_I d1 12 2 a0) + (20 : Int32)).toInt := o_nle h15
    exact ok_some (show RI ad h.1 δ0 d1 ∧ (kp [(12, 0), (12, 2)] δ d1 ∧ q_V d1 = q_V δ ∧ kr ad [101] δ d1) ∧ ((q_I δ 12 2 a0).toInt + 20 ≤ 500 → (-1 : Int) = (q_I δ 12 2 a0).toInt + 20 ∧ (q_I d1 12 2 a0).toInt = (q_I δ 12 2 a0).toInt + 20) ∧ (500 < (q_I δ 12 2 a0).toInt + 20 → (-1 : Int) = -1 ∧ (q_I d1 12 2 a0).toInt = (q_I δ 12 2 a0).toInt) from ⟨i3, ⟨kp_w (by decide) u4, v5, kr_w (by decide) v6⟩, by first | assumption | omega, by first | assumption | omega⟩)
set_option maxHeartbeats 4000000 in
theorem k_X12_fine {ad : List Nat} {h : hp} (L : Lay TLx ad h) {δ0 : dp} {N : Nat} (hN : 10000000 ≤ N) {a0 : Nat} (k_a0 : q_K h.1 a0 = 12) {δ : dp} (I : RI ad h.1 δ0 δ) : ok (D_X12_fine N h.1 a0 δ) (fun r => r.2 = δ ∧ bo (r.1) ∧ ((r.1).toInt = 1 → (q_I δ 12 5 a0).toInt = -1) ∧ ((r.1).toInt = 0 → (q_I δ 12 5 a0).toInt ≠ -1)) := by
  unfold D_X12_fine
  have f1 := ti_b (q_I δ 12 5 a0)
  refine ok_ite (fun h2 => ?_) (fun h2 => ?_)
  · have c3 : (q_I δ 12 5 a0).toInt = (-1 : Int) := o_eq h2
    unfold J_X12_fine_13
    refine ok_gp (by decide) ?_
    exact ok_some (show δ = δ ∧ bo ((1 : Int32)) ∧ ((1 : Int) = 1 → (q_I δ 12 5 a0).toInt = -1) ∧ ((1 : Int) = 0 → (q_I δ 12 5 a0).toInt ≠ -1) from ⟨rfl, bo_1, by first | assumption | omega, by first | assumption | omega⟩)
  · have c4 : (q_I δ 12 5 a0).toInt ≠ (-1 : Int) := o_ne h2
    unfold J_X12_fine_13
    refine ok_gp (by decide) ?_
    exact ok_some (show δ = δ ∧ bo ((0 : Int32)) ∧ ((0 : Int) = 1 → (q_I δ 12 5 a0).toInt = -1) ∧ ((0 : Int) = 0 → (q_I δ 12 5 a0).toInt ≠ -1) from ⟨rfl, bo_0, by first | assumption | omega, by first | assumption | omega⟩)
set_option maxHeartbeats 4000000 in
theorem k_X12_wrong {ad : List Nat} {h : hp} (L : Lay TLx ad h) {δ0 : dp} {N : Nat} (hN : 10000000 ≤ N) {a0 : Nat} {x1 : Int32} {x2 : Int32} (k_a0 : q_K h.1 a0 = 12) {δ : dp} (z0 : 0 ≤ (x2).toInt) (I : RI ad h.1 δ0 δ) : ok (D_X12_wrong N h.1 a0 x1 x2 δ) (fun r => RI ad h.1 δ0 r ∧ (kp [(12, 5), (12, 6)] δ r ∧ q_V r = q_V δ ∧ q_R r = q_R δ ∧ kr ad [] δ r) ∧ (q_I r 12 5 a0).toInt ≠ -1) := by
  unfold D_X12_wrong
  have f1 := ti_b x2
  have f2 := ti_b (q_I δ 12 5 a0)
  refine ok_ite (fun h3 => ?_) (fun h3 => ?_)
  · have c4 : (q_I δ 12 5 a0).toInt = (-1 : Int) := o_eq h3
    refine ok_bdv (fun d5 e6 => ?_)
    have i7 : RI ad h.1 δ0 d5 := by rw [e6]; exact cs_12_5 L I
    have u8 := kp_I kp_r e6
    have v9 : q_V d5 = q_V δ := ((show q_V d5 = q_V δ by rw [e6]; rfl)).trans rfl
    have v10 : q_R d5 = q_R δ := ((show q_R d5 = q_R δ by rw [e6]; rfl)).trans rfl
    have v11 := kr_N kr_r (show q_R d5 = q_R δ by rw [e6]; rfl)
    have f15 := ti_b x1
    refine ok_bdv (fun d12 e13 => ?_)
    have i14 : RI ad h.1 δ0 d12 := by rw [e13]; exact cs_12_6 L i7
    have u16 := kp_I u8 e13
    have v17 : q_V d12 = q_V δ := ((show q_V d12 = q_V d5 by rw [e13]; rfl)).trans v9
    have v18 : q_R d12 = q_R δ := ((show q_R d12 = q_R d5 by rw [e13]; rfl)).trans v10
    have v19 := kr_N v11 (show q_R d12 = q_R d5 by rw [e13]; rfl)
    have f20 := ti_b (q_I d12 12 5 a0)
    have f21 : (q_I d12 12 5 a0).toInt = (q_I d5 12 5 a0).toInt := congrArg Int32.toInt (by rw [e13]; exact rI_o (by decide))
    have f22 := ti_b (q_I d5 12 5 a0)
    have f23 : (q_I d5 12 5 a0).toInt = x2.toInt := congrArg Int32.toInt (show q_I d5 12 5 a0 = x2 by rw [e6]; exact rI_s)
    exact ok_some (show RI ad h.1 δ0 d12 ∧ (kp [(12, 5), (12, 6)] δ d12 ∧ q_V d12 = q_V δ ∧ q_R d12 = q_R δ ∧ kr ad [] δ d12) ∧ (q_I d12 12 5 a0).toInt ≠ -1 from ⟨i14, ⟨kp_w (by decide) u16, v17, v18, kr_w (by decide) v19⟩, by first | assumption | omega⟩)
  · have c24 : (q_I δ 12 5 a0).toInt ≠ (-1 : Int) := o_ne h3
    exact ok_some (show RI ad h.1 δ0 δ ∧ (kp [(12, 5), (12, 6)] δ δ ∧ q_V δ = q_V δ ∧ q_R δ = q_R δ ∧ kr ad [] δ δ) ∧ (q_I δ 12 5 a0).toInt ≠ -1 from ⟨I, ⟨kp_w (by decide) kp_r, rfl, rfl, kr_w (by decide) kr_r⟩, by first | assumption | omega⟩)
set_option maxHeartbeats 4000000 in
theorem kl_X12_here_0 {ad : List Nat} {h : hp} (L : Lay TLx ad h) {δ0 : dp} {N : Nat} (hN : 10000000 ≤ N) {a0 : Nat} (k_a0 : q_K h.1 a0 = 12) : ∀ (n : Nat) (δ : dp), RI ad h.1 δ0 δ → 501 - (q_I δ 12 4 a0).toInt < (n : Int) → ok (L_X12_here_0 N h.1 a0 n δ) (fun r => RI ad h.1 δ0 r.2 ∧ (kp [(12, 4)] δ r.2 ∧ q_V r.2 = q_V δ ∧ q_R r.2 = q_R δ ∧ kr ad [] δ r.2) ∧ (q_I δ 12 4 a0).toInt ≤ (q_I r.2 12 4 a0).toInt ∧ ((r.1).toInt ≠ 0 → (q_I r.2 12 4 a0).toInt < (q_I δ 12 3 a0).toInt ∧ (r.1).toInt = hc ad r.2 a0) ∧ ((q_I δ 12 4 a0).toInt < (q_I δ 12 3 a0).toInt → hc ad δ a0 ≠ 32 → (q_I r.2 12 4 a0).toInt = (q_I δ 12 4 a0).toInt ∧ (r.1).toInt = hc ad δ a0)) := by
  intro n
  induction n with
  | zero =>
    intro δ I hm
    have f1 := cb_12_4 I k_a0
    exfalso; omega
  | succ n ih =>
    intro δ I hm
    unfold L_X12_here_0
    have f1 := cb_12_4 I k_a0
    have f2 := cb_12_3 I k_a0
    refine ok_ite (fun h3 => ?_) (fun h3 => ?_)
    · have c4 : (q_I δ 12 3 a0).toInt ≤ (q_I δ 12 4 a0).toInt := o_le h3
      unfold J_X12_here_38
      refine ok_ite (fun h5 => ?_) (fun h5 => ?_)
      · have c6 : (q_I δ 12 3 a0).toInt ≤ (q_I δ 12 4 a0).toInt := o_le h5
        unfold J_X12_here_62
        have f7 : hc ad δ a0 = (q_R δ (Ad ad 101) (q_I δ 12 4 a0).toNatClampNeg).toInt := rfl
        have t8 := ti_tn (q_I δ 12 4 a0)
        have f9 := ti_b (q_R δ (Ad ad 101) (q_I δ 12 4 a0).toNatClampNeg)
        exact ok_some (show RI ad h.1 δ0 δ ∧ (kp [(12, 4)] δ δ ∧ q_V δ = q_V δ ∧ q_R δ = q_R δ ∧ kr ad [] δ δ) ∧ (q_I δ 12 4 a0).toInt ≤ (q_I δ 12 4 a0).toInt ∧ ((0 : Int) ≠ 0 → (q_I δ 12 4 a0).toInt < (q_I δ 12 3 a0).toInt ∧ (0 : Int) = hc ad δ a0) ∧ ((q_I δ 12 4 a0).toInt < (q_I δ 12 3 a0).toInt → hc ad δ a0 ≠ 32 → (q_I δ 12 4 a0).toInt = (q_I δ 12 4 a0).toInt ∧ (0 : Int) = hc ad δ a0) from ⟨I, ⟨kp_w (by decide) kp_r, rfl, rfl, kr_w (by decide) kr_r⟩, by first | assumption | omega, by first | assumption | omega, by first | assumption | omega⟩)
      · have c10 : (q_I δ 12 4 a0).toInt < (q_I δ 12 3 a0).toInt := o_nle h5
        obtain ⟨b11, o12, k13, n14, w15⟩ := gO_12_9 L k_a0
        obtain rfl := gS_12_9 L k_a0 o12
        refine ok_at o12 ?_
        have t16 := ti_tn (q_I δ 12 4 a0)
        refine ok_gd (fun hc17 => ?_) ?_
        · rcases hc17 with hc17 | hc17
          · have c18 : (q_I δ 12 4 a0).toInt < (0 : Int) := o_lt hc17
            omega
          · omega
        unfold J_X12_here_62
        have f19 := ti_b (q_R δ (Ad ad 101) (q_I δ 12 4 a0).toNatClampNeg)
        have f20 : hc ad δ a0 = (q_R δ (Ad ad 101) (q_I δ 12 4 a0).toNatClampNeg).toInt := rfl
        exact ok_some (show RI ad h.1 δ0 δ ∧ (kp [(12, 4)] δ δ ∧ q_V δ = q_V δ ∧ q_R δ = q_R δ ∧ kr ad [] δ δ) ∧ (q_I δ 12 4 a0).toInt ≤ (q_I δ 12 4 a0).toInt ∧ (((q_R δ (Ad ad 101) (q_I δ 12 4 a0).toNatClampNeg)).toInt ≠ 0 → (q_I δ 12 4 a0).toInt < (q_I δ 12 3 a0).toInt ∧ ((q_R δ (Ad ad 101) (q_I δ 12 4 a0).toNatClampNeg)).toInt = hc ad δ a0) ∧ ((q_I δ 12 4 a0).toInt < (q_I δ 12 3 a0).toInt → hc ad δ a0 ≠ 32 → (q_I δ 12 4 a0).toInt = (q_I δ 12 4 a0).toInt ∧ ((q_R δ (Ad ad 101) (q_I δ 12 4 a0).toNatClampNeg)).toInt = hc ad δ a0) from ⟨I, ⟨kp_w (by decide) kp_r, rfl, rfl, kr_w (by decide) kr_r⟩, by first | assumption | omega, by first | assumption | omega, by first | assumption | omega⟩)
    · have c21 : (q_I δ 12 4 a0).toInt < (q_I δ 12 3 a0).toInt := o_nle h3
      obtain ⟨b22, o23, k24, n25, w26⟩ := gO_12_9 L k_a0
      obtain rfl := gS_12_9 L k_a0 o23
      refine ok_at o23 ?_
      have t27 := ti_tn (q_I δ 12 4 a0)
      refine ok_gd (fun hc28 => ?_) ?_
      · rcases hc28 with hc28 | hc28
        · have c29 : (q_I δ 12 4 a0).toInt < (0 : Int) := o_lt hc28
          omega
        · omega
      have f30 := ti_b (q_R δ (Ad ad 101) (q_I δ 12 4 a0).toNatClampNeg)
      refine ok_ite (fun h31 => ?_) (fun h31 => ?_)
      · have c32 : (q_R δ (Ad ad 101) (q_I δ 12 4 a0).toNatClampNeg).toInt = (32 : Int) := o_eq h31
        first | (have q37 := te_addc (c := 1) (n := 1) rfl (q_I δ 12 4 a0) (by omega) (by omega); obtain ⟨f38, f39, f40⟩ := q37) | (obtain ⟨q37, f38, f39, f40⟩ := ti_addc (c := 1) (n := 1) rfl (q_I δ 12 4 a0))
        refine ok_bdv (fun d33 e34 => ?_)
        have i35 : RI ad h.1 δ0 d33 := by rw [e34]; exact cs_12_4 L I k_a0 (show 0 ≤ ((q_I δ 12 4 a0) + (1 : Int32)).toInt by omega) (show ((q_I δ 12 4 a0) + (1 : Int32)).toInt ≤ 500 by omega)
        have u41 := kp_I kp_r e34
        have v42 : q_V d33 = q_V δ := ((show q_V d33 = q_V δ by rw [e34]; rfl)).trans rfl
        have v43 : q_R d33 = q_R δ := ((show q_R d33 = q_R δ by rw [e34]; rfl)).trans rfl
        have v44 := kr_N kr_r (show q_R d33 = q_R δ by rw [e34]; rfl)
        have f45 := cb_12_4 i35 k_a0
        have f46 : (q_I d33 12 4 a0).toInt = ((q_I δ 12 4 a0) + (1 : Int32)).toInt := congrArg Int32.toInt (show q_I d33 12 4 a0 = ((q_I δ 12 4 a0) + (1 : Int32)) by rw [e34]; exact rI_s)
        refine ok_mono (ih d33 i35  (show 501 - (q_I d33 12 4 a0).toInt < _ by omega)) (fun r47 hr48 => ?_)
        obtain ⟨i49, ⟨u53, u54, u55, u56⟩, p50, p51, p52⟩ := hr48
        have u57 := kp_t u41 u53
        have v58 : q_V r47.2 = q_V δ := (u54).trans v42
        have v59 : q_R r47.2 = q_R δ := (u55).trans v43
        have v60 := kr_t v44 u56
        have f61 := cb_12_4 i49 k_a0
        have f62 : hc ad r47.2 a0 = (q_R r47.2 (Ad ad 101) (q_I r47.2 12 4 a0).toNatClampNeg).toInt := rfl
        have t63 := ti_tn (q_I r47.2 12 4 a0)
        have f64 : (q_R r47.2 (Ad ad 101) (q_I r47.2 12 4 a0).toNatClampNeg).toInt = (q_R d33 (Ad ad 101) (q_I r47.2 12 4 a0).toNatClampNeg).toInt := congrArg Int32.toInt (congrFun (u56 101 (by decide) (by decide) (by decide)) _)
        have f65 : (q_R d33 (Ad ad 101) (q_I r47.2 12 4 a0).toNatClampNeg).toInt = (q_R δ (Ad ad 101) (q_I r47.2 12 4 a0).toNatClampNeg).toInt := congrArg Int32.toInt (show q_R d33 (Ad ad 101) (q_I r47.2 12 4 a0).toNatClampNeg = _ by rw [e34]; rfl)
        have f66 := ti_b (q_R δ (Ad ad 101) (q_I r47.2 12 4 a0).toNatClampNeg)
        have f67 := ti_b (q_R d33 (Ad ad 101) (q_I r47.2 12 4 a0).toNatClampNeg)
        have f68 := ti_b (q_R r47.2 (Ad ad 101) (q_I r47.2 12 4 a0).toNatClampNeg)
        have f69 := ti_b r47.1
        have f70 := cb_12_3 i35 k_a0
        have f71 : (q_I d33 12 3 a0).toInt = (q_I δ 12 3 a0).toInt := congrArg Int32.toInt (by rw [e34]; exact rI_o (by decide))
        have f72 : hc ad d33 a0 = (q_R d33 (Ad ad 101) (q_I d33 12 4 a0).toNatClampNeg).toInt := rfl
        have t73 := ti_tn (q_I d33 12 4 a0)
        have f74 : (q_R d33 (Ad ad 101) (q_I d33 12 4 a0).toNatClampNeg).toInt = (q_R δ (Ad ad 101) (q_I d33 12 4 a0).toNatClampNeg).toInt := congrArg Int32.toInt (show q_R d33 (Ad ad 101) (q_I d33 12 4 a0).toNatClampNeg = _ by rw [e34]; rfl)
        have f75 := ti_b (q_R δ (Ad ad 101) (q_I d33 12 4 a0).toNatClampNeg)
        have f76 := ti_b (q_R d33 (Ad ad 101) (q_I d33 12 4 a0).toNatClampNeg)
        have f77 := ti_b r47.1
        have f78 : hc ad δ a0 = (q_R δ (Ad ad 101) (q_I δ 12 4 a0).toNatClampNeg).toInt := rfl
        exact ⟨by assumption, ⟨kp_w (by decide) u57, v58, v59, kr_w (by decide) v60⟩, by first | assumption | omega, by first | assumption | omega, by first | assumption | omega⟩
      · have c79 : (q_R δ (Ad ad 101) (q_I δ 12 4 a0).toNatClampNeg).toInt ≠ (32 : Int) := o_ne h31
        unfold J_X12_here_38
        refine ok_ite (fun h80 => ?_) (fun h80 => ?_)
        · have c81 : (q_I δ 12 3 a0).toInt ≤ (q_I δ 12 4 a0).toInt := o_le h80
          unfold J_X12_here_62
          have f82 : hc ad δ a0 = (q_R δ (Ad ad 101) (q_I δ 12 4 a0).toNatClampNeg).toInt := rfl
          exact ok_some (show RI ad h.1 δ0 δ ∧ (kp [(12, 4)] δ δ ∧ q_V δ = q_V δ ∧ q_R δ = q_R δ ∧ kr ad [] δ δ) ∧ (q_I δ 12 4 a0).toInt ≤ (q_I δ 12 4 a0).toInt ∧ ((0 : Int) ≠ 0 → (q_I δ 12 4 a0).toInt < (q_I δ 12 3 a0).toInt ∧ (0 : Int) = hc ad δ a0) ∧ ((q_I δ 12 4 a0).toInt < (q_I δ 12 3 a0).toInt → hc ad δ a0 ≠ 32 → (q_I δ 12 4 a0).toInt = (q_I δ 12 4 a0).toInt ∧ (0 : Int) = hc ad δ a0) from ⟨I, ⟨kp_w (by decide) kp_r, rfl, rfl, kr_w (by decide) kr_r⟩, by first | assumption | omega, by first | assumption | omega, by first | assumption | omega⟩)
        · have c83 : (q_I δ 12 4 a0).toInt < (q_I δ 12 3 a0).toInt := o_nle h80
          refine ok_at o23 ?_
          refine ok_gd (fun hc84 => ?_) ?_
          · rcases hc84 with hc84 | hc84
            · have c85 : (q_I δ 12 4 a0).toInt < (0 : Int) := o_lt hc84
              omega
            · omega
          unfold J_X12_here_62
          have f86 : hc ad δ a0 = (q_R δ (Ad ad 101) (q_I δ 12 4 a0).toNatClampNeg).toInt := rfl
          exact ok_some (show RI ad h.1 δ0 δ ∧ (kp [(12, 4)] δ δ ∧ q_V δ = q_V δ ∧ q_R δ = q_R δ ∧ kr ad [] δ δ) ∧ (q_I δ 12 4 a0).toInt ≤ (q_I δ 12 4 a0).toInt ∧ (((q_R δ (Ad ad 101) (q_I δ 12 4 a0).toNatClampNeg)).toInt ≠ 0 → (q_I δ 12 4 a0).toInt < (q_I δ 12 3 a0).toInt ∧ ((q_R δ (Ad ad 101) (q_I δ 12 4 a0).toNatClampNeg)).toInt = hc ad δ a0) ∧ ((q_I δ 12 4 a0).toInt < (q_I δ 12 3 a0).toInt → hc ad δ a0 ≠ 32 → (q_I δ 12 4 a0).toInt = (q_I δ 12 4 a0).toInt ∧ ((q_R δ (Ad ad 101) (q_I δ 12 4 a0).toNatClampNeg)).toInt = hc ad δ a0) from ⟨I, ⟨kp_w (by decide) kp_r, rfl, rfl, kr_w (by decide) kr_r⟩, by first | assumption | omega, by first | assumption | omega, by first | assumption | omega⟩)
set_option maxHeartbeats 4000000 in
theorem k_X12_here {ad : List Nat} {h : hp} (L : Lay TLx ad h) {δ0 : dp} {N : Nat} (hN : 10000000 ≤ N) {a0 : Nat} (k_a0 : q_K h.1 a0 = 12) {δ : dp} (I : RI ad h.1 δ0 δ) : ok (D_X12_here N h.1 a0 δ) (fun r => RI ad h.1 δ0 r.2 ∧ (kp [(12, 4)] δ r.2 ∧ q_V r.2 = q_V δ ∧ q_R r.2 = q_R δ ∧ kr ad [] δ r.2) ∧ (q_I δ 12 4 a0).toInt ≤ (q_I r.2 12 4 a0).toInt ∧ ((r.1).toInt ≠ 0 → (q_I r.2 12 4 a0).toInt < (q_I δ 12 3 a0).toInt ∧ (r.1).toInt = hc ad r.2 a0) ∧ ((q_I δ 12 4 a0).toInt < (q_I δ 12 3 a0).toInt → hc ad δ a0 ≠ 32 → (q_I r.2 12 4 a0).toInt = (q_I δ 12 4 a0).toInt ∧ (r.1).toInt = hc ad δ a0)) := by
  unfold D_X12_here
  have f1 := cb_12_4 I k_a0
  refine ok_mono (kl_X12_here_0 L hN   k_a0 _ δ I  (show 501 - (q_I δ 12 4 a0).toInt < _ by omega)) (fun r2 hr3 => ?_)
  obtain ⟨i4, ⟨u8, u9, u10, u11⟩, p5, p6, p7⟩ := hr3
  have u12 := kp_t kp_r u8
  have v13 : q_V r2.2 = q_V δ := (u9).trans rfl
  have v14 : q_R r2.2 = q_R δ := (u10).trans rfl
  have v15 := kr_t kr_r u11
  have f16 := cb_12_4 i4 k_a0
  have f17 : hc ad r2.2 a0 = (q_R r2.2 (Ad ad 101) (q_I r2.2 12 4 a0).toNatClampNeg).toInt := rfl
  have t18 := ti_tn (q_I r2.2 12 4 a0)
  have f19 : (q_R r2.2 (Ad ad 101) (q_I r2.2 12 4 a0).toNatClampNeg).toInt = (q_R δ (Ad ad 101) (q_I r2.2 12 4 a0).toNatClampNeg).toInt := congrArg Int32.toInt (congrFun (u11 101 (by decide) (by decide) (by decide)) _)
  have f20 := ti_b (q_R δ (Ad ad 101) (q_I r2.2 12 4 a0).toNatClampNeg)
  have f21 := ti_b (q_R r2.2 (Ad ad 101) (q_I r2.2 12 4 a0).toNatClampNeg)
  have f22 := ti_b r2.1
  have f23 := cb_12_3 I k_a0
  have f24 : hc ad δ a0 = (q_R δ (Ad ad 101) (q_I δ 12 4 a0).toNatClampNeg).toInt := rfl
  have t25 := ti_tn (q_I δ 12 4 a0)
  have f26 := ti_b (q_R δ (Ad ad 101) (q_I δ 12 4 a0).toNatClampNeg)
  have f27 := ti_b r2.1
  exact ⟨by assumption, ⟨kp_w (by decide) u12, v13, v14, kr_w (by decide) v15⟩, by first | assumption | omega, by first | assumption | omega, by first | assumption | omega⟩
set_option maxHeartbeats 4000000 in
theorem k_X12_isSmall {ad : List Nat} {h : hp} (L : Lay TLx ad h) {δ0 : dp} {N : Nat} (hN : 10000000 ≤ N) {x0 : Int32} {δ : dp} (I : RI ad h.1 δ0 δ) : ok (D_X12_isSmall N h.1 x0 δ) (fun r => r.2 = δ ∧ bo (r.1) ∧ ((r.1).toInt = 1 → 97 ≤ (x0).toInt ∧ (x0).toInt ≤ 122)) := by
  unfold D_X12_isSmall
  have f1 := ti_b x0
  refine ok_ite (fun h2 => ?_) (fun h2 => ?_)
  · have c3 : x0.toInt < (97 : Int) := o_lt h2
    unfold J_X12_isSmall_16
    unfold J_X12_isSmall_17
    refine ok_gp (by decide) ?_
    exact ok_some (show δ = δ ∧ bo ((0 : Int32)) ∧ ((0 : Int) = 1 → 97 ≤ (x0).toInt ∧ (x0).toInt ≤ 122) from ⟨rfl, bo_0, by first | assumption | omega⟩)
  · have c4 : (97 : Int) ≤ x0.toInt := o_nlt h2
    refine ok_ite (fun h5 => ?_) (fun h5 => ?_)
    · have c6 : (122 : Int) < x0.toInt := o_lt h5
      unfold J_X12_isSmall_16
      unfold J_X12_isSmall_17
      refine ok_gp (by decide) ?_
      exact ok_some (show δ = δ ∧ bo ((0 : Int32)) ∧ ((0 : Int) = 1 → 97 ≤ (x0).toInt ∧ (x0).toInt ≤ 122) from ⟨rfl, bo_0, by first | assumption | omega⟩)
    · have c7 : x0.toInt ≤ (122 : Int) := o_nlt h5
      unfold J_X12_isSmall_17
      refine ok_gp (by decide) ?_
      exact ok_some (show δ = δ ∧ bo ((1 : Int32)) ∧ ((1 : Int) = 1 → 97 ≤ (x0).toInt ∧ (x0).toInt ≤ 122) from ⟨rfl, bo_1, by first | assumption | omega⟩)
set_option maxHeartbeats 4000000 in
theorem k_X12_isDigit {ad : List Nat} {h : hp} (L : Lay TLx ad h) {δ0 : dp} {N : Nat} (hN : 10000000 ≤ N) {x0 : Int32} {δ : dp} (I : RI ad h.1 δ0 δ) : ok (D_X12_isDigit N h.1 x0 δ) (fun r => r.2 = δ ∧ bo (r.1) ∧ ((r.1).toInt = 1 → 48 ≤ (x0).toInt ∧ (x0).toInt ≤ 57)) := by
  unfold D_X12_isDigit
  have f1 := ti_b x0
  refine ok_ite (fun h2 => ?_) (fun h2 => ?_)
  · have c3 : x0.toInt < (48 : Int) := o_lt h2
    unfold J_X12_isDigit_16
    unfold J_X12_isDigit_17
    refine ok_gp (by decide) ?_
    exact ok_some (show δ = δ ∧ bo ((0 : Int32)) ∧ ((0 : Int) = 1 → 48 ≤ (x0).toInt ∧ (x0).toInt ≤ 57) from ⟨rfl, bo_0, by first | assumption | omega⟩)
  · have c4 : (48 : Int) ≤ x0.toInt := o_nlt h2
    refine ok_ite (fun h5 => ?_) (fun h5 => ?_)
    · have c6 : (57 : Int) < x0.toInt := o_lt h5
      unfold J_X12_isDigit_16
      unfold J_X12_isDigit_17
      refine ok_gp (by decide) ?_
      exact ok_some (show δ = δ ∧ bo ((0 : Int32)) ∧ ((0 : Int) = 1 → 48 ≤ (x0).toInt ∧ (x0).toInt ≤ 57) from ⟨rfl, bo_0, by first | assumption | omega⟩)
    · have c7 : x0.toInt ≤ (57 : Int) := o_nlt h5
      unfold J_X12_isDigit_17
      refine ok_gp (by decide) ?_
      exact ok_some (show δ = δ ∧ bo ((1 : Int32)) ∧ ((1 : Int) = 1 → 48 ≤ (x0).toInt ∧ (x0).toInt ≤ 57) from ⟨rfl, bo_1, by first | assumption | omega⟩)
set_option maxHeartbeats 4000000 in
theorem kl_X12_word_14 {ad : List Nat} {h : hp} (L : Lay TLx ad h) {δ0 : dp} {N : Nat} (hN : 10000000 ≤ N) {a0 : Nat} (k_a0 : q_K h.1 a0 = 12) : ∀ (n : Nat) (x1v : Int32) (x2v : Int32) (x3v : Int32) (δ : dp), RI ad h.1 δ0 δ → 0 ≤ (x3v).toInt → (x3v).toInt ≤ 500 → ((x3v).toInt = (q_I δ 12 4 a0).toInt ∨ (q_I δ 12 4 a0).toInt < (q_I δ 12 3 a0).toInt ∧ 97 ≤ hc ad δ a0 ∧ hc ad δ a0 ≤ 122) → ((x1v).toInt = 0 ∨ (q_I δ 12 4 a0).toInt < (q_I δ 12 3 a0).toInt ∧ 97 ≤ hc ad δ a0 ∧ hc ad δ a0 ≤ 122) → 500 - (x3v).toInt < (n : Int) → ok (L_X12_word_14 N h.1 a0 n x1v x2v x3v δ) (fun r => RI ad h.1 δ0 r.2 ∧ (kp [(12, 4)] δ r.2 ∧ q_V r.2 = q_V δ ∧ q_R r.2 = q_R δ ∧ kr ad [] δ r.2) ∧ (q_I δ 12 4 a0).toInt ≤ (q_I r.2 12 4 a0).toInt ∧ ((r.1).toInt ≠ 0 → (q_I r.2 12 4 a0).toInt < (q_I δ 12 3 a0).toInt ∧ 97 ≤ hc ad r.2 a0 ∧ hc ad r.2 a0 ≤ 122)) := by
  intro n
  induction n with
  | zero =>
    intro x1v x2v x3v δ I j0 j1 j2 j3 hm
    have f1 : hc ad δ a0 = (q_R δ (Ad ad 101) (q_I δ 12 4 a0).toNatClampNeg).toInt := rfl
    have f2 := cb_12_4 I k_a0
    have t3 := ti_tn (q_I δ 12 4 a0)
    have f4 := ti_b (q_R δ (Ad ad 101) (q_I δ 12 4 a0).toNatClampNeg)
    have f5 := ti_b x3v
    have f6 := cb_12_3 I k_a0
    have f7 := ti_b x1v
    exfalso; omega
  | succ n ih =>
    intro x1v x2v x3v δ I j0 j1 j2 j3 hm
    unfold L_X12_word_14
    have f1 : hc ad δ a0 = (q_R δ (Ad ad 101) (q_I δ 12 4 a0).toNatClampNeg).toInt := rfl
    have f2 := cb_12_4 I k_a0
    have t3 := ti_tn (q_I δ 12 4 a0)
    have f4 := ti_b (q_R δ (Ad ad 101) (q_I δ 12 4 a0).toNatClampNeg)
    have f5 := ti_b x3v
    have f6 := cb_12_3 I k_a0
    have f7 := ti_b x1v
    have hint0 : x3v.toInt = (q_I δ 12 4 a0).toInt → (q_R δ (Ad ad 101) x3v.toNatClampNeg).toInt = hc ad δ a0 := fun e => by rw [i_eq e]; rfl
    refine ok_ite (fun h8 => ?_) (fun h8 => ?_)
    · have c9 : (q_I δ 12 3 a0).toInt ≤ x3v.toInt := o_le h8
      unfold J_X12_word_67
      have f10 := ti_b x2v
      refine ok_ite (fun h11 => ?_) (fun h11 => ?_)
      · have c12 : x2v.toInt ≤ (6 : Int) := o_le h11
        unfold J_X12_word_78
        exact ok_some (show RI ad h.1 δ0 δ ∧ (kp [(12, 4)] δ δ ∧ q_V δ = q_V δ ∧ q_R δ = q_R δ ∧ kr ad [] δ δ) ∧ (q_I δ 12 4 a0).toInt ≤ (q_I δ 12 4 a0).toInt ∧ ((x1v).toInt ≠ 0 → (q_I δ 12 4 a0).toInt < (q_I δ 12 3 a0).toInt ∧ 97 ≤ hc ad δ a0 ∧ hc ad δ a0 ≤ 122) from ⟨I, ⟨kp_w (by decide) kp_r, rfl, rfl, kr_w (by decide) kr_r⟩, by first | assumption | omega, by first | assumption | omega⟩)
      · have c13 : (6 : Int) < x2v.toInt := o_nle h11
        unfold J_X12_word_78
        exact ok_some (show RI ad h.1 δ0 δ ∧ (kp [(12, 4)] δ δ ∧ q_V δ = q_V δ ∧ q_R δ = q_R δ ∧ kr ad [] δ δ) ∧ (q_I δ 12 4 a0).toInt ≤ (q_I δ 12 4 a0).toInt ∧ ((0 : Int) ≠ 0 → (q_I δ 12 4 a0).toInt < (q_I δ 12 3 a0).toInt ∧ 97 ≤ hc ad δ a0 ∧ hc ad δ a0 ≤ 122) from ⟨I, ⟨kp_w (by decide) kp_r, rfl, rfl, kr_w (by decide) kr_r⟩, by first | assumption | omega, by first | assumption | omega⟩)
    · have c14 : x3v.toInt < (q_I δ 12 3 a0).toInt := o_nle h8
      obtain ⟨b15, o16, k17, n18, w19⟩ := gO_12_9 L k_a0
      obtain rfl := gS_12_9 L k_a0 o16
      refine ok_at o16 ?_
      have t20 := ti_tn x3v
      refine ok_gd (fun hc21 => ?_) ?_
      · rcases hc21 with hc21 | hc21
        · have c22 : x3v.toInt < (0 : Int) := o_lt hc21
          omega
        · omega
      refine ok_bind (k_X12_isSmall L hN (x0 := (q_R δ (Ad ad 101) x3v.toNatClampNeg))  I) (fun r23 hr24 => ?_)
      obtain ⟨i25, p26, p27⟩ := hr24
      try rw [i25]
      have f28 := bo_t p26
      have f29 := ti_b r23.1
      have f30 := ti_b (q_R δ (Ad ad 101) x3v.toNatClampNeg)
      have f31 := ti_b r23.1
      refine ok_ite (fun h32 => ?_) (fun h32 => ?_)
      · have c33 : r23.1.toInt = (0 : Int) := o_eq h32
        unfold J_X12_word_67
        have f34 := ti_b x2v
        refine ok_ite (fun h35 => ?_) (fun h35 => ?_)
        · have c36 : x2v.toInt ≤ (6 : Int) := o_le h35
          unfold J_X12_word_78
          exact ok_some (show RI ad h.1 δ0 δ ∧ (kp [(12, 4)] δ δ ∧ q_V δ = q_V δ ∧ q_R δ = q_R δ ∧ kr ad [] δ δ) ∧ (q_I δ 12 4 a0).toInt ≤ (q_I δ 12 4 a0).toInt ∧ ((x1v).toInt ≠ 0 → (q_I δ 12 4 a0).toInt < (q_I δ 12 3 a0).toInt ∧ 97 ≤ hc ad δ a0 ∧ hc ad δ a0 ≤ 122) from ⟨I, ⟨kp_w (by decide) kp_r, rfl, rfl, kr_w (by decide) kr_r⟩, by first | assumption | omega, by first | assumption | omega⟩)
        · have c37 : (6 : Int) < x2v.toInt := o_nle h35
          unfold J_X12_word_78
          exact ok_some (show RI ad h.1 δ0 δ ∧ (kp [(12, 4)] δ δ ∧ q_V δ = q_V δ ∧ q_R δ = q_R δ ∧ kr ad [] δ δ) ∧ (q_I δ 12 4 a0).toInt ≤ (q_I δ 12 4 a0).toInt ∧ ((0 : Int) ≠ 0 → (q_I δ 12 4 a0).toInt < (q_I δ 12 3 a0).toInt ∧ 97 ≤ hc ad δ a0 ∧ hc ad δ a0 ≤ 122) from ⟨I, ⟨kp_w (by decide) kp_r, rfl, rfl, kr_w (by decide) kr_r⟩, by first | assumption | omega, by first | assumption | omega⟩)
      · have c38 : r23.1.toInt ≠ (0 : Int) := o_ne h32
        have f39 := ti_b x2v
        refine ok_ite (fun h40 => ?_) (fun h40 => ?_)
        · have c41 : (6 : Int) ≤ x2v.toInt := o_le h40
          unfold J_X12_word_57
          refine ok_biv (fun vx42 e43 => ?_)
          first | (have q44 := te_addc (c := 1) (n := 1) rfl x2v (by omega) (by omega); rw [← e43] at q44; obtain ⟨f45, f46, f47⟩ := q44) | (obtain ⟨q44, f45, f46, f47⟩ : ∃ q : Int, vx42.toInt = x2v.toInt + (1 : Int) + 4294967296 * q ∧ -2147483648 ≤ vx42.toInt ∧ vx42.toInt ≤ 2147483647 := by rw [e43]; exact ti_addc (c := 1) (n := 1) rfl x2v)
          refine ok_biv (fun vx48 e49 => ?_)
          first | (have q50 := te_addc (c := 1) (n := 1) rfl x3v (by omega) (by omega); rw [← e49] at q50; obtain ⟨f51, f52, f53⟩ := q50) | (obtain ⟨q50, f51, f52, f53⟩ : ∃ q : Int, vx48.toInt = x3v.toInt + (1 : Int) + 4294967296 * q ∧ -2147483648 ≤ vx48.toInt ∧ vx48.toInt ≤ 2147483647 := by rw [e49]; exact ti_addc (c := 1) (n := 1) rfl x3v)
          refine ok_mono (ih (0 : Int32) vx42 vx48 δ I (show 0 ≤ (vx48).toInt by first | assumption | omega) (show (vx48).toInt ≤ 500 by first | assumption | omega) (show (vx48).toInt = (q_I δ 12 4 a0).toInt ∨ (q_I δ 12 4 a0).toInt < (q_I δ 12 3 a0).toInt ∧ 97 ≤ hc ad δ a0 ∧ hc ad δ a0 ≤ 122 by first | assumption | omega) (show (0 : Int) = 0 ∨ (q_I δ 12 4 a0).toInt < (q_I δ 12 3 a0).toInt ∧ 97 ≤ hc ad δ a0 ∧ hc ad δ a0 ≤ 122 by first | assumption | omega) (show 500 - (vx48).toInt < _ by omega)) (fun r54 hr55 => ?_)
          obtain ⟨i56, ⟨u59, u60, u61, u62⟩, p57, p58⟩ := hr55
          have u63 := kp_t kp_r u59
          have v64 : q_V r54.2 = q_V δ := (u60).trans rfl
          have v65 : q_R r54.2 = q_R δ := (u61).trans rfl
          have v66 := kr_t kr_r u62
          have f67 := cb_12_4 i56 k_a0
          have f68 : hc ad r54.2 a0 = (q_R r54.2 (Ad ad 101) (q_I r54.2 12 4 a0).toNatClampNeg).toInt := rfl
          have t69 := ti_tn (q_I r54.2 12 4 a0)
          have f70 : (q_R r54.2 (Ad ad 101) (q_I r54.2 12 4 a0).toNatClampNeg).toInt = (q_R δ (Ad ad 101) (q_I r54.2 12 4 a0).toNatClampNeg).toInt := congrArg Int32.toInt (congrFun (u62 101 (by decide) (by decide) (by decide)) _)
          have f71 := ti_b (q_R δ (Ad ad 101) (q_I r54.2 12 4 a0).toNatClampNeg)
          have f72 := ti_b (q_R r54.2 (Ad ad 101) (q_I r54.2 12 4 a0).toNatClampNeg)
          have f73 := ti_b r54.1
          have f74 := ti_b r54.1
          exact ⟨by assumption, ⟨kp_w (by decide) u63, v64, v65, kr_w (by decide) v66⟩, by first | assumption | omega, by first | assumption | omega⟩
        · have c75 : x2v.toInt < (6 : Int) := o_nle h40
          refine ok_at o16 ?_
          refine ok_gd (fun hc76 => ?_) ?_
          · rcases hc76 with hc76 | hc76
            · have c77 : x3v.toInt < (0 : Int) := o_lt hc76
              omega
            · omega
          unfold J_X12_word_57
          refine ok_biv (fun vx78 e79 => ?_)
          first | (have q80 := te_addc (c := 1) (n := 1) rfl x2v (by omega) (by omega); rw [← e79] at q80; obtain ⟨f81, f82, f83⟩ := q80) | (obtain ⟨q80, f81, f82, f83⟩ : ∃ q : Int, vx78.toInt = x2v.toInt + (1 : Int) + 4294967296 * q ∧ -2147483648 ≤ vx78.toInt ∧ vx78.toInt ≤ 2147483647 := by rw [e79]; exact ti_addc (c := 1) (n := 1) rfl x2v)
          refine ok_biv (fun vx84 e85 => ?_)
          first | (have q86 := te_addc (c := 1) (n := 1) rfl x3v (by omega) (by omega); rw [← e85] at q86; obtain ⟨f87, f88, f89⟩ := q86) | (obtain ⟨q86, f87, f88, f89⟩ : ∃ q : Int, vx84.toInt = x3v.toInt + (1 : Int) + 4294967296 * q ∧ -2147483648 ≤ vx84.toInt ∧ vx84.toInt ≤ 2147483647 := by rw [e85]; exact ti_addc (c := 1) (n := 1) rfl x3v)
          have f90 := ti_b ((x1v <<< ((5 : Int32) &&& 31)) ||| ((q_R δ (Ad ad 101) x3v.toNatClampNeg) - (96 : Int32)))
          refine ok_mono (ih ((x1v <<< ((5 : Int32) &&& 31)) ||| ((q_R δ (Ad ad 101) x3v.toNatClampNeg) - (96 : Int32))) vx78 vx84 δ I (show 0 ≤ (vx84).toInt by first | assumption | omega) (show (vx84).toInt ≤ 500 by first | assumption | omega) (show (vx84).toInt = (q_I δ 12 4 a0).toInt ∨ (q_I δ 12 4 a0).toInt < (q_I δ 12 3 a0).toInt ∧ 97 ≤ hc ad δ a0 ∧ hc ad δ a0 ≤ 122 by first | assumption | omega) (show (((x1v <<< ((5 : Int32) &&& 31)) ||| ((q_R δ (Ad ad 101) x3v.toNatClampNeg) - (96 : Int32)))).toInt = 0 ∨ (q_I δ 12 4 a0).toInt < (q_I δ 12 3 a0).toInt ∧ 97 ≤ hc ad δ a0 ∧ hc ad δ a0 ≤ 122 by first | assumption | omega) (show 500 - (vx84).toInt < _ by omega)) (fun r91 hr92 => ?_)
          obtain ⟨i93, ⟨u96, u97, u98, u99⟩, p94, p95⟩ := hr92
          have u100 := kp_t kp_r u96
          have v101 : q_V r91.2 = q_V δ := (u97).trans rfl
          have v102 : q_R r91.2 = q_R δ := (u98).trans rfl
          have v103 := kr_t kr_r u99
          have f104 := cb_12_4 i93 k_a0
          have f105 : hc ad r91.2 a0 = (q_R r91.2 (Ad ad 101) (q_I r91.2 12 4 a0).toNatClampNeg).toInt := rfl
          have t106 := ti_tn (q_I r91.2 12 4 a0)
          have f107 : (q_R r91.2 (Ad ad 101) (q_I r91.2 12 4 a0).toNatClampNeg).toInt = (q_R δ (Ad ad 101) (q_I r91.2 12 4 a0).toNatClampNeg).toInt := congrArg Int32.toInt (congrFun (u99 101 (by decide) (by decide) (by decide)) _)
          have f108 := ti_b (q_R δ (Ad ad 101) (q_I r91.2 12 4 a0).toNatClampNeg)
          have f109 := ti_b (q_R r91.2 (Ad ad 101) (q_I r91.2 12 4 a0).toNatClampNeg)
          have f110 := ti_b r91.1
          have f111 := ti_b r91.1
          exact ⟨by assumption, ⟨kp_w (by decide) u100, v101, v102, kr_w (by decide) v103⟩, by first | assumption | omega, by first | assumption | omega⟩
set_option maxHeartbeats 4000000 in
theorem k_X12_word {ad : List Nat} {h : hp} (L : Lay TLx ad h) {δ0 : dp} {N : Nat} (hN : 10000000 ≤ N) {a0 : Nat} (k_a0 : q_K h.1 a0 = 12) {δ : dp} (I : RI ad h.1 δ0 δ) : ok (D_X12_word N h.1 a0 δ) (fun r => RI ad h.1 δ0 r.2 ∧ (kp [(12, 4)] δ r.2 ∧ q_V r.2 = q_V δ ∧ q_R r.2 = q_R δ ∧ kr ad [] δ r.2) ∧ (q_I δ 12 4 a0).toInt ≤ (q_I r.2 12 4 a0).toInt ∧ ((r.1).toInt ≠ 0 → (q_I r.2 12 4 a0).toInt < (q_I δ 12 3 a0).toInt ∧ 97 ≤ hc ad r.2 a0 ∧ hc ad r.2 a0 ≤ 122)) := by
  unfold D_X12_word
  refine ok_bind (k_X12_here L hN (a0 := a0) k_a0 I) (fun r1 hr2 => ?_)
  obtain ⟨i3, ⟨u7, u8, u9, u10⟩, p4, p5, p6⟩ := hr2
  have u11 := kp_t kp_r u7
  have v12 : q_V r1.2 = q_V δ := (u8).trans rfl
  have v13 : q_R r1.2 = q_R δ := (u9).trans rfl
  have v14 := kr_t kr_r u10
  have f15 := cb_12_4 I k_a0
  have f16 := cb_12_4 i3 k_a0
  have f17 : hc ad r1.2 a0 = (q_R r1.2 (Ad ad 101) (q_I r1.2 12 4 a0).toNatClampNeg).toInt := rfl
  have t18 := ti_tn (q_I r1.2 12 4 a0)
  have f19 : (q_R r1.2 (Ad ad 101) (q_I r1.2 12 4 a0).toNatClampNeg).toInt = (q_R δ (Ad ad 101) (q_I r1.2 12 4 a0).toNatClampNeg).toInt := congrArg Int32.toInt (congrFun (u10 101 (by decide) (by decide) (by decide)) _)
  have f20 := ti_b (q_R δ (Ad ad 101) (q_I r1.2 12 4 a0).toNatClampNeg)
  have f21 := ti_b (q_R r1.2 (Ad ad 101) (q_I r1.2 12 4 a0).toNatClampNeg)
  have f22 := ti_b r1.1
  have f23 := cb_12_3 I k_a0
  have f24 : hc ad δ a0 = (q_R δ (Ad ad 101) (q_I δ 12 4 a0).toNatClampNeg).toInt := rfl
  have t25 := ti_tn (q_I δ 12 4 a0)
  have f26 := ti_b (q_R δ (Ad ad 101) (q_I δ 12 4 a0).toNatClampNeg)
  have f27 := ti_b r1.1
  refine ok_biv (fun vx28 e29 => ?_)
  have f30 : vx28.toInt = (q_I r1.2 12 4 a0).toInt := congrArg Int32.toInt e29
  have f31 := cb_12_3 i3 k_a0
  have f32 : (q_I r1.2 12 3 a0).toInt = (q_I δ 12 3 a0).toInt := congrArg Int32.toInt (u7 12 3 a0 (by decide))
  refine ok_mono (kl_X12_word_14 L hN   k_a0 _ (0 : Int32) (0 : Int32) vx28 r1.2 i3 (show 0 ≤ (vx28).toInt by first | assumption | omega) (show (vx28).toInt ≤ 500 by first | assumption | omega) (show (vx28).toInt = (q_I r1.2 12 4 a0).toInt ∨ (q_I r1.2 12 4 a0).toInt < (q_I r1.2 12 3 a0).toInt ∧ 97 ≤ hc ad r1.2 a0 ∧ hc ad r1.2 a0 ≤ 122 by first | assumption | omega) (show (0 : Int) = 0 ∨ (q_I r1.2 12 4 a0).toInt < (q_I r1.2 12 3 a0).toInt ∧ 97 ≤ hc ad r1.2 a0 ∧ hc ad r1.2 a0 ≤ 122 by first | assumption | omega) (show 500 - (vx28).toInt < _ by omega)) (fun r33 hr34 => ?_)
  obtain ⟨i35, ⟨u38, u39, u40, u41⟩, p36, p37⟩ := hr34
  have u42 := kp_t u11 u38
  have v43 : q_V r33.2 = q_V δ := (u39).trans v12
  have v44 : q_R r33.2 = q_R δ := (u40).trans v13
  have v45 := kr_t v14 u41
  have f46 := cb_12_4 i35 k_a0
  have f47 : hc ad r33.2 a0 = (q_R r33.2 (Ad ad 101) (q_I r33.2 12 4 a0).toNatClampNeg).toInt := rfl
  have t48 := ti_tn (q_I r33.2 12 4 a0)
  have f49 : (q_R r33.2 (Ad ad 101) (q_I r33.2 12 4 a0).toNatClampNeg).toInt = (q_R r1.2 (Ad ad 101) (q_I r33.2 12 4 a0).toNatClampNeg).toInt := congrArg Int32.toInt (congrFun (u41 101 (by decide) (by decide) (by decide)) _)
  have f50 : (q_R r1.2 (Ad ad 101) (q_I r33.2 12 4 a0).toNatClampNeg).toInt = (q_R δ (Ad ad 101) (q_I r33.2 12 4 a0).toNatClampNeg).toInt := congrArg Int32.toInt (congrFun (u10 101 (by decide) (by decide) (by decide)) _)
  have f51 := ti_b (q_R δ (Ad ad 101) (q_I r33.2 12 4 a0).toNatClampNeg)
  have f52 := ti_b (q_R r1.2 (Ad ad 101) (q_I r33.2 12 4 a0).toNatClampNeg)
  have f53 := ti_b (q_R r33.2 (Ad ad 101) (q_I r33.2 12 4 a0).toNatClampNeg)
  have f54 := ti_b r33.1
  have f55 := ti_b r33.1
  exact ⟨by assumption, ⟨kp_w (by decide) u42, v43, v44, kr_w (by decide) v45⟩, by first | assumption | omega, by first | assumption | omega⟩
set_option maxHeartbeats 4000000 in
theorem kl_X12_pass_0 {ad : List Nat} {h : hp} (L : Lay TLx ad h) {δ0 : dp} {N : Nat} (hN : 10000000 ≤ N) {a0 : Nat} (k_a0 : q_K h.1 a0 = 12) : ∀ (n : Nat) (δ : dp), RI ad h.1 δ0 δ → 501 - (q_I δ 12 4 a0).toInt < (n : Int) → ok (L_X12_pass_0 N h.1 a0 n δ) (fun r => RI ad h.1 δ0 r ∧ (kp [(12, 4)] δ r ∧ q_V r = q_V δ ∧ q_R r = q_R δ ∧ kr ad [] δ r) ∧ (q_I δ 12 4 a0).toInt ≤ (q_I r 12 4 a0).toInt ∧ ((q_I δ 12 4 a0).toInt < (q_I δ 12 3 a0).toInt ∧ 97 ≤ hc ad δ a0 ∧ hc ad δ a0 ≤ 122 → (q_I δ 12 4 a0).toInt < (q_I r 12 4 a0).toInt)) := by
  intro n
  induction n with
  | zero =>
    intro δ I hm
    have f1 := cb_12_4 I k_a0
    exfalso; omega
  | succ n ih =>
    intro δ I hm
    unfold L_X12_pass_0
    have f1 := cb_12_4 I k_a0
    have f2 := cb_12_3 I k_a0
    refine ok_ite (fun h3 => ?_) (fun h3 => ?_)
    · have c4 : (q_I δ 12 3 a0).toInt ≤ (q_I δ 12 4 a0).toInt := o_le h3
      unfold J_X12_pass_39
      have f5 : hc ad δ a0 = (q_R δ (Ad ad 101) (q_I δ 12 4 a0).toNatClampNeg).toInt := rfl
      have t6 := ti_tn (q_I δ 12 4 a0)
      have f7 := ti_b (q_R δ (Ad ad 101) (q_I δ 12 4 a0).toNatClampNeg)
      exact ok_some (show RI ad h.1 δ0 δ ∧ (kp [(12, 4)] δ δ ∧ q_V δ = q_V δ ∧ q_R δ = q_R δ ∧ kr ad [] δ δ) ∧ (q_I δ 12 4 a0).toInt ≤ (q_I δ 12 4 a0).toInt ∧ ((q_I δ 12 4 a0).toInt < (q_I δ 12 3 a0).toInt ∧ 97 ≤ hc ad δ a0 ∧ hc ad δ a0 ≤ 122 → (q_I δ 12 4 a0).toInt < (q_I δ 12 4 a0).toInt) from ⟨I, ⟨kp_w (by decide) kp_r, rfl, rfl, kr_w (by decide) kr_r⟩, by first | assumption | omega, by first | assumption | omega⟩)
    · have c8 : (q_I δ 12 4 a0).toInt < (q_I δ 12 3 a0).toInt := o_nle h3
      obtain ⟨b9, o10, k11, n12, w13⟩ := gO_12_9 L k_a0
      obtain rfl := gS_12_9 L k_a0 o10
      refine ok_at o10 ?_
      have t14 := ti_tn (q_I δ 12 4 a0)
      refine ok_gd (fun hc15 => ?_) ?_
      · rcases hc15 with hc15 | hc15
        · have c16 : (q_I δ 12 4 a0).toInt < (0 : Int) := o_lt hc15
          omega
        · omega
      refine ok_bind (k_X12_isSmall L hN (x0 := (q_R δ (Ad ad 101) (q_I δ 12 4 a0).toNatClampNeg))  I) (fun r17 hr18 => ?_)
      obtain ⟨i19, p20, p21⟩ := hr18
      try rw [i19]
      have f22 := bo_t p20
      have f23 := ti_b r17.1
      have f24 := ti_b (q_R δ (Ad ad 101) (q_I δ 12 4 a0).toNatClampNeg)
      have f25 := ti_b r17.1
      refine ok_ite (fun h26 => ?_) (fun h26 => ?_)
      · have c27 : r17.1.toInt = (0 : Int) := o_eq h26
        unfold J_X12_pass_39
        have f28 : hc ad δ a0 = (q_R δ (Ad ad 101) (q_I δ 12 4 a0).toNatClampNeg).toInt := rfl
        exact ok_some (show RI ad h.1 δ0 δ ∧ (kp [(12, 4)] δ δ ∧ q_V δ = q_V δ ∧ q_R δ = q_R δ ∧ kr ad [] δ δ) ∧ (q_I δ 12 4 a0).toInt ≤ (q_I δ 12 4 a0).toInt ∧ ((q_I δ 12 4 a0).toInt < (q_I δ 12 3 a0).toInt ∧ 97 ≤ hc ad δ a0 ∧ hc ad δ a0 ≤ 122 → (q_I δ 12 4 a0).toInt < (q_I δ 12 4 a0).toInt) from ⟨I, ⟨kp_w (by decide) kp_r, rfl, rfl, kr_w (by decide) kr_r⟩, by first | assumption | omega, by first | assumption | omega⟩)
      · have c29 : r17.1.toInt ≠ (0 : Int) := o_ne h26
        first | (have q34 := te_addc (c := 1) (n := 1) rfl (q_I δ 12 4 a0) (by omega) (by omega); obtain ⟨f35, f36, f37⟩ := q34) | (obtain ⟨q34, f35, f36, f37⟩ := ti_addc (c := 1) (n := 1) rfl (q_I δ 12 4 a0))
        refine ok_bdv (fun d30 e31 => ?_)
        have i32 : RI ad h.1 δ0 d30 := by rw [e31]; exact cs_12_4 L I k_a0 (show 0 ≤ ((q_I δ 12 4 a0) + (1 : Int32)).toInt by omega) (show ((q_I δ 12 4 a0) + (1 : Int32)).toInt ≤ 500 by omega)
        have u38 := kp_I kp_r e31
        have v39 : q_V d30 = q_V δ := ((show q_V d30 = q_V δ by rw [e31]; rfl)).trans rfl
        have v40 : q_R d30 = q_R δ := ((show q_R d30 = q_R δ by rw [e31]; rfl)).trans rfl
        have v41 := kr_N kr_r (show q_R d30 = q_R δ by rw [e31]; rfl)
        have f42 := cb_12_4 i32 k_a0
        have f43 : (q_I d30 12 4 a0).toInt = ((q_I δ 12 4 a0) + (1 : Int32)).toInt := congrArg Int32.toInt (show q_I d30 12 4 a0 = ((q_I δ 12 4 a0) + (1 : Int32)) by rw [e31]; exact rI_s)
        refine ok_mono (ih d30 i32  (show 501 - (q_I d30 12 4 a0).toInt < _ by omega)) (fun r44 hr45 => ?_)
        obtain ⟨i46, ⟨u49, u50, u51, u52⟩, p47, p48⟩ := hr45
        have u53 := kp_t u38 u49
        have v54 : q_V r44 = q_V δ := (u50).trans v39
        have v55 : q_R r44 = q_R δ := (u51).trans v40
        have v56 := kr_t v41 u52
        have f57 := cb_12_4 i46 k_a0
        have f58 : hc ad d30 a0 = (q_R d30 (Ad ad 101) (q_I d30 12 4 a0).toNatClampNeg).toInt := rfl
        have t59 := ti_tn (q_I d30 12 4 a0)
        have f60 : (q_R d30 (Ad ad 101) (q_I d30 12 4 a0).toNatClampNeg).toInt = (q_R δ (Ad ad 101) (q_I d30 12 4 a0).toNatClampNeg).toInt := congrArg Int32.toInt (show q_R d30 (Ad ad 101) (q_I d30 12 4 a0).toNatClampNeg = _ by rw [e31]; rfl)
        have f61 := ti_b (q_R δ (Ad ad 101) (q_I d30 12 4 a0).toNatClampNeg)
        have f62 := ti_b (q_R d30 (Ad ad 101) (q_I d30 12 4 a0).toNatClampNeg)
        have f63 := cb_12_3 i32 k_a0
        have f64 : (q_I d30 12 3 a0).toInt = (q_I δ 12 3 a0).toInt := congrArg Int32.toInt (by rw [e31]; exact rI_o (by decide))
        have f65 : hc ad δ a0 = (q_R δ (Ad ad 101) (q_I δ 12 4 a0).toNatClampNeg).toInt := rfl
        exact ⟨by assumption, ⟨kp_w (by decide) u53, v54, v55, kr_w (by decide) v56⟩, by first | assumption | omega, by first | assumption | omega⟩
set_option maxHeartbeats 4000000 in
theorem k_X12_pass {ad : List Nat} {h : hp} (L : Lay TLx ad h) {δ0 : dp} {N : Nat} (hN : 10000000 ≤ N) {a0 : Nat} (k_a0 : q_K h.1 a0 = 12) {δ : dp} (I : RI ad h.1 δ0 δ) : ok (D_X12_pass N h.1 a0 δ) (fun r => RI ad h.1 δ0 r ∧ (kp [(12, 4)] δ r ∧ q_V r = q_V δ ∧ q_R r = q_R δ ∧ kr ad [] δ r) ∧ (q_I δ 12 4 a0).toInt ≤ (q_I r 12 4 a0).toInt ∧ ((q_I δ 12 4 a0).toInt < (q_I δ 12 3 a0).toInt ∧ 97 ≤ hc ad δ a0 ∧ hc ad δ a0 ≤ 122 → (q_I δ 12 4 a0).toInt < (q_I r 12 4 a0).toInt)) := by
  unfold D_X12_pass
  have f1 := cb_12_4 I k_a0
  refine ok_mono (kl_X12_pass_0 L hN   k_a0 _ δ I  (show 501 - (q_I δ 12 4 a0).toInt < _ by omega)) (fun r2 hr3 => ?_)
  obtain ⟨i4, ⟨u7, u8, u9, u10⟩, p5, p6⟩ := hr3
  have u11 := kp_t kp_r u7
  have v12 : q_V r2 = q_V δ := (u8).trans rfl
  have v13 : q_R r2 = q_R δ := (u9).trans rfl
  have v14 := kr_t kr_r u10
  have f15 := cb_12_4 i4 k_a0
  have f16 : hc ad δ a0 = (q_R δ (Ad ad 101) (q_I δ 12 4 a0).toNatClampNeg).toInt := rfl
  have t17 := ti_tn (q_I δ 12 4 a0)
  have f18 := ti_b (q_R δ (Ad ad 101) (q_I δ 12 4 a0).toNatClampNeg)
  have f19 := cb_12_3 I k_a0
  exact ⟨by assumption, ⟨kp_w (by decide) u11, v12, v13, kr_w (by decide) v14⟩, by first | assumption | omega, by first | assumption | omega⟩
set_option maxHeartbeats 4000000 in
theorem kl_X12_readNumber_41 {ad : List Nat} {h : hp} (L : Lay TLx ad h) {δ0 : dp} {N : Nat} (hN : 10000000 ≤ N) {a0 : Nat} {x1 : Int32} {x2 : Int32} (k_a0 : q_K h.1 a0 = 12) : ∀ (n : Nat) (x4v : Int32) (x5v : Int32) (δ : dp), RI ad h.1 δ0 δ → 0 ≤ (x4v).toInt → 0 ≤ (x5v).toInt → (x5v).toInt ≤ 1000000 → (q_I δ 12 5 a0).toInt = -1 → 501 - (q_I δ 12 4 a0).toInt < (n : Int) → ok (L_X12_readNumber_41 N h.1 a0 x1 x2 n x4v x5v δ) (fun r => RI ad h.1 δ0 r.2 ∧ (kp [(12, 4), (12, 5), (12, 6)] δ r.2 ∧ q_V r.2 = q_V δ ∧ q_R r.2 = q_R δ ∧ kr ad [] δ r.2) ∧ (q_I δ 12 4 a0).toInt ≤ (q_I r.2 12 4 a0).toInt ∧ 0 ≤ (r.1).toInt ∧ (r.1).toInt ≤ 1000000 ∧ ((q_I δ 12 4 a0).toInt < (q_I δ 12 3 a0).toInt ∧ 48 ≤ hc ad δ a0 ∧ hc ad δ a0 ≤ 57 → (q_I δ 12 4 a0).toInt < (q_I r.2 12 4 a0).toInt) ∧ ((q_I r.2 12 5 a0).toInt = -1 → (x1).toInt ≤ (r.1).toInt ∧ (r.1).toInt ≤ (x2).toInt)) := by
  intro n
  induction n with
  | zero =>
    intro x4v x5v δ I j0 j1 j2 j3 hm
    have f1 := ti_b x4v
    have f2 := ti_b x5v
    have f3 := ti_b (q_I δ 12 5 a0)
    have f4 := cb_12_4 I k_a0
    exfalso; omega
  | succ n ih =>
    intro x4v x5v δ I j0 j1 j2 j3 hm
    unfold L_X12_readNumber_41
    have f1 := ti_b x4v
    have f2 := ti_b x5v
    have f3 := ti_b (q_I δ 12 5 a0)
    have f4 := cb_12_4 I k_a0
    have f5 := cb_12_3 I k_a0
    refine ok_ite (fun h6 => ?_) (fun h6 => ?_)
    · have c7 : (q_I δ 12 3 a0).toInt ≤ (q_I δ 12 4 a0).toInt := o_le h6
      unfold J_X12_readNumber_112
      have f8 := ti_b x1
      refine ok_ite (fun h9 => ?_) (fun h9 => ?_)
      · have c10 : x5v.toInt < x1.toInt := o_lt h9
        unfold J_X12_readNumber_124
        refine ok_bind (k_X12_wrong L hN (a0 := a0) (x1 := (2 : Int32)) (x2 := x4v) k_a0 (show 0 ≤ (x4v).toInt by first | assumption | omega) I) (fun r11 hr12 => ?_)
        obtain ⟨i13, ⟨u15, u16, u17, u18⟩, p14⟩ := hr12
        have u19 := kp_t kp_r u15
        have v20 : q_V r11 = q_V δ := (u16).trans rfl
        have v21 : q_R r11 = q_R δ := (u17).trans rfl
        have v22 := kr_t kr_r u18
        have f23 := ti_b (q_I r11 12 5 a0)
        have f24 := cb_12_4 i13 k_a0
        have f25 : (q_I r11 12 4 a0).toInt = (q_I δ 12 4 a0).toInt := congrArg Int32.toInt (u15 12 4 a0 (by decide))
        have f26 : hc ad δ a0 = (q_R δ (Ad ad 101) (q_I δ 12 4 a0).toNatClampNeg).toInt := rfl
        have t27 := ti_tn (q_I δ 12 4 a0)
        have f28 := ti_b (q_R δ (Ad ad 101) (q_I δ 12 4 a0).toNatClampNeg)
        have f29 := ti_b x2
        exact ok_some (show RI ad h.1 δ0 r11 ∧ (kp [(12, 4), (12, 5), (12, 6)] δ r11 ∧ q_V r11 = q_V δ ∧ q_R r11 = q_R δ ∧ kr ad [] δ r11) ∧ (q_I δ 12 4 a0).toInt ≤ (q_I r11 12 4 a0).toInt ∧ 0 ≤ (0 : Int) ∧ (0 : Int) ≤ 1000000 ∧ ((q_I δ 12 4 a0).toInt < (q_I δ 12 3 a0).toInt ∧ 48 ≤ hc ad δ a0 ∧ hc ad δ a0 ≤ 57 → (q_I δ 12 4 a0).toInt < (q_I r11 12 4 a0).toInt) ∧ ((q_I r11 12 5 a0).toInt = -1 → (x1).toInt ≤ (0 : Int) ∧ (0 : Int) ≤ (x2).toInt) from ⟨i13, ⟨kp_w (by decide) u19, v20, v21, kr_w (by decide) v22⟩, by first | assumption | omega, by first | assumption | omega, by first | assumption | omega, by first | assumption | omega, by first | assumption | omega⟩)
      · have c30 : x1.toInt ≤ x5v.toInt := o_nlt h9
        have f31 := ti_b x2
        refine ok_ite (fun h32 => ?_) (fun h32 => ?_)
        · have c33 : x5v.toInt ≤ x2.toInt := o_le h32
          have f34 : hc ad δ a0 = (q_R δ (Ad ad 101) (q_I δ 12 4 a0).toNatClampNeg).toInt := rfl
          have t35 := ti_tn (q_I δ 12 4 a0)
          have f36 := ti_b (q_R δ (Ad ad 101) (q_I δ 12 4 a0).toNatClampNeg)
          exact ok_some (show RI ad h.1 δ0 δ ∧ (kp [(12, 4), (12, 5), (12, 6)] δ δ ∧ q_V δ = q_V δ ∧ q_R δ = q_R δ ∧ kr ad [] δ δ) ∧ (q_I δ 12 4 a0).toInt ≤ (q_I δ 12 4 a0).toInt ∧ 0 ≤ (x5v).toInt ∧ (x5v).toInt ≤ 1000000 ∧ ((q_I δ 12 4 a0).toInt < (q_I δ 12 3 a0).toInt ∧ 48 ≤ hc ad δ a0 ∧ hc ad δ a0 ≤ 57 → (q_I δ 12 4 a0).toInt < (q_I δ 12 4 a0).toInt) ∧ ((q_I δ 12 5 a0).toInt = -1 → (x1).toInt ≤ (x5v).toInt ∧ (x5v).toInt ≤ (x2).toInt) from ⟨I, ⟨kp_w (by decide) kp_r, rfl, rfl, kr_w (by decide) kr_r⟩, by first | assumption | omega, by first | assumption | omega, by first | assumption | omega, by first | assumption | omega, by first | assumption | omega⟩)
        · have c37 : x2.toInt < x5v.toInt := o_nle h32
          unfold J_X12_readNumber_124
          refine ok_bind (k_X12_wrong L hN (a0 := a0) (x1 := (2 : Int32)) (x2 := x4v) k_a0 (show 0 ≤ (x4v).toInt by first | assumption | omega) I) (fun r38 hr39 => ?_)
          obtain ⟨i40, ⟨u42, u43, u44, u45⟩, p41⟩ := hr39
          have u46 := kp_t kp_r u42
          have v47 : q_V r38 = q_V δ := (u43).trans rfl
          have v48 : q_R r38 = q_R δ := (u44).trans rfl
          have v49 := kr_t kr_r u45
          have f50 := ti_b (q_I r38 12 5 a0)
          have f51 := cb_12_4 i40 k_a0
          have f52 : (q_I r38 12 4 a0).toInt = (q_I δ 12 4 a0).toInt := congrArg Int32.toInt (u42 12 4 a0 (by decide))
          have f53 : hc ad δ a0 = (q_R δ (Ad ad 101) (q_I δ 12 4 a0).toNatClampNeg).toInt := rfl
          have t54 := ti_tn (q_I δ 12 4 a0)
          have f55 := ti_b (q_R δ (Ad ad 101) (q_I δ 12 4 a0).toNatClampNeg)
          exact ok_some (show RI ad h.1 δ0 r38 ∧ (kp [(12, 4), (12, 5), (12, 6)] δ r38 ∧ q_V r38 = q_V δ ∧ q_R r38 = q_R δ ∧ kr ad [] δ r38) ∧ (q_I δ 12 4 a0).toInt ≤ (q_I r38 12 4 a0).toInt ∧ 0 ≤ (0 : Int) ∧ (0 : Int) ≤ 1000000 ∧ ((q_I δ 12 4 a0).toInt < (q_I δ 12 3 a0).toInt ∧ 48 ≤ hc ad δ a0 ∧ hc ad δ a0 ≤ 57 → (q_I δ 12 4 a0).toInt < (q_I r38 12 4 a0).toInt) ∧ ((q_I r38 12 5 a0).toInt = -1 → (x1).toInt ≤ (0 : Int) ∧ (0 : Int) ≤ (x2).toInt) from ⟨i40, ⟨kp_w (by decide) u46, v47, v48, kr_w (by decide) v49⟩, by first | assumption | omega, by first | assumption | omega, by first | assumption | omega, by first | assumption | omega, by first | assumption | omega⟩)
    · have c56 : (q_I δ 12 4 a0).toInt < (q_I δ 12 3 a0).toInt := o_nle h6
      obtain ⟨b57, o58, k59, n60, w61⟩ := gO_12_9 L k_a0
      obtain rfl := gS_12_9 L k_a0 o58
      refine ok_at o58 ?_
      have t62 := ti_tn (q_I δ 12 4 a0)
      refine ok_gd (fun hc63 => ?_) ?_
      · rcases hc63 with hc63 | hc63
        · have c64 : (q_I δ 12 4 a0).toInt < (0 : Int) := o_lt hc63
          omega
        · omega
      refine ok_bind (k_X12_isDigit L hN (x0 := (q_R δ (Ad ad 101) (q_I δ 12 4 a0).toNatClampNeg))  I) (fun r65 hr66 => ?_)
      obtain ⟨i67, p68, p69⟩ := hr66
      try rw [i67]
      have f70 := bo_t p68
      have f71 := ti_b r65.1
      have f72 := ti_b (q_R δ (Ad ad 101) (q_I δ 12 4 a0).toNatClampNeg)
      have f73 := ti_b r65.1
      refine ok_ite (fun h74 => ?_) (fun h74 => ?_)
      · have c75 : r65.1.toInt = (0 : Int) := o_eq h74
        unfold J_X12_readNumber_112
        have f76 := ti_b x1
        refine ok_ite (fun h77 => ?_) (fun h77 => ?_)
        · have c78 : x5v.toInt < x1.toInt := o_lt h77
          unfold J_X12_readNumber_124
          refine ok_bind (k_X12_wrong L hN (a0 := a0) (x1 := (2 : Int32)) (x2 := x4v) k_a0 (show 0 ≤ (x4v).toInt by first | assumption | omega) I) (fun r79 hr80 => ?_)
          obtain ⟨i81, ⟨u83, u84, u85, u86⟩, p82⟩ := hr80
          have u87 := kp_t kp_r u83
          have v88 : q_V r79 = q_V δ := (u84).trans rfl
          have v89 : q_R r79 = q_R δ := (u85).trans rfl
          have v90 := kr_t kr_r u86
          have f91 := ti_b (q_I r79 12 5 a0)
          have f92 := cb_12_4 i81 k_a0
          have f93 : (q_I r79 12 4 a0).toInt = (q_I δ 12 4 a0).toInt := congrArg Int32.toInt (u83 12 4 a0 (by decide))
          have f94 : hc ad δ a0 = (q_R δ (Ad ad 101) (q_I δ 12 4 a0).toNatClampNeg).toInt := rfl
          have f95 := ti_b x2
          exact ok_some (show RI ad h.1 δ0 r79 ∧ (kp [(12, 4), (12, 5), (12, 6)] δ r79 ∧ q_V r79 = q_V δ ∧ q_R r79 = q_R δ ∧ kr ad [] δ r79) ∧ (q_I δ 12 4 a0).toInt ≤ (q_I r79 12 4 a0).toInt ∧ 0 ≤ (0 : Int) ∧ (0 : Int) ≤ 1000000 ∧ ((q_I δ 12 4 a0).toInt < (q_I δ 12 3 a0).toInt ∧ 48 ≤ hc ad δ a0 ∧ hc ad δ a0 ≤ 57 → (q_I δ 12 4 a0).toInt < (q_I r79 12 4 a0).toInt) ∧ ((q_I r79 12 5 a0).toInt = -1 → (x1).toInt ≤ (0 : Int) ∧ (0 : Int) ≤ (x2).toInt) from ⟨i81, ⟨kp_w (by decide) u87, v88, v89, kr_w (by decide) v90⟩, by first | assumption | omega, by first | assumption | omega, by first | assumption | omega, by first | assumption | omega, by first | assumption | omega⟩)
        · have c96 : x1.toInt ≤ x5v.toInt := o_nlt h77
          have f97 := ti_b x2
          refine ok_ite (fun h98 => ?_) (fun h98 => ?_)
          · have c99 : x5v.toInt ≤ x2.toInt := o_le h98
            have f100 : hc ad δ a0 = (q_R δ (Ad ad 101) (q_I δ 12 4 a0).toNatClampNeg).toInt := rfl
            exact ok_some (show RI ad h.1 δ0 δ ∧ (kp [(12, 4), (12, 5), (12, 6)] δ δ ∧ q_V δ = q_V δ ∧ q_R δ = q_R δ ∧ kr ad [] δ δ) ∧ (q_I δ 12 4 a0).toInt ≤ (q_I δ 12 4 a0).toInt ∧ 0 ≤ (x5v).toInt ∧ (x5v).toInt ≤ 1000000 ∧ ((q_I δ 12 4 a0).toInt < (q_I δ 12 3 a0).toInt ∧ 48 ≤ hc ad δ a0 ∧ hc ad δ a0 ≤ 57 → (q_I δ 12 4 a0).toInt < (q_I δ 12 4 a0).toInt) ∧ ((q_I δ 12 5 a0).toInt = -1 → (x1).toInt ≤ (x5v).toInt ∧ (x5v).toInt ≤ (x2).toInt) from ⟨I, ⟨kp_w (by decide) kp_r, rfl, rfl, kr_w (by decide) kr_r⟩, by first | assumption | omega, by first | assumption | omega, by first | assumption | omega, by first | assumption | omega, by first | assumption | omega⟩)
          · have c101 : x2.toInt < x5v.toInt := o_nle h98
            unfold J_X12_readNumber_124
            refine ok_bind (k_X12_wrong L hN (a0 := a0) (x1 := (2 : Int32)) (x2 := x4v) k_a0 (show 0 ≤ (x4v).toInt by first | assumption | omega) I) (fun r102 hr103 => ?_)
            obtain ⟨i104, ⟨u106, u107, u108, u109⟩, p105⟩ := hr103
            have u110 := kp_t kp_r u106
            have v111 : q_V r102 = q_V δ := (u107).trans rfl
            have v112 : q_R r102 = q_R δ := (u108).trans rfl
            have v113 := kr_t kr_r u109
            have f114 := ti_b (q_I r102 12 5 a0)
            have f115 := cb_12_4 i104 k_a0
            have f116 : (q_I r102 12 4 a0).toInt = (q_I δ 12 4 a0).toInt := congrArg Int32.toInt (u106 12 4 a0 (by decide))
            have f117 : hc ad δ a0 = (q_R δ (Ad ad 101) (q_I δ 12 4 a0).toNatClampNeg).toInt := rfl
            exact ok_some (show RI ad h.1 δ0 r102 ∧ (kp [(12, 4), (12, 5), (12, 6)] δ r102 ∧ q_V r102 = q_V δ ∧ q_R r102 = q_R δ ∧ kr ad [] δ r102) ∧ (q_I δ 12 4 a0).toInt ≤ (q_I r102 12 4 a0).toInt ∧ 0 ≤ (0 : Int) ∧ (0 : Int) ≤ 1000000 ∧ ((q_I δ 12 4 a0).toInt < (q_I δ 12 3 a0).toInt ∧ 48 ≤ hc ad δ a0 ∧ hc ad δ a0 ≤ 57 → (q_I δ 12 4 a0).toInt < (q_I r102 12 4 a0).toInt) ∧ ((q_I r102 12 5 a0).toInt = -1 → (x1).toInt ≤ (0 : Int) ∧ (0 : Int) ≤ (x2).toInt) from ⟨i104, ⟨kp_w (by decide) u110, v111, v112, kr_w (by decide) v113⟩, by first | assumption | omega, by first | assumption | omega, by first | assumption | omega, by first | assumption | omega, by first | assumption | omega⟩)
      · have c118 : r65.1.toInt ≠ (0 : Int) := o_ne h74
        refine ok_ite (fun h119 => ?_) (fun h119 => ?_)
        · have c120 : x5v.toInt ≤ (99999 : Int) := o_le h119
          refine ok_at o58 ?_
          refine ok_gd (fun hc121 => ?_) ?_
          · rcases hc121 with hc121 | hc121
            · have c122 : (q_I δ 12 4 a0).toInt < (0 : Int) := o_lt hc121
              omega
            · omega
          unfold J_X12_readNumber_97
          first | (have q127 := te_addc (c := 1) (n := 1) rfl (q_I δ 12 4 a0) (by omega) (by omega); obtain ⟨f128, f129, f130⟩ := q127) | (obtain ⟨q127, f128, f129, f130⟩ := ti_addc (c := 1) (n := 1) rfl (q_I δ 12 4 a0))
          refine ok_bdv (fun d123 e124 => ?_)
          have i125 : RI ad h.1 δ0 d123 := by rw [e124]; exact cs_12_4 L I k_a0 (show 0 ≤ ((q_I δ 12 4 a0) + (1 : Int32)).toInt by omega) (show ((q_I δ 12 4 a0) + (1 : Int32)).toInt ≤ 500 by omega)
          have u131 := kp_I kp_r e124
          have v132 : q_V d123 = q_V δ := ((show q_V d123 = q_V δ by rw [e124]; rfl)).trans rfl
          have v133 : q_R d123 = q_R δ := ((show q_R d123 = q_R δ by rw [e124]; rfl)).trans rfl
          have v134 := kr_N kr_r (show q_R d123 = q_R δ by rw [e124]; rfl)
          first | (have q136 := te_mulc (c := 10) (n := 10) rfl x5v (by omega) (by omega); obtain ⟨f137, f138, f139⟩ := q136) | (obtain ⟨q136, f137, f138, f139⟩ := ti_mulc (c := 10) (n := 10) rfl x5v)
          first | (have q141 := te_add ((10 : Int32) * x5v) (q_R δ (Ad ad 101) (q_I δ 12 4 a0).toNatClampNeg) (by omega) (by omega); obtain ⟨f142, f143, f144⟩ := q141) | (obtain ⟨q141, f142, f143, f144⟩ := ti_add ((10 : Int32) * x5v) (q_R δ (Ad ad 101) (q_I δ 12 4 a0).toNatClampNeg))
          first | (have q146 := te_subc (c := 48) (n := 48) rfl (((10 : Int32) * x5v) + (q_R δ (Ad ad 101) (q_I δ 12 4 a0).toNatClampNeg)) (by omega) (by omega); obtain ⟨f147, f148, f149⟩ := q146) | (obtain ⟨q146, f147, f148, f149⟩ := ti_subc (c := 48) (n := 48) rfl (((10 : Int32) * x5v) + (q_R δ (Ad ad 101) (q_I δ 12 4 a0).toNatClampNeg)))
          have f150 := ti_b (q_I d123 12 5 a0)
          have f151 : (q_I d123 12 5 a0).toInt = (q_I δ 12 5 a0).toInt := congrArg Int32.toInt (by rw [e124]; exact rI_o (by decide))
          have f152 := cb_12_4 i125 k_a0
          have f153 : (q_I d123 12 4 a0).toInt = ((q_I δ 12 4 a0) + (1 : Int32)).toInt := congrArg Int32.toInt (show q_I d123 12 4 a0 = ((q_I δ 12 4 a0) + (1 : Int32)) by rw [e124]; exact rI_s)
          refine ok_mono (ih x4v ((((10 : Int32) * x5v) + (q_R δ (Ad ad 101) (q_I δ 12 4 a0).toNatClampNeg)) - (48 : Int32)) d123 i125 (show 0 ≤ (x4v).toInt by first | assumption | omega) (show 0 ≤ (((((10 : Int32) * x5v) + (q_R δ (Ad ad 101) (q_I δ 12 4 a0).toNatClampNeg)) - (48 : Int32))).toInt by first | assumption | omega) (show (((((10 : Int32) * x5v) + (q_R δ (Ad ad 101) (q_I δ 12 4 a0).toNatClampNeg)) - (48 : Int32))).toInt ≤ 1000000 by first | assumption | omega) (show (q_I d123 12 5 a0).toInt = -1 by first | assumption | omega) (show 501 - (q_I d123 12 4 a0).toInt < _ by omega)) (fun r154 hr155 => ?_)
          obtain ⟨i156, ⟨u162, u163, u164, u165⟩, p157, p158, p159, p160, p161⟩ := hr155
          have u166 := kp_t u131 u162
          have v167 : q_V r154.2 = q_V δ := (u163).trans v132
          have v168 : q_R r154.2 = q_R δ := (u164).trans v133
          have v169 := kr_t v134 u165
          have f170 := cb_12_4 i156 k_a0
          have f171 := ti_b r154.1
          have f172 : hc ad d123 a0 = (q_R d123 (Ad ad 101) (q_I d123 12 4 a0).toNatClampNeg).toInt := rfl
          have t173 := ti_tn (q_I d123 12 4 a0)
          have f174 : (q_R d123 (Ad ad 101) (q_I d123 12 4 a0).toNatClampNeg).toInt = (q_R δ (Ad ad 101) (q_I d123 12 4 a0).toNatClampNeg).toInt := congrArg Int32.toInt (show q_R d123 (Ad ad 101) (q_I d123 12 4 a0).toNatClampNeg = _ by rw [e124]; rfl)
          have f175 := ti_b (q_R δ (Ad ad 101) (q_I d123 12 4 a0).toNatClampNeg)
          have f176 := ti_b (q_R d123 (Ad ad 101) (q_I d123 12 4 a0).toNatClampNeg)
          have f177 := cb_12_3 i125 k_a0
          have f178 : (q_I d123 12 3 a0).toInt = (q_I δ 12 3 a0).toInt := congrArg Int32.toInt (by rw [e124]; exact rI_o (by decide))
          have f179 := ti_b (q_I r154.2 12 5 a0)
          have f180 := ti_b x1
          have f181 := ti_b x2
          have f182 := ti_b r154.1
          have f183 : hc ad δ a0 = (q_R δ (Ad ad 101) (q_I δ 12 4 a0).toNatClampNeg).toInt := rfl
          exact ⟨by assumption, ⟨kp_w (by decide) u166, v167, v168, kr_w (by decide) v169⟩, by first | assumption | omega, by first | assumption | omega, by first | assumption | omega, by first | assumption | omega, by first | assumption | omega⟩
        · have c184 : (99999 : Int) < x5v.toInt := o_nle h119
          unfold J_X12_readNumber_97
          first | (have q189 := te_addc (c := 1) (n := 1) rfl (q_I δ 12 4 a0) (by omega) (by omega); obtain ⟨f190, f191, f192⟩ := q189) | (obtain ⟨q189, f190, f191, f192⟩ := ti_addc (c := 1) (n := 1) rfl (q_I δ 12 4 a0))
          refine ok_bdv (fun d185 e186 => ?_)
          have i187 : RI ad h.1 δ0 d185 := by rw [e186]; exact cs_12_4 L I k_a0 (show 0 ≤ ((q_I δ 12 4 a0) + (1 : Int32)).toInt by omega) (show ((q_I δ 12 4 a0) + (1 : Int32)).toInt ≤ 500 by omega)
          have u193 := kp_I kp_r e186
          have v194 : q_V d185 = q_V δ := ((show q_V d185 = q_V δ by rw [e186]; rfl)).trans rfl
          have v195 : q_R d185 = q_R δ := ((show q_R d185 = q_R δ by rw [e186]; rfl)).trans rfl
          have v196 := kr_N kr_r (show q_R d185 = q_R δ by rw [e186]; rfl)
          have f197 := ti_b (q_I d185 12 5 a0)
          have f198 : (q_I d185 12 5 a0).toInt = (q_I δ 12 5 a0).toInt := congrArg Int32.toInt (by rw [e186]; exact rI_o (by decide))
          have f199 := cb_12_4 i187 k_a0
          have f200 : (q_I d185 12 4 a0).toInt = ((q_I δ 12 4 a0) + (1 : Int32)).toInt := congrArg Int32.toInt (show q_I d185 12 4 a0 = ((q_I δ 12 4 a0) + (1 : Int32)) by rw [e186]; exact rI_s)
          refine ok_mono (ih x4v (100000 : Int32) d185 i187 (show 0 ≤ (x4v).toInt by first | assumption | omega) (show 0 ≤ (100000 : Int) by first | assumption | omega) (show (100000 : Int) ≤ 1000000 by first | assumption | omega) (show (q_I d185 12 5 a0).toInt = -1 by first | assumption | omega) (show 501 - (q_I d185 12 4 a0).toInt < _ by omega)) (fun r201 hr202 => ?_)
          obtain ⟨i203, ⟨u209, u210, u211, u212⟩, p204, p205, p206, p207, p208⟩ := hr202
          have u213 := kp_t u193 u209
          have v214 : q_V r201.2 = q_V δ := (u210).trans v194
          have v215 : q_R r201.2 = q_R δ := (u211).trans v195
          have v216 := kr_t v196 u212
          have f217 := cb_12_4 i203 k_a0
          have f218 := ti_b r201.1
          have f219 : hc ad d185 a0 = (q_R d185 (Ad ad 101) (q_I d185 12 4 a0).toNatClampNeg).toInt := rfl
          have t220 := ti_tn (q_I d185 12 4 a0)
          have f221 : (q_R d185 (Ad ad 101) (q_I d185 12 4 a0).toNatClampNeg).toInt = (q_R δ (Ad ad 101) (q_I d185 12 4 a0).toNatClampNeg).toInt := congrArg Int32.toInt (show q_R d185 (Ad ad 101) (q_I d185 12 4 a0).toNatClampNeg = _ by rw [e186]; rfl)
          have f222 := ti_b (q_R δ (Ad ad 101) (q_I d185 12 4 a0).toNatClampNeg)
          have f223 := ti_b (q_R d185 (Ad ad 101) (q_I d185 12 4 a0).toNatClampNeg)
          have f224 := cb_12_3 i187 k_a0
          have f225 : (q_I d185 12 3 a0).toInt = (q_I δ 12 3 a0).toInt := congrArg Int32.toInt (by rw [e186]; exact rI_o (by decide))
          have f226 := ti_b (q_I r201.2 12 5 a0)
          have f227 := ti_b x1
          have f228 := ti_b x2
          have f229 := ti_b r201.1
          have f230 : hc ad δ a0 = (q_R δ (Ad ad 101) (q_I δ 12 4 a0).toNatClampNeg).toInt := rfl
          exact ⟨by assumption, ⟨kp_w (by decide) u213, v214, v215, kr_w (by decide) v216⟩, by first | assumption | omega, by first | assumption | omega, by first | assumption | omega, by first | assumption | omega, by first | assumption | omega⟩
set_option maxHeartbeats 4000000 in
theorem k_X12_readNumber {ad : List Nat} {h : hp} (L : Lay TLx ad h) {δ0 : dp} {N : Nat} (hN : 10000000 ≤ N) {a0 : Nat} {x1 : Int32} {x2 : Int32} (k_a0 : q_K h.1 a0 = 12) {δ : dp} (I : RI ad h.1 δ0 δ) : ok (D_X12_readNumber N h.1 a0 x1 x2 δ) (fun r => RI ad h.1 δ0 r.2 ∧ (kp [(12, 4), (12, 5), (12, 6)] δ r.2 ∧ q_V r.2 = q_V δ ∧ q_R r.2 = q_R δ ∧ kr ad [] δ r.2) ∧ (q_I δ 12 4 a0).toInt ≤ (q_I r.2 12 4 a0).toInt ∧ ((q_I δ 12 5 a0).toInt ≠ -1 → (q_I r.2 12 5 a0).toInt ≠ -1) ∧ 0 ≤ (r.1).toInt ∧ (r.1).toInt ≤ 1000000 ∧ ((q_I r.2 12 5 a0).toInt = -1 → (q_I δ 12 4 a0).toInt < (q_I r.2 12 4 a0).toInt) ∧ ((q_I r.2 12 5 a0).toInt = -1 → (x1).toInt ≤ (r.1).toInt ∧ (r.1).toInt ≤ (x2).toInt)) := by
  unfold D_X12_readNumber
  refine ok_bind (k_X12_fine L hN (a0 := a0) k_a0 I) (fun r1 hr2 => ?_)
  obtain ⟨i3, p4, p5, p6⟩ := hr2
  try rw [i3]
  have f7 := bo_t p4
  have f8 := ti_b r1.1
  have f9 := ti_b (q_I δ 12 5 a0)
  have f10 := ti_b r1.1
  refine ok_ite (fun h11 => ?_) (fun h11 => ?_)
  · have c12 : r1.1.toInt = (0 : Int) := o_eq h11
    have f13 := cb_12_4 I k_a0
    have f14 := ti_b x1
    have f15 := ti_b x2
    exact ok_some (show RI ad h.1 δ0 δ ∧ (kp [(12, 4), (12, 5), (12, 6)] δ δ ∧ q_V δ = q_V δ ∧ q_R δ = q_R δ ∧ kr ad [] δ δ) ∧ (q_I δ 12 4 a0).toInt ≤ (q_I δ 12 4 a0).toInt ∧ ((q_I δ 12 5 a0).toInt ≠ -1 → (q_I δ 12 5 a0).toInt ≠ -1) ∧ 0 ≤ (0 : Int) ∧ (0 : Int) ≤ 1000000 ∧ ((q_I δ 12 5 a0).toInt = -1 → (q_I δ 12 4 a0).toInt < (q_I δ 12 4 a0).toInt) ∧ ((q_I δ 12 5 a0).toInt = -1 → (x1).toInt ≤ (0 : Int) ∧ (0 : Int) ≤ (x2).toInt) from ⟨I, ⟨kp_w (by decide) kp_r, rfl, rfl, kr_w (by decide) kr_r⟩, by first | assumption | omega, by first | assumption | omega, by first | assumption | omega, by first | assumption | omega, by first | assumption | omega, by first | assumption | omega⟩)
  · have c16 : r1.1.toInt ≠ (0 : Int) := o_ne h11
    refine ok_bind (k_X12_here L hN (a0 := a0) k_a0 I) (fun r17 hr18 => ?_)
    obtain ⟨i19, ⟨u23, u24, u25, u26⟩, p20, p21, p22⟩ := hr18
    have u27 := kp_t kp_r u23
    have v28 : q_V r17.2 = q_V δ := (u24).trans rfl
    have v29 : q_R r17.2 = q_R δ := (u25).trans rfl
    have v30 := kr_t kr_r u26
    have f31 := cb_12_4 I k_a0
    have f32 := cb_12_4 i19 k_a0
    have f33 : hc ad r17.2 a0 = (q_R r17.2 (Ad ad 101) (q_I r17.2 12 4 a0).toNatClampNeg).toInt := rfl
    have t34 := ti_tn (q_I r17.2 12 4 a0)
    have f35 : (q_R r17.2 (Ad ad 101) (q_I r17.2 12 4 a0).toNatClampNeg).toInt = (q_R δ (Ad ad 101) (q_I r17.2 12 4 a0).toNatClampNeg).toInt := congrArg Int32.toInt (congrFun (u26 101 (by decide) (by decide) (by decide)) _)
    have f36 := ti_b (q_R δ (Ad ad 101) (q_I r17.2 12 4 a0).toNatClampNeg)
    have f37 := ti_b (q_R r17.2 (Ad ad 101) (q_I r17.2 12 4 a0).toNatClampNeg)
    have f38 := ti_b r17.1
    have f39 := cb_12_3 I k_a0
    have f40 : hc ad δ a0 = (q_R δ (Ad ad 101) (q_I δ 12 4 a0).toNatClampNeg).toInt := rfl
    have t41 := ti_tn (q_I δ 12 4 a0)
    have f42 := ti_b (q_R δ (Ad ad 101) (q_I δ 12 4 a0).toNatClampNeg)
    have f43 := ti_b r17.1
    refine ok_biv (fun vx44 e45 => ?_)
    have f46 : vx44.toInt = (q_I r17.2 12 4 a0).toInt := congrArg Int32.toInt e45
    refine ok_bind (k_X12_isDigit L hN (x0 := r17.1)  i19) (fun r47 hr48 => ?_)
    obtain ⟨i49, p50, p51⟩ := hr48
    try rw [i49]
    have f52 := bo_t p50
    have f53 := ti_b r47.1
    have f54 := ti_b r47.1
    refine ok_ite (fun h55 => ?_) (fun h55 => ?_)
    · have c56 : r47.1.toInt = (0 : Int) := o_eq h55
      refine ok_bind (k_X12_wrong L hN (a0 := a0) (x1 := (1 : Int32)) (x2 := (q_I r17.2 12 4 a0)) k_a0 (show 0 ≤ ((q_I r17.2 12 4 a0)).toInt by first | assumption | omega) i19) (fun r57 hr58 => ?_)
      obtain ⟨i59, ⟨u61, u62, u63, u64⟩, p60⟩ := hr58
      have u65 := kp_t u27 u61
      have v66 : q_V r57 = q_V δ := (u62).trans v28
      have v67 : q_R r57 = q_R δ := (u63).trans v29
      have v68 := kr_t v30 u64
      have f69 := ti_b (q_I r57 12 5 a0)
      have f70 := cb_12_4 i59 k_a0
      have f71 : (q_I r57 12 4 a0).toInt = (q_I r17.2 12 4 a0).toInt := congrArg Int32.toInt (u61 12 4 a0 (by decide))
      have f72 := ti_b x1
      have f73 := ti_b x2
      exact ok_some (show RI ad h.1 δ0 r57 ∧ (kp [(12, 4), (12, 5), (12, 6)] δ r57 ∧ q_V r57 = q_V δ ∧ q_R r57 = q_R δ ∧ kr ad [] δ r57) ∧ (q_I δ 12 4 a0).toInt ≤ (q_I r57 12 4 a0).toInt ∧ ((q_I δ 12 5 a0).toInt ≠ -1 → (q_I r57 12 5 a0).toInt ≠ -1) ∧ 0 ≤ (0 : Int) ∧ (0 : Int) ≤ 1000000 ∧ ((q_I r57 12 5 a0).toInt = -1 → (q_I δ 12 4 a0).toInt < (q_I r57 12 4 a0).toInt) ∧ ((q_I r57 12 5 a0).toInt = -1 → (x1).toInt ≤ (0 : Int) ∧ (0 : Int) ≤ (x2).toInt) from ⟨i59, ⟨kp_w (by decide) u65, v66, v67, kr_w (by decide) v68⟩, by first | assumption | omega, by first | assumption | omega, by first | assumption | omega, by first | assumption | omega, by first | assumption | omega, by first | assumption | omega⟩)
    · have c74 : r47.1.toInt ≠ (0 : Int) := o_ne h55
      have f75 := ti_b (q_I r17.2 12 5 a0)
      have f76 : (q_I r17.2 12 5 a0).toInt = (q_I δ 12 5 a0).toInt := congrArg Int32.toInt (u23 12 5 a0 (by decide))
      refine ok_mono (kl_X12_readNumber_41 L hN   k_a0 _ vx44 (0 : Int32) r17.2 i19 (show 0 ≤ (vx44).toInt by first | assumption | omega) (show 0 ≤ (0 : Int) by first | assumption | omega) (show (0 : Int) ≤ 1000000 by first | assumption | omega) (show (q_I r17.2 12 5 a0).toInt = -1 by first | assumption | omega) (show 501 - (q_I r17.2 12 4 a0).toInt < _ by omega)) (fun r77 hr78 => ?_)
      obtain ⟨i79, ⟨u85, u86, u87, u88⟩, p80, p81, p82, p83, p84⟩ := hr78
      have u89 := kp_t u27 u85
      have v90 : q_V r77.2 = q_V δ := (u86).trans v28
      have v91 : q_R r77.2 = q_R δ := (u87).trans v29
      have v92 := kr_t v30 u88
      have f93 := cb_12_4 i79 k_a0
      have f94 := ti_b r77.1
      have f95 := cb_12_3 i19 k_a0
      have f96 : (q_I r17.2 12 3 a0).toInt = (q_I δ 12 3 a0).toInt := congrArg Int32.toInt (u23 12 3 a0 (by decide))
      have f97 := ti_b (q_I r77.2 12 5 a0)
      have f98 := ti_b x1
      have f99 := ti_b x2
      have f100 := ti_b r77.1
      exact ⟨by assumption, ⟨kp_w (by decide) u89, v90, v91, kr_w (by decide) v92⟩, by first | assumption | omega, by first | assumption | omega, by first | assumption | omega, by first | assumption | omega, by first | assumption | omega, by first | assumption | omega⟩
set_option maxHeartbeats 4000000 in
theorem k_X12_sign {ad : List Nat} {h : hp} (L : Lay TLx ad h) {δ0 : dp} {N : Nat} (hN : 10000000 ≤ N) {a0 : Nat} {x1 : Int32} (k_a0 : q_K h.1 a0 = 12) {δ : dp} (z0 : (x1).toInt ≠ 0) (I : RI ad h.1 δ0 δ) : ok (D_X12_sign N h.1 a0 x1 δ) (fun r => RI ad h.1 δ0 r ∧ (kp [(12, 4), (12, 5), (12, 6)] δ r ∧ q_V r = q_V δ ∧ q_R r = q_R δ ∧ kr ad [] δ r) ∧ (q_I δ 12 4 a0).toInt ≤ (q_I r 12 4 a0).toInt ∧ ((q_I δ 12 5 a0).toInt ≠ -1 → (q_I r 12 5 a0).toInt ≠ -1) ∧ ((q_I r 12 5 a0).toInt = -1 → (q_I δ 12 4 a0).toInt < (q_I r 12 4 a0).toInt)) := by
  unfold D_X12_sign
  have f1 := ti_b x1
  refine ok_bind (k_X12_fine L hN (a0 := a0) k_a0 I) (fun r2 hr3 => ?_)
  obtain ⟨i4, p5, p6, p7⟩ := hr3
  try rw [i4]
  have f8 := bo_t p5
  have f9 := ti_b r2.1
  have f10 := ti_b (q_I δ 12 5 a0)
  have f11 := ti_b r2.1
  refine ok_ite (fun h12 => ?_) (fun h12 => ?_)
  · have c13 : r2.1.toInt = (0 : Int) := o_eq h12
    unfold J_X12_sign_24
    refine ok_bind (k_X12_fine L hN (a0 := a0) k_a0 I) (fun r14 hr15 => ?_)
    obtain ⟨i16, p17, p18, p19⟩ := hr15
    try rw [i16]
    have f20 := bo_t p17
    have f21 := ti_b r14.1
    have f22 := ti_b r14.1
    refine ok_ite (fun h23 => ?_) (fun h23 => ?_)
    · have c24 : r14.1.toInt = (0 : Int) := o_eq h23
      unfold J_X12_sign_41
      have f25 := cb_12_4 I k_a0
      exact ok_some (show RI ad h.1 δ0 δ ∧ (kp [(12, 4), (12, 5), (12, 6)] δ δ ∧ q_V δ = q_V δ ∧ q_R δ = q_R δ ∧ kr ad [] δ δ) ∧ (q_I δ 12 4 a0).toInt ≤ (q_I δ 12 4 a0).toInt ∧ ((q_I δ 12 5 a0).toInt ≠ -1 → (q_I δ 12 5 a0).toInt ≠ -1) ∧ ((q_I δ 12 5 a0).toInt = -1 → (q_I δ 12 4 a0).toInt < (q_I δ 12 4 a0).toInt) from ⟨I, ⟨kp_w (by decide) kp_r, rfl, rfl, kr_w (by decide) kr_r⟩, by first | assumption | omega, by first | assumption | omega, by first | assumption | omega⟩)
    · have c26 : r14.1.toInt ≠ (0 : Int) := o_ne h23
      have f30 := cb_12_4 I k_a0
      first | (have q32 := te_addc (c := 1) (n := 1) rfl (q_I δ 12 4 a0) (by omega) (by omega); obtain ⟨f33, f34, f35⟩ := q32) | (obtain ⟨q32, f33, f34, f35⟩ := ti_addc (c := 1) (n := 1) rfl (q_I δ 12 4 a0))
      refine ok_bdv (fun d27 e28 => ?_)
      have i29 : RI ad h.1 δ0 d27 := by rw [e28]; exact cs_12_4 L I k_a0 (show 0 ≤ ((q_I δ 12 4 a0) + (1 : Int32)).toInt by omega) (show ((q_I δ 12 4 a0) + (1 : Int32)).toInt ≤ 500 by omega)
      have u36 := kp_I kp_r e28
      have v37 : q_V d27 = q_V δ := ((show q_V d27 = q_V δ by rw [e28]; rfl)).trans rfl
      have v38 : q_R d27 = q_R δ := ((show q_R d27 = q_R δ by rw [e28]; rfl)).trans rfl
      have v39 := kr_N kr_r (show q_R d27 = q_R δ by rw [e28]; rfl)
      unfold J_X12_sign_41
      have f40 := cb_12_4 i29 k_a0
      have f41 : (q_I d27 12 4 a0).toInt = ((q_I δ 12 4 a0) + (1 : Int32)).toInt := congrArg Int32.toInt (show q_I d27 12 4 a0 = ((q_I δ 12 4 a0) + (1 : Int32)) by rw [e28]; exact rI_s)
      have f42 := ti_b (q_I d27 12 5 a0)
      have f43 : (q_I d27 12 5 a0).toInt = (q_I δ 12 5 a0).toInt := congrArg Int32.toInt (by rw [e28]; exact rI_o (by decide))
      exact ok_some (show RI ad h.1 δ0 d27 ∧ (kp [(12, 4), (12, 5), (12, 6)] δ d27 ∧ q_V d27 = q_V δ ∧ q_R d27 = q_R δ ∧ kr ad [] δ d27) ∧ (q_I δ 12 4 a0).toInt ≤ (q_I d27 12 4 a0).toInt ∧ ((q_I δ 12 5 a0).toInt ≠ -1 → (q_I d27 12 5 a0).toInt ≠ -1) ∧ ((q_I d27 12 5 a0).toInt = -1 → (q_I δ 12 4 a0).toInt < (q_I d27 12 4 a0).toInt) from ⟨i29, ⟨kp_w (by decide) u36, v37, v38, kr_w (by decide) v39⟩, by first | assumption | omega, by first | assumption | omega, by first | assumption | omega⟩)
  · have c44 : r2.1.toInt ≠ (0 : Int) := o_ne h12
    refine ok_bind (k_X12_here L hN (a0 := a0) k_a0 I) (fun r45 hr46 => ?_)
    obtain ⟨i47, ⟨u51, u52, u53, u54⟩, p48, p49, p50⟩ := hr46
    have u55 := kp_t kp_r u51
    have v56 : q_V r45.2 = q_V δ := (u52).trans rfl
    have v57 : q_R r45.2 = q_R δ := (u53).trans rfl
    have v58 := kr_t kr_r u54
    have f59 := cb_12_4 I k_a0
    have f60 := cb_12_4 i47 k_a0
    have f61 : hc ad r45.2 a0 = (q_R r45.2 (Ad ad 101) (q_I r45.2 12 4 a0).toNatClampNeg).toInt := rfl
    have t62 := ti_tn (q_I r45.2 12 4 a0)
    have f63 : (q_R r45.2 (Ad ad 101) (q_I r45.2 12 4 a0).toNatClampNeg).toInt = (q_R δ (Ad ad 101) (q_I r45.2 12 4 a0).toNatClampNeg).toInt := congrArg Int32.toInt (congrFun (u54 101 (by decide) (by decide) (by decide)) _)
    have f64 := ti_b (q_R δ (Ad ad 101) (q_I r45.2 12 4 a0).toNatClampNeg)
    have f65 := ti_b (q_R r45.2 (Ad ad 101) (q_I r45.2 12 4 a0).toNatClampNeg)
    have f66 := ti_b r45.1
    have f67 := cb_12_3 I k_a0
    have f68 : hc ad δ a0 = (q_R δ (Ad ad 101) (q_I δ 12 4 a0).toNatClampNeg).toInt := rfl
    have t69 := ti_tn (q_I δ 12 4 a0)
    have f70 := ti_b (q_R δ (Ad ad 101) (q_I δ 12 4 a0).toNatClampNeg)
    have f71 := ti_b r45.1
    refine ok_ite (fun h72 => ?_) (fun h72 => ?_)
    · have c73 : r45.1.toInt = x1.toInt := o_eq h72
      unfold J_X12_sign_24
      refine ok_bind (k_X12_fine L hN (a0 := a0) k_a0 i47) (fun r74 hr75 => ?_)
      obtain ⟨i76, p77, p78, p79⟩ := hr75
      try rw [i76]
      have f80 := bo_t p77
      have f81 := ti_b r74.1
      have f82 := ti_b (q_I r45.2 12 5 a0)
      have f83 : (q_I r45.2 12 5 a0).toInt = (q_I δ 12 5 a0).toInt := congrArg Int32.toInt (u51 12 5 a0 (by decide))
      have f84 := ti_b r74.1
      refine ok_ite (fun h85 => ?_) (fun h85 => ?_)
      · have c86 : r74.1.toInt = (0 : Int) := o_eq h85
        unfold J_X12_sign_41
        exact ok_some (show RI ad h.1 δ0 r45.2 ∧ (kp [(12, 4), (12, 5), (12, 6)] δ r45.2 ∧ q_V r45.2 = q_V δ ∧ q_R r45.2 = q_R δ ∧ kr ad [] δ r45.2) ∧ (q_I δ 12 4 a0).toInt ≤ (q_I r45.2 12 4 a0).toInt ∧ ((q_I δ 12 5 a0).toInt ≠ -1 → (q_I r45.2 12 5 a0).toInt ≠ -1) ∧ ((q_I r45.2 12 5 a0).toInt = -1 → (q_I δ 12 4 a0).toInt < (q_I r45.2 12 4 a0).toInt) from ⟨i47, ⟨kp_w (by decide) u55, v56, v57, kr_w (by decide) v58⟩, by first | assumption | omega, by first | assumption | omega, by first | assumption | omega⟩)
      · have c87 : r74.1.toInt ≠ (0 : Int) := o_ne h85
        first | (have q92 := te_addc (c := 1) (n := 1) rfl (q_I r45.2 12 4 a0) (by omega) (by omega); obtain ⟨f93, f94, f95⟩ := q92) | (obtain ⟨q92, f93, f94, f95⟩ := ti_addc (c := 1) (n := 1) rfl (q_I r45.2 12 4 a0))
        refine ok_bdv (fun d88 e89 => ?_)
        have i90 : RI ad h.1 δ0 d88 := by rw [e89]; exact cs_12_4 L i47 k_a0 (show 0 ≤ ((q_I r45.2 12 4 a0) + (1 : Int32)).toInt by omega) (show ((q_I r45.2 12 4 a0) + (1 : Int32)).toInt ≤ 500 by omega)
        have u96 := kp_I u55 e89
        have v97 : q_V d88 = q_V δ := ((show q_V d88 = q_V r45.2 by rw [e89]; rfl)).trans v56
        have v98 : q_R d88 = q_R δ := ((show q_R d88 = q_R r45.2 by rw [e89]; rfl)).trans v57
        have v99 := kr_N v58 (show q_R d88 = q_R r45.2 by rw [e89]; rfl)
        unfold J_X12_sign_41
        have f100 := cb_12_4 i90 k_a0
        have f101 : (q_I d88 12 4 a0).toInt = ((q_I r45.2 12 4 a0) + (1 : Int32)).toInt := congrArg Int32.toInt (show q_I d88 12 4 a0 = ((q_I r45.2 12 4 a0) + (1 : Int32)) by rw [e89]; exact rI_s)
        have f102 := ti_b (q_I d88 12 5 a0)
        have f103 : (q_I d88 12 5 a0).toInt = (q_I r45.2 12 5 a0).toInt := congrArg Int32.toInt (by rw [e89]; exact rI_o (by decide))
        exact ok_some (show RI ad h.1 δ0 d88 ∧ (kp [(12, 4), (12, 5), (12, 6)] δ d88 ∧ q_V d88 = q_V δ ∧ q_R d88 = q_R δ ∧ kr ad [] δ d88) ∧ (q_I δ 12 4 a0).toInt ≤ (q_I d88 12 4 a0).toInt ∧ ((q_I δ 12 5 a0).toInt ≠ -1 → (q_I d88 12 5 a0).toInt ≠ -1) ∧ ((q_I d88 12 5 a0).toInt = -1 → (q_I δ 12 4 a0).toInt < (q_I d88 12 4 a0).toInt) from ⟨i90, ⟨kp_w (by decide) u96, v97, v98, kr_w (by decide) v99⟩, by first | assumption | omega, by first | assumption | omega, by first | assumption | omega⟩)
    · have c104 : r45.1.toInt ≠ x1.toInt := o_ne h72
      refine ok_bind (k_X12_wrong L hN (a0 := a0) (x1 := (1 : Int32)) (x2 := (q_I r45.2 12 4 a0)) k_a0 (show 0 ≤ ((q_I r45.2 12 4 a0)).toInt by first | assumption | omega) i47) (fun r105 hr106 => ?_)
      obtain ⟨i107, ⟨u109, u110, u111, u112⟩, p108⟩ := hr106
      have u113 := kp_t u55 u109
      have v114 : q_V r105 = q_V δ := (u110).trans v56
      have v115 : q_R r105 = q_R δ := (u111).trans v57
      have v116 := kr_t v58 u112
      have f117 := ti_b (q_I r105 12 5 a0)
      unfold J_X12_sign_24
      refine ok_bind (k_X12_fine L hN (a0 := a0) k_a0 i107) (fun r118 hr119 => ?_)
      obtain ⟨i120, p121, p122, p123⟩ := hr119
      try rw [i120]
      have f124 := bo_t p121
      have f125 := ti_b r118.1
      have f126 := ti_b r118.1
      refine ok_ite (fun h127 => ?_) (fun h127 => ?_)
      · have c128 : r118.1.toInt = (0 : Int) := o_eq h127
        unfold J_X12_sign_41
        have f129 := cb_12_4 i107 k_a0
        have f130 : (q_I r105 12 4 a0).toInt = (q_I r45.2 12 4 a0).toInt := congrArg Int32.toInt (u109 12 4 a0 (by decide))
        exact ok_some (show RI ad h.1 δ0 r105 ∧ (kp [(12, 4), (12, 5), (12, 6)] δ r105 ∧ q_V r105 = q_V δ ∧ q_R r105 = q_R δ ∧ kr ad [] δ r105) ∧ (q_I δ 12 4 a0).toInt ≤ (q_I r105 12 4 a0).toInt ∧ ((q_I δ 12 5 a0).toInt ≠ -1 → (q_I r105 12 5 a0).toInt ≠ -1) ∧ ((q_I r105 12 5 a0).toInt = -1 → (q_I δ 12 4 a0).toInt < (q_I r105 12 4 a0).toInt) from ⟨i107, ⟨kp_w (by decide) u113, v114, v115, kr_w (by decide) v116⟩, by first | assumption | omega, by first | assumption | omega, by first | assumption | omega⟩)
      · have c131 : r118.1.toInt ≠ (0 : Int) := o_ne h127
        have f135 := cb_12_4 i107 k_a0
        have f136 : (q_I r105 12 4 a0).toInt = (q_I r45.2 12 4 a0).toInt := congrArg Int32.toInt (u109 12 4 a0 (by decide))
        first | (have q138 := te_addc (c := 1) (n := 1) rfl (q_I r105 12 4 a0) (by omega) (by omega); obtain ⟨f139, f140, f141⟩ := q138) | (obtain ⟨q138, f139, f140, f141⟩ := ti_addc (c := 1) (n := 1) rfl (q_I r105 12 4 a0))
        refine ok_bdv (fun d132 e133 => ?_)
        have i134 : RI ad h.1 δ0 d132 := by rw [e133]; exact cs_12_4 L i107 k_a0 (show 0 ≤ ((q_I r105 12 4 a0) + (1 : Int32)).toInt by omega) (show ((q_I r105 12 4 a0) + (1 : Int32)).toInt ≤ 500 by omega)
        have u142 := kp_I u113 e133
        have v143 : q_V d132 = q_V δ := ((show q_V d132 = q_V r105 by rw [e133]; rfl)).trans v114
        have v144 : q_R d132 = q_R δ := ((show q_R d132 = q_R r105 by rw [e133]; rfl)).trans v115
        have v145 := kr_N v116 (show q_R d132 = q_R r105 by rw [e133]; rfl)
        unfold J_X12_sign_41
        have f146 := cb_12_4 i134 k_a0
        have f147 : (q_I d132 12 4 a0).toInt = ((q_I r105 12 4 a0) + (1 : Int32)).toInt := congrArg Int32.toInt (show q_I d132 12 4 a0 = ((q_I r105 12 4 a0) + (1 : Int32)) by rw [e133]; exact rI_s)
        have f148 := ti_b (q_I d132 12 5 a0)
        have f149 : (q_I d132 12 5 a0).toInt = (q_I r105 12 5 a0).toInt := congrArg Int32.toInt (by rw [e133]; exact rI_o (by decide))
        exact ok_some (show RI ad h.1 δ0 d132 ∧ (kp [(12, 4), (12, 5), (12, 6)] δ d132 ∧ q_V d132 = q_V δ ∧ q_R d132 = q_R δ ∧ kr ad [] δ d132) ∧ (q_I δ 12 4 a0).toInt ≤ (q_I d132 12 4 a0).toInt ∧ ((q_I δ 12 5 a0).toInt ≠ -1 → (q_I d132 12 5 a0).toInt ≠ -1) ∧ ((q_I d132 12 5 a0).toInt = -1 → (q_I δ 12 4 a0).toInt < (q_I d132 12 4 a0).toInt) from ⟨i134, ⟨kp_w (by decide) u142, v143, v144, kr_w (by decide) v145⟩, by first | assumption | omega, by first | assumption | omega, by first | assumption | omega⟩)
set_option maxHeartbeats 4000000 in
theorem k_X12_isMore {ad : List Nat} {h : hp} (L : Lay TLx ad h) {δ0 : dp} {N : Nat} (hN : 10000000 ≤ N) {a0 : Nat} (k_a0 : q_K h.1 a0 = 12) {δ : dp} (I : RI ad h.1 δ0 δ) : ok (D_X12_isMore N h.1 a0 δ) (fun r => RI ad h.1 δ0 r.2 ∧ (kp [(12, 4)] δ r.2 ∧ q_V r.2 = q_V δ ∧ q_R r.2 = q_R δ ∧ kr ad [] δ r.2) ∧ bo (r.1) ∧ (q_I δ 12 4 a0).toInt ≤ (q_I r.2 12 4 a0).toInt ∧ ((r.1).toInt = 1 → (q_I r.2 12 4 a0).toInt < (q_I δ 12 3 a0).toInt)) := by
  unfold D_X12_isMore
  refine ok_bind (k_X12_here L hN (a0 := a0) k_a0 I) (fun r1 hr2 => ?_)
  obtain ⟨i3, ⟨u7, u8, u9, u10⟩, p4, p5, p6⟩ := hr2
  have u11 := kp_t kp_r u7
  have v12 : q_V r1.2 = q_V δ := (u8).trans rfl
  have v13 : q_R r1.2 = q_R δ := (u9).trans rfl
  have v14 := kr_t kr_r u10
  have f15 := cb_12_4 I k_a0
  have f16 := cb_12_4 i3 k_a0
  have f17 : hc ad r1.2 a0 = (q_R r1.2 (Ad ad 101) (q_I r1.2 12 4 a0).toNatClampNeg).toInt := rfl
  have t18 := ti_tn (q_I r1.2 12 4 a0)
  have f19 : (q_R r1.2 (Ad ad 101) (q_I r1.2 12 4 a0).toNatClampNeg).toInt = (q_R δ (Ad ad 101) (q_I r1.2 12 4 a0).toNatClampNeg).toInt := congrArg Int32.toInt (congrFun (u10 101 (by decide) (by decide) (by decide)) _)
  have f20 := ti_b (q_R δ (Ad ad 101) (q_I r1.2 12 4 a0).toNatClampNeg)
  have f21 := ti_b (q_R r1.2 (Ad ad 101) (q_I r1.2 12 4 a0).toNatClampNeg)
  have f22 := ti_b r1.1
  have f23 := cb_12_3 I k_a0
  have f24 : hc ad δ a0 = (q_R δ (Ad ad 101) (q_I δ 12 4 a0).toNatClampNeg).toInt := rfl
  have t25 := ti_tn (q_I δ 12 4 a0)
  have f26 := ti_b (q_R δ (Ad ad 101) (q_I δ 12 4 a0).toNatClampNeg)
  have f27 := ti_b r1.1
  have f28 := cb_12_3 i3 k_a0
  have f29 : (q_I r1.2 12 3 a0).toInt = (q_I δ 12 3 a0).toInt := congrArg Int32.toInt (u7 12 3 a0 (by decide))
  refine ok_ite (fun h30 => ?_) (fun h30 => ?_)
  · have c31 : (q_I r1.2 12 3 a0).toInt ≤ (q_I r1.2 12 4 a0).toInt := o_le h30
    unfold J_X12_isMore_21
    refine ok_gp (by decide) ?_
    exact ok_some (show RI ad h.1 δ0 r1.2 ∧ (kp [(12, 4)] δ r1.2 ∧ q_V r1.2 = q_V δ ∧ q_R r1.2 = q_R δ ∧ kr ad [] δ r1.2) ∧ bo ((0 : Int32)) ∧ (q_I δ 12 4 a0).toInt ≤ (q_I r1.2 12 4 a0).toInt ∧ ((0 : Int) = 1 → (q_I r1.2 12 4 a0).toInt < (q_I δ 12 3 a0).toInt) from ⟨i3, ⟨kp_w (by decide) u11, v12, v13, kr_w (by decide) v14⟩, bo_0, by first | assumption | omega, by first | assumption | omega⟩)
  · have c32 : (q_I r1.2 12 4 a0).toInt < (q_I r1.2 12 3 a0).toInt := o_nle h30
    unfold J_X12_isMore_21
    refine ok_gp (by decide) ?_
    exact ok_some (show RI ad h.1 δ0 r1.2 ∧ (kp [(12, 4)] δ r1.2 ∧ q_V r1.2 = q_V δ ∧ q_R r1.2 = q_R δ ∧ kr ad [] δ r1.2) ∧ bo ((1 : Int32)) ∧ (q_I δ 12 4 a0).toInt ≤ (q_I r1.2 12 4 a0).toInt ∧ ((1 : Int) = 1 → (q_I r1.2 12 4 a0).toInt < (q_I δ 12 3 a0).toInt) from ⟨i3, ⟨kp_w (by decide) u11, v12, v13, kr_w (by decide) v14⟩, bo_1, by first | assumption | omega, by first | assumption | omega⟩)
set_option maxHeartbeats 4000000 in
theorem k_X12_begins {ad : List Nat} {h : hp} (L : Lay TLx ad h) {δ0 : dp} {N : Nat} (hN : 10000000 ≤ N) {a0 : Nat} {x1 : Int32} (k_a0 : q_K h.1 a0 = 12) {δ : dp} (z0 : 0 ≤ (x1).toInt) (z1 : (x1).toInt ≤ 500) (I : RI ad h.1 δ0 δ) : ok (D_X12_begins N h.1 a0 x1 δ) (fun r => RI ad h.1 δ0 r ∧ (kp [(12, 2), (12, 3), (12, 4), (12, 5), (12, 7), (12, 8)] δ r ∧ q_V r = q_V δ ∧ q_R r = q_R δ ∧ kr ad [] δ r) ∧ (q_I r 12 2 a0).toInt = 0 ∧ (q_I r 12 4 a0).toInt = 0 ∧ (q_I r 12 3 a0).toInt = (x1).toInt ∧ (q_I r 12 5 a0).toInt = -1 ∧ (q_I r 12 7 a0).toInt = 0) := by
  unfold D_X12_begins
  have f1 := ti_b x1
  refine ok_bdv (fun d2 e3 => ?_)
  have i4 : RI ad h.1 δ0 d2 := by rw [e3]; exact cs_12_2 L I k_a0 (show 0 ≤ (0 : Int) by omega) (show (0 : Int) ≤ 500 by omega)
  have u5 := kp_I kp_r e3
  have v6 : q_V d2 = q_V δ := ((show q_V d2 = q_V δ by rw [e3]; rfl)).trans rfl
  have v7 : q_R d2 = q_R δ := ((show q_R d2 = q_R δ by rw [e3]; rfl)).trans rfl
  have v8 := kr_N kr_r (show q_R d2 = q_R δ by rw [e3]; rfl)
  refine ok_bdv (fun d9 e10 => ?_)
  have i11 : RI ad h.1 δ0 d9 := by rw [e10]; exact cs_12_8 L i4
  have u12 := kp_I u5 e10
  have v13 : q_V d9 = q_V δ := ((show q_V d9 = q_V d2 by rw [e10]; rfl)).trans v6
  have v14 : q_R d9 = q_R δ := ((show q_R d9 = q_R d2 by rw [e10]; rfl)).trans v7
  have v15 := kr_N v8 (show q_R d9 = q_R d2 by rw [e10]; rfl)
  refine ok_bdv (fun d16 e17 => ?_)
  have i18 : RI ad h.1 δ0 d16 := by rw [e17]; exact cs_12_3 L i11 k_a0 (show 0 ≤ x1.toInt by omega) (show x1.toInt ≤ 500 by omega)
  have u19 := kp_I u12 e17
  have v20 : q_V d16 = q_V δ := ((show q_V d16 = q_V d9 by rw [e17]; rfl)).trans v13
  have v21 : q_R d16 = q_R δ := ((show q_R d16 = q_R d9 by rw [e17]; rfl)).trans v14
  have v22 := kr_N v15 (show q_R d16 = q_R d9 by rw [e17]; rfl)
  refine ok_bdv (fun d23 e24 => ?_)
  have i25 : RI ad h.1 δ0 d23 := by rw [e24]; exact cs_12_4 L i18 k_a0 (show 0 ≤ (0 : Int) by omega) (show (0 : Int) ≤ 500 by omega)
  have u26 := kp_I u19 e24
  have v27 : q_V d23 = q_V δ := ((show q_V d23 = q_V d16 by rw [e24]; rfl)).trans v20
  have v28 : q_R d23 = q_R δ := ((show q_R d23 = q_R d16 by rw [e24]; rfl)).trans v21
  have v29 := kr_N v22 (show q_R d23 = q_R d16 by rw [e24]; rfl)
  refine ok_bdv (fun d30 e31 => ?_)
  have i32 : RI ad h.1 δ0 d30 := by rw [e31]; exact cs_12_5 L i25
  have u33 := kp_I u26 e31
  have v34 : q_V d30 = q_V δ := ((show q_V d30 = q_V d23 by rw [e31]; rfl)).trans v27
  have v35 : q_R d30 = q_R δ := ((show q_R d30 = q_R d23 by rw [e31]; rfl)).trans v28
  have v36 := kr_N v29 (show q_R d30 = q_R d23 by rw [e31]; rfl)
  refine ok_bdv (fun d37 e38 => ?_)
  have i39 : RI ad h.1 δ0 d37 := by rw [e38]; exact cs_12_7 L i32
  have u40 := kp_I u33 e38
  have v41 : q_V d37 = q_V δ := ((show q_V d37 = q_V d30 by rw [e38]; rfl)).trans v34
  have v42 : q_R d37 = q_R δ := ((show q_R d37 = q_R d30 by rw [e38]; rfl)).trans v35
  have v43 := kr_N v36 (show q_R d37 = q_R d30 by rw [e38]; rfl)
  have f44 := cb_12_2 i39 k_a0
  have f45 : (q_I d37 12 2 a0).toInt = (q_I d30 12 2 a0).toInt := congrArg Int32.toInt (by rw [e38]; exact rI_o (by decide))
  have f46 := cb_12_2 i32 k_a0
  have f47 : (q_I d30 12 2 a0).toInt = (q_I d23 12 2 a0).toInt := congrArg Int32.toInt (by rw [e31]; exact rI_o (by decide))
  have f48 := cb_12_2 i25 k_a0
  have f49 : (q_I d23 12 2 a0).toInt = (q_I d16 12 2 a0).toInt := congrArg Int32.toInt (by rw [e24]; exact rI_o (by decide))
  have f50 := cb_12_2 i18 k_a0
  have f51 : (q_I d16 12 2 a0).toInt = (q_I d9 12 2 a0).toInt := congrArg Int32.toInt (by rw [e17]; exact rI_o (by decide))
  have f52 := cb_12_2 i11 k_a0
  have f53 : (q_I d9 12 2 a0).toInt = (q_I d2 12 2 a0).toInt := congrArg Int32.toInt (by rw [e10]; exact rI_o (by decide))
  have f54 := cb_12_2 i4 k_a0
  have f55 : (q_I d2 12 2 a0).toInt = (0 : Int) := congrArg Int32.toInt (show q_I d2 12 2 a0 = (0 : Int32) by rw [e3]; exact rI_s)
  have f56 := cb_12_4 i39 k_a0
  have f57 : (q_I d37 12 4 a0).toInt = (q_I d30 12 4 a0).toInt := congrArg Int32.toInt (by rw [e38]; exact rI_o (by decide))
  have f58 := cb_12_4 i32 k_a0
  have f59 : (q_I d30 12 4 a0).toInt = (q_I d23 12 4 a0).toInt := congrArg Int32.toInt (by rw [e31]; exact rI_o (by decide))
  have f60 := cb_12_4 i25 k_a0
  have f61 : (q_I d23 12 4 a0).toInt = (0 : Int) := congrArg Int32.toInt (show q_I d23 12 4 a0 = (0 : Int32) by rw [e24]; exact rI_s)
  have f62 := cb_12_3 i39 k_a0
  have f63 : (q_I d37 12 3 a0).toInt = (q_I d30 12 3 a0).toInt := congrArg Int32.toInt (by rw [e38]; exact rI_o (by decide))
  have f64 := cb_12_3 i32 k_a0
  have f65 : (q_I d30 12 3 a0).toInt = (q_I d23 12 3 a0).toInt := congrArg Int32.toInt (by rw [e31]; exact rI_o (by decide))
  have f66 := cb_12_3 i25 k_a0
  have f67 : (q_I d23 12 3 a0).toInt = (q_I d16 12 3 a0).toInt := congrArg Int32.toInt (by rw [e24]; exact rI_o (by decide))
  have f68 := cb_12_3 i18 k_a0
  have f69 : (q_I d16 12 3 a0).toInt = x1.toInt := congrArg Int32.toInt (show q_I d16 12 3 a0 = x1 by rw [e17]; exact rI_s)
  have f70 := ti_b (q_I d37 12 5 a0)
  have f71 : (q_I d37 12 5 a0).toInt = (q_I d30 12 5 a0).toInt := congrArg Int32.toInt (by rw [e38]; exact rI_o (by decide))
  have f72 := ti_b (q_I d30 12 5 a0)
  have f73 : (q_I d30 12 5 a0).toInt = (-1 : Int) := congrArg Int32.toInt (show q_I d30 12 5 a0 = (-1 : Int32) by rw [e31]; exact rI_s)
  have f74 := ti_b (q_I d37 12 7 a0)
  have f75 : (q_I d37 12 7 a0).toInt = (0 : Int) := congrArg Int32.toInt (show q_I d37 12 7 a0 = (0 : Int32) by rw [e38]; exact rI_s)
  exact ok_some (show RI ad h.1 δ0 d37 ∧ (kp [(12, 2), (12, 3), (12, 4), (12, 5), (12, 7), (12, 8)] δ d37 ∧ q_V d37 = q_V δ ∧ q_R d37 = q_R δ ∧ kr ad [] δ d37) ∧ (q_I d37 12 2 a0).toInt = 0 ∧ (q_I d37 12 4 a0).toInt = 0 ∧ (q_I d37 12 3 a0).toInt = (x1).toInt ∧ (q_I d37 12 5 a0).toInt = -1 ∧ (q_I d37 12 7 a0).toInt = 0 from ⟨i39, ⟨kp_w (by decide) u40, v41, v42, kr_w (by decide) v43⟩, by first | assumption | omega, by first | assumption | omega, by first | assumption | omega, by first | assumption | omega, by first | assumption | omega⟩)
set_option maxHeartbeats 4000000 in
theorem k_X12_result {ad : List Nat} {h : hp} (L : Lay TLx ad h) {δ0 : dp} {N : Nat} (hN : 10000000 ≤ N) {a0 : Nat} {x1 : Int32} (k_a0 : q_K h.1 a0 = 12) {δ : dp} (I : RI ad h.1 δ0 δ) : ok (D_X12_result N h.1 a0 x1 δ) (fun r => RI ad h.1 δ0 r.2 ∧ (kp [(12, 8)] δ r.2 ∧ q_V r.2 = q_V δ ∧ q_R r.2 = q_R δ ∧ kr ad [] δ r.2)) := by
  unfold D_X12_result
  have f4 := ti_b (q_I δ 12 5 a0)
  refine ok_bdv (fun d1 e2 => ?_)
  have i3 : RI ad h.1 δ0 d1 := by rw [e2]; exact cs_12_8 L I
  have u5 := kp_I kp_r e2
  have v6 : q_V d1 = q_V δ := ((show q_V d1 = q_V δ by rw [e2]; rfl)).trans rfl
  have v7 : q_R d1 = q_R δ := ((show q_R d1 = q_R δ by rw [e2]; rfl)).trans rfl
  have v8 := kr_N kr_r (show q_R d1 = q_R δ by rw [e2]; rfl)
  refine ok_bind (k_X12_fine L hN (a0 := a0) k_a0 i3) (fun r9 hr10 => ?_)
  obtain ⟨i11, p12, p13, p14⟩ := hr10
  try rw [i11]
  have f15 := bo_t p12
  have f16 := ti_b r9.1
  have f17 := ti_b (q_I d1 12 5 a0)
  have f18 : (q_I d1 12 5 a0).toInt = (q_I δ 12 5 a0).toInt := congrArg Int32.toInt (by rw [e2]; exact rI_o (by decide))
  have f19 := ti_b r9.1
  refine ok_ite (fun h20 => ?_) (fun h20 => ?_)
  · have c21 : r9.1.toInt = (0 : Int) := o_eq h20
    unfold J_X12_result_26
    exact ok_some (show RI ad h.1 δ0 d1 ∧ (kp [(12, 8)] δ d1 ∧ q_V d1 = q_V δ ∧ q_R d1 = q_R δ ∧ kr ad [] δ d1) from ⟨i3, ⟨kp_w (by decide) u5, v6, v7, kr_w (by decide) v8⟩⟩)
  · have c22 : r9.1.toInt ≠ (0 : Int) := o_ne h20
    unfold J_X12_result_26
    exact ok_some (show RI ad h.1 δ0 d1 ∧ (kp [(12, 8)] δ d1 ∧ q_V d1 = q_V δ ∧ q_R d1 = q_R δ ∧ kr ad [] δ d1) from ⟨i3, ⟨kp_w (by decide) u5, v6, v7, kr_w (by decide) v8⟩⟩)
set_option maxHeartbeats 4000000 in
theorem k_X12_fault {ad : List Nat} {h : hp} (L : Lay TLx ad h) {δ0 : dp} {N : Nat} (hN : 10000000 ≤ N) {a0 : Nat} (k_a0 : q_K h.1 a0 = 12) {δ : dp} (I : RI ad h.1 δ0 δ) : ok (D_X12_fault N h.1 a0 δ) (fun r => RI ad h.1 δ0 r.2 ∧ (kp [(12, 0)] δ r.2 ∧ q_V r.2 = q_V δ ∧ q_R r.2 = q_R δ ∧ kr ad [] δ r.2)) := by
  unfold D_X12_fault
  refine ok_bdv (fun d1 e2 => ?_)
  have i3 : RI ad h.1 δ0 d1 := by rw [e2]; exact cs_12_0 L I
  have u4 := kp_I kp_r e2
  have v5 : q_V d1 = q_V δ := ((show q_V d1 = q_V δ by rw [e2]; rfl)).trans rfl
  have v6 : q_R d1 = q_R δ := ((show q_R d1 = q_R δ by rw [e2]; rfl)).trans rfl
  have v7 := kr_N kr_r (show q_R d1 = q_R δ by rw [e2]; rfl)
  exact ok_some (show RI ad h.1 δ0 d1 ∧ (kp [(12, 0)] δ d1 ∧ q_V d1 = q_V δ ∧ q_R d1 = q_R δ ∧ kr ad [] δ d1) from ⟨i3, ⟨kp_w (by decide) u4, v5, v6, kr_w (by decide) v7⟩⟩)
set_option maxHeartbeats 4000000 in
theorem kl_X12_shape_299 {ad : List Nat} {h : hp} (L : Lay TLx ad h) {δ0 : dp} {N : Nat} (hN : 10000000 ≤ N) {a0 : Nat} {x1 : Int32} (k_a0 : q_K h.1 a0 = 12) : ∀ (n : Nat) (x6v : Int32) (δ : dp), RI ad h.1 δ0 δ → 0 ≤ (x6v).toInt → (x6v).toInt ≤ 4 → 4 - (x6v).toInt < (n : Int) → ok (L_X12_shape_299 N h.1 a0 x1 n x6v δ) (fun r => RI ad h.1 δ0 r.2 ∧ (kp [(12, 0), (12, 2), (12, 3), (12, 4), (12, 5), (12, 6), (12, 7), (12, 8), (12, 10), (12, 11), (12, 12), (12, 18)] δ r.2 ∧ q_V r.2 = q_V δ ∧ kr ad [100, 103, 106] δ r.2) ∧ (q_I r.2 12 2 a0).toInt = (q_I δ 12 2 a0).toInt) := by
  intro n
  induction n with
  | zero =>
    intro x6v δ I j0 j1 hm
    have f1 := ti_b x6v
    exfalso; omega
  | succ n ih =>
    intro x6v δ I j0 j1 hm
    unfold L_X12_shape_299
    have f1 := ti_b x6v
    refine ok_ite (fun h2 => ?_) (fun h2 => ?_)
    · have c3 : (4 : Int) ≤ x6v.toInt := o_le h2
      refine ok_bdv (fun d4 e5 => ?_)
      have i6 : RI ad h.1 δ0 d4 := by rw [e5]; exact cs_12_18 L I k_a0 (show 0 ≤ (0 : Int) by omega) (show (0 : Int) ≤ 3 by omega)
      have u7 := kp_I kp_r e5
      have v8 : q_V d4 = q_V δ := ((show q_V d4 = q_V δ by rw [e5]; rfl)).trans rfl
      have v9 := kr_N kr_r (show q_R d4 = q_R δ by rw [e5]; rfl)
      refine ok_bind (k_X12_result L hN (a0 := a0) (x1 := (q_I d4 12 10 a0)) k_a0 i6) (fun r10 hr11 => ?_)
      obtain ⟨i12, ⟨u13, u14, u15, u16⟩⟩ := hr11
      have u17 := kp_t u7 u13
      have v18 : q_V r10.2 = q_V δ := (u14).trans v8
      have v19 := kr_t v9 u16
      have f20 := ti_b r10.1
      have f21 := cb_12_2 i12 k_a0
      have f22 : (q_I r10.2 12 2 a0).toInt = (q_I d4 12 2 a0).toInt := congrArg Int32.toInt (u13 12 2 a0 (by decide))
      have f23 := cb_12_2 i6 k_a0
      have f24 : (q_I d4 12 2 a0).toInt = (q_I δ 12 2 a0).toInt := congrArg Int32.toInt (by rw [e5]; exact rI_o (by decide))
      have f25 := cb_12_2 I k_a0
      exact ok_some (show RI ad h.1 δ0 r10.2 ∧ (kp [(12, 0), (12, 2), (12, 3), (12, 4), (12, 5), (12, 6), (12, 7), (12, 8), (12, 10), (12, 11), (12, 12), (12, 18)] δ r10.2 ∧ q_V r10.2 = q_V δ ∧ kr ad [100, 103, 106] δ r10.2) ∧ (q_I r10.2 12 2 a0).toInt = (q_I δ 12 2 a0).toInt from ⟨i12, ⟨kp_w (by decide) u17, v18, kr_w (by decide) v19⟩, by first | assumption | omega⟩)
    · have c26 : x6v.toInt < (4 : Int) := o_nle h2
      obtain ⟨b27, o28, k29, n30⟩ := gO_12_14 L k_a0
      obtain rfl := gS_12_14 L k_a0 o28
      refine ok_at o28 ?_
      have t31 := ti_tn x6v
      refine ok_gd (fun hc32 => ?_) ?_
      · rcases hc32 with hc32 | hc32
        · have c33 : x6v.toInt < (0 : Int) := o_lt hc32
          omega
        · omega
      refine ok_bdv (fun d34 e35 => ?_)
      have i36 : RI ad h.1 δ0 d34 := by rw [e35]; exact cr_103 L I (show -1000 ≤ (0 : Int) by omega) (show (0 : Int) ≤ 2000 by omega)
      have u37 := kp_N kp_r (show q_I d34 = q_I δ by rw [e35]; rfl)
      have v38 : q_V d34 = q_V δ := ((show q_V d34 = q_V δ by rw [e35]; rfl)).trans rfl
      have v39 := kr_s L (by decide) kr_r e35
      obtain ⟨b40, o41, k42, n43⟩ := gO_12_17 L k_a0
      obtain rfl := gS_12_17 L k_a0 o41
      refine ok_at o41 ?_
      refine ok_gd (fun hc44 => ?_) ?_
      · rcases hc44 with hc44 | hc44
        · have c45 : x6v.toInt < (0 : Int) := o_lt hc44
          omega
        · omega
      refine ok_bdv (fun d46 e47 => ?_)
      have i48 : RI ad h.1 δ0 d46 := by rw [e47]; exact cr_106 L i36 (show 0 ≤ (0 : Int) by omega) (show (0 : Int) ≤ 1000 by omega)
      have u49 := kp_N u37 (show q_I d46 = q_I d34 by rw [e47]; rfl)
      have v50 : q_V d46 = q_V δ := ((show q_V d46 = q_V d34 by rw [e47]; rfl)).trans v38
      have v51 := kr_s L (by decide) v39 e47
      refine ok_biv (fun vx52 e53 => ?_)
      first | (have q54 := te_addc (c := 1) (n := 1) rfl x6v (by omega) (by omega); rw [← e53] at q54; obtain ⟨f55, f56, f57⟩ := q54) | (obtain ⟨q54, f55, f56, f57⟩ : ∃ q : Int, vx52.toInt = x6v.toInt + (1 : Int) + 4294967296 * q ∧ -2147483648 ≤ vx52.toInt ∧ vx52.toInt ≤ 2147483647 := by rw [e53]; exact ti_addc (c := 1) (n := 1) rfl x6v)
      refine ok_mono (ih vx52 d46 i48 (show 0 ≤ (vx52).toInt by first | assumption | omega) (show (vx52).toInt ≤ 4 by first | assumption | omega) (show 4 - (vx52).toInt < _ by omega)) (fun r58 hr59 => ?_)
      obtain ⟨i60, ⟨u62, u63, u64⟩, p61⟩ := hr59
      have u65 := kp_t u49 u62
      have v66 : q_V r58.2 = q_V δ := (u63).trans v50
      have v67 := kr_t v51 u64
      have f68 := cb_12_2 i60 k_a0
      have f69 := cb_12_2 i48 k_a0
      have f70 : (q_I d46 12 2 a0).toInt = (q_I d34 12 2 a0).toInt := congrArg Int32.toInt (by rw [e47]; rfl)
      have f71 := cb_12_2 i36 k_a0
      have f72 : (q_I d34 12 2 a0).toInt = (q_I δ 12 2 a0).toInt := congrArg Int32.toInt (by rw [e35]; rfl)
      have f73 := cb_12_2 I k_a0
      have f74 := ti_b r58.1
      exact ⟨by assumption, ⟨kp_w (by decide) u65, v66, kr_w (by decide) v67⟩, by first | assumption | omega⟩
set_option maxHeartbeats 4000000 in
theorem kj_X12_shape_258 {ad : List Nat} {h : hp} (L : Lay TLx ad h) {δ0 : dp} {N : Nat} (hN : 10000000 ≤ N) {a0 : Nat} {x1 : Int32} {kt49 : Int32 → Int32 → Int32 → Int32 → dp → Option (Int32 × dp)} {K49 : Int} (h_kt49 : ∀ (x2v : Int32) (x3v : Int32) (x4v : Int32) (x5v : Int32) (δ : dp), RI ad h.1 δ0 δ → ((q_I δ 12 5 a0).toInt = -1 → 2 ≤ (x2v).toInt ∧ (x2v).toInt ≤ 16 ∧ 1 ≤ (x3v).toInt ∧ (x3v).toInt ≤ 5) → ((x4v).toInt = 0 ∨ (x4v).toInt = 1) → 501 - (q_I δ 12 4 a0).toInt < K49 → ok (kt49 x2v x3v x4v x5v δ) (fun r => RI ad h.1 δ0 r.2 ∧ (kp [(12, 0), (12, 2), (12, 3), (12, 4), (12, 5), (12, 6), (12, 7), (12, 8), (12, 10), (12, 11), (12, 12), (12, 18)] δ r.2 ∧ q_V r.2 = q_V δ ∧ kr ad [100, 103, 106] δ r.2) ∧ (q_I r.2 12 2 a0).toInt = (q_I δ 12 2 a0).toInt)) {x2v : Int32} {x3v : Int32} {x4v : Int32} {x5v : Int32} (k_a0 : q_K h.1 a0 = 12) {δ : dp} (z0 : (q_I δ 12 5 a0).toInt = -1 → 2 ≤ (x2v).toInt ∧ (x2v).toInt ≤ 16 ∧ 1 ≤ (x3v).toInt ∧ (x3v).toInt ≤ 5) (z1 : (x4v).toInt = 0 ∨ (x4v).toInt = 1) (z2 : 501 - (q_I δ 12 4 a0).toInt < K49) (I : RI ad h.1 δ0 δ) : ok (J_X12_shape_258 N h.1 a0 x1 kt49 x2v x3v x4v x5v δ) (fun r => RI ad h.1 δ0 r.2 ∧ (kp [(12, 0), (12, 2), (12, 3), (12, 4), (12, 5), (12, 6), (12, 7), (12, 8), (12, 10), (12, 11), (12, 12), (12, 18)] δ r.2 ∧ q_V r.2 = q_V δ ∧ kr ad [100, 103, 106] δ r.2) ∧ (q_I r.2 12 2 a0).toInt = (q_I δ 12 2 a0).toInt) := by
  unfold J_X12_shape_258
  have f1 := ti_b (q_I δ 12 5 a0)
  have f2 := ti_b x2v
  have f3 := ti_b x3v
  have f4 := ti_b x4v
  have f5 := cb_12_4 I k_a0
  refine ok_bind (k_X12_sign L hN (a0 := a0) (x1 := (59 : Int32)) k_a0 (show (59 : Int) ≠ 0 by first | assumption | omega) I) (fun r6 hr7 => ?_)
  obtain ⟨i8, ⟨u12, u13, u14, u15⟩, p9, p10, p11⟩ := hr7
  have u16 := kp_t kp_r u12
  have v17 : q_V r6 = q_V δ := (u13).trans rfl
  have v18 := kr_t kr_r u15
  have f19 := cb_12_4 i8 k_a0
  have f20 := ti_b (q_I r6 12 5 a0)
  refine ok_mono (h_kt49 x2v x3v x4v x5v r6 i8 (show (q_I r6 12 5 a0).toInt = -1 → 2 ≤ (x2v).toInt ∧ (x2v).toInt ≤ 16 ∧ 1 ≤ (x3v).toInt ∧ (x3v).toInt ≤ 5 by first | assumption | omega) (show (x4v).toInt = 0 ∨ (x4v).toInt = 1 by first | assumption | omega) (show 501 - (q_I r6 12 4 a0).toInt < _ by omega)) (fun r21 hr22 => ?_)
  obtain ⟨i23, ⟨u25, u26, u27⟩, p24⟩ := hr22
  have u28 := kp_t u16 u25
  have v29 : q_V r21.2 = q_V δ := (u26).trans v17
  have v30 := kr_t v18 u27
  have f31 := cb_12_2 i23 k_a0
  have f32 := cb_12_2 i8 k_a0
  have f33 : (q_I r6 12 2 a0).toInt = (q_I δ 12 2 a0).toInt := congrArg Int32.toInt (u12 12 2 a0 (by decide))
  have f34 := cb_12_2 I k_a0
  have f35 := ti_b r21.1
  exact ⟨by assumption, ⟨kp_w (by decide) u28, v29, kr_w (by decide) v30⟩, by first | assumption | omega⟩
set_option maxHeartbeats 4000000 in
theorem kj_X12_shape_219 {ad : List Nat} {h : hp} (L : Lay TLx ad h) {δ0 : dp} {N : Nat} (hN : 10000000 ≤ N) {a0 : Nat} {x1 : Int32} {kt49 : Int32 → Int32 → Int32 → Int32 → dp → Option (Int32 × dp)} {K49 : Int} (h_kt49 : ∀ (x2v : Int32) (x3v : Int32) (x4v : Int32) (x5v : Int32) (δ : dp), RI ad h.1 δ0 δ → ((q_I δ 12 5 a0).toInt = -1 → 2 ≤ (x2v).toInt ∧ (x2v).toInt ≤ 16 ∧ 1 ≤ (x3v).toInt ∧ (x3v).toInt ≤ 5) → ((x4v).toInt = 0 ∨ (x4v).toInt = 1) → 501 - (q_I δ 12 4 a0).toInt < K49 → ok (kt49 x2v x3v x4v x5v δ) (fun r => RI ad h.1 δ0 r.2 ∧ (kp [(12, 0), (12, 2), (12, 3), (12, 4), (12, 5), (12, 6), (12, 7), (12, 8), (12, 10), (12, 11), (12, 12), (12, 18)] δ r.2 ∧ q_V r.2 = q_V δ ∧ kr ad [100, 103, 106] δ r.2) ∧ (q_I r.2 12 2 a0).toInt = (q_I δ 12 2 a0).toInt)) {xs0 : Int32} {x2v : Int32} {x3v : Int32} {x5v : Int32} (k_a0 : q_K h.1 a0 = 12) {δ : dp} (z0 : (q_I δ 12 5 a0).toInt = -1 → 2 ≤ (x2v).toInt ∧ (x2v).toInt ≤ 16 ∧ 1 ≤ (x3v).toInt ∧ (x3v).toInt ≤ 5) (z1 : (xs0).toInt = 0 ∨ (xs0).toInt = 1) (z2 : 501 - (q_I δ 12 4 a0).toInt < K49) (I : RI ad h.1 δ0 δ) : ok (J_X12_shape_219 N h.1 a0 x1 kt49 xs0 x2v x3v x5v δ) (fun r => RI ad h.1 δ0 r.2 ∧ (kp [(12, 0), (12, 2), (12, 3), (12, 4), (12, 5), (12, 6), (12, 7), (12, 8), (12, 10), (12, 11), (12, 12), (12, 18)] δ r.2 ∧ q_V r.2 = q_V δ ∧ kr ad [100, 103, 106] δ r.2) ∧ (q_I r.2 12 2 a0).toInt = (q_I δ 12 2 a0).toInt) := by
  unfold J_X12_shape_219
  have f1 := ti_b (q_I δ 12 5 a0)
  have f2 := ti_b x2v
  have f3 := ti_b x3v
  have f4 := ti_b xs0
  have f5 := cb_12_4 I k_a0
  refine ok_ite (fun h6 => ?_) (fun h6 => ?_)
  · have c7 : xs0.toInt = (0 : Int) := o_eq h6
    refine ok_bind (k_X12_word L hN (a0 := a0) k_a0 I) (fun r8 hr9 => ?_)
    obtain ⟨i10, ⟨u13, u14, u15, u16⟩, p11, p12⟩ := hr9
    have u17 := kp_t kp_r u13
    have v18 : q_V r8.2 = q_V δ := (u14).trans rfl
    have v19 := kr_t kr_r u16
    have f20 := cb_12_4 i10 k_a0
    have f21 : hc ad r8.2 a0 = (q_R r8.2 (Ad ad 101) (q_I r8.2 12 4 a0).toNatClampNeg).toInt := rfl
    have t22 := ti_tn (q_I r8.2 12 4 a0)
    have f23 : (q_R r8.2 (Ad ad 101) (q_I r8.2 12 4 a0).toNatClampNeg).toInt = (q_R δ (Ad ad 101) (q_I r8.2 12 4 a0).toNatClampNeg).toInt := congrArg Int32.toInt (congrFun (u16 101 (by decide) (by decide) (by decide)) _)
    have f24 := ti_b (q_R δ (Ad ad 101) (q_I r8.2 12 4 a0).toNatClampNeg)
    have f25 := ti_b (q_R r8.2 (Ad ad 101) (q_I r8.2 12 4 a0).toNatClampNeg)
    have f26 := ti_b r8.1
    have f27 := cb_12_3 I k_a0
    have f28 := ti_b r8.1
    refine ok_bind (k_X12_of L hN (a0 := 4) (show 4 < 16 by first | assumption | omega) i10) (fun r29 hr30 => ?_)
    obtain ⟨i31, p32⟩ := hr30
    try rw [i31]
    have f33 := ti_b r29.1
    have f34 := ti_b r29.1
    refine ok_ite (fun h35 => ?_) (fun h35 => ?_)
    · have c36 : r8.1.toInt = r29.1.toInt := o_eq h35
      unfold J_X12_shape_247
      refine ok_bind (k_X12_fine L hN (a0 := a0) k_a0 i10) (fun r37 hr38 => ?_)
      obtain ⟨i39, p40, p41, p42⟩ := hr38
      try rw [i39]
      have f43 := bo_t p40
      have f44 := ti_b r37.1
      have f45 := ti_b (q_I r8.2 12 5 a0)
      have f46 : (q_I r8.2 12 5 a0).toInt = (q_I δ 12 5 a0).toInt := congrArg Int32.toInt (u13 12 5 a0 (by decide))
      have f47 := ti_b r37.1
      refine ok_ite (fun h48 => ?_) (fun h48 => ?_)
      · have c49 : r37.1.toInt = (0 : Int) := o_eq h48
        refine ok_mono (kj_X12_shape_258 L hN (K49 := K49) (a0 := a0) (x1 := x1) (x2v := x2v) (x3v := x3v) (x4v := xs0) (x5v := x5v) h_kt49 k_a0 (show (q_I r8.2 12 5 a0).toInt = -1 → 2 ≤ (x2v).toInt ∧ (x2v).toInt ≤ 16 ∧ 1 ≤ (x3v).toInt ∧ (x3v).toInt ≤ 5 by first | assumption | omega) (show (xs0).toInt = 0 ∨ (xs0).toInt = 1 by first | assumption | omega) (show 501 - (q_I r8.2 12 4 a0).toInt < K49 by first | assumption | omega) i10) (fun r50 hr51 => ?_)
        obtain ⟨i52, ⟨u54, u55, u56⟩, p53⟩ := hr51
        have u57 := kp_t u17 u54
        have v58 : q_V r50.2 = q_V δ := (u55).trans v18
        have v59 := kr_t v19 u56
        have f60 := cb_12_2 i52 k_a0
        have f61 := cb_12_2 i10 k_a0
        have f62 : (q_I r8.2 12 2 a0).toInt = (q_I δ 12 2 a0).toInt := congrArg Int32.toInt (u13 12 2 a0 (by decide))
        have f63 := cb_12_2 I k_a0
        have f64 := ti_b r50.1
        exact ⟨by assumption, ⟨kp_w (by decide) u57, v58, kr_w (by decide) v59⟩, by first | assumption | omega⟩
      · have c65 : r37.1.toInt ≠ (0 : Int) := o_ne h48
        refine ok_bind (k_X12_pass L hN (a0 := a0) k_a0 i10) (fun r66 hr67 => ?_)
        obtain ⟨i68, ⟨u71, u72, u73, u74⟩, p69, p70⟩ := hr67
        have u75 := kp_t u17 u71
        have v76 : q_V r66 = q_V δ := (u72).trans v18
        have v77 := kr_t v19 u74
        have f78 := cb_12_4 i68 k_a0
        have f79 := cb_12_3 i10 k_a0
        have f80 : (q_I r8.2 12 3 a0).toInt = (q_I δ 12 3 a0).toInt := congrArg Int32.toInt (u13 12 3 a0 (by decide))
        have f81 := ti_b (q_I r66 12 5 a0)
        have f82 : (q_I r66 12 5 a0).toInt = (q_I r8.2 12 5 a0).toInt := congrArg Int32.toInt (u71 12 5 a0 (by decide))
        refine ok_mono (kj_X12_shape_258 L hN (K49 := K49) (a0 := a0) (x1 := x1) (x2v := x2v) (x3v := x3v) (x4v := xs0) (x5v := x5v) h_kt49 k_a0 (show (q_I r66 12 5 a0).toInt = -1 → 2 ≤ (x2v).toInt ∧ (x2v).toInt ≤ 16 ∧ 1 ≤ (x3v).toInt ∧ (x3v).toInt ≤ 5 by first | assumption | omega) (show (xs0).toInt = 0 ∨ (xs0).toInt = 1 by first | assumption | omega) (show 501 - (q_I r66 12 4 a0).toInt < K49 by first | assumption | omega) i68) (fun r83 hr84 => ?_)
        obtain ⟨i85, ⟨u87, u88, u89⟩, p86⟩ := hr84
        have u90 := kp_t u75 u87
        have v91 : q_V r83.2 = q_V δ := (u88).trans v76
        have v92 := kr_t v77 u89
        have f93 := cb_12_2 i85 k_a0
        have f94 := cb_12_2 i68 k_a0
        have f95 : (q_I r66 12 2 a0).toInt = (q_I r8.2 12 2 a0).toInt := congrArg Int32.toInt (u71 12 2 a0 (by decide))
        have f96 := cb_12_2 i10 k_a0
        have f97 : (q_I r8.2 12 2 a0).toInt = (q_I δ 12 2 a0).toInt := congrArg Int32.toInt (u13 12 2 a0 (by decide))
        have f98 := cb_12_2 I k_a0
        have f99 := ti_b r83.1
        exact ⟨by assumption, ⟨kp_w (by decide) u90, v91, kr_w (by decide) v92⟩, by first | assumption | omega⟩
    · have c100 : r8.1.toInt ≠ r29.1.toInt := o_ne h35
      refine ok_bind (k_X12_wrong L hN (a0 := a0) (x1 := (1 : Int32)) (x2 := (q_I r8.2 12 4 a0)) k_a0 (show 0 ≤ ((q_I r8.2 12 4 a0)).toInt by first | assumption | omega) i10) (fun r101 hr102 => ?_)
      obtain ⟨i103, ⟨u105, u106, u107, u108⟩, p104⟩ := hr102
      have u109 := kp_t u17 u105
      have v110 : q_V r101 = q_V δ := (u106).trans v18
      have v111 := kr_t v19 u108
      have f112 := ti_b (q_I r101 12 5 a0)
      unfold J_X12_shape_247
      refine ok_bind (k_X12_fine L hN (a0 := a0) k_a0 i103) (fun r113 hr114 => ?_)
      obtain ⟨i115, p116, p117, p118⟩ := hr114
      try rw [i115]
      have f119 := bo_t p116
      have f120 := ti_b r113.1
      have f121 := ti_b r113.1
      refine ok_ite (fun h122 => ?_) (fun h122 => ?_)
      · have c123 : r113.1.toInt = (0 : Int) := o_eq h122
        have f124 := cb_12_4 i103 k_a0
        have f125 : (q_I r101 12 4 a0).toInt = (q_I r8.2 12 4 a0).toInt := congrArg Int32.toInt (u105 12 4 a0 (by decide))
        refine ok_mono (kj_X12_shape_258 L hN (K49 := K49) (a0 := a0) (x1 := x1) (x2v := x2v) (x3v := x3v) (x4v := xs0) (x5v := x5v) h_kt49 k_a0 (show (q_I r101 12 5 a0).toInt = -1 → 2 ≤ (x2v).toInt ∧ (x2v).toInt ≤ 16 ∧ 1 ≤ (x3v).toInt ∧ (x3v).toInt ≤ 5 by first | assumption | omega) (show (xs0).toInt = 0 ∨ (xs0).toInt = 1 by first | assumption | omega) (show 501 - (q_I r101 12 4 a0).toInt < K49 by first | assumption | omega) i103) (fun r126 hr127 => ?_)
        obtain ⟨i128, ⟨u130, u131, u132⟩, p129⟩ := hr127
        have u133 := kp_t u109 u130
        have v134 : q_V r126.2 = q_V δ := (u131).trans v110
        have v135 := kr_t v111 u132
        have f136 := cb_12_2 i128 k_a0
        have f137 := cb_12_2 i103 k_a0
        have f138 : (q_I r101 12 2 a0).toInt = (q_I r8.2 12 2 a0).toInt := congrArg Int32.toInt (u105 12 2 a0 (by decide))
        have f139 := cb_12_2 i10 k_a0
        have f140 : (q_I r8.2 12 2 a0).toInt = (q_I δ 12 2 a0).toInt := congrArg Int32.toInt (u13 12 2 a0 (by decide))
        have f141 := cb_12_2 I k_a0
        have f142 := ti_b r126.1
        exact ⟨by assumption, ⟨kp_w (by decide) u133, v134, kr_w (by decide) v135⟩, by first | assumption | omega⟩
      · have c143 : r113.1.toInt ≠ (0 : Int) := o_ne h122
        refine ok_bind (k_X12_pass L hN (a0 := a0) k_a0 i103) (fun r144 hr145 => ?_)
        obtain ⟨i146, ⟨u149, u150, u151, u152⟩, p147, p148⟩ := hr145
        have u153 := kp_t u109 u149
        have v154 : q_V r144 = q_V δ := (u150).trans v110
        have v155 := kr_t v111 u152
        have f156 := cb_12_4 i103 k_a0
        have f157 : (q_I r101 12 4 a0).toInt = (q_I r8.2 12 4 a0).toInt := congrArg Int32.toInt (u105 12 4 a0 (by decide))
        have f158 := cb_12_4 i146 k_a0
        have f159 : hc ad r101 a0 = (q_R r101 (Ad ad 101) (q_I r101 12 4 a0).toNatClampNeg).toInt := rfl
        have t160 := ti_tn (q_I r101 12 4 a0)
        have f161 : (q_R r101 (Ad ad 101) (q_I r101 12 4 a0).toNatClampNeg).toInt = (q_R r8.2 (Ad ad 101) (q_I r101 12 4 a0).toNatClampNeg).toInt := congrArg Int32.toInt (congrFun (u108 101 (by decide) (by decide) (by decide)) _)
        have f162 : (q_R r8.2 (Ad ad 101) (q_I r101 12 4 a0).toNatClampNeg).toInt = (q_R δ (Ad ad 101) (q_I r101 12 4 a0).toNatClampNeg).toInt := congrArg Int32.toInt (congrFun (u16 101 (by decide) (by decide) (by decide)) _)
        have f163 := ti_b (q_R δ (Ad ad 101) (q_I r101 12 4 a0).toNatClampNeg)
        have f164 := ti_b (q_R r8.2 (Ad ad 101) (q_I r101 12 4 a0).toNatClampNeg)
        have f165 := ti_b (q_R r101 (Ad ad 101) (q_I r101 12 4 a0).toNatClampNeg)
        have f166 := cb_12_3 i103 k_a0
        have f167 : (q_I r101 12 3 a0).toInt = (q_I r8.2 12 3 a0).toInt := congrArg Int32.toInt (u105 12 3 a0 (by decide))
        have f168 := cb_12_3 i10 k_a0
        have f169 : (q_I r8.2 12 3 a0).toInt = (q_I δ 12 3 a0).toInt := congrArg Int32.toInt (u13 12 3 a0 (by decide))
        have f170 := ti_b (q_I r144 12 5 a0)
        have f171 : (q_I r144 12 5 a0).toInt = (q_I r101 12 5 a0).toInt := congrArg Int32.toInt (u149 12 5 a0 (by decide))
        refine ok_mono (kj_X12_shape_258 L hN (K49 := K49) (a0 := a0) (x1 := x1) (x2v := x2v) (x3v := x3v) (x4v := xs0) (x5v := x5v) h_kt49 k_a0 (show (q_I r144 12 5 a0).toInt = -1 → 2 ≤ (x2v).toInt ∧ (x2v).toInt ≤ 16 ∧ 1 ≤ (x3v).toInt ∧ (x3v).toInt ≤ 5 by first | assumption | omega) (show (xs0).toInt = 0 ∨ (xs0).toInt = 1 by first | assumption | omega) (show 501 - (q_I r144 12 4 a0).toInt < K49 by first | assumption | omega) i146) (fun r172 hr173 => ?_)
        obtain ⟨i174, ⟨u176, u177, u178⟩, p175⟩ := hr173
        have u179 := kp_t u153 u176
        have v180 : q_V r172.2 = q_V δ := (u177).trans v154
        have v181 := kr_t v155 u178
        have f182 := cb_12_2 i174 k_a0
        have f183 := cb_12_2 i146 k_a0
        have f184 : (q_I r144 12 2 a0).toInt = (q_I r101 12 2 a0).toInt := congrArg Int32.toInt (u149 12 2 a0 (by decide))
        have f185 := cb_12_2 i103 k_a0
        have f186 : (q_I r101 12 2 a0).toInt = (q_I r8.2 12 2 a0).toInt := congrArg Int32.toInt (u105 12 2 a0 (by decide))
        have f187 := cb_12_2 i10 k_a0
        have f188 : (q_I r8.2 12 2 a0).toInt = (q_I δ 12 2 a0).toInt := congrArg Int32.toInt (u13 12 2 a0 (by decide))
        have f189 := cb_12_2 I k_a0
        have f190 := ti_b r172.1
        exact ⟨by assumption, ⟨kp_w (by decide) u179, v180, kr_w (by decide) v181⟩, by first | assumption | omega⟩
  · have c191 : xs0.toInt ≠ (0 : Int) := o_ne h6
    unfold J_X12_shape_247
    refine ok_bind (k_X12_fine L hN (a0 := a0) k_a0 I) (fun r192 hr193 => ?_)
    obtain ⟨i194, p195, p196, p197⟩ := hr193
    try rw [i194]
    have f198 := bo_t p195
    have f199 := ti_b r192.1
    have f200 := ti_b r192.1
    refine ok_ite (fun h201 => ?_) (fun h201 => ?_)
    · have c202 : r192.1.toInt = (0 : Int) := o_eq h201
      refine ok_mono (kj_X12_shape_258 L hN (K49 := K49) (a0 := a0) (x1 := x1) (x2v := x2v) (x3v := x3v) (x4v := xs0) (x5v := x5v) h_kt49 k_a0 (show (q_I δ 12 5 a0).toInt = -1 → 2 ≤ (x2v).toInt ∧ (x2v).toInt ≤ 16 ∧ 1 ≤ (x3v).toInt ∧ (x3v).toInt ≤ 5 by first | assumption | omega) (show (xs0).toInt = 0 ∨ (xs0).toInt = 1 by first | assumption | omega) (show 501 - (q_I δ 12 4 a0).toInt < K49 by first | assumption | omega) I) (fun r203 hr204 => ?_)
      obtain ⟨i205, ⟨u207, u208, u209⟩, p206⟩ := hr204
      have u210 := kp_t kp_r u207
      have v211 : q_V r203.2 = q_V δ := (u208).trans rfl
      have v212 := kr_t kr_r u209
      have f213 := cb_12_2 i205 k_a0
      have f214 := cb_12_2 I k_a0
      have f215 := ti_b r203.1
      exact ⟨by assumption, ⟨kp_w (by decide) u210, v211, kr_w (by decide) v212⟩, by first | assumption | omega⟩
    · have c216 : r192.1.toInt ≠ (0 : Int) := o_ne h201
      refine ok_bind (k_X12_pass L hN (a0 := a0) k_a0 I) (fun r217 hr218 => ?_)
      obtain ⟨i219, ⟨u222, u223, u224, u225⟩, p220, p221⟩ := hr218
      have u226 := kp_t kp_r u222
      have v227 : q_V r217 = q_V δ := (u223).trans rfl
      have v228 := kr_t kr_r u225
      have f229 := cb_12_4 i219 k_a0
      have f230 : hc ad δ a0 = (q_R δ (Ad ad 101) (q_I δ 12 4 a0).toNatClampNeg).toInt := rfl
      have t231 := ti_tn (q_I δ 12 4 a0)
      have f232 := ti_b (q_R δ (Ad ad 101) (q_I δ 12 4 a0).toNatClampNeg)
      have f233 := cb_12_3 I k_a0
      have f234 := ti_b (q_I r217 12 5 a0)
      have f235 : (q_I r217 12 5 a0).toInt = (q_I δ 12 5 a0).toInt := congrArg Int32.toInt (u222 12 5 a0 (by decide))
      refine ok_mono (kj_X12_shape_258 L hN (K49 := K49) (a0 := a0) (x1 := x1) (x2v := x2v) (x3v := x3v) (x4v := xs0) (x5v := x5v) h_kt49 k_a0 (show (q_I r217 12 5 a0).toInt = -1 → 2 ≤ (x2v).toInt ∧ (x2v).toInt ≤ 16 ∧ 1 ≤ (x3v).toInt ∧ (x3v).toInt ≤ 5 by first | assumption | omega) (show (xs0).toInt = 0 ∨ (xs0).toInt = 1 by first | assumption | omega) (show 501 - (q_I r217 12 4 a0).toInt < K49 by first | assumption | omega) i219) (fun r236 hr237 => ?_)
      obtain ⟨i238, ⟨u240, u241, u242⟩, p239⟩ := hr237
      have u243 := kp_t u226 u240
      have v244 : q_V r236.2 = q_V δ := (u241).trans v227
      have v245 := kr_t v228 u242
      have f246 := cb_12_2 i238 k_a0
      have f247 := cb_12_2 i219 k_a0
      have f248 : (q_I r217 12 2 a0).toInt = (q_I δ 12 2 a0).toInt := congrArg Int32.toInt (u222 12 2 a0 (by decide))
      have f249 := cb_12_2 I k_a0
      have f250 := ti_b r236.1
      exact ⟨by assumption, ⟨kp_w (by decide) u243, v244, kr_w (by decide) v245⟩, by first | assumption | omega⟩
set_option maxHeartbeats 4000000 in
theorem kj_X12_shape_148 {ad : List Nat} {h : hp} (L : Lay TLx ad h) {δ0 : dp} {N : Nat} (hN : 10000000 ≤ N) {a0 : Nat} {x1 : Int32} {kt49 : Int32 → Int32 → Int32 → Int32 → dp → Option (Int32 × dp)} {K49 : Int} (h_kt49 : ∀ (x2v : Int32) (x3v : Int32) (x4v : Int32) (x5v : Int32) (δ : dp), RI ad h.1 δ0 δ → ((q_I δ 12 5 a0).toInt = -1 → 2 ≤ (x2v).toInt ∧ (x2v).toInt ≤ 16 ∧ 1 ≤ (x3v).toInt ∧ (x3v).toInt ≤ 5) → ((x4v).toInt = 0 ∨ (x4v).toInt = 1) → 501 - (q_I δ 12 4 a0).toInt < K49 → ok (kt49 x2v x3v x4v x5v δ) (fun r => RI ad h.1 δ0 r.2 ∧ (kp [(12, 0), (12, 2), (12, 3), (12, 4), (12, 5), (12, 6), (12, 7), (12, 8), (12, 10), (12, 11), (12, 12), (12, 18)] δ r.2 ∧ q_V r.2 = q_V δ ∧ kr ad [100, 103, 106] δ r.2) ∧ (q_I r.2 12 2 a0).toInt = (q_I δ 12 2 a0).toInt)) {x2v : Int32} {x3v : Int32} {x4v : Int32} {x5v : Int32} {x6v : Int32} (k_a0 : q_K h.1 a0 = 12) {δ : dp} (z0 : (q_I δ 12 5 a0).toInt = -1 → 2 ≤ (x2v).toInt ∧ (x2v).toInt ≤ 16 ∧ 1 ≤ (x3v).toInt ∧ (x3v).toInt ≤ 5) (z1 : (x4v).toInt = 0 ∨ (x4v).toInt = 1) (z2 : (q_I δ 12 5 a0).toInt = -1 → (q_I δ 12 4 a0).toInt < (q_I δ 12 3 a0).toInt ∧ 97 ≤ hc ad δ a0 ∧ hc ad δ a0 ≤ 122) (z3 : 501 - (q_I δ 12 4 a0).toInt ≤ K49) (I : RI ad h.1 δ0 δ) : ok (J_X12_shape_148 N h.1 a0 x1 kt49 x2v x3v x4v x5v x6v δ) (fun r => RI ad h.1 δ0 r.2 ∧ (kp [(12, 0), (12, 2), (12, 3), (12, 4), (12, 5), (12, 6), (12, 7), (12, 8), (12, 10), (12, 11), (12, 12), (12, 18)] δ r.2 ∧ q_V r.2 = q_V δ ∧ kr ad [100, 103, 106] δ r.2) ∧ (q_I r.2 12 2 a0).toInt = (q_I δ 12 2 a0).toInt) := by
  unfold J_X12_shape_148
  have f1 : hc ad δ a0 = (q_R δ (Ad ad 101) (q_I δ 12 4 a0).toNatClampNeg).toInt := rfl
  have f2 := cb_12_4 I k_a0
  have t3 := ti_tn (q_I δ 12 4 a0)
  have f4 := ti_b (q_R δ (Ad ad 101) (q_I δ 12 4 a0).toNatClampNeg)
  have f5 := ti_b (q_I δ 12 5 a0)
  have f6 := ti_b x2v
  have f7 := ti_b x3v
  have f8 := ti_b x4v
  have f9 := cb_12_3 I k_a0
  refine ok_bind (k_X12_fine L hN (a0 := a0) k_a0 I) (fun r10 hr11 => ?_)
  obtain ⟨i12, p13, p14, p15⟩ := hr11
  try rw [i12]
  have f16 := bo_t p13
  have f17 := ti_b r10.1
  have f18 := ti_b r10.1
  refine ok_ite (fun h19 => ?_) (fun h19 => ?_)
  · have c20 : r10.1.toInt = (0 : Int) := o_eq h19
    unfold J_X12_shape_267
    refine ok_bind (k_X12_fine L hN (a0 := a0) k_a0 I) (fun r21 hr22 => ?_)
    obtain ⟨i23, p24, p25, p26⟩ := hr22
    try rw [i23]
    have f27 := bo_t p24
    have f28 := ti_b r21.1
    have f29 := ti_b r21.1
    refine ok_ite (fun h30 => ?_) (fun h30 => ?_)
    · have c31 : r21.1.toInt = (0 : Int) := o_eq h30
      refine ok_bind (k_X12_result L hN (a0 := a0) (x1 := (0 : Int32)) k_a0 I) (fun r32 hr33 => ?_)
      obtain ⟨i34, ⟨u35, u36, u37, u38⟩⟩ := hr33
      have u39 := kp_t kp_r u35
      have v40 : q_V r32.2 = q_V δ := (u36).trans rfl
      have v41 := kr_t kr_r u38
      have f42 := ti_b r32.1
      have f43 := cb_12_2 i34 k_a0
      have f44 : (q_I r32.2 12 2 a0).toInt = (q_I δ 12 2 a0).toInt := congrArg Int32.toInt (u35 12 2 a0 (by decide))
      have f45 := cb_12_2 I k_a0
      exact ok_some (show RI ad h.1 δ0 r32.2 ∧ (kp [(12, 0), (12, 2), (12, 3), (12, 4), (12, 5), (12, 6), (12, 7), (12, 8), (12, 10), (12, 11), (12, 12), (12, 18)] δ r32.2 ∧ q_V r32.2 = q_V δ ∧ kr ad [100, 103, 106] δ r32.2) ∧ (q_I r32.2 12 2 a0).toInt = (q_I δ 12 2 a0).toInt from ⟨i34, ⟨kp_w (by decide) u39, v40, kr_w (by decide) v41⟩, by first | assumption | omega⟩)
    · have c46 : r21.1.toInt ≠ (0 : Int) := o_ne h30
      refine ok_bdv (fun d47 e48 => ?_)
      have i49 : RI ad h.1 δ0 d47 := by rw [e48]; exact cs_12_10 L I k_a0 (show 2 ≤ x2v.toInt by omega) (show x2v.toInt ≤ 16 by omega)
      have u50 := kp_I kp_r e48
      have v51 : q_V d47 = q_V δ := ((show q_V d47 = q_V δ by rw [e48]; rfl)).trans rfl
      have v52 := kr_N kr_r (show q_R d47 = q_R δ by rw [e48]; rfl)
      refine ok_bdv (fun d53 e54 => ?_)
      have i55 : RI ad h.1 δ0 d53 := by rw [e54]; exact cs_12_11 L i49 k_a0 (show 1 ≤ x3v.toInt by omega) (show x3v.toInt ≤ 5 by omega)
      have u56 := kp_I u50 e54
      have v57 : q_V d53 = q_V δ := ((show q_V d53 = q_V d47 by rw [e54]; rfl)).trans v51
      have v58 := kr_N v52 (show q_R d53 = q_R d47 by rw [e54]; rfl)
      refine ok_gp (show bo x4v by first | assumption | exact bo_0 | exact bo_1) ?_
      refine ok_bdv (fun d59 e60 => ?_)
      have i61 : RI ad h.1 δ0 d59 := by rw [e60]; exact cs_12_12 L i55 k_a0 (show 0 ≤ x4v.toInt by omega) (show x4v.toInt ≤ 1 by omega)
      have u62 := kp_I u56 e60
      have v63 : q_V d59 = q_V δ := ((show q_V d59 = q_V d53 by rw [e60]; rfl)).trans v57
      have v64 := kr_N v58 (show q_R d59 = q_R d53 by rw [e60]; rfl)
      refine ok_mono (kl_X12_shape_299 L hN   k_a0 _ (0 : Int32) d59 i61 (show 0 ≤ (0 : Int) by first | assumption | omega) (show (0 : Int) ≤ 4 by first | assumption | omega) (show 4 - (0 : Int) < _ by omega)) (fun r65 hr66 => ?_)
      obtain ⟨i67, ⟨u69, u70, u71⟩, p68⟩ := hr66
      have u72 := kp_t u62 u69
      have v73 : q_V r65.2 = q_V δ := (u70).trans v63
      have v74 := kr_t v64 u71
      have f75 := cb_12_2 i67 k_a0
      have f76 := cb_12_2 i61 k_a0
      have f77 : (q_I d59 12 2 a0).toInt = (q_I d53 12 2 a0).toInt := congrArg Int32.toInt (by rw [e60]; exact rI_o (by decide))
      have f78 := cb_12_2 i55 k_a0
      have f79 : (q_I d53 12 2 a0).toInt = (q_I d47 12 2 a0).toInt := congrArg Int32.toInt (by rw [e54]; exact rI_o (by decide))
      have f80 := cb_12_2 i49 k_a0
      have f81 : (q_I d47 12 2 a0).toInt = (q_I δ 12 2 a0).toInt := congrArg Int32.toInt (by rw [e48]; exact rI_o (by decide))
      have f82 := cb_12_2 I k_a0
      have f83 := ti_b r65.1
      exact ⟨by assumption, ⟨kp_w (by decide) u72, v73, kr_w (by decide) v74⟩, by first | assumption | omega⟩
  · have c84 : r10.1.toInt ≠ (0 : Int) := o_ne h19
    have f87 := ti_b (x5v ||| x6v)
    refine ok_biv (fun vx85 e86 => ?_)
    have f88 : vx85.toInt = (x5v ||| x6v).toInt := congrArg Int32.toInt e86
    refine ok_bind (k_X12_pass L hN (a0 := a0) k_a0 I) (fun r89 hr90 => ?_)
    obtain ⟨i91, ⟨u94, u95, u96, u97⟩, p92, p93⟩ := hr90
    have u98 := kp_t kp_r u94
    have v99 : q_V r89 = q_V δ := (u95).trans rfl
    have v100 := kr_t kr_r u97
    have f101 := cb_12_4 i91 k_a0
    have f102 := ti_b x6v
    refine ok_ite (fun h103 => ?_) (fun h103 => ?_)
    · have c104 : x6v.toInt = (1 : Int) := o_eq h103
      refine ok_bind (k_X12_readNumber L hN (a0 := a0) (x1 := (2 : Int32)) (x2 := (16 : Int32)) k_a0 i91) (fun r105 hr106 => ?_)
      obtain ⟨i107, ⟨u114, u115, u116, u117⟩, p108, p109, p110, p111, p112, p113⟩ := hr106
      have u118 := kp_t u98 u114
      have v119 : q_V r105.2 = q_V δ := (u115).trans v99
      have v120 := kr_t v100 u117
      have f121 := cb_12_4 i107 k_a0
      have f122 := ti_b (q_I r89 12 5 a0)
      have f123 : (q_I r89 12 5 a0).toInt = (q_I δ 12 5 a0).toInt := congrArg Int32.toInt (u94 12 5 a0 (by decide))
      have f124 := ti_b (q_I r105.2 12 5 a0)
      have f125 := ti_b r105.1
      replace p113 : ((q_I r105.2 12 5 a0).toInt = -1 → (2 : Int) ≤ (r105.1).toInt ∧ (r105.1).toInt ≤ (16 : Int)) := p113
      have f126 := ti_b r105.1
      refine ok_mono (kj_X12_shape_258 L hN (K49 := K49) (a0 := a0) (x1 := x1) (x2v := r105.1) (x3v := x3v) (x4v := x4v) (x5v := vx85) h_kt49 k_a0 (show (q_I r105.2 12 5 a0).toInt = -1 → 2 ≤ (r105.1).toInt ∧ (r105.1).toInt ≤ 16 ∧ 1 ≤ (x3v).toInt ∧ (x3v).toInt ≤ 5 by first | assumption | omega) (show (x4v).toInt = 0 ∨ (x4v).toInt = 1 by first | assumption | omega) (show 501 - (q_I r105.2 12 4 a0).toInt < K49 by first | assumption | omega) i107) (fun r127 hr128 => ?_)
      obtain ⟨i129, ⟨u131, u132, u133⟩, p130⟩ := hr128
      have u134 := kp_t u118 u131
      have v135 : q_V r127.2 = q_V δ := (u132).trans v119
      have v136 := kr_t v120 u133
      have f137 := cb_12_2 i129 k_a0
      have f138 := cb_12_2 i107 k_a0
      have f139 : (q_I r105.2 12 2 a0).toInt = (q_I r89 12 2 a0).toInt := congrArg Int32.toInt (u114 12 2 a0 (by decide))
      have f140 := cb_12_2 i91 k_a0
      have f141 : (q_I r89 12 2 a0).toInt = (q_I δ 12 2 a0).toInt := congrArg Int32.toInt (u94 12 2 a0 (by decide))
      have f142 := cb_12_2 I k_a0
      have f143 := ti_b r127.1
      exact ⟨by assumption, ⟨kp_w (by decide) u134, v135, kr_w (by decide) v136⟩, by first | assumption | omega⟩
    · have c144 : x6v.toInt ≠ (1 : Int) := o_ne h103
      refine ok_ite (fun h145 => ?_) (fun h145 => ?_)
      · have c146 : x6v.toInt = (4 : Int) := o_eq h145
        refine ok_bind (k_X12_readNumber L hN (a0 := a0) (x1 := (1 : Int32)) (x2 := (5 : Int32)) k_a0 i91) (fun r147 hr148 => ?_)
        obtain ⟨i149, ⟨u156, u157, u158, u159⟩, p150, p151, p152, p153, p154, p155⟩ := hr148
        have u160 := kp_t u98 u156
        have v161 : q_V r147.2 = q_V δ := (u157).trans v99
        have v162 := kr_t v100 u159
        have f163 := cb_12_4 i149 k_a0
        have f164 := ti_b (q_I r89 12 5 a0)
        have f165 : (q_I r89 12 5 a0).toInt = (q_I δ 12 5 a0).toInt := congrArg Int32.toInt (u94 12 5 a0 (by decide))
        have f166 := ti_b (q_I r147.2 12 5 a0)
        have f167 := ti_b r147.1
        replace p155 : ((q_I r147.2 12 5 a0).toInt = -1 → (1 : Int) ≤ (r147.1).toInt ∧ (r147.1).toInt ≤ (5 : Int)) := p155
        have f168 := ti_b r147.1
        refine ok_mono (kj_X12_shape_258 L hN (K49 := K49) (a0 := a0) (x1 := x1) (x2v := x2v) (x3v := r147.1) (x4v := x4v) (x5v := vx85) h_kt49 k_a0 (show (q_I r147.2 12 5 a0).toInt = -1 → 2 ≤ (x2v).toInt ∧ (x2v).toInt ≤ 16 ∧ 1 ≤ (r147.1).toInt ∧ (r147.1).toInt ≤ 5 by first | assumption | omega) (show (x4v).toInt = 0 ∨ (x4v).toInt = 1 by first | assumption | omega) (show 501 - (q_I r147.2 12 4 a0).toInt < K49 by first | assumption | omega) i149) (fun r169 hr170 => ?_)
        obtain ⟨i171, ⟨u173, u174, u175⟩, p172⟩ := hr170
        have u176 := kp_t u160 u173
        have v177 : q_V r169.2 = q_V δ := (u174).trans v161
        have v178 := kr_t v162 u175
        have f179 := cb_12_2 i171 k_a0
        have f180 := cb_12_2 i149 k_a0
        have f181 : (q_I r147.2 12 2 a0).toInt = (q_I r89 12 2 a0).toInt := congrArg Int32.toInt (u156 12 2 a0 (by decide))
        have f182 := cb_12_2 i91 k_a0
        have f183 : (q_I r89 12 2 a0).toInt = (q_I δ 12 2 a0).toInt := congrArg Int32.toInt (u94 12 2 a0 (by decide))
        have f184 := cb_12_2 I k_a0
        have f185 := ti_b r169.1
        exact ⟨by assumption, ⟨kp_w (by decide) u176, v177, kr_w (by decide) v178⟩, by first | assumption | omega⟩
      · have c186 : x6v.toInt ≠ (4 : Int) := o_ne h145
        refine ok_bind (k_X12_word L hN (a0 := a0) k_a0 i91) (fun r187 hr188 => ?_)
        obtain ⟨i189, ⟨u192, u193, u194, u195⟩, p190, p191⟩ := hr188
        have u196 := kp_t u98 u192
        have v197 : q_V r187.2 = q_V δ := (u193).trans v99
        have v198 := kr_t v100 u195
        have f199 := cb_12_4 i189 k_a0
        have f200 : hc ad r187.2 a0 = (q_R r187.2 (Ad ad 101) (q_I r187.2 12 4 a0).toNatClampNeg).toInt := rfl
        have t201 := ti_tn (q_I r187.2 12 4 a0)
        have f202 : (q_R r187.2 (Ad ad 101) (q_I r187.2 12 4 a0).toNatClampNeg).toInt = (q_R r89 (Ad ad 101) (q_I r187.2 12 4 a0).toNatClampNeg).toInt := congrArg Int32.toInt (congrFun (u195 101 (by decide) (by decide) (by decide)) _)
        have f203 : (q_R r89 (Ad ad 101) (q_I r187.2 12 4 a0).toNatClampNeg).toInt = (q_R δ (Ad ad 101) (q_I r187.2 12 4 a0).toNatClampNeg).toInt := congrArg Int32.toInt (congrFun (u97 101 (by decide) (by decide) (by decide)) _)
        have f204 := ti_b (q_R δ (Ad ad 101) (q_I r187.2 12 4 a0).toNatClampNeg)
        have f205 := ti_b (q_R r89 (Ad ad 101) (q_I r187.2 12 4 a0).toNatClampNeg)
        have f206 := ti_b (q_R r187.2 (Ad ad 101) (q_I r187.2 12 4 a0).toNatClampNeg)
        have f207 := ti_b r187.1
        have f208 := cb_12_3 i91 k_a0
        have f209 : (q_I r89 12 3 a0).toInt = (q_I δ 12 3 a0).toInt := congrArg Int32.toInt (u94 12 3 a0 (by decide))
        have f210 := ti_b r187.1
        refine ok_bind (k_X12_of L hN (a0 := 3) (show 3 < 16 by first | assumption | omega) i189) (fun r211 hr212 => ?_)
        obtain ⟨i213, p214⟩ := hr212
        try rw [i213]
        have f215 := ti_b r211.1
        have f216 := ti_b r211.1
        refine ok_ite (fun h217 => ?_) (fun h217 => ?_)
        · have c218 : r187.1.toInt = r211.1.toInt := o_eq h217
          have f219 := ti_b (q_I r187.2 12 5 a0)
          have f220 : (q_I r187.2 12 5 a0).toInt = (q_I r89 12 5 a0).toInt := congrArg Int32.toInt (u192 12 5 a0 (by decide))
          have f221 := ti_b (q_I r89 12 5 a0)
          have f222 : (q_I r89 12 5 a0).toInt = (q_I δ 12 5 a0).toInt := congrArg Int32.toInt (u94 12 5 a0 (by decide))
          refine ok_mono (kj_X12_shape_219 L hN (K49 := K49) (a0 := a0) (x1 := x1) (xs0 := (1 : Int32)) (x2v := x2v) (x3v := x3v) (x5v := vx85) h_kt49 k_a0 (show (q_I r187.2 12 5 a0).toInt = -1 → 2 ≤ (x2v).toInt ∧ (x2v).toInt ≤ 16 ∧ 1 ≤ (x3v).toInt ∧ (x3v).toInt ≤ 5 by first | assumption | omega) (show (1 : Int) = 0 ∨ (1 : Int) = 1 by first | assumption | omega) (show 501 - (q_I r187.2 12 4 a0).toInt < K49 by first | assumption | omega) i189) (fun r223 hr224 => ?_)
          obtain ⟨i225, ⟨u227, u228, u229⟩, p226⟩ := hr224
          have u230 := kp_t u196 u227
          have v231 : q_V r223.2 = q_V δ := (u228).trans v197
          have v232 := kr_t v198 u229
          have f233 := cb_12_2 i225 k_a0
          have f234 := cb_12_2 i189 k_a0
          have f235 : (q_I r187.2 12 2 a0).toInt = (q_I r89 12 2 a0).toInt := congrArg Int32.toInt (u192 12 2 a0 (by decide))
          have f236 := cb_12_2 i91 k_a0
          have f237 : (q_I r89 12 2 a0).toInt = (q_I δ 12 2 a0).toInt := congrArg Int32.toInt (u94 12 2 a0 (by decide))
          have f238 := cb_12_2 I k_a0
          have f239 := ti_b r223.1
          exact ⟨by assumption, ⟨kp_w (by decide) u230, v231, kr_w (by decide) v232⟩, by first | assumption | omega⟩
        · have c240 : r187.1.toInt ≠ r211.1.toInt := o_ne h217
          have f241 := ti_b (q_I r187.2 12 5 a0)
          have f242 : (q_I r187.2 12 5 a0).toInt = (q_I r89 12 5 a0).toInt := congrArg Int32.toInt (u192 12 5 a0 (by decide))
          have f243 := ti_b (q_I r89 12 5 a0)
          have f244 : (q_I r89 12 5 a0).toInt = (q_I δ 12 5 a0).toInt := congrArg Int32.toInt (u94 12 5 a0 (by decide))
          refine ok_mono (kj_X12_shape_219 L hN (K49 := K49) (a0 := a0) (x1 := x1) (xs0 := (0 : Int32)) (x2v := x2v) (x3v := x3v) (x5v := vx85) h_kt49 k_a0 (show (q_I r187.2 12 5 a0).toInt = -1 → 2 ≤ (x2v).toInt ∧ (x2v).toInt ≤ 16 ∧ 1 ≤ (x3v).toInt ∧ (x3v).toInt ≤ 5 by first | assumption | omega) (show (0 : Int) = 0 ∨ (0 : Int) = 1 by first | assumption | omega) (show 501 - (q_I r187.2 12 4 a0).toInt < K49 by first | assumption | omega) i189) (fun r245 hr246 => ?_)
          obtain ⟨i247, ⟨u249, u250, u251⟩, p248⟩ := hr246
          have u252 := kp_t u196 u249
          have v253 : q_V r245.2 = q_V δ := (u250).trans v197
          have v254 := kr_t v198 u251
          have f255 := cb_12_2 i247 k_a0
          have f256 := cb_12_2 i189 k_a0
          have f257 : (q_I r187.2 12 2 a0).toInt = (q_I r89 12 2 a0).toInt := congrArg Int32.toInt (u192 12 2 a0 (by decide))
          have f258 := cb_12_2 i91 k_a0
          have f259 : (q_I r89 12 2 a0).toInt = (q_I δ 12 2 a0).toInt := congrArg Int32.toInt (u94 12 2 a0 (by decide))
          have f260 := cb_12_2 I k_a0
          have f261 := ti_b r245.1
          exact ⟨by assumption, ⟨kp_w (by decide) u252, v253, kr_w (by decide) v254⟩, by first | assumption | omega⟩
set_option maxHeartbeats 4000000 in
theorem kj_X12_shape_112 {ad : List Nat} {h : hp} (L : Lay TLx ad h) {δ0 : dp} {N : Nat} (hN : 10000000 ≤ N) {a0 : Nat} {x1 : Int32} {kt49 : Int32 → Int32 → Int32 → Int32 → dp → Option (Int32 × dp)} {K49 : Int} (h_kt49 : ∀ (x2v : Int32) (x3v : Int32) (x4v : Int32) (x5v : Int32) (δ : dp), RI ad h.1 δ0 δ → ((q_I δ 12 5 a0).toInt = -1 → 2 ≤ (x2v).toInt ∧ (x2v).toInt ≤ 16 ∧ 1 ≤ (x3v).toInt ∧ (x3v).toInt ≤ 5) → ((x4v).toInt = 0 ∨ (x4v).toInt = 1) → 501 - (q_I δ 12 4 a0).toInt < K49 → ok (kt49 x2v x3v x4v x5v δ) (fun r => RI ad h.1 δ0 r.2 ∧ (kp [(12, 0), (12, 2), (12, 3), (12, 4), (12, 5), (12, 6), (12, 7), (12, 8), (12, 10), (12, 11), (12, 12), (12, 18)] δ r.2 ∧ q_V r.2 = q_V δ ∧ kr ad [100, 103, 106] δ r.2) ∧ (q_I r.2 12 2 a0).toInt = (q_I δ 12 2 a0).toInt)) {xs0 : Int32} {x2v : Int32} {x3v : Int32} {x4v : Int32} {x5v : Int32} (k_a0 : q_K h.1 a0 = 12) {δ : dp} (z0 : (q_I δ 12 5 a0).toInt = -1 → 2 ≤ (x2v).toInt ∧ (x2v).toInt ≤ 16 ∧ 1 ≤ (x3v).toInt ∧ (x3v).toInt ≤ 5) (z1 : (x4v).toInt = 0 ∨ (x4v).toInt = 1) (z2 : (xs0).toInt = 0 ∨ (q_I δ 12 4 a0).toInt < (q_I δ 12 3 a0).toInt ∧ 97 ≤ hc ad δ a0 ∧ hc ad δ a0 ≤ 122) (z3 : 501 - (q_I δ 12 4 a0).toInt ≤ K49) (I : RI ad h.1 δ0 δ) : ok (J_X12_shape_112 N h.1 a0 x1 kt49 xs0 x2v x3v x4v x5v δ) (fun r => RI ad h.1 δ0 r.2 ∧ (kp [(12, 0), (12, 2), (12, 3), (12, 4), (12, 5), (12, 6), (12, 7), (12, 8), (12, 10), (12, 11), (12, 12), (12, 18)] δ r.2 ∧ q_V r.2 = q_V δ ∧ kr ad [100, 103, 106] δ r.2) ∧ (q_I r.2 12 2 a0).toInt = (q_I δ 12 2 a0).toInt) := by
  unfold J_X12_shape_112
  have f1 : hc ad δ a0 = (q_R δ (Ad ad 101) (q_I δ 12 4 a0).toNatClampNeg).toInt := rfl
  have f2 := cb_12_4 I k_a0
  have t3 := ti_tn (q_I δ 12 4 a0)
  have f4 := ti_b (q_R δ (Ad ad 101) (q_I δ 12 4 a0).toNatClampNeg)
  have f5 := ti_b (q_I δ 12 5 a0)
  have f6 := ti_b x2v
  have f7 := ti_b x3v
  have f8 := ti_b x4v
  have f9 := ti_b xs0
  have f10 := cb_12_3 I k_a0
  refine ok_ite (fun h11 => ?_) (fun h11 => ?_)
  · have c12 : xs0.toInt = (0 : Int) := o_eq h11
    refine ok_bind (k_X12_wrong L hN (a0 := a0) (x1 := (1 : Int32)) (x2 := (q_I δ 12 4 a0)) k_a0 (show 0 ≤ ((q_I δ 12 4 a0)).toInt by first | assumption | omega) I) (fun r13 hr14 => ?_)
    obtain ⟨i15, ⟨u17, u18, u19, u20⟩, p16⟩ := hr14
    have u21 := kp_t kp_r u17
    have v22 : q_V r13 = q_V δ := (u18).trans rfl
    have v23 := kr_t kr_r u20
    have f24 := ti_b (q_I r13 12 5 a0)
    have f25 : hc ad r13 a0 = (q_R r13 (Ad ad 101) (q_I r13 12 4 a0).toNatClampNeg).toInt := rfl
    have f26 := cb_12_4 i15 k_a0
    have f27 : (q_I r13 12 4 a0).toInt = (q_I δ 12 4 a0).toInt := congrArg Int32.toInt (u17 12 4 a0 (by decide))
    have t28 := ti_tn (q_I r13 12 4 a0)
    have f29 : (q_R r13 (Ad ad 101) (q_I r13 12 4 a0).toNatClampNeg).toInt = (q_R δ (Ad ad 101) (q_I r13 12 4 a0).toNatClampNeg).toInt := congrArg Int32.toInt (congrFun (u20 101 (by decide) (by decide) (by decide)) _)
    have f30 := ti_b (q_R δ (Ad ad 101) (q_I r13 12 4 a0).toNatClampNeg)
    have f31 := ti_b (q_R r13 (Ad ad 101) (q_I r13 12 4 a0).toNatClampNeg)
    have f32 := cb_12_3 i15 k_a0
    have f33 : (q_I r13 12 3 a0).toInt = (q_I δ 12 3 a0).toInt := congrArg Int32.toInt (u17 12 3 a0 (by decide))
    refine ok_mono (kj_X12_shape_148 L hN (K49 := K49) (a0 := a0) (x1 := x1) (x2v := x2v) (x3v := x3v) (x4v := x4v) (x5v := x5v) (x6v := xs0) h_kt49 k_a0 (show (q_I r13 12 5 a0).toInt = -1 → 2 ≤ (x2v).toInt ∧ (x2v).toInt ≤ 16 ∧ 1 ≤ (x3v).toInt ∧ (x3v).toInt ≤ 5 by first | assumption | omega) (show (x4v).toInt = 0 ∨ (x4v).toInt = 1 by first | assumption | omega) (show (q_I r13 12 5 a0).toInt = -1 → (q_I r13 12 4 a0).toInt < (q_I r13 12 3 a0).toInt ∧ 97 ≤ hc ad r13 a0 ∧ hc ad r13 a0 ≤ 122 by first | assumption | omega) (show 501 - (q_I r13 12 4 a0).toInt ≤ K49 by first | assumption | omega) i15) (fun r34 hr35 => ?_)
    obtain ⟨i36, ⟨u38, u39, u40⟩, p37⟩ := hr35
    have u41 := kp_t u21 u38
    have v42 : q_V r34.2 = q_V δ := (u39).trans v22
    have v43 := kr_t v23 u40
    have f44 := cb_12_2 i36 k_a0
    have f45 := cb_12_2 i15 k_a0
    have f46 : (q_I r13 12 2 a0).toInt = (q_I δ 12 2 a0).toInt := congrArg Int32.toInt (u17 12 2 a0 (by decide))
    have f47 := cb_12_2 I k_a0
    have f48 := ti_b r34.1
    exact ⟨by assumption, ⟨kp_w (by decide) u41, v42, kr_w (by decide) v43⟩, by first | assumption | omega⟩
  · have c49 : xs0.toInt ≠ (0 : Int) := o_ne h11
    have f50 := ti_b (x5v &&& xs0)
    refine ok_ite (fun h51 => ?_) (fun h51 => ?_)
    · have c52 : (x5v &&& xs0).toInt = (0 : Int) := o_eq h51
      refine ok_mono (kj_X12_shape_148 L hN (K49 := K49) (a0 := a0) (x1 := x1) (x2v := x2v) (x3v := x3v) (x4v := x4v) (x5v := x5v) (x6v := xs0) h_kt49 k_a0 (show (q_I δ 12 5 a0).toInt = -1 → 2 ≤ (x2v).toInt ∧ (x2v).toInt ≤ 16 ∧ 1 ≤ (x3v).toInt ∧ (x3v).toInt ≤ 5 by first | assumption | omega) (show (x4v).toInt = 0 ∨ (x4v).toInt = 1 by first | assumption | omega) (show (q_I δ 12 5 a0).toInt = -1 → (q_I δ 12 4 a0).toInt < (q_I δ 12 3 a0).toInt ∧ 97 ≤ hc ad δ a0 ∧ hc ad δ a0 ≤ 122 by first | assumption | omega) (show 501 - (q_I δ 12 4 a0).toInt ≤ K49 by first | assumption | omega) I) (fun r53 hr54 => ?_)
      obtain ⟨i55, ⟨u57, u58, u59⟩, p56⟩ := hr54
      have u60 := kp_t kp_r u57
      have v61 : q_V r53.2 = q_V δ := (u58).trans rfl
      have v62 := kr_t kr_r u59
      have f63 := cb_12_2 i55 k_a0
      have f64 := cb_12_2 I k_a0
      have f65 := ti_b r53.1
      exact ⟨by assumption, ⟨kp_w (by decide) u60, v61, kr_w (by decide) v62⟩, by first | assumption | omega⟩
    · have c66 : (x5v &&& xs0).toInt ≠ (0 : Int) := o_ne h51
      refine ok_bind (k_X12_wrong L hN (a0 := a0) (x1 := (4 : Int32)) (x2 := (q_I δ 12 4 a0)) k_a0 (show 0 ≤ ((q_I δ 12 4 a0)).toInt by first | assumption | omega) I) (fun r67 hr68 => ?_)
      obtain ⟨i69, ⟨u71, u72, u73, u74⟩, p70⟩ := hr68
      have u75 := kp_t kp_r u71
      have v76 : q_V r67 = q_V δ := (u72).trans rfl
      have v77 := kr_t kr_r u74
      have f78 := ti_b (q_I r67 12 5 a0)
      have f79 : hc ad r67 a0 = (q_R r67 (Ad ad 101) (q_I r67 12 4 a0).toNatClampNeg).toInt := rfl
      have f80 := cb_12_4 i69 k_a0
      have f81 : (q_I r67 12 4 a0).toInt = (q_I δ 12 4 a0).toInt := congrArg Int32.toInt (u71 12 4 a0 (by decide))
      have t82 := ti_tn (q_I r67 12 4 a0)
      have f83 : (q_R r67 (Ad ad 101) (q_I r67 12 4 a0).toNatClampNeg).toInt = (q_R δ (Ad ad 101) (q_I r67 12 4 a0).toNatClampNeg).toInt := congrArg Int32.toInt (congrFun (u74 101 (by decide) (by decide) (by decide)) _)
      have f84 := ti_b (q_R δ (Ad ad 101) (q_I r67 12 4 a0).toNatClampNeg)
      have f85 := ti_b (q_R r67 (Ad ad 101) (q_I r67 12 4 a0).toNatClampNeg)
      have f86 := cb_12_3 i69 k_a0
      have f87 : (q_I r67 12 3 a0).toInt = (q_I δ 12 3 a0).toInt := congrArg Int32.toInt (u71 12 3 a0 (by decide))
      refine ok_mono (kj_X12_shape_148 L hN (K49 := K49) (a0 := a0) (x1 := x1) (x2v := x2v) (x3v := x3v) (x4v := x4v) (x5v := x5v) (x6v := xs0) h_kt49 k_a0 (show (q_I r67 12 5 a0).toInt = -1 → 2 ≤ (x2v).toInt ∧ (x2v).toInt ≤ 16 ∧ 1 ≤ (x3v).toInt ∧ (x3v).toInt ≤ 5 by first | assumption | omega) (show (x4v).toInt = 0 ∨ (x4v).toInt = 1 by first | assumption | omega) (show (q_I r67 12 5 a0).toInt = -1 → (q_I r67 12 4 a0).toInt < (q_I r67 12 3 a0).toInt ∧ 97 ≤ hc ad r67 a0 ∧ hc ad r67 a0 ≤ 122 by first | assumption | omega) (show 501 - (q_I r67 12 4 a0).toInt ≤ K49 by first | assumption | omega) i69) (fun r88 hr89 => ?_)
      obtain ⟨i90, ⟨u92, u93, u94⟩, p91⟩ := hr89
      have u95 := kp_t u75 u92
      have v96 : q_V r88.2 = q_V δ := (u93).trans v76
      have v97 := kr_t v77 u94
      have f98 := cb_12_2 i90 k_a0
      have f99 := cb_12_2 i69 k_a0
      have f100 : (q_I r67 12 2 a0).toInt = (q_I δ 12 2 a0).toInt := congrArg Int32.toInt (u71 12 2 a0 (by decide))
      have f101 := cb_12_2 I k_a0
      have f102 := ti_b r88.1
      exact ⟨by assumption, ⟨kp_w (by decide) u95, v96, kr_w (by decide) v97⟩, by first | assumption | omega⟩
set_option maxHeartbeats 4000000 in
theorem kl_X12_shape_49 {ad : List Nat} {h : hp} (L : Lay TLx ad h) {δ0 : dp} {N : Nat} (hN : 10000000 ≤ N) {a0 : Nat} {x1 : Int32} (k_a0 : q_K h.1 a0 = 12) : ∀ (n : Nat) (x2v : Int32) (x3v : Int32) (x4v : Int32) (x5v : Int32) (δ : dp), RI ad h.1 δ0 δ → ((q_I δ 12 5 a0).toInt = -1 → 2 ≤ (x2v).toInt ∧ (x2v).toInt ≤ 16 ∧ 1 ≤ (x3v).toInt ∧ (x3v).toInt ≤ 5) → ((x4v).toInt = 0 ∨ (x4v).toInt = 1) → 501 - (q_I δ 12 4 a0).toInt < (n : Int) → ok (L_X12_shape_49 N h.1 a0 x1 n x2v x3v x4v x5v δ) (fun r => RI ad h.1 δ0 r.2 ∧ (kp [(12, 0), (12, 2), (12, 3), (12, 4), (12, 5), (12, 6), (12, 7), (12, 8), (12, 10), (12, 11), (12, 12), (12, 18)] δ r.2 ∧ q_V r.2 = q_V δ ∧ kr ad [100, 103, 106] δ r.2) ∧ (q_I r.2 12 2 a0).toInt = (q_I δ 12 2 a0).toInt) := by
  intro n
  induction n with
  | zero =>
    intro x2v x3v x4v x5v δ I j0 j1 hm
    have f1 := ti_b (q_I δ 12 5 a0)
    have f2 := ti_b x2v
    have f3 := ti_b x3v
    have f4 := ti_b x4v
    have f5 := cb_12_4 I k_a0
    exfalso; omega
  | succ n ih =>
    intro x2v x3v x4v x5v δ I j0 j1 hm
    unfold L_X12_shape_49
    have f1 := ti_b (q_I δ 12 5 a0)
    have f2 := ti_b x2v
    have f3 := ti_b x3v
    have f4 := ti_b x4v
    have f5 := cb_12_4 I k_a0
    refine ok_bind (k_X12_fine L hN (a0 := a0) k_a0 I) (fun r6 hr7 => ?_)
    obtain ⟨i8, p9, p10, p11⟩ := hr7
    try rw [i8]
    have f12 := bo_t p9
    have f13 := ti_b r6.1
    have f14 := ti_b r6.1
    refine ok_ite (fun h15 => ?_) (fun h15 => ?_)
    · have c16 : r6.1.toInt = (0 : Int) := o_eq h15
      unfold J_X12_shape_267
      refine ok_bind (k_X12_fine L hN (a0 := a0) k_a0 I) (fun r17 hr18 => ?_)
      obtain ⟨i19, p20, p21, p22⟩ := hr18
      try rw [i19]
      have f23 := bo_t p20
      have f24 := ti_b r17.1
      have f25 := ti_b r17.1
      refine ok_ite (fun h26 => ?_) (fun h26 => ?_)
      · have c27 : r17.1.toInt = (0 : Int) := o_eq h26
        refine ok_bind (k_X12_result L hN (a0 := a0) (x1 := (0 : Int32)) k_a0 I) (fun r28 hr29 => ?_)
        obtain ⟨i30, ⟨u31, u32, u33, u34⟩⟩ := hr29
        have u35 := kp_t kp_r u31
        have v36 : q_V r28.2 = q_V δ := (u32).trans rfl
        have v37 := kr_t kr_r u34
        have f38 := ti_b r28.1
        have f39 := cb_12_2 i30 k_a0
        have f40 : (q_I r28.2 12 2 a0).toInt = (q_I δ 12 2 a0).toInt := congrArg Int32.toInt (u31 12 2 a0 (by decide))
        have f41 := cb_12_2 I k_a0
        exact ok_some (show RI ad h.1 δ0 r28.2 ∧ (kp [(12, 0), (12, 2), (12, 3), (12, 4), (12, 5), (12, 6), (12, 7), (12, 8), (12, 10), (12, 11), (12, 12), (12, 18)] δ r28.2 ∧ q_V r28.2 = q_V δ ∧ kr ad [100, 103, 106] δ r28.2) ∧ (q_I r28.2 12 2 a0).toInt = (q_I δ 12 2 a0).toInt from ⟨i30, ⟨kp_w (by decide) u35, v36, kr_w (by decide) v37⟩, by first | assumption | omega⟩)
      · have c42 : r17.1.toInt ≠ (0 : Int) := o_ne h26
        refine ok_bdv (fun d43 e44 => ?_)
        have i45 : RI ad h.1 δ0 d43 := by rw [e44]; exact cs_12_10 L I k_a0 (show 2 ≤ x2v.toInt by omega) (show x2v.toInt ≤ 16 by omega)
        have u46 := kp_I kp_r e44
        have v47 : q_V d43 = q_V δ := ((show q_V d43 = q_V δ by rw [e44]; rfl)).trans rfl
        have v48 := kr_N kr_r (show q_R d43 = q_R δ by rw [e44]; rfl)
        refine ok_bdv (fun d49 e50 => ?_)
        have i51 : RI ad h.1 δ0 d49 := by rw [e50]; exact cs_12_11 L i45 k_a0 (show 1 ≤ x3v.toInt by omega) (show x3v.toInt ≤ 5 by omega)
        have u52 := kp_I u46 e50
        have v53 : q_V d49 = q_V δ := ((show q_V d49 = q_V d43 by rw [e50]; rfl)).trans v47
        have v54 := kr_N v48 (show q_R d49 = q_R d43 by rw [e50]; rfl)
        refine ok_gp (show bo x4v by first | assumption | exact bo_0 | exact bo_1) ?_
        refine ok_bdv (fun d55 e56 => ?_)
        have i57 : RI ad h.1 δ0 d55 := by rw [e56]; exact cs_12_12 L i51 k_a0 (show 0 ≤ x4v.toInt by omega) (show x4v.toInt ≤ 1 by omega)
        have u58 := kp_I u52 e56
        have v59 : q_V d55 = q_V δ := ((show q_V d55 = q_V d49 by rw [e56]; rfl)).trans v53
        have v60 := kr_N v54 (show q_R d55 = q_R d49 by rw [e56]; rfl)
        refine ok_mono (kl_X12_shape_299 L hN   k_a0 _ (0 : Int32) d55 i57 (show 0 ≤ (0 : Int) by first | assumption | omega) (show (0 : Int) ≤ 4 by first | assumption | omega) (show 4 - (0 : Int) < _ by omega)) (fun r61 hr62 => ?_)
        obtain ⟨i63, ⟨u65, u66, u67⟩, p64⟩ := hr62
        have u68 := kp_t u58 u65
        have v69 : q_V r61.2 = q_V δ := (u66).trans v59
        have v70 := kr_t v60 u67
        have f71 := cb_12_2 i63 k_a0
        have f72 := cb_12_2 i57 k_a0
        have f73 : (q_I d55 12 2 a0).toInt = (q_I d49 12 2 a0).toInt := congrArg Int32.toInt (by rw [e56]; exact rI_o (by decide))
        have f74 := cb_12_2 i51 k_a0
        have f75 : (q_I d49 12 2 a0).toInt = (q_I d43 12 2 a0).toInt := congrArg Int32.toInt (by rw [e50]; exact rI_o (by decide))
        have f76 := cb_12_2 i45 k_a0
        have f77 : (q_I d43 12 2 a0).toInt = (q_I δ 12 2 a0).toInt := congrArg Int32.toInt (by rw [e44]; exact rI_o (by decide))
        have f78 := cb_12_2 I k_a0
        have f79 := ti_b r61.1
        exact ⟨by assumption, ⟨kp_w (by decide) u68, v69, kr_w (by decide) v70⟩, by first | assumption | omega⟩
    · have c80 : r6.1.toInt ≠ (0 : Int) := o_ne h15
      refine ok_bind (k_X12_isMore L hN (a0 := a0) k_a0 I) (fun r81 hr82 => ?_)
      obtain ⟨i83, ⟨u87, u88, u89, u90⟩, p84, p85, p86⟩ := hr82
      have u91 := kp_t kp_r u87
      have v92 : q_V r81.2 = q_V δ := (u88).trans rfl
      have v93 := kr_t kr_r u90
      have f94 := bo_t p84
      have f95 := cb_12_4 i83 k_a0
      have f96 := ti_b r81.1
      have f97 := cb_12_3 I k_a0
      have f98 := ti_b r81.1
      refine ok_ite (fun h99 => ?_) (fun h99 => ?_)
      · have c100 : r81.1.toInt = (0 : Int) := o_eq h99
        unfold J_X12_shape_267
        refine ok_bind (k_X12_fine L hN (a0 := a0) k_a0 i83) (fun r101 hr102 => ?_)
        obtain ⟨i103, p104, p105, p106⟩ := hr102
        try rw [i103]
        have f107 := bo_t p104
        have f108 := ti_b r101.1
        have f109 := ti_b (q_I r81.2 12 5 a0)
        have f110 : (q_I r81.2 12 5 a0).toInt = (q_I δ 12 5 a0).toInt := congrArg Int32.toInt (u87 12 5 a0 (by decide))
        have f111 := ti_b r101.1
        refine ok_ite (fun h112 => ?_) (fun h112 => ?_)
        · have c113 : r101.1.toInt = (0 : Int) := o_eq h112
          refine ok_bind (k_X12_result L hN (a0 := a0) (x1 := (0 : Int32)) k_a0 i83) (fun r114 hr115 => ?_)
          obtain ⟨i116, ⟨u117, u118, u119, u120⟩⟩ := hr115
          have u121 := kp_t u91 u117
          have v122 : q_V r114.2 = q_V δ := (u118).trans v92
          have v123 := kr_t v93 u120
          have f124 := ti_b r114.1
          have f125 := cb_12_2 i116 k_a0
          have f126 : (q_I r114.2 12 2 a0).toInt = (q_I r81.2 12 2 a0).toInt := congrArg Int32.toInt (u117 12 2 a0 (by decide))
          have f127 := cb_12_2 i83 k_a0
          have f128 : (q_I r81.2 12 2 a0).toInt = (q_I δ 12 2 a0).toInt := congrArg Int32.toInt (u87 12 2 a0 (by decide))
          have f129 := cb_12_2 I k_a0
          exact ok_some (show RI ad h.1 δ0 r114.2 ∧ (kp [(12, 0), (12, 2), (12, 3), (12, 4), (12, 5), (12, 6), (12, 7), (12, 8), (12, 10), (12, 11), (12, 12), (12, 18)] δ r114.2 ∧ q_V r114.2 = q_V δ ∧ kr ad [100, 103, 106] δ r114.2) ∧ (q_I r114.2 12 2 a0).toInt = (q_I δ 12 2 a0).toInt from ⟨i116, ⟨kp_w (by decide) u121, v122, kr_w (by decide) v123⟩, by first | assumption | omega⟩)
        · have c130 : r101.1.toInt ≠ (0 : Int) := o_ne h112
          refine ok_bdv (fun d131 e132 => ?_)
          have i133 : RI ad h.1 δ0 d131 := by rw [e132]; exact cs_12_10 L i83 k_a0 (show 2 ≤ x2v.toInt by omega) (show x2v.toInt ≤ 16 by omega)
          have u134 := kp_I u91 e132
          have v135 : q_V d131 = q_V δ := ((show q_V d131 = q_V r81.2 by rw [e132]; rfl)).trans v92
          have v136 := kr_N v93 (show q_R d131 = q_R r81.2 by rw [e132]; rfl)
          refine ok_bdv (fun d137 e138 => ?_)
          have i139 : RI ad h.1 δ0 d137 := by rw [e138]; exact cs_12_11 L i133 k_a0 (show 1 ≤ x3v.toInt by omega) (show x3v.toInt ≤ 5 by omega)
          have u140 := kp_I u134 e138
          have v141 : q_V d137 = q_V δ := ((show q_V d137 = q_V d131 by rw [e138]; rfl)).trans v135
          have v142 := kr_N v136 (show q_R d137 = q_R d131 by rw [e138]; rfl)
          refine ok_gp (show bo x4v by first | assumption | exact bo_0 | exact bo_1) ?_
          refine ok_bdv (fun d143 e144 => ?_)
          have i145 : RI ad h.1 δ0 d143 := by rw [e144]; exact cs_12_12 L i139 k_a0 (show 0 ≤ x4v.toInt by omega) (show x4v.toInt ≤ 1 by omega)
          have u146 := kp_I u140 e144
          have v147 : q_V d143 = q_V δ := ((show q_V d143 = q_V d137 by rw [e144]; rfl)).trans v141
          have v148 := kr_N v142 (show q_R d143 = q_R d137 by rw [e144]; rfl)
          refine ok_mono (kl_X12_shape_299 L hN   k_a0 _ (0 : Int32) d143 i145 (show 0 ≤ (0 : Int) by first | assumption | omega) (show (0 : Int) ≤ 4 by first | assumption | omega) (show 4 - (0 : Int) < _ by omega)) (fun r149 hr150 => ?_)
          obtain ⟨i151, ⟨u153, u154, u155⟩, p152⟩ := hr150
          have u156 := kp_t u146 u153
          have v157 : q_V r149.2 = q_V δ := (u154).trans v147
          have v158 := kr_t v148 u155
          have f159 := cb_12_2 i151 k_a0
          have f160 := cb_12_2 i145 k_a0
          have f161 : (q_I d143 12 2 a0).toInt = (q_I d137 12 2 a0).toInt := congrArg Int32.toInt (by rw [e144]; exact rI_o (by decide))
          have f162 := cb_12_2 i139 k_a0
          have f163 : (q_I d137 12 2 a0).toInt = (q_I d131 12 2 a0).toInt := congrArg Int32.toInt (by rw [e138]; exact rI_o (by decide))
          have f164 := cb_12_2 i133 k_a0
          have f165 : (q_I d131 12 2 a0).toInt = (q_I r81.2 12 2 a0).toInt := congrArg Int32.toInt (by rw [e132]; exact rI_o (by decide))
          have f166 := cb_12_2 i83 k_a0
          have f167 : (q_I r81.2 12 2 a0).toInt = (q_I δ 12 2 a0).toInt := congrArg Int32.toInt (u87 12 2 a0 (by decide))
          have f168 := cb_12_2 I k_a0
          have f169 := ti_b r149.1
          exact ⟨by assumption, ⟨kp_w (by decide) u156, v157, kr_w (by decide) v158⟩, by first | assumption | omega⟩
      · have c170 : r81.1.toInt ≠ (0 : Int) := o_ne h99
        refine ok_bind (k_X12_word L hN (a0 := a0) k_a0 i83) (fun r171 hr172 => ?_)
        obtain ⟨i173, ⟨u176, u177, u178, u179⟩, p174, p175⟩ := hr172
        have u180 := kp_t u91 u176
        have v181 : q_V r171.2 = q_V δ := (u177).trans v92
        have v182 := kr_t v93 u179
        have f183 := cb_12_4 i173 k_a0
        have f184 : hc ad r171.2 a0 = (q_R r171.2 (Ad ad 101) (q_I r171.2 12 4 a0).toNatClampNeg).toInt := rfl
        have t185 := ti_tn (q_I r171.2 12 4 a0)
        have f186 : (q_R r171.2 (Ad ad 101) (q_I r171.2 12 4 a0).toNatClampNeg).toInt = (q_R r81.2 (Ad ad 101) (q_I r171.2 12 4 a0).toNatClampNeg).toInt := congrArg Int32.toInt (congrFun (u179 101 (by decide) (by decide) (by decide)) _)
        have f187 : (q_R r81.2 (Ad ad 101) (q_I r171.2 12 4 a0).toNatClampNeg).toInt = (q_R δ (Ad ad 101) (q_I r171.2 12 4 a0).toNatClampNeg).toInt := congrArg Int32.toInt (congrFun (u90 101 (by decide) (by decide) (by decide)) _)
        have f188 := ti_b (q_R δ (Ad ad 101) (q_I r171.2 12 4 a0).toNatClampNeg)
        have f189 := ti_b (q_R r81.2 (Ad ad 101) (q_I r171.2 12 4 a0).toNatClampNeg)
        have f190 := ti_b (q_R r171.2 (Ad ad 101) (q_I r171.2 12 4 a0).toNatClampNeg)
        have f191 := ti_b r171.1
        have f192 := cb_12_3 i83 k_a0
        have f193 : (q_I r81.2 12 3 a0).toInt = (q_I δ 12 3 a0).toInt := congrArg Int32.toInt (u87 12 3 a0 (by decide))
        have f194 := ti_b r171.1
        refine ok_bind (k_X12_of L hN (a0 := 0) (show 0 < 16 by first | assumption | omega) i173) (fun r195 hr196 => ?_)
        obtain ⟨i197, p198⟩ := hr196
        try rw [i197]
        have f199 := ti_b r195.1
        have f200 := ti_b r195.1
        refine ok_ite (fun h201 => ?_) (fun h201 => ?_)
        · have c202 : r171.1.toInt = r195.1.toInt := o_eq h201
          unfold J_X12_shape_112
          refine ok_ite (fun h203 => ?_) (fun h203 => ?_)
          · have c204 : (1 : Int) = (0 : Int) := o_eq h203
            refine ok_bind (k_X12_wrong L hN (a0 := a0) (x1 := (1 : Int32)) (x2 := (q_I r171.2 12 4 a0)) k_a0 (show 0 ≤ ((q_I r171.2 12 4 a0)).toInt by first | assumption | omega) i173) (fun r205 hr206 => ?_)
            obtain ⟨i207, ⟨u209, u210, u211, u212⟩, p208⟩ := hr206
            have u213 := kp_t u180 u209
            have v214 : q_V r205 = q_V δ := (u210).trans v181
            have v215 := kr_t v182 u212
            have f216 := ti_b (q_I r205 12 5 a0)
            have f217 : hc ad r205 a0 = (q_R r205 (Ad ad 101) (q_I r205 12 4 a0).toNatClampNeg).toInt := rfl
            have f218 := cb_12_4 i207 k_a0
            have f219 : (q_I r205 12 4 a0).toInt = (q_I r171.2 12 4 a0).toInt := congrArg Int32.toInt (u209 12 4 a0 (by decide))
            have t220 := ti_tn (q_I r205 12 4 a0)
            have f221 : (q_R r205 (Ad ad 101) (q_I r205 12 4 a0).toNatClampNeg).toInt = (q_R r171.2 (Ad ad 101) (q_I r205 12 4 a0).toNatClampNeg).toInt := congrArg Int32.toInt (congrFun (u212 101 (by decide) (by decide) (by decide)) _)
            have f222 : (q_R r171.2 (Ad ad 101) (q_I r205 12 4 a0).toNatClampNeg).toInt = (q_R r81.2 (Ad ad 101) (q_I r205 12 4 a0).toNatClampNeg).toInt := congrArg Int32.toInt (congrFun (u179 101 (by decide) (by decide) (by decide)) _)
            have f223 : (q_R r81.2 (Ad ad 101) (q_I r205 12 4 a0).toNatClampNeg).toInt = (q_R δ (Ad ad 101) (q_I r205 12 4 a0).toNatClampNeg).toInt := congrArg Int32.toInt (congrFun (u90 101 (by decide) (by decide) (by decide)) _)
            have f224 := ti_b (q_R δ (Ad ad 101) (q_I r205 12 4 a0).toNatClampNeg)
            have f225 := ti_b (q_R r81.2 (Ad ad 101) (q_I r205 12 4 a0).toNatClampNeg)
            have f226 := ti_b (q_R r171.2 (Ad ad 101) (q_I r205 12 4 a0).toNatClampNeg)
            have f227 := ti_b (q_R r205 (Ad ad 101) (q_I r205 12 4 a0).toNatClampNeg)
            have f228 := cb_12_3 i207 k_a0
            have f229 : (q_I r205 12 3 a0).toInt = (q_I r171.2 12 3 a0).toInt := congrArg Int32.toInt (u209 12 3 a0 (by decide))
            have f230 := cb_12_3 i173 k_a0
            have f231 : (q_I r171.2 12 3 a0).toInt = (q_I r81.2 12 3 a0).toInt := congrArg Int32.toInt (u176 12 3 a0 (by decide))
            refine ok_mono (kj_X12_shape_148 L hN (K49 := (n : Int)) (a0 := a0) (x1 := x1) (x2v := x2v) (x3v := x3v) (x4v := x4v) (x5v := x5v) (x6v := (1 : Int32)) ih k_a0 (show (q_I r205 12 5 a0).toInt = -1 → 2 ≤ (x2v).toInt ∧ (x2v).toInt ≤ 16 ∧ 1 ≤ (x3v).toInt ∧ (x3v).toInt ≤ 5 by first | assumption | omega) (show (x4v).toInt = 0 ∨ (x4v).toInt = 1 by first | assumption | omega) (show (q_I r205 12 5 a0).toInt = -1 → (q_I r205 12 4 a0).toInt < (q_I r205 12 3 a0).toInt ∧ 97 ≤ hc ad r205 a0 ∧ hc ad r205 a0 ≤ 122 by first | assumption | omega) (show 501 - (q_I r205 12 4 a0).toInt ≤ (n : Int) by first | assumption | omega) i207) (fun r232 hr233 => ?_)
            obtain ⟨i234, ⟨u236, u237, u238⟩, p235⟩ := hr233
            have u239 := kp_t u213 u236
            have v240 : q_V r232.2 = q_V δ := (u237).trans v214
            have v241 := kr_t v215 u238
            have f242 := cb_12_2 i234 k_a0
            have f243 := cb_12_2 i207 k_a0
            have f244 : (q_I r205 12 2 a0).toInt = (q_I r171.2 12 2 a0).toInt := congrArg Int32.toInt (u209 12 2 a0 (by decide))
            have f245 := cb_12_2 i173 k_a0
            have f246 : (q_I r171.2 12 2 a0).toInt = (q_I r81.2 12 2 a0).toInt := congrArg Int32.toInt (u176 12 2 a0 (by decide))
            have f247 := cb_12_2 i83 k_a0
            have f248 : (q_I r81.2 12 2 a0).toInt = (q_I δ 12 2 a0).toInt := congrArg Int32.toInt (u87 12 2 a0 (by decide))
            have f249 := cb_12_2 I k_a0
            have f250 := ti_b r232.1
            exact ⟨by assumption, ⟨kp_w (by decide) u239, v240, kr_w (by decide) v241⟩, by first | assumption | omega⟩
          · have c251 : (1 : Int) ≠ (0 : Int) := o_ne h203
            have f252 := ti_b (x5v &&& (1 : Int32))
            refine ok_ite (fun h253 => ?_) (fun h253 => ?_)
            · have c254 : (x5v &&& (1 : Int32)).toInt = (0 : Int) := o_eq h253
              have f255 := ti_b (q_I r171.2 12 5 a0)
              have f256 : (q_I r171.2 12 5 a0).toInt = (q_I r81.2 12 5 a0).toInt := congrArg Int32.toInt (u176 12 5 a0 (by decide))
              have f257 := ti_b (q_I r81.2 12 5 a0)
              have f258 : (q_I r81.2 12 5 a0).toInt = (q_I δ 12 5 a0).toInt := congrArg Int32.toInt (u87 12 5 a0 (by decide))
              have f259 := cb_12_3 i173 k_a0
              have f260 : (q_I r171.2 12 3 a0).toInt = (q_I r81.2 12 3 a0).toInt := congrArg Int32.toInt (u176 12 3 a0 (by decide))
              refine ok_mono (kj_X12_shape_148 L hN (K49 := (n : Int)) (a0 := a0) (x1 := x1) (x2v := x2v) (x3v := x3v) (x4v := x4v) (x5v := x5v) (x6v := (1 : Int32)) ih k_a0 (show (q_I r171.2 12 5 a0).toInt = -1 → 2 ≤ (x2v).toInt ∧ (x2v).toInt ≤ 16 ∧ 1 ≤ (x3v).toInt ∧ (x3v).toInt ≤ 5 by first | assumption | omega) (show (x4v).toInt = 0 ∨ (x4v).toInt = 1 by first | assumption | omega) (show (q_I r171.2 12 5 a0).toInt = -1 → (q_I r171.2 12 4 a0).toInt < (q_I r171.2 12 3 a0).toInt ∧ 97 ≤ hc ad r171.2 a0 ∧ hc ad r171.2 a0 ≤ 122 by first | assumption | omega) (show 501 - (q_I r171.2 12 4 a0).toInt ≤ (n : Int) by first | assumption | omega) i173) (fun r261 hr262 => ?_)
              obtain ⟨i263, ⟨u265, u266, u267⟩, p264⟩ := hr262
              have u268 := kp_t u180 u265
              have v269 : q_V r261.2 = q_V δ := (u266).trans v181
              have v270 := kr_t v182 u267
              have f271 := cb_12_2 i263 k_a0
              have f272 := cb_12_2 i173 k_a0
              have f273 : (q_I r171.2 12 2 a0).toInt = (q_I r81.2 12 2 a0).toInt := congrArg Int32.toInt (u176 12 2 a0 (by decide))
              have f274 := cb_12_2 i83 k_a0
              have f275 : (q_I r81.2 12 2 a0).toInt = (q_I δ 12 2 a0).toInt := congrArg Int32.toInt (u87 12 2 a0 (by decide))
              have f276 := cb_12_2 I k_a0
              have f277 := ti_b r261.1
              exact ⟨by assumption, ⟨kp_w (by decide) u268, v269, kr_w (by decide) v270⟩, by first | assumption | omega⟩
            · have c278 : (x5v &&& (1 : Int32)).toInt ≠ (0 : Int) := o_ne h253
              refine ok_bind (k_X12_wrong L hN (a0 := a0) (x1 := (4 : Int32)) (x2 := (q_I r171.2 12 4 a0)) k_a0 (show 0 ≤ ((q_I r171.2 12 4 a0)).toInt by first | assumption | omega) i173) (fun r279 hr280 => ?_)
              obtain ⟨i281, ⟨u283, u284, u285, u286⟩, p282⟩ := hr280
              have u287 := kp_t u180 u283
              have v288 : q_V r279 = q_V δ := (u284).trans v181
              have v289 := kr_t v182 u286
              have f290 := ti_b (q_I r279 12 5 a0)
              have f291 : hc ad r279 a0 = (q_R r279 (Ad ad 101) (q_I r279 12 4 a0).toNatClampNeg).toInt := rfl
              have f292 := cb_12_4 i281 k_a0
              have f293 : (q_I r279 12 4 a0).toInt = (q_I r171.2 12 4 a0).toInt := congrArg Int32.toInt (u283 12 4 a0 (by decide))
              have t294 := ti_tn (q_I r279 12 4 a0)
              have f295 : (q_R r279 (Ad ad 101) (q_I r279 12 4 a0).toNatClampNeg).toInt = (q_R r171.2 (Ad ad 101) (q_I r279 12 4 a0).toNatClampNeg).toInt := congrArg Int32.toInt (congrFun (u286 101 (by decide) (by decide) (by decide)) _)
              have f296 : (q_R r171.2 (Ad ad 101) (q_I r279 12 4 a0).toNatClampNeg).toInt = (q_R r81.2 (Ad ad 101) (q_I r279 12 4 a0).toNatClampNeg).toInt := congrArg Int32.toInt (congrFun (u179 101 (by decide) (by decide) (by decide)) _)
              have f297 : (q_R r81.2 (Ad ad 101) (q_I r279 12 4 a0).toNatClampNeg).toInt = (q_R δ (Ad ad 101) (q_I r279 12 4 a0).toNatClampNeg).toInt := congrArg Int32.toInt (congrFun (u90 101 (by decide) (by decide) (by decide)) _)
              have f298 := ti_b (q_R δ (Ad ad 101) (q_I r279 12 4 a0).toNatClampNeg)
              have f299 := ti_b (q_R r81.2 (Ad ad 101) (q_I r279 12 4 a0).toNatClampNeg)
              have f300 := ti_b (q_R r171.2 (Ad ad 101) (q_I r279 12 4 a0).toNatClampNeg)
              have f301 := ti_b (q_R r279 (Ad ad 101) (q_I r279 12 4 a0).toNatClampNeg)
              have f302 := cb_12_3 i281 k_a0
              have f303 : (q_I r279 12 3 a0).toInt = (q_I r171.2 12 3 a0).toInt := congrArg Int32.toInt (u283 12 3 a0 (by decide))
              have f304 := cb_12_3 i173 k_a0
              have f305 : (q_I r171.2 12 3 a0).toInt = (q_I r81.2 12 3 a0).toInt := congrArg Int32.toInt (u176 12 3 a0 (by decide))
              refine ok_mono (kj_X12_shape_148 L hN (K49 := (n : Int)) (a0 := a0) (x1 := x1) (x2v := x2v) (x3v := x3v) (x4v := x4v) (x5v := x5v) (x6v := (1 : Int32)) ih k_a0 (show (q_I r279 12 5 a0).toInt = -1 → 2 ≤ (x2v).toInt ∧ (x2v).toInt ≤ 16 ∧ 1 ≤ (x3v).toInt ∧ (x3v).toInt ≤ 5 by first | assumption | omega) (show (x4v).toInt = 0 ∨ (x4v).toInt = 1 by first | assumption | omega) (show (q_I r279 12 5 a0).toInt = -1 → (q_I r279 12 4 a0).toInt < (q_I r279 12 3 a0).toInt ∧ 97 ≤ hc ad r279 a0 ∧ hc ad r279 a0 ≤ 122 by first | assumption | omega) (show 501 - (q_I r279 12 4 a0).toInt ≤ (n : Int) by first | assumption | omega) i281) (fun r306 hr307 => ?_)
              obtain ⟨i308, ⟨u310, u311, u312⟩, p309⟩ := hr307
              have u313 := kp_t u287 u310
              have v314 : q_V r306.2 = q_V δ := (u311).trans v288
              have v315 := kr_t v289 u312
              have f316 := cb_12_2 i308 k_a0
              have f317 := cb_12_2 i281 k_a0
              have f318 : (q_I r279 12 2 a0).toInt = (q_I r171.2 12 2 a0).toInt := congrArg Int32.toInt (u283 12 2 a0 (by decide))
              have f319 := cb_12_2 i173 k_a0
              have f320 : (q_I r171.2 12 2 a0).toInt = (q_I r81.2 12 2 a0).toInt := congrArg Int32.toInt (u176 12 2 a0 (by decide))
              have f321 := cb_12_2 i83 k_a0
              have f322 : (q_I r81.2 12 2 a0).toInt = (q_I δ 12 2 a0).toInt := congrArg Int32.toInt (u87 12 2 a0 (by decide))
              have f323 := cb_12_2 I k_a0
              have f324 := ti_b r306.1
              exact ⟨by assumption, ⟨kp_w (by decide) u313, v314, kr_w (by decide) v315⟩, by first | assumption | omega⟩
        · have c325 : r171.1.toInt ≠ r195.1.toInt := o_ne h201
          refine ok_bind (k_X12_word L hN (a0 := a0) k_a0 i173) (fun r326 hr327 => ?_)
          obtain ⟨i328, ⟨u331, u332, u333, u334⟩, p329, p330⟩ := hr327
          have u335 := kp_t u180 u331
          have v336 : q_V r326.2 = q_V δ := (u332).trans v181
          have v337 := kr_t v182 u334
          have f338 := cb_12_4 i328 k_a0
          have f339 : hc ad r326.2 a0 = (q_R r326.2 (Ad ad 101) (q_I r326.2 12 4 a0).toNatClampNeg).toInt := rfl
          have t340 := ti_tn (q_I r326.2 12 4 a0)
          have f341 : (q_R r326.2 (Ad ad 101) (q_I r326.2 12 4 a0).toNatClampNeg).toInt = (q_R r171.2 (Ad ad 101) (q_I r326.2 12 4 a0).toNatClampNeg).toInt := congrArg Int32.toInt (congrFun (u334 101 (by decide) (by decide) (by decide)) _)
          have f342 : (q_R r171.2 (Ad ad 101) (q_I r326.2 12 4 a0).toNatClampNeg).toInt = (q_R r81.2 (Ad ad 101) (q_I r326.2 12 4 a0).toNatClampNeg).toInt := congrArg Int32.toInt (congrFun (u179 101 (by decide) (by decide) (by decide)) _)
          have f343 : (q_R r81.2 (Ad ad 101) (q_I r326.2 12 4 a0).toNatClampNeg).toInt = (q_R δ (Ad ad 101) (q_I r326.2 12 4 a0).toNatClampNeg).toInt := congrArg Int32.toInt (congrFun (u90 101 (by decide) (by decide) (by decide)) _)
          have f344 := ti_b (q_R δ (Ad ad 101) (q_I r326.2 12 4 a0).toNatClampNeg)
          have f345 := ti_b (q_R r81.2 (Ad ad 101) (q_I r326.2 12 4 a0).toNatClampNeg)
          have f346 := ti_b (q_R r171.2 (Ad ad 101) (q_I r326.2 12 4 a0).toNatClampNeg)
          have f347 := ti_b (q_R r326.2 (Ad ad 101) (q_I r326.2 12 4 a0).toNatClampNeg)
          have f348 := ti_b r326.1
          have f349 := cb_12_3 i173 k_a0
          have f350 : (q_I r171.2 12 3 a0).toInt = (q_I r81.2 12 3 a0).toInt := congrArg Int32.toInt (u176 12 3 a0 (by decide))
          have f351 := ti_b r326.1
          refine ok_bind (k_X12_of L hN (a0 := 1) (show 1 < 16 by first | assumption | omega) i328) (fun r352 hr353 => ?_)
          obtain ⟨i354, p355⟩ := hr353
          try rw [i354]
          have f356 := ti_b r352.1
          have f357 := ti_b r352.1
          refine ok_ite (fun h358 => ?_) (fun h358 => ?_)
          · have c359 : r326.1.toInt = r352.1.toInt := o_eq h358
            unfold J_X12_shape_112
            refine ok_ite (fun h360 => ?_) (fun h360 => ?_)
            · have c361 : (2 : Int) = (0 : Int) := o_eq h360
              refine ok_bind (k_X12_wrong L hN (a0 := a0) (x1 := (1 : Int32)) (x2 := (q_I r326.2 12 4 a0)) k_a0 (show 0 ≤ ((q_I r326.2 12 4 a0)).toInt by first | assumption | omega) i328) (fun r362 hr363 => ?_)
              obtain ⟨i364, ⟨u366, u367, u368, u369⟩, p365⟩ := hr363
              have u370 := kp_t u335 u366
              have v371 : q_V r362 = q_V δ := (u367).trans v336
              have v372 := kr_t v337 u369
              have f373 := ti_b (q_I r362 12 5 a0)
              have f374 : hc ad r362 a0 = (q_R r362 (Ad ad 101) (q_I r362 12 4 a0).toNatClampNeg).toInt := rfl
              have f375 := cb_12_4 i364 k_a0
              have f376 : (q_I r362 12 4 a0).toInt = (q_I r326.2 12 4 a0).toInt := congrArg Int32.toInt (u366 12 4 a0 (by decide))
              have t377 := ti_tn (q_I r362 12 4 a0)
              have f378 : (q_R r362 (Ad ad 101) (q_I r362 12 4 a0).toNatClampNeg).toInt = (q_R r326.2 (Ad ad 101) (q_I r362 12 4 a0).toNatClampNeg).toInt := congrArg Int32.toInt (congrFun (u369 101 (by decide) (by decide) (by decide)) _)
              have f379 : (q_R r326.2 (Ad ad 101) (q_I r362 12 4 a0).toNatClampNeg).toInt = (q_R r171.2 (Ad ad 101) (q_I r362 12 4 a0).toNatClampNeg).toInt := congrArg Int32.toInt (congrFun (u334 101 (by decide) (by decide) (by decide)) _)
              have f380 : (q_R r171.2 (Ad ad 101) (q_I r362 12 4 a0).toNatClampNeg).toInt = (q_R r81.2 (Ad ad 101) (q_I r362 12 4 a0).toNatClampNeg).toInt := congrArg Int32.toInt (congrFun (u179 101 (by decide) (by decide) (by decide)) _)
              have f381 : (q_R r81.2 (Ad ad 101) (q_I r362 12 4 a0).toNatClampNeg).toInt = (q_R δ (Ad ad 101) (q_I r362 12 4 a0).toNatClampNeg).toInt := congrArg Int32.toInt (congrFun (u90 101 (by decide) (by decide) (by decide)) _)
              have f382 := ti_b (q_R δ (Ad ad 101) (q_I r362 12 4 a0).toNatClampNeg)
              have f383 := ti_b (q_R r81.2 (Ad ad 101) (q_I r362 12 4 a0).toNatClampNeg)
              have f384 := ti_b (q_R r171.2 (Ad ad 101) (q_I r362 12 4 a0).toNatClampNeg)
              have f385 := ti_b (q_R r326.2 (Ad ad 101) (q_I r362 12 4 a0).toNatClampNeg)
              have f386 := ti_b (q_R r362 (Ad ad 101) (q_I r362 12 4 a0).toNatClampNeg)
              have f387 := cb_12_3 i364 k_a0
              have f388 : (q_I r362 12 3 a0).toInt = (q_I r326.2 12 3 a0).toInt := congrArg Int32.toInt (u366 12 3 a0 (by decide))
              have f389 := cb_12_3 i328 k_a0
              have f390 : (q_I r326.2 12 3 a0).toInt = (q_I r171.2 12 3 a0).toInt := congrArg Int32.toInt (u331 12 3 a0 (by decide))
              refine ok_mono (kj_X12_shape_148 L hN (K49 := (n : Int)) (a0 := a0) (x1 := x1) (x2v := x2v) (x3v := x3v) (x4v := x4v) (x5v := x5v) (x6v := (2 : Int32)) ih k_a0 (show (q_I r362 12 5 a0).toInt = -1 → 2 ≤ (x2v).toInt ∧ (x2v).toInt ≤ 16 ∧ 1 ≤ (x3v).toInt ∧ (x3v).toInt ≤ 5 by first | assumption | omega) (show (x4v).toInt = 0 ∨ (x4v).toInt = 1 by first | assumption | omega) (show (q_I r362 12 5 a0).toInt = -1 → (q_I r362 12 4 a0).toInt < (q_I r362 12 3 a0).toInt ∧ 97 ≤ hc ad r362 a0 ∧ hc ad r362 a0 ≤ 122 by first | assumption | omega) (show 501 - (q_I r362 12 4 a0).toInt ≤ (n : Int) by first | assumption | omega) i364) (fun r391 hr392 => ?_)
              obtain ⟨i393, ⟨u395, u396, u397⟩, p394⟩ := hr392
              have u398 := kp_t u370 u395
              have v399 : q_V r391.2 = q_V δ := (u396).trans v371
              have v400 := kr_t v372 u397
              have f401 := cb_12_2 i393 k_a0
              have f402 := cb_12_2 i364 k_a0
              have f403 : (q_I r362 12 2 a0).toInt = (q_I r326.2 12 2 a0).toInt := congrArg Int32.toInt (u366 12 2 a0 (by decide))
              have f404 := cb_12_2 i328 k_a0
              have f405 : (q_I r326.2 12 2 a0).toInt = (q_I r171.2 12 2 a0).toInt := congrArg Int32.toInt (u331 12 2 a0 (by decide))
              have f406 := cb_12_2 i173 k_a0
              have f407 : (q_I r171.2 12 2 a0).toInt = (q_I r81.2 12 2 a0).toInt := congrArg Int32.toInt (u176 12 2 a0 (by decide))
              have f408 := cb_12_2 i83 k_a0
              have f409 : (q_I r81.2 12 2 a0).toInt = (q_I δ 12 2 a0).toInt := congrArg Int32.toInt (u87 12 2 a0 (by decide))
              have f410 := cb_12_2 I k_a0
              have f411 := ti_b r391.1
              exact ⟨by assumption, ⟨kp_w (by decide) u398, v399, kr_w (by decide) v400⟩, by first | assumption | omega⟩
            · have c412 : (2 : Int) ≠ (0 : Int) := o_ne h360
              have f413 := ti_b (x5v &&& (2 : Int32))
              refine ok_ite (fun h414 => ?_) (fun h414 => ?_)
              · have c415 : (x5v &&& (2 : Int32)).toInt = (0 : Int) := o_eq h414
                have f416 := ti_b (q_I r326.2 12 5 a0)
                have f417 : (q_I r326.2 12 5 a0).toInt = (q_I r171.2 12 5 a0).toInt := congrArg Int32.toInt (u331 12 5 a0 (by decide))
                have f418 := ti_b (q_I r171.2 12 5 a0)
                have f419 : (q_I r171.2 12 5 a0).toInt = (q_I r81.2 12 5 a0).toInt := congrArg Int32.toInt (u176 12 5 a0 (by decide))
                have f420 := ti_b (q_I r81.2 12 5 a0)
                have f421 : (q_I r81.2 12 5 a0).toInt = (q_I δ 12 5 a0).toInt := congrArg Int32.toInt (u87 12 5 a0 (by decide))
                have f422 := cb_12_3 i328 k_a0
                have f423 : (q_I r326.2 12 3 a0).toInt = (q_I r171.2 12 3 a0).toInt := congrArg Int32.toInt (u331 12 3 a0 (by decide))
                refine ok_mono (kj_X12_shape_148 L hN (K49 := (n : Int)) (a0 := a0) (x1 := x1) (x2v := x2v) (x3v := x3v) (x4v := x4v) (x5v := x5v) (x6v := (2 : Int32)) ih k_a0 (show (q_I r326.2 12 5 a0).toInt = -1 → 2 ≤ (x2v).toInt ∧ (x2v).toInt ≤ 16 ∧ 1 ≤ (x3v).toInt ∧ (x3v).toInt ≤ 5 by first | assumption | omega) (show (x4v).toInt = 0 ∨ (x4v).toInt = 1 by first | assumption | omega) (show (q_I r326.2 12 5 a0).toInt = -1 → (q_I r326.2 12 4 a0).toInt < (q_I r326.2 12 3 a0).toInt ∧ 97 ≤ hc ad r326.2 a0 ∧ hc ad r326.2 a0 ≤ 122 by first | assumption | omega) (show 501 - (q_I r326.2 12 4 a0).toInt ≤ (n : Int) by first | assumption | omega) i328) (fun r424 hr425 => ?_)
                obtain ⟨i426, ⟨u428, u429, u430⟩, p427⟩ := hr425
                have u431 := kp_t u335 u428
                have v432 : q_V r424.2 = q_V δ := (u429).trans v336
                have v433 := kr_t v337 u430
                have f434 := cb_12_2 i426 k_a0
                have f435 := cb_12_2 i328 k_a0
                have f436 : (q_I r326.2 12 2 a0).toInt = (q_I r171.2 12 2 a0).toInt := congrArg Int32.toInt (u331 12 2 a0 (by decide))
                have f437 := cb_12_2 i173 k_a0
                have f438 : (q_I r171.2 12 2 a0).toInt = (q_I r81.2 12 2 a0).toInt := congrArg Int32.toInt (u176 12 2 a0 (by decide))
                have f439 := cb_12_2 i83 k_a0
                have f440 : (q_I r81.2 12 2 a0).toInt = (q_I δ 12 2 a0).toInt := congrArg Int32.toInt (u87 12 2 a0 (by decide))
                have f441 := cb_12_2 I k_a0
                have f442 := ti_b r424.1
                exact ⟨by assumption, ⟨kp_w (by decide) u431, v432, kr_w (by decide) v433⟩, by first | assumption | omega⟩
              · have c443 : (x5v &&& (2 : Int32)).toInt ≠ (0 : Int) := o_ne h414
                refine ok_bind (k_X12_wrong L hN (a0 := a0) (x1 := (4 : Int32)) (x2 := (q_I r326.2 12 4 a0)) k_a0 (show 0 ≤ ((q_I r326.2 12 4 a0)).toInt by first | assumption | omega) i328) (fun r444 hr445 => ?_)
                obtain ⟨i446, ⟨u448, u449, u450, u451⟩, p447⟩ := hr445
                have u452 := kp_t u335 u448
                have v453 : q_V r444 = q_V δ := (u449).trans v336
                have v454 := kr_t v337 u451
                have f455 := ti_b (q_I r444 12 5 a0)
                have f456 : hc ad r444 a0 = (q_R r444 (Ad ad 101) (q_I r444 12 4 a0).toNatClampNeg).toInt := rfl
                have f457 := cb_12_4 i446 k_a0
                have f458 : (q_I r444 12 4 a0).toInt = (q_I r326.2 12 4 a0).toInt := congrArg Int32.toInt (u448 12 4 a0 (by decide))
                have t459 := ti_tn (q_I r444 12 4 a0)
                have f460 : (q_R r444 (Ad ad 101) (q_I r444 12 4 a0).toNatClampNeg).toInt = (q_R r326.2 (Ad ad 101) (q_I r444 12 4 a0).toNatClampNeg).toInt := congrArg Int32.toInt (congrFun (u451 101 (by decide) (by decide) (by decide)) _)
                have f461 : (q_R r326.2 (Ad ad 101) (q_I r444 12 4 a0).toNatClampNeg).toInt = (q_R r171.2 (Ad ad 101) (q_I r444 12 4 a0).toNatClampNeg).toInt := congrArg Int32.toInt (congrFun (u334 101 (by decide) (by decide) (by decide)) _)
                have f462 : (q_R r171.2 (Ad ad 101) (q_I r444 12 4 a0).toNatClampNeg).toInt = (q_R r81.2 (Ad ad 101) (q_I r444 12 4 a0).toNatClampNeg).toInt := congrArg Int32.toInt (congrFun (u179 101 (by decide) (by decide) (by decide)) _)
                have f463 : (q_R r81.2 (Ad ad 101) (q_I r444 12 4 a0).toNatClampNeg).toInt = (q_R δ (Ad ad 101) (q_I r444 12 4 a0).toNatClampNeg).toInt := congrArg Int32.toInt (congrFun (u90 101 (by decide) (by decide) (by decide)) _)
                have f464 := ti_b (q_R δ (Ad ad 101) (q_I r444 12 4 a0).toNatClampNeg)
                have f465 := ti_b (q_R r81.2 (Ad ad 101) (q_I r444 12 4 a0).toNatClampNeg)
                have f466 := ti_b (q_R r171.2 (Ad ad 101) (q_I r444 12 4 a0).toNatClampNeg)
                have f467 := ti_b (q_R r326.2 (Ad ad 101) (q_I r444 12 4 a0).toNatClampNeg)
                have f468 := ti_b (q_R r444 (Ad ad 101) (q_I r444 12 4 a0).toNatClampNeg)
                have f469 := cb_12_3 i446 k_a0
                have f470 : (q_I r444 12 3 a0).toInt = (q_I r326.2 12 3 a0).toInt := congrArg Int32.toInt (u448 12 3 a0 (by decide))
                have f471 := cb_12_3 i328 k_a0
                have f472 : (q_I r326.2 12 3 a0).toInt = (q_I r171.2 12 3 a0).toInt := congrArg Int32.toInt (u331 12 3 a0 (by decide))
                refine ok_mono (kj_X12_shape_148 L hN (K49 := (n : Int)) (a0 := a0) (x1 := x1) (x2v := x2v) (x3v := x3v) (x4v := x4v) (x5v := x5v) (x6v := (2 : Int32)) ih k_a0 (show (q_I r444 12 5 a0).toInt = -1 → 2 ≤ (x2v).toInt ∧ (x2v).toInt ≤ 16 ∧ 1 ≤ (x3v).toInt ∧ (x3v).toInt ≤ 5 by first | assumption | omega) (show (x4v).toInt = 0 ∨ (x4v).toInt = 1 by first | assumption | omega) (show (q_I r444 12 5 a0).toInt = -1 → (q_I r444 12 4 a0).toInt < (q_I r444 12 3 a0).toInt ∧ 97 ≤ hc ad r444 a0 ∧ hc ad r444 a0 ≤ 122 by first | assumption | omega) (show 501 - (q_I r444 12 4 a0).toInt ≤ (n : Int) by first | assumption | omega) i446) (fun r473 hr474 => ?_)
                obtain ⟨i475, ⟨u477, u478, u479⟩, p476⟩ := hr474
                have u480 := kp_t u452 u477
                have v481 : q_V r473.2 = q_V δ := (u478).trans v453
                have v482 := kr_t v454 u479
                have f483 := cb_12_2 i475 k_a0
                have f484 := cb_12_2 i446 k_a0
                have f485 : (q_I r444 12 2 a0).toInt = (q_I r326.2 12 2 a0).toInt := congrArg Int32.toInt (u448 12 2 a0 (by decide))
                have f486 := cb_12_2 i328 k_a0
                have f487 : (q_I r326.2 12 2 a0).toInt = (q_I r171.2 12 2 a0).toInt := congrArg Int32.toInt (u331 12 2 a0 (by decide))
                have f488 := cb_12_2 i173 k_a0
                have f489 : (q_I r171.2 12 2 a0).toInt = (q_I r81.2 12 2 a0).toInt := congrArg Int32.toInt (u176 12 2 a0 (by decide))
                have f490 := cb_12_2 i83 k_a0
                have f491 : (q_I r81.2 12 2 a0).toInt = (q_I δ 12 2 a0).toInt := congrArg Int32.toInt (u87 12 2 a0 (by decide))
                have f492 := cb_12_2 I k_a0
                have f493 := ti_b r473.1
                exact ⟨by assumption, ⟨kp_w (by decide) u480, v481, kr_w (by decide) v482⟩, by first | assumption | omega⟩
          · have c494 : r326.1.toInt ≠ r352.1.toInt := o_ne h358
            refine ok_bind (k_X12_word L hN (a0 := a0) k_a0 i328) (fun r495 hr496 => ?_)
            obtain ⟨i497, ⟨u500, u501, u502, u503⟩, p498, p499⟩ := hr496
            have u504 := kp_t u335 u500
            have v505 : q_V r495.2 = q_V δ := (u501).trans v336
            have v506 := kr_t v337 u503
            have f507 := cb_12_4 i497 k_a0
            have f508 : hc ad r495.2 a0 = (q_R r495.2 (Ad ad 101) (q_I r495.2 12 4 a0).toNatClampNeg).toInt := rfl
            have t509 := ti_tn (q_I r495.2 12 4 a0)
            have f510 : (q_R r495.2 (Ad ad 101) (q_I r495.2 12 4 a0).toNatClampNeg).toInt = (q_R r326.2 (Ad ad 101) (q_I r495.2 12 4 a0).toNatClampNeg).toInt := congrArg Int32.toInt (congrFun (u503 101 (by decide) (by decide) (by decide)) _)
            have f511 : (q_R r326.2 (Ad ad 101) (q_I r495.2 12 4 a0).toNatClampNeg).toInt = (q_R r171.2 (Ad ad 101) (q_I r495.2 12 4 a0).toNatClampNeg).toInt := congrArg Int32.toInt (congrFun (u334 101 (by decide) (by decide) (by decide)) _)
            have f512 : (q_R r171.2 (Ad ad 101) (q_I r495.2 12 4 a0).toNatClampNeg).toInt = (q_R r81.2 (Ad ad 101) (q_I r495.2 12 4 a0).toNatClampNeg).toInt := congrArg Int32.toInt (congrFun (u179 101 (by decide) (by decide) (by decide)) _)
            have f513 : (q_R r81.2 (Ad ad 101) (q_I r495.2 12 4 a0).toNatClampNeg).toInt = (q_R δ (Ad ad 101) (q_I r495.2 12 4 a0).toNatClampNeg).toInt := congrArg Int32.toInt (congrFun (u90 101 (by decide) (by decide) (by decide)) _)
            have f514 := ti_b (q_R δ (Ad ad 101) (q_I r495.2 12 4 a0).toNatClampNeg)
            have f515 := ti_b (q_R r81.2 (Ad ad 101) (q_I r495.2 12 4 a0).toNatClampNeg)
            have f516 := ti_b (q_R r171.2 (Ad ad 101) (q_I r495.2 12 4 a0).toNatClampNeg)
            have f517 := ti_b (q_R r326.2 (Ad ad 101) (q_I r495.2 12 4 a0).toNatClampNeg)
            have f518 := ti_b (q_R r495.2 (Ad ad 101) (q_I r495.2 12 4 a0).toNatClampNeg)
            have f519 := ti_b r495.1
            have f520 := cb_12_3 i328 k_a0
            have f521 : (q_I r326.2 12 3 a0).toInt = (q_I r171.2 12 3 a0).toInt := congrArg Int32.toInt (u331 12 3 a0 (by decide))
            have f522 := ti_b r495.1
            refine ok_bind (k_X12_of L hN (a0 := 2) (show 2 < 16 by first | assumption | omega) i497) (fun r523 hr524 => ?_)
            obtain ⟨i525, p526⟩ := hr524
            try rw [i525]
            have f527 := ti_b r523.1
            have f528 := ti_b r523.1
            refine ok_ite (fun h529 => ?_) (fun h529 => ?_)
            · have c530 : r495.1.toInt = r523.1.toInt := o_eq h529
              unfold J_X12_shape_112
              refine ok_ite (fun h531 => ?_) (fun h531 => ?_)
              · have c532 : (4 : Int) = (0 : Int) := o_eq h531
                refine ok_bind (k_X12_wrong L hN (a0 := a0) (x1 := (1 : Int32)) (x2 := (q_I r495.2 12 4 a0)) k_a0 (show 0 ≤ ((q_I r495.2 12 4 a0)).toInt by first | assumption | omega) i497) (fun r533 hr534 => ?_)
                obtain ⟨i535, ⟨u537, u538, u539, u540⟩, p536⟩ := hr534
                have u541 := kp_t u504 u537
                have v542 : q_V r533 = q_V δ := (u538).trans v505
                have v543 := kr_t v506 u540
                have f544 := ti_b (q_I r533 12 5 a0)
                have f545 : hc ad r533 a0 = (q_R r533 (Ad ad 101) (q_I r533 12 4 a0).toNatClampNeg).toInt := rfl
                have f546 := cb_12_4 i535 k_a0
                have f547 : (q_I r533 12 4 a0).toInt = (q_I r495.2 12 4 a0).toInt := congrArg Int32.toInt (u537 12 4 a0 (by decide))
                have t548 := ti_tn (q_I r533 12 4 a0)
                have f549 : (q_R r533 (Ad ad 101) (q_I r533 12 4 a0).toNatClampNeg).toInt = (q_R r495.2 (Ad ad 101) (q_I r533 12 4 a0).toNatClampNeg).toInt := congrArg Int32.toInt (congrFun (u540 101 (by decide) (by decide) (by decide)) _)
                have f550 : (q_R r495.2 (Ad ad 101) (q_I r533 12 4 a0).toNatClampNeg).toInt = (q_R r326.2 (Ad ad 101) (q_I r533 12 4 a0).toNatClampNeg).toInt := congrArg Int32.toInt (congrFun (u503 101 (by decide) (by decide) (by decide)) _)
                have f551 : (q_R r326.2 (Ad ad 101) (q_I r533 12 4 a0).toNatClampNeg).toInt = (q_R r171.2 (Ad ad 101) (q_I r533 12 4 a0).toNatClampNeg).toInt := congrArg Int32.toInt (congrFun (u334 101 (by decide) (by decide) (by decide)) _)
                have f552 : (q_R r171.2 (Ad ad 101) (q_I r533 12 4 a0).toNatClampNeg).toInt = (q_R r81.2 (Ad ad 101) (q_I r533 12 4 a0).toNatClampNeg).toInt := congrArg Int32.toInt (congrFun (u179 101 (by decide) (by decide) (by decide)) _)
                have f553 : (q_R r81.2 (Ad ad 101) (q_I r533 12 4 a0).toNatClampNeg).toInt = (q_R δ (Ad ad 101) (q_I r533 12 4 a0).toNatClampNeg).toInt := congrArg Int32.toInt (congrFun (u90 101 (by decide) (by decide) (by decide)) _)
                have f554 := ti_b (q_R δ (Ad ad 101) (q_I r533 12 4 a0).toNatClampNeg)
                have f555 := ti_b (q_R r81.2 (Ad ad 101) (q_I r533 12 4 a0).toNatClampNeg)
                have f556 := ti_b (q_R r171.2 (Ad ad 101) (q_I r533 12 4 a0).toNatClampNeg)
                have f557 := ti_b (q_R r326.2 (Ad ad 101) (q_I r533 12 4 a0).toNatClampNeg)
                have f558 := ti_b (q_R r495.2 (Ad ad 101) (q_I r533 12 4 a0).toNatClampNeg)
                have f559 := ti_b (q_R r533 (Ad ad 101) (q_I r533 12 4 a0).toNatClampNeg)
                have f560 := cb_12_3 i535 k_a0
                have f561 : (q_I r533 12 3 a0).toInt = (q_I r495.2 12 3 a0).toInt := congrArg Int32.toInt (u537 12 3 a0 (by decide))
                have f562 := cb_12_3 i497 k_a0
                have f563 : (q_I r495.2 12 3 a0).toInt = (q_I r326.2 12 3 a0).toInt := congrArg Int32.toInt (u500 12 3 a0 (by decide))
                refine ok_mono (kj_X12_shape_148 L hN (K49 := (n : Int)) (a0 := a0) (x1 := x1) (x2v := x2v) (x3v := x3v) (x4v := x4v) (x5v := x5v) (x6v := (4 : Int32)) ih k_a0 (show (q_I r533 12 5 a0).toInt = -1 → 2 ≤ (x2v).toInt ∧ (x2v).toInt ≤ 16 ∧ 1 ≤ (x3v).toInt ∧ (x3v).toInt ≤ 5 by first | assumption | omega) (show (x4v).toInt = 0 ∨ (x4v).toInt = 1 by first | assumption | omega) (show (q_I r533 12 5 a0).toInt = -1 → (q_I r533 12 4 a0).toInt < (q_I r533 12 3 a0).toInt ∧ 97 ≤ hc ad r533 a0 ∧ hc ad r533 a0 ≤ 122 by first | assumption | omega) (show 501 - (q_I r533 12 4 a0).toInt ≤ (n : Int) by first | assumption | omega) i535) (fun r564 hr565 => ?_)
                obtain ⟨i566, ⟨u568, u569, u570⟩, p567⟩ := hr565
                have u571 := kp_t u541 u568
                have v572 : q_V r564.2 = q_V δ := (u569).trans v542
                have v573 := kr_t v543 u570
                have f574 := cb_12_2 i566 k_a0
                have f575 := cb_12_2 i535 k_a0
                have f576 : (q_I r533 12 2 a0).toInt = (q_I r495.2 12 2 a0).toInt := congrArg Int32.toInt (u537 12 2 a0 (by decide))
                have f577 := cb_12_2 i497 k_a0
                have f578 : (q_I r495.2 12 2 a0).toInt = (q_I r326.2 12 2 a0).toInt := congrArg Int32.toInt (u500 12 2 a0 (by decide))
                have f579 := cb_12_2 i328 k_a0
                have f580 : (q_I r326.2 12 2 a0).toInt = (q_I r171.2 12 2 a0).toInt := congrArg Int32.toInt (u331 12 2 a0 (by decide))
                have f581 := cb_12_2 i173 k_a0
                have f582 : (q_I r171.2 12 2 a0).toInt = (q_I r81.2 12 2 a0).toInt := congrArg Int32.toInt (u176 12 2 a0 (by decide))
                have f583 := cb_12_2 i83 k_a0
                have f584 : (q_I r81.2 12 2 a0).toInt = (q_I δ 12 2 a0).toInt := congrArg Int32.toInt (u87 12 2 a0 (by decide))
                have f585 := cb_12_2 I k_a0
                have f586 := ti_b r564.1
                exact ⟨by assumption, ⟨kp_w (by decide) u571, v572, kr_w (by decide) v573⟩, by first | assumption | omega⟩
              · have c587 : (4 : Int) ≠ (0 : Int) := o_ne h531
                have f588 := ti_b (x5v &&& (4 : Int32))
                refine ok_ite (fun h589 => ?_) (fun h589 => ?_)
                · have c590 : (x5v &&& (4 : Int32)).toInt = (0 : Int) := o_eq h589
                  have f591 := ti_b (q_I r495.2 12 5 a0)
                  have f592 : (q_I r495.2 12 5 a0).toInt = (q_I r326.2 12 5 a0).toInt := congrArg Int32.toInt (u500 12 5 a0 (by decide))
                  have f593 := ti_b (q_I r326.2 12 5 a0)
                  have f594 : (q_I r326.2 12 5 a0).toInt = (q_I r171.2 12 5 a0).toInt := congrArg Int32.toInt (u331 12 5 a0 (by decide))
                  have f595 := ti_b (q_I r171.2 12 5 a0)
                  have f596 : (q_I r171.2 12 5 a0).toInt = (q_I r81.2 12 5 a0).toInt := congrArg Int32.toInt (u176 12 5 a0 (by decide))
                  have f597 := ti_b (q_I r81.2 12 5 a0)
                  have f598 : (q_I r81.2 12 5 a0).toInt = (q_I δ 12 5 a0).toInt := congrArg Int32.toInt (u87 12 5 a0 (by decide))
                  have f599 := cb_12_3 i497 k_a0
                  have f600 : (q_I r495.2 12 3 a0).toInt = (q_I r326.2 12 3 a0).toInt := congrArg Int32.toInt (u500 12 3 a0 (by decide))
                  refine ok_mono (kj_X12_shape_148 L hN (K49 := (n : Int)) (a0 := a0) (x1 := x1) (x2v := x2v) (x3v := x3v) (x4v := x4v) (x5v := x5v) (x6v := (4 : Int32)) ih k_a0 (show (q_I r495.2 12 5 a0).toInt = -1 → 2 ≤ (x2v).toInt ∧ (x2v).toInt ≤ 16 ∧ 1 ≤ (x3v).toInt ∧ (x3v).toInt ≤ 5 by first | assumption | omega) (show (x4v).toInt = 0 ∨ (x4v).toInt = 1 by first | assumption | omega) (show (q_I r495.2 12 5 a0).toInt = -1 → (q_I r495.2 12 4 a0).toInt < (q_I r495.2 12 3 a0).toInt ∧ 97 ≤ hc ad r495.2 a0 ∧ hc ad r495.2 a0 ≤ 122 by first | assumption | omega) (show 501 - (q_I r495.2 12 4 a0).toInt ≤ (n : Int) by first | assumption | omega) i497) (fun r601 hr602 => ?_)
                  obtain ⟨i603, ⟨u605, u606, u607⟩, p604⟩ := hr602
                  have u608 := kp_t u504 u605
                  have v609 : q_V r601.2 = q_V δ := (u606).trans v505
                  have v610 := kr_t v506 u607
                  have f611 := cb_12_2 i603 k_a0
                  have f612 := cb_12_2 i497 k_a0
                  have f613 : (q_I r495.2 12 2 a0).toInt = (q_I r326.2 12 2 a0).toInt := congrArg Int32.toInt (u500 12 2 a0 (by decide))
                  have f614 := cb_12_2 i328 k_a0
                  have f615 : (q_I r326.2 12 2 a0).toInt = (q_I r171.2 12 2 a0).toInt := congrArg Int32.toInt (u331 12 2 a0 (by decide))
                  have f616 := cb_12_2 i173 k_a0
                  have f617 : (q_I r171.2 12 2 a0).toInt = (q_I r81.2 12 2 a0).toInt := congrArg Int32.toInt (u176 12 2 a0 (by decide))
                  have f618 := cb_12_2 i83 k_a0
                  have f619 : (q_I r81.2 12 2 a0).toInt = (q_I δ 12 2 a0).toInt := congrArg Int32.toInt (u87 12 2 a0 (by decide))
                  have f620 := cb_12_2 I k_a0
                  have f621 := ti_b r601.1
                  exact ⟨by assumption, ⟨kp_w (by decide) u608, v609, kr_w (by decide) v610⟩, by first | assumption | omega⟩
                · have c622 : (x5v &&& (4 : Int32)).toInt ≠ (0 : Int) := o_ne h589
                  refine ok_bind (k_X12_wrong L hN (a0 := a0) (x1 := (4 : Int32)) (x2 := (q_I r495.2 12 4 a0)) k_a0 (show 0 ≤ ((q_I r495.2 12 4 a0)).toInt by first | assumption | omega) i497) (fun r623 hr624 => ?_)
                  obtain ⟨i625, ⟨u627, u628, u629, u630⟩, p626⟩ := hr624
                  have u631 := kp_t u504 u627
                  have v632 : q_V r623 = q_V δ := (u628).trans v505
                  have v633 := kr_t v506 u630
                  have f634 := ti_b (q_I r623 12 5 a0)
                  have f635 : hc ad r623 a0 = (q_R r623 (Ad ad 101) (q_I r623 12 4 a0).toNatClampNeg).toInt := rfl
                  have f636 := cb_12_4 i625 k_a0
                  have f637 : (q_I r623 12 4 a0).toInt = (q_I r495.2 12 4 a0).toInt := congrArg Int32.toInt (u627 12 4 a0 (by decide))
                  have t638 := ti_tn (q_I r623 12 4 a0)
                  have f639 : (q_R r623 (Ad ad 101) (q_I r623 12 4 a0).toNatClampNeg).toInt = (q_R r495.2 (Ad ad 101) (q_I r623 12 4 a0).toNatClampNeg).toInt := congrArg Int32.toInt (congrFun (u630 101 (by decide) (by decide) (by decide)) _)
                  have f640 : (q_R r495.2 (Ad ad 101) (q_I r623 12 4 a0).toNatClampNeg).toInt = (q_R r326.2 (Ad ad 101) (q_I r623 12 4 a0).toNatClampNeg).toInt := congrArg Int32.toInt (congrFun (u503 101 (by decide) (by decide) (by decide)) _)
                  have f641 : (q_R r326.2 (Ad ad 101) (q_I r623 12 4 a0).toNatClampNeg).toInt = (q_R r171.2 (Ad ad 101) (q_I r623 12 4 a0).toNatClampNeg).toInt := congrArg Int32.toInt (congrFun (u334 101 (by decide) (by decide) (by decide)) _)
                  have f642 : (q_R r171.2 (Ad ad 101) (q_I r623 12 4 a0).toNatClampNeg).toInt = (q_R r81.2 (Ad ad 101) (q_I r623 12 4 a0).toNatClampNeg).toInt := congrArg Int32.toInt (congrFun (u179 101 (by decide) (by decide) (by decide)) _)
                  have f643 : (q_R r81.2 (Ad ad 101) (q_I r623 12 4 a0).toNatClampNeg).toInt = (q_R δ (Ad ad 101) (q_I r623 12 4 a0).toNatClampNeg).toInt := congrArg Int32.toInt (congrFun (u90 101 (by decide) (by decide) (by decide)) _)
                  have f644 := ti_b (q_R δ (Ad ad 101) (q_I r623 12 4 a0).toNatClampNeg)
                  have f645 := ti_b (q_R r81.2 (Ad ad 101) (q_I r623 12 4 a0).toNatClampNeg)
                  have f646 := ti_b (q_R r171.2 (Ad ad 101) (q_I r623 12 4 a0).toNatClampNeg)
                  have f647 := ti_b (q_R r326.2 (Ad ad 101) (q_I r623 12 4 a0).toNatClampNeg)
                  have f648 := ti_b (q_R r495.2 (Ad ad 101) (q_I r623 12 4 a0).toNatClampNeg)
                  have f649 := ti_b (q_R r623 (Ad ad 101) (q_I r623 12 4 a0).toNatClampNeg)
                  have f650 := cb_12_3 i625 k_a0
                  have f651 : (q_I r623 12 3 a0).toInt = (q_I r495.2 12 3 a0).toInt := congrArg Int32.toInt (u627 12 3 a0 (by decide))
                  have f652 := cb_12_3 i497 k_a0
                  have f653 : (q_I r495.2 12 3 a0).toInt = (q_I r326.2 12 3 a0).toInt := congrArg Int32.toInt (u500 12 3 a0 (by decide))
                  refine ok_mono (kj_X12_shape_148 L hN (K49 := (n : Int)) (a0 := a0) (x1 := x1) (x2v := x2v) (x3v := x3v) (x4v := x4v) (x5v := x5v) (x6v := (4 : Int32)) ih k_a0 (show (q_I r623 12 5 a0).toInt = -1 → 2 ≤ (x2v).toInt ∧ (x2v).toInt ≤ 16 ∧ 1 ≤ (x3v).toInt ∧ (x3v).toInt ≤ 5 by first | assumption | omega) (show (x4v).toInt = 0 ∨ (x4v).toInt = 1 by first | assumption | omega) (show (q_I r623 12 5 a0).toInt = -1 → (q_I r623 12 4 a0).toInt < (q_I r623 12 3 a0).toInt ∧ 97 ≤ hc ad r623 a0 ∧ hc ad r623 a0 ≤ 122 by first | assumption | omega) (show 501 - (q_I r623 12 4 a0).toInt ≤ (n : Int) by first | assumption | omega) i625) (fun r654 hr655 => ?_)
                  obtain ⟨i656, ⟨u658, u659, u660⟩, p657⟩ := hr655
                  have u661 := kp_t u631 u658
                  have v662 : q_V r654.2 = q_V δ := (u659).trans v632
                  have v663 := kr_t v633 u660
                  have f664 := cb_12_2 i656 k_a0
                  have f665 := cb_12_2 i625 k_a0
                  have f666 : (q_I r623 12 2 a0).toInt = (q_I r495.2 12 2 a0).toInt := congrArg Int32.toInt (u627 12 2 a0 (by decide))
                  have f667 := cb_12_2 i497 k_a0
                  have f668 : (q_I r495.2 12 2 a0).toInt = (q_I r326.2 12 2 a0).toInt := congrArg Int32.toInt (u500 12 2 a0 (by decide))
                  have f669 := cb_12_2 i328 k_a0
                  have f670 : (q_I r326.2 12 2 a0).toInt = (q_I r171.2 12 2 a0).toInt := congrArg Int32.toInt (u331 12 2 a0 (by decide))
                  have f671 := cb_12_2 i173 k_a0
                  have f672 : (q_I r171.2 12 2 a0).toInt = (q_I r81.2 12 2 a0).toInt := congrArg Int32.toInt (u176 12 2 a0 (by decide))
                  have f673 := cb_12_2 i83 k_a0
                  have f674 : (q_I r81.2 12 2 a0).toInt = (q_I δ 12 2 a0).toInt := congrArg Int32.toInt (u87 12 2 a0 (by decide))
                  have f675 := cb_12_2 I k_a0
                  have f676 := ti_b r654.1
                  exact ⟨by assumption, ⟨kp_w (by decide) u661, v662, kr_w (by decide) v663⟩, by first | assumption | omega⟩
            · have c677 : r495.1.toInt ≠ r523.1.toInt := o_ne h529
              unfold J_X12_shape_112
              refine ok_ite (fun h678 => ?_) (fun h678 => ?_)
              · have c679 : (0 : Int) = (0 : Int) := o_eq h678
                refine ok_bind (k_X12_wrong L hN (a0 := a0) (x1 := (1 : Int32)) (x2 := (q_I r495.2 12 4 a0)) k_a0 (show 0 ≤ ((q_I r495.2 12 4 a0)).toInt by first | assumption | omega) i497) (fun r680 hr681 => ?_)
                obtain ⟨i682, ⟨u684, u685, u686, u687⟩, p683⟩ := hr681
                have u688 := kp_t u504 u684
                have v689 : q_V r680 = q_V δ := (u685).trans v505
                have v690 := kr_t v506 u687
                have f691 := ti_b (q_I r680 12 5 a0)
                have f692 : hc ad r680 a0 = (q_R r680 (Ad ad 101) (q_I r680 12 4 a0).toNatClampNeg).toInt := rfl
                have f693 := cb_12_4 i682 k_a0
                have f694 : (q_I r680 12 4 a0).toInt = (q_I r495.2 12 4 a0).toInt := congrArg Int32.toInt (u684 12 4 a0 (by decide))
                have t695 := ti_tn (q_I r680 12 4 a0)
                have f696 : (q_R r680 (Ad ad 101) (q_I r680 12 4 a0).toNatClampNeg).toInt = (q_R r495.2 (Ad ad 101) (q_I r680 12 4 a0).toNatClampNeg).toInt := congrArg Int32.toInt (congrFun (u687 101 (by decide) (by decide) (by decide)) _)
                have f697 : (q_R r495.2 (Ad ad 101) (q_I r680 12 4 a0).toNatClampNeg).toInt = (q_R r326.2 (Ad ad 101) (q_I r680 12 4 a0).toNatClampNeg).toInt := congrArg Int32.toInt (congrFun (u503 101 (by decide) (by decide) (by decide)) _)
                have f698 : (q_R r326.2 (Ad ad 101) (q_I r680 12 4 a0).toNatClampNeg).toInt = (q_R r171.2 (Ad ad 101) (q_I r680 12 4 a0).toNatClampNeg).toInt := congrArg Int32.toInt (congrFun (u334 101 (by decide) (by decide) (by decide)) _)
                have f699 : (q_R r171.2 (Ad ad 101) (q_I r680 12 4 a0).toNatClampNeg).toInt = (q_R r81.2 (Ad ad 101) (q_I r680 12 4 a0).toNatClampNeg).toInt := congrArg Int32.toInt (congrFun (u179 101 (by decide) (by decide) (by decide)) _)
                have f700 : (q_R r81.2 (Ad ad 101) (q_I r680 12 4 a0).toNatClampNeg).toInt = (q_R δ (Ad ad 101) (q_I r680 12 4 a0).toNatClampNeg).toInt := congrArg Int32.toInt (congrFun (u90 101 (by decide) (by decide) (by decide)) _)
                have f701 := ti_b (q_R δ (Ad ad 101) (q_I r680 12 4 a0).toNatClampNeg)
                have f702 := ti_b (q_R r81.2 (Ad ad 101) (q_I r680 12 4 a0).toNatClampNeg)
                have f703 := ti_b (q_R r171.2 (Ad ad 101) (q_I r680 12 4 a0).toNatClampNeg)
                have f704 := ti_b (q_R r326.2 (Ad ad 101) (q_I r680 12 4 a0).toNatClampNeg)
                have f705 := ti_b (q_R r495.2 (Ad ad 101) (q_I r680 12 4 a0).toNatClampNeg)
                have f706 := ti_b (q_R r680 (Ad ad 101) (q_I r680 12 4 a0).toNatClampNeg)
                have f707 := cb_12_3 i682 k_a0
                have f708 : (q_I r680 12 3 a0).toInt = (q_I r495.2 12 3 a0).toInt := congrArg Int32.toInt (u684 12 3 a0 (by decide))
                have f709 := cb_12_3 i497 k_a0
                have f710 : (q_I r495.2 12 3 a0).toInt = (q_I r326.2 12 3 a0).toInt := congrArg Int32.toInt (u500 12 3 a0 (by decide))
                refine ok_mono (kj_X12_shape_148 L hN (K49 := (n : Int)) (a0 := a0) (x1 := x1) (x2v := x2v) (x3v := x3v) (x4v := x4v) (x5v := x5v) (x6v := (0 : Int32)) ih k_a0 (show (q_I r680 12 5 a0).toInt = -1 → 2 ≤ (x2v).toInt ∧ (x2v).toInt ≤ 16 ∧ 1 ≤ (x3v).toInt ∧ (x3v).toInt ≤ 5 by first | assumption | omega) (show (x4v).toInt = 0 ∨ (x4v).toInt = 1 by first | assumption | omega) (show (q_I r680 12 5 a0).toInt = -1 → (q_I r680 12 4 a0).toInt < (q_I r680 12 3 a0).toInt ∧ 97 ≤ hc ad r680 a0 ∧ hc ad r680 a0 ≤ 122 by first | assumption | omega) (show 501 - (q_I r680 12 4 a0).toInt ≤ (n : Int) by first | assumption | omega) i682) (fun r711 hr712 => ?_)
                obtain ⟨i713, ⟨u715, u716, u717⟩, p714⟩ := hr712
                have u718 := kp_t u688 u715
                have v719 : q_V r711.2 = q_V δ := (u716).trans v689
                have v720 := kr_t v690 u717
                have f721 := cb_12_2 i713 k_a0
                have f722 := cb_12_2 i682 k_a0
                have f723 : (q_I r680 12 2 a0).toInt = (q_I r495.2 12 2 a0).toInt := congrArg Int32.toInt (u684 12 2 a0 (by decide))
                have f724 := cb_12_2 i497 k_a0
                have f725 : (q_I r495.2 12 2 a0).toInt = (q_I r326.2 12 2 a0).toInt := congrArg Int32.toInt (u500 12 2 a0 (by decide))
                have f726 := cb_12_2 i328 k_a0
                have f727 : (q_I r326.2 12 2 a0).toInt = (q_I r171.2 12 2 a0).toInt := congrArg Int32.toInt (u331 12 2 a0 (by decide))
                have f728 := cb_12_2 i173 k_a0
                have f729 : (q_I r171.2 12 2 a0).toInt = (q_I r81.2 12 2 a0).toInt := congrArg Int32.toInt (u176 12 2 a0 (by decide))
                have f730 := cb_12_2 i83 k_a0
                have f731 : (q_I r81.2 12 2 a0).toInt = (q_I δ 12 2 a0).toInt := congrArg Int32.toInt (u87 12 2 a0 (by decide))
                have f732 := cb_12_2 I k_a0
                have f733 := ti_b r711.1
                exact ⟨by assumption, ⟨kp_w (by decide) u718, v719, kr_w (by decide) v720⟩, by first | assumption | omega⟩
              · have c734 : (0 : Int) ≠ (0 : Int) := o_ne h678
                have f735 := ti_b (x5v &&& (0 : Int32))
                refine ok_ite (fun h736 => ?_) (fun h736 => ?_)
                · have c737 : (x5v &&& (0 : Int32)).toInt = (0 : Int) := o_eq h736
                  have f738 := ti_b (q_I r495.2 12 5 a0)
                  have f739 : (q_I r495.2 12 5 a0).toInt = (q_I r326.2 12 5 a0).toInt := congrArg Int32.toInt (u500 12 5 a0 (by decide))
                  have f740 := ti_b (q_I r326.2 12 5 a0)
                  have f741 : (q_I r326.2 12 5 a0).toInt = (q_I r171.2 12 5 a0).toInt := congrArg Int32.toInt (u331 12 5 a0 (by decide))
                  have f742 := ti_b (q_I r171.2 12 5 a0)
                  have f743 : (q_I r171.2 12 5 a0).toInt = (q_I r81.2 12 5 a0).toInt := congrArg Int32.toInt (u176 12 5 a0 (by decide))
                  have f744 := ti_b (q_I r81.2 12 5 a0)
                  have f745 : (q_I r81.2 12 5 a0).toInt = (q_I δ 12 5 a0).toInt := congrArg Int32.toInt (u87 12 5 a0 (by decide))
                  have f746 := cb_12_3 i497 k_a0
                  have f747 : (q_I r495.2 12 3 a0).toInt = (q_I r326.2 12 3 a0).toInt := congrArg Int32.toInt (u500 12 3 a0 (by decide))
                  refine ok_mono (kj_X12_shape_148 L hN (K49 := (n : Int)) (a0 := a0) (x1 := x1) (x2v := x2v) (x3v := x3v) (x4v := x4v) (x5v := x5v) (x6v := (0 : Int32)) ih k_a0 (show (q_I r495.2 12 5 a0).toInt = -1 → 2 ≤ (x2v).toInt ∧ (x2v).toInt ≤ 16 ∧ 1 ≤ (x3v).toInt ∧ (x3v).toInt ≤ 5 by first | assumption | omega) (show (x4v).toInt = 0 ∨ (x4v).toInt = 1 by first | assumption | omega) (show (q_I r495.2 12 5 a0).toInt = -1 → (q_I r495.2 12 4 a0).toInt < (q_I r495.2 12 3 a0).toInt ∧ 97 ≤ hc ad r495.2 a0 ∧ hc ad r495.2 a0 ≤ 122 by first | assumption | omega) (show 501 - (q_I r495.2 12 4 a0).toInt ≤ (n : Int) by first | assumption | omega) i497) (fun r748 hr749 => ?_)
                  obtain ⟨i750, ⟨u752, u753, u754⟩, p751⟩ := hr749
                  have u755 := kp_t u504 u752
                  have v756 : q_V r748.2 = q_V δ := (u753).trans v505
                  have v757 := kr_t v506 u754
                  have f758 := cb_12_2 i750 k_a0
                  have f759 := cb_12_2 i497 k_a0
                  have f760 : (q_I r495.2 12 2 a0).toInt = (q_I r326.2 12 2 a0).toInt := congrArg Int32.toInt (u500 12 2 a0 (by decide))
                  have f761 := cb_12_2 i328 k_a0
                  have f762 : (q_I r326.2 12 2 a0).toInt = (q_I r171.2 12 2 a0).toInt := congrArg Int32.toInt (u331 12 2 a0 (by decide))
                  have f763 := cb_12_2 i173 k_a0
                  have f764 : (q_I r171.2 12 2 a0).toInt = (q_I r81.2 12 2 a0).toInt := congrArg Int32.toInt (u176 12 2 a0 (by decide))
                  have f765 := cb_12_2 i83 k_a0
                  have f766 : (q_I r81.2 12 2 a0).toInt = (q_I δ 12 2 a0).toInt := congrArg Int32.toInt (u87 12 2 a0 (by decide))
                  have f767 := cb_12_2 I k_a0
                  have f768 := ti_b r748.1
                  exact ⟨by assumption, ⟨kp_w (by decide) u755, v756, kr_w (by decide) v757⟩, by first | assumption | omega⟩
                · have c769 : (x5v &&& (0 : Int32)).toInt ≠ (0 : Int) := o_ne h736
                  refine ok_bind (k_X12_wrong L hN (a0 := a0) (x1 := (4 : Int32)) (x2 := (q_I r495.2 12 4 a0)) k_a0 (show 0 ≤ ((q_I r495.2 12 4 a0)).toInt by first | assumption | omega) i497) (fun r770 hr771 => ?_)
                  obtain ⟨i772, ⟨u774, u775, u776, u777⟩, p773⟩ := hr771
                  have u778 := kp_t u504 u774
                  have v779 : q_V r770 = q_V δ := (u775).trans v505
                  have v780 := kr_t v506 u777
                  have f781 := ti_b (q_I r770 12 5 a0)
                  have f782 : hc ad r770 a0 = (q_R r770 (Ad ad 101) (q_I r770 12 4 a0).toNatClampNeg).toInt := rfl
                  have f783 := cb_12_4 i772 k_a0
                  have f784 : (q_I r770 12 4 a0).toInt = (q_I r495.2 12 4 a0).toInt := congrArg Int32.toInt (u774 12 4 a0 (by decide))
                  have t785 := ti_tn (q_I r770 12 4 a0)
                  have f786 : (q_R r770 (Ad ad 101) (q_I r770 12 4 a0).toNatClampNeg).toInt = (q_R r495.2 (Ad ad 101) (q_I r770 12 4 a0).toNatClampNeg).toInt := congrArg Int32.toInt (congrFun (u777 101 (by decide) (by decide) (by decide)) _)
                  have f787 : (q_R r495.2 (Ad ad 101) (q_I r770 12 4 a0).toNatClampNeg).toInt = (q_R r326.2 (Ad ad 101) (q_I r770 12 4 a0).toNatClampNeg).toInt := congrArg Int32.toInt (congrFun (u503 101 (by decide) (by decide) (by decide)) _)
                  have f788 : (q_R r326.2 (Ad ad 101) (q_I r770 12 4 a0).toNatClampNeg).toInt = (q_R r171.2 (Ad ad 101) (q_I r770 12 4 a0).toNatClampNeg).toInt := congrArg Int32.toInt (congrFun (u334 101 (by decide) (by decide) (by decide)) _)
                  have f789 : (q_R r171.2 (Ad ad 101) (q_I r770 12 4 a0).toNatClampNeg).toInt = (q_R r81.2 (Ad ad 101) (q_I r770 12 4 a0).toNatClampNeg).toInt := congrArg Int32.toInt (congrFun (u179 101 (by decide) (by decide) (by decide)) _)
                  have f790 : (q_R r81.2 (Ad ad 101) (q_I r770 12 4 a0).toNatClampNeg).toInt = (q_R δ (Ad ad 101) (q_I r770 12 4 a0).toNatClampNeg).toInt := congrArg Int32.toInt (congrFun (u90 101 (by decide) (by decide) (by decide)) _)
                  have f791 := ti_b (q_R δ (Ad ad 101) (q_I r770 12 4 a0).toNatClampNeg)
                  have f792 := ti_b (q_R r81.2 (Ad ad 101) (q_I r770 12 4 a0).toNatClampNeg)
                  have f793 := ti_b (q_R r171.2 (Ad ad 101) (q_I r770 12 4 a0).toNatClampNeg)
                  have f794 := ti_b (q_R r326.2 (Ad ad 101) (q_I r770 12 4 a0).toNatClampNeg)
                  have f795 := ti_b (q_R r495.2 (Ad ad 101) (q_I r770 12 4 a0).toNatClampNeg)
                  have f796 := ti_b (q_R r770 (Ad ad 101) (q_I r770 12 4 a0).toNatClampNeg)
                  have f797 := cb_12_3 i772 k_a0
                  have f798 : (q_I r770 12 3 a0).toInt = (q_I r495.2 12 3 a0).toInt := congrArg Int32.toInt (u774 12 3 a0 (by decide))
                  have f799 := cb_12_3 i497 k_a0
                  have f800 : (q_I r495.2 12 3 a0).toInt = (q_I r326.2 12 3 a0).toInt := congrArg Int32.toInt (u500 12 3 a0 (by decide))
                  refine ok_mono (kj_X12_shape_148 L hN (K49 := (n : Int)) (a0 := a0) (x1 := x1) (x2v := x2v) (x3v := x3v) (x4v := x4v) (x5v := x5v) (x6v := (0 : Int32)) ih k_a0 (show (q_I r770 12 5 a0).toInt = -1 → 2 ≤ (x2v).toInt ∧ (x2v).toInt ≤ 16 ∧ 1 ≤ (x3v).toInt ∧ (x3v).toInt ≤ 5 by first | assumption | omega) (show (x4v).toInt = 0 ∨ (x4v).toInt = 1 by first | assumption | omega) (show (q_I r770 12 5 a0).toInt = -1 → (q_I r770 12 4 a0).toInt < (q_I r770 12 3 a0).toInt ∧ 97 ≤ hc ad r770 a0 ∧ hc ad r770 a0 ≤ 122 by first | assumption | omega) (show 501 - (q_I r770 12 4 a0).toInt ≤ (n : Int) by first | assumption | omega) i772) (fun r801 hr802 => ?_)
                  obtain ⟨i803, ⟨u805, u806, u807⟩, p804⟩ := hr802
                  have u808 := kp_t u778 u805
                  have v809 : q_V r801.2 = q_V δ := (u806).trans v779
                  have v810 := kr_t v780 u807
                  have f811 := cb_12_2 i803 k_a0
                  have f812 := cb_12_2 i772 k_a0
                  have f813 : (q_I r770 12 2 a0).toInt = (q_I r495.2 12 2 a0).toInt := congrArg Int32.toInt (u774 12 2 a0 (by decide))
                  have f814 := cb_12_2 i497 k_a0
                  have f815 : (q_I r495.2 12 2 a0).toInt = (q_I r326.2 12 2 a0).toInt := congrArg Int32.toInt (u500 12 2 a0 (by decide))
                  have f816 := cb_12_2 i328 k_a0
                  have f817 : (q_I r326.2 12 2 a0).toInt = (q_I r171.2 12 2 a0).toInt := congrArg Int32.toInt (u331 12 2 a0 (by decide))
                  have f818 := cb_12_2 i173 k_a0
                  have f819 : (q_I r171.2 12 2 a0).toInt = (q_I r81.2 12 2 a0).toInt := congrArg Int32.toInt (u176 12 2 a0 (by decide))
                  have f820 := cb_12_2 i83 k_a0
                  have f821 : (q_I r81.2 12 2 a0).toInt = (q_I δ 12 2 a0).toInt := congrArg Int32.toInt (u87 12 2 a0 (by decide))
                  have f822 := cb_12_2 I k_a0
                  have f823 := ti_b r801.1
                  exact ⟨by assumption, ⟨kp_w (by decide) u808, v809, kr_w (by decide) v810⟩, by first | assumption | omega⟩
set_option maxHeartbeats 4000000 in
theorem k_X12_shape {ad : List Nat} {h : hp} (L : Lay TLx ad h) {δ0 : dp} {N : Nat} (hN : 10000000 ≤ N) {a0 : Nat} {x1 : Int32} (k_a0 : q_K h.1 a0 = 12) {δ : dp} (I : RI ad h.1 δ0 δ) : ok (D_X12_shape N h.1 a0 x1 δ) (fun r => RI ad h.1 δ0 r.2 ∧ (kp [(12, 0), (12, 2), (12, 3), (12, 4), (12, 5), (12, 6), (12, 7), (12, 8), (12, 10), (12, 11), (12, 12), (12, 18)] δ r.2 ∧ q_V r.2 = q_V δ ∧ kr ad [100, 103, 106] δ r.2) ∧ (0 ≤ (x1).toInt ∧ (x1).toInt ≤ (q_I δ 12 2 a0).toInt → (q_I r.2 12 2 a0).toInt = 0) ∧ ((x1).toInt < 0 ∨ (q_I δ 12 2 a0).toInt < (x1).toInt → (q_I r.2 12 2 a0).toInt = (q_I δ 12 2 a0).toInt)) := by
  unfold D_X12_shape
  refine ok_bdv (fun d1 e2 => ?_)
  have i3 : RI ad h.1 δ0 d1 := by rw [e2]; exact cs_12_0 L I
  have u4 := kp_I kp_r e2
  have v5 : q_V d1 = q_V δ := ((show q_V d1 = q_V δ by rw [e2]; rfl)).trans rfl
  have v6 := kr_N kr_r (show q_R d1 = q_R δ by rw [e2]; rfl)
  have f7 := ti_b x1
  refine ok_ite (fun h8 => ?_) (fun h8 => ?_)
  · have c9 : x1.toInt < (0 : Int) := o_lt h8
    unfold J_X12_shape_22
    unfold J_X12_shape_23
    refine ok_bind (k_X12_may L hN (a0 := a0) (x1 := (0 : Int32)) (x2 := (1 : Int32)) (x3 := (2 : Int32)) k_a0 (show (1 : Int) ≠ 0 by first | assumption | omega) (show 0 ≤ (2 : Int) by first | assumption | omega) (show (2 : Int) ≤ 2 by first | assumption | omega) i3) (fun r10 hr11 => ?_)
    obtain ⟨i12, ⟨u16, u17, u18⟩, p13, p14, p15⟩ := hr11
    have u19 := kp_t u4 u16
    have v20 : q_V r10.2 = q_V δ := (u17).trans v5
    have v21 := kr_t v6 u18
    have f22 := bo_t p13
    have f23 := ti_b r10.1
    replace p14 : ((r10.1).toInt = 1 → (0 : Int) ≠ 0) := p14
    have f24 := ti_b (q_I d1 12 0 a0)
    have f25 : (q_I d1 12 0 a0).toInt = (0 : Int) := congrArg Int32.toInt (show q_I d1 12 0 a0 = (0 : Int32) by rw [e2]; exact rI_s)
    replace p15 : ((q_I d1 12 0 a0).toInt = 0 → (r10.1).toInt = 0 → (0 : Int) = 0) := p15
    have f26 := ti_b r10.1
    refine ok_ite (fun h27 => ?_) (fun h27 => ?_)
    · have c28 : r10.1.toInt = (0 : Int) := o_eq h27
      have f29 := cb_12_2 I k_a0
      have f30 := cb_12_2 i12 k_a0
      have f31 : (q_I r10.2 12 2 a0).toInt = (q_I d1 12 2 a0).toInt := congrArg Int32.toInt (u16 12 2 a0 (by decide))
      have f32 := cb_12_2 i3 k_a0
      have f33 : (q_I d1 12 2 a0).toInt = (q_I δ 12 2 a0).toInt := congrArg Int32.toInt (by rw [e2]; exact rI_o (by decide))
      exact ok_some (show RI ad h.1 δ0 r10.2 ∧ (kp [(12, 0), (12, 2), (12, 3), (12, 4), (12, 5), (12, 6), (12, 7), (12, 8), (12, 10), (12, 11), (12, 12), (12, 18)] δ r10.2 ∧ q_V r10.2 = q_V δ ∧ kr ad [100, 103, 106] δ r10.2) ∧ (0 ≤ (x1).toInt ∧ (x1).toInt ≤ (q_I δ 12 2 a0).toInt → (q_I r10.2 12 2 a0).toInt = 0) ∧ ((x1).toInt < 0 ∨ (q_I δ 12 2 a0).toInt < (x1).toInt → (q_I r10.2 12 2 a0).toInt = (q_I δ 12 2 a0).toInt) from ⟨i12, ⟨kp_w (by decide) u19, v20, kr_w (by decide) v21⟩, by first | assumption | omega, by first | assumption | omega⟩)
    · have c34 : r10.1.toInt ≠ (0 : Int) := o_ne h27
      refine ok_bind (k_X12_begins L hN (a0 := a0) (x1 := x1) k_a0 (show 0 ≤ (x1).toInt by first | assumption | omega) (show (x1).toInt ≤ 500 by first | assumption | omega) i12) (fun r35 hr36 => ?_)
      obtain ⟨i37, ⟨u43, u44, u45, u46⟩, p38, p39, p40, p41, p42⟩ := hr36
      have u47 := kp_t u19 u43
      have v48 : q_V r35 = q_V δ := (u44).trans v20
      have v49 := kr_t v21 u46
      have f50 := cb_12_2 i37 k_a0
      have f51 := cb_12_4 i37 k_a0
      have f52 := cb_12_3 i37 k_a0
      have f53 := ti_b (q_I r35 12 5 a0)
      have f54 := ti_b (q_I r35 12 7 a0)
      refine ok_mono (kl_X12_shape_49 L hN   k_a0 _ (8 : Int32) (1 : Int32) (1 : Int32) (0 : Int32) r35 i37 (show (q_I r35 12 5 a0).toInt = -1 → 2 ≤ (8 : Int) ∧ (8 : Int) ≤ 16 ∧ 1 ≤ (1 : Int) ∧ (1 : Int) ≤ 5 by first | assumption | omega) (show (1 : Int) = 0 ∨ (1 : Int) = 1 by first | assumption | omega) (show 501 - (q_I r35 12 4 a0).toInt < _ by omega)) (fun r55 hr56 => ?_)
      obtain ⟨i57, ⟨u59, u60, u61⟩, p58⟩ := hr56
      have u62 := kp_t u47 u59
      have v63 : q_V r55.2 = q_V δ := (u60).trans v48
      have v64 := kr_t v49 u61
      have f65 := cb_12_2 i57 k_a0
      have f66 := ti_b r55.1
      have f67 := cb_12_2 I k_a0
      exact ⟨by assumption, ⟨kp_w (by decide) u62, v63, kr_w (by decide) v64⟩, by first | assumption | omega, by first | assumption | omega⟩
  · have c68 : (0 : Int) ≤ x1.toInt := o_nlt h8
    have f69 := cb_12_2 i3 k_a0
    have f70 : (q_I d1 12 2 a0).toInt = (q_I δ 12 2 a0).toInt := congrArg Int32.toInt (by rw [e2]; exact rI_o (by decide))
    have f71 := cb_12_2 I k_a0
    refine ok_ite (fun h72 => ?_) (fun h72 => ?_)
    · have c73 : (q_I d1 12 2 a0).toInt < x1.toInt := o_lt h72
      unfold J_X12_shape_22
      unfold J_X12_shape_23
      refine ok_bind (k_X12_may L hN (a0 := a0) (x1 := (0 : Int32)) (x2 := (1 : Int32)) (x3 := (2 : Int32)) k_a0 (show (1 : Int) ≠ 0 by first | assumption | omega) (show 0 ≤ (2 : Int) by first | assumption | omega) (show (2 : Int) ≤ 2 by first | assumption | omega) i3) (fun r74 hr75 => ?_)
      obtain ⟨i76, ⟨u80, u81, u82⟩, p77, p78, p79⟩ := hr75
      have u83 := kp_t u4 u80
      have v84 : q_V r74.2 = q_V δ := (u81).trans v5
      have v85 := kr_t v6 u82
      have f86 := bo_t p77
      have f87 := ti_b r74.1
      replace p78 : ((r74.1).toInt = 1 → (0 : Int) ≠ 0) := p78
      have f88 := ti_b (q_I d1 12 0 a0)
      have f89 : (q_I d1 12 0 a0).toInt = (0 : Int) := congrArg Int32.toInt (show q_I d1 12 0 a0 = (0 : Int32) by rw [e2]; exact rI_s)
      replace p79 : ((q_I d1 12 0 a0).toInt = 0 → (r74.1).toInt = 0 → (0 : Int) = 0) := p79
      have f90 := ti_b r74.1
      refine ok_ite (fun h91 => ?_) (fun h91 => ?_)
      · have c92 : r74.1.toInt = (0 : Int) := o_eq h91
        have f93 := cb_12_2 i76 k_a0
        have f94 : (q_I r74.2 12 2 a0).toInt = (q_I d1 12 2 a0).toInt := congrArg Int32.toInt (u80 12 2 a0 (by decide))
        exact ok_some (show RI ad h.1 δ0 r74.2 ∧ (kp [(12, 0), (12, 2), (12, 3), (12, 4), (12, 5), (12, 6), (12, 7), (12, 8), (12, 10), (12, 11), (12, 12), (12, 18)] δ r74.2 ∧ q_V r74.2 = q_V δ ∧ kr ad [100, 103, 106] δ r74.2) ∧ (0 ≤ (x1).toInt ∧ (x1).toInt ≤ (q_I δ 12 2 a0).toInt → (q_I r74.2 12 2 a0).toInt = 0) ∧ ((x1).toInt < 0 ∨ (q_I δ 12 2 a0).toInt < (x1).toInt → (q_I r74.2 12 2 a0).toInt = (q_I δ 12 2 a0).toInt) from ⟨i76, ⟨kp_w (by decide) u83, v84, kr_w (by decide) v85⟩, by first | assumption | omega, by first | assumption | omega⟩)
      · have c95 : r74.1.toInt ≠ (0 : Int) := o_ne h91
        refine ok_bind (k_X12_begins L hN (a0 := a0) (x1 := x1) k_a0 (show 0 ≤ (x1).toInt by first | assumption | omega) (show (x1).toInt ≤ 500 by first | assumption | omega) i76) (fun r96 hr97 => ?_)
        obtain ⟨i98, ⟨u104, u105, u106, u107⟩, p99, p100, p101, p102, p103⟩ := hr97
        have u108 := kp_t u83 u104
        have v109 : q_V r96 = q_V δ := (u105).trans v84
        have v110 := kr_t v85 u107
        have f111 := cb_12_2 i98 k_a0
        have f112 := cb_12_4 i98 k_a0
        have f113 := cb_12_3 i98 k_a0
        have f114 := ti_b (q_I r96 12 5 a0)
        have f115 := ti_b (q_I r96 12 7 a0)
        refine ok_mono (kl_X12_shape_49 L hN   k_a0 _ (8 : Int32) (1 : Int32) (1 : Int32) (0 : Int32) r96 i98 (show (q_I r96 12 5 a0).toInt = -1 → 2 ≤ (8 : Int) ∧ (8 : Int) ≤ 16 ∧ 1 ≤ (1 : Int) ∧ (1 : Int) ≤ 5 by first | assumption | omega) (show (1 : Int) = 0 ∨ (1 : Int) = 1 by first | assumption | omega) (show 501 - (q_I r96 12 4 a0).toInt < _ by omega)) (fun r116 hr117 => ?_)
        obtain ⟨i118, ⟨u120, u121, u122⟩, p119⟩ := hr117
        have u123 := kp_t u108 u120
        have v124 : q_V r116.2 = q_V δ := (u121).trans v109
        have v125 := kr_t v110 u122
        have f126 := cb_12_2 i118 k_a0
        have f127 := ti_b r116.1
        exact ⟨by assumption, ⟨kp_w (by decide) u123, v124, kr_w (by decide) v125⟩, by first | assumption | omega, by first | assumption | omega⟩
    · have c128 : x1.toInt ≤ (q_I d1 12 2 a0).toInt := o_nlt h72
      unfold J_X12_shape_23
      refine ok_bind (k_X12_may L hN (a0 := a0) (x1 := (1 : Int32)) (x2 := (1 : Int32)) (x3 := (2 : Int32)) k_a0 (show (1 : Int) ≠ 0 by first | assumption | omega) (show 0 ≤ (2 : Int) by first | assumption | omega) (show (2 : Int) ≤ 2 by first | assumption | omega) i3) (fun r129 hr130 => ?_)
      obtain ⟨i131, ⟨u135, u136, u137⟩, p132, p133, p134⟩ := hr130
      have u138 := kp_t u4 u135
      have v139 : q_V r129.2 = q_V δ := (u136).trans v5
      have v140 := kr_t v6 u137
      have f141 := bo_t p132
      have f142 := ti_b r129.1
      replace p133 : ((r129.1).toInt = 1 → (1 : Int) ≠ 0) := p133
      have f143 := ti_b (q_I d1 12 0 a0)
      have f144 : (q_I d1 12 0 a0).toInt = (0 : Int) := congrArg Int32.toInt (show q_I d1 12 0 a0 = (0 : Int32) by rw [e2]; exact rI_s)
      replace p134 : ((q_I d1 12 0 a0).toInt = 0 → (r129.1).toInt = 0 → (1 : Int) = 0) := p134
      have f145 := ti_b r129.1
      refine ok_ite (fun h146 => ?_) (fun h146 => ?_)
      · have c147 : r129.1.toInt = (0 : Int) := o_eq h146
        have f148 := cb_12_2 i131 k_a0
        have f149 : (q_I r129.2 12 2 a0).toInt = (q_I d1 12 2 a0).toInt := congrArg Int32.toInt (u135 12 2 a0 (by decide))
        exact ok_some (show RI ad h.1 δ0 r129.2 ∧ (kp [(12, 0), (12, 2), (12, 3), (12, 4), (12, 5), (12, 6), (12, 7), (12, 8), (12, 10), (12, 11), (12, 12), (12, 18)] δ r129.2 ∧ q_V r129.2 = q_V δ ∧ kr ad [100, 103, 106] δ r129.2) ∧ (0 ≤ (x1).toInt ∧ (x1).toInt ≤ (q_I δ 12 2 a0).toInt → (q_I r129.2 12 2 a0).toInt = 0) ∧ ((x1).toInt < 0 ∨ (q_I δ 12 2 a0).toInt < (x1).toInt → (q_I r129.2 12 2 a0).toInt = (q_I δ 12 2 a0).toInt) from ⟨i131, ⟨kp_w (by decide) u138, v139, kr_w (by decide) v140⟩, by first | assumption | omega, by first | assumption | omega⟩)
      · have c150 : r129.1.toInt ≠ (0 : Int) := o_ne h146
        refine ok_bind (k_X12_begins L hN (a0 := a0) (x1 := x1) k_a0 (show 0 ≤ (x1).toInt by first | assumption | omega) (show (x1).toInt ≤ 500 by first | assumption | omega) i131) (fun r151 hr152 => ?_)
        obtain ⟨i153, ⟨u159, u160, u161, u162⟩, p154, p155, p156, p157, p158⟩ := hr152
        have u163 := kp_t u138 u159
        have v164 : q_V r151 = q_V δ := (u160).trans v139
        have v165 := kr_t v140 u162
        have f166 := cb_12_2 i153 k_a0
        have f167 := cb_12_4 i153 k_a0
        have f168 := cb_12_3 i153 k_a0
        have f169 := ti_b (q_I r151 12 5 a0)
        have f170 := ti_b (q_I r151 12 7 a0)
        refine ok_mono (kl_X12_shape_49 L hN   k_a0 _ (8 : Int32) (1 : Int32) (1 : Int32) (0 : Int32) r151 i153 (show (q_I r151 12 5 a0).toInt = -1 → 2 ≤ (8 : Int) ∧ (8 : Int) ≤ 16 ∧ 1 ≤ (1 : Int) ∧ (1 : Int) ≤ 5 by first | assumption | omega) (show (1 : Int) = 0 ∨ (1 : Int) = 1 by first | assumption | omega) (show 501 - (q_I r151 12 4 a0).toInt < _ by omega)) (fun r171 hr172 => ?_)
        obtain ⟨i173, ⟨u175, u176, u177⟩, p174⟩ := hr172
        have u178 := kp_t u163 u175
        have v179 : q_V r171.2 = q_V δ := (u176).trans v164
        have v180 := kr_t v165 u177
        have f181 := cb_12_2 i173 k_a0
        have f182 := ti_b r171.1
        exact ⟨by assumption, ⟨kp_w (by decide) u178, v179, kr_w (by decide) v180⟩, by first | assumption | omega, by first | assumption | omega⟩
