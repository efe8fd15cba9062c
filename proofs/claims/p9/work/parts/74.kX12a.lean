/-! 74.kX12a (by gen_safe.py) -/
set_option maxHeartbeats 4000000 in
theorem k_X12_may {ad : List Nat} {h : hp} (L : Lay TLx ad h) {δ0 : dp} {N : Nat} (hN : 10000000 ≤ N) {a0 : Nat} {x1 : Int32} {x2 : Int32} {x3 : Int32} (k_a0 : q_K h.1 a0 = 12) {δ : dp} (z0 : (x2).toInt ≠ 0) (z1 : 0 ≤ (x3).toInt) (z2 : (x3).toInt ≤ 2) (I : RI ad h.1 δ0 δ) : ok (D_X12_may N h.1 a0 x1 x2 x3 δ) (fun r => RI ad h.1 δ0 r.2 ∧ (kp [(12, 0)] δ r.2 ∧ q_V r.2 = q_V δ ∧ kr ad [100] δ r.2) ∧ bo (r.1) ∧ ((r.1).toInt = 1 → (x1).toInt ≠ 0) ∧ ((q_I δ 12 0 a0).toInt = 0 → (r.1).toInt = 0 → (x1).toInt = 0)) := by
  unfold D_X12_may
  have f1 := ti_b x2
  have f2 := ti_b x3
  have f3 := ti_b x1
  refine ok_ite (fun h4 => ?_) (fun h4 => ?_)
  · have c5 : x1.toInt = (0 : Int) := o_eq h4
    have f6 := ti_b (q_I δ 12 0 a0)
    refine ok_ite (fun h7 => ?_) (fun h7 => ?_)
    · have c8 : (q_I δ 12 0 a0).toInt = (0 : Int) := o_eq h7
      refine ok_bdv (fun d9 e10 => ?_)
      have i11 : RI ad h.1 δ0 d9 := by rw [e10]; exact cs_12_0 L I
      have u12 := kp_I kp_r e10
      have v13 : q_V d9 = q_V δ := ((show q_V d9 = q_V δ by rw [e10]; rfl)).trans rfl
      have v14 := kr_N (kr_r (ad := ad)) (show q_R d9 = q_R δ by rw [e10]; rfl)
      obtain ⟨b15, o16, k17, n18, w19⟩ := gO_12_1 L k_a0
      obtain rfl := gS_12_1 L k_a0 o16
      refine ok_at o16 ?_
      have t20 := ti_tn x3
      refine ok_gd (fun hc21 => ?_) ?_
      · rcases hc21 with hc21 | hc21
        · have c22 : x3.toInt < (0 : Int) := o_lt hc21
          omega
        · omega
      refine ok_gd (fun hc23 => ?_) ?_
      · rcases hc23 with hc23 | hc23
        · have c24 : x3.toInt < (0 : Int) := o_lt hc23
          omega
        · omega
      refine ok_bdv (fun d25 e26 => ?_)
      have i27 : RI ad h.1 δ0 d25 := by rw [e26]; exact RI.sR L i11 w19
      have u28 := kp_N u12 (show q_I d25 = q_I d9 by rw [e26]; rfl)
      have v29 : q_V d25 = q_V δ := ((show q_V d25 = q_V d9 by rw [e26]; rfl)).trans v13
      have v30 := kr_s L (by decide) v14 e26
      unfold J_X12_may_26
      have f31 := ti_b (q_I d25 12 0 a0)
      have f32 : (q_I d25 12 0 a0).toInt = (q_I d9 12 0 a0).toInt := congrArg Int32.toInt (by rw [e26]; rfl)
      have f33 := ti_b (q_I d9 12 0 a0)
      have f34 : (q_I d9 12 0 a0).toInt = x2.toInt := congrArg Int32.toInt (show q_I d9 12 0 a0 = x2 by rw [e10]; exact rI_s)
      refine ok_ite (fun h35 => ?_) (fun h35 => ?_)
      · have c36 : (q_I d25 12 0 a0).toInt = (0 : Int) := o_eq h35
        unfold J_X12_may_38
        refine ok_gp (by decide) ?_
        exact ok_some (show RI ad h.1 δ0 d25 ∧ (kp [(12, 0)] δ d25 ∧ q_V d25 = q_V δ ∧ kr ad [100] δ d25) ∧ bo ((1 : Int32)) ∧ ((1 : Int) = 1 → (x1).toInt ≠ 0) ∧ ((q_I δ 12 0 a0).toInt = 0 → (1 : Int) = 0 → (x1).toInt = 0) from ⟨i27, ⟨kp_w (by decide) u28, v29, kr_w (by decide) v30⟩, bo_1, by first | assumption | omega, by first | assumption | omega⟩)
      · have c37 : (q_I d25 12 0 a0).toInt ≠ (0 : Int) := o_ne h35
        unfold J_X12_may_38
        refine ok_gp (by decide) ?_
        exact ok_some (show RI ad h.1 δ0 d25 ∧ (kp [(12, 0)] δ d25 ∧ q_V d25 = q_V δ ∧ kr ad [100] δ d25) ∧ bo ((0 : Int32)) ∧ ((0 : Int) = 1 → (x1).toInt ≠ 0) ∧ ((q_I δ 12 0 a0).toInt = 0 → (0 : Int) = 0 → (x1).toInt = 0) from ⟨i27, ⟨kp_w (by decide) u28, v29, kr_w (by decide) v30⟩, bo_0, by first | assumption | omega, by first | assumption | omega⟩)
    · have c38 : (q_I δ 12 0 a0).toInt ≠ (0 : Int) := o_ne h7
      unfold J_X12_may_26
      refine ok_ite (fun h39 => ?_) (fun h39 => ?_)
      · have c40 : (q_I δ 12 0 a0).toInt = (0 : Int) := o_eq h39
        unfold J_X12_may_38
        refine ok_gp (by decide) ?_
        exact ok_some (show RI ad h.1 δ0 δ ∧ (kp [(12, 0)] δ δ ∧ q_V δ = q_V δ ∧ kr ad [100] δ δ) ∧ bo ((1 : Int32)) ∧ ((1 : Int) = 1 → (x1).toInt ≠ 0) ∧ ((q_I δ 12 0 a0).toInt = 0 → (1 : Int) = 0 → (x1).toInt = 0) from ⟨I, ⟨kp_w (by decide) kp_r, rfl, kr_w (by decide) (kr_r (ad := ad))⟩, bo_1, by first | assumption | omega, by first | assumption | omega⟩)
      · have c41 : (q_I δ 12 0 a0).toInt ≠ (0 : Int) := o_ne h39
        unfold J_X12_may_38
        refine ok_gp (by decide) ?_
        exact ok_some (show RI ad h.1 δ0 δ ∧ (kp [(12, 0)] δ δ ∧ q_V δ = q_V δ ∧ kr ad [100] δ δ) ∧ bo ((0 : Int32)) ∧ ((0 : Int) = 1 → (x1).toInt ≠ 0) ∧ ((q_I δ 12 0 a0).toInt = 0 → (0 : Int) = 0 → (x1).toInt = 0) from ⟨I, ⟨kp_w (by decide) kp_r, rfl, kr_w (by decide) (kr_r (ad := ad))⟩, bo_0, by first | assumption | omega, by first | assumption | omega⟩)
  · have c42 : x1.toInt ≠ (0 : Int) := o_ne h4
    unfold J_X12_may_26
    have f43 := ti_b (q_I δ 12 0 a0)
    refine ok_ite (fun h44 => ?_) (fun h44 => ?_)
    · have c45 : (q_I δ 12 0 a0).toInt = (0 : Int) := o_eq h44
      unfold J_X12_may_38
      refine ok_gp (by decide) ?_
      exact ok_some (show RI ad h.1 δ0 δ ∧ (kp [(12, 0)] δ δ ∧ q_V δ = q_V δ ∧ kr ad [100] δ δ) ∧ bo ((1 : Int32)) ∧ ((1 : Int) = 1 → (x1).toInt ≠ 0) ∧ ((q_I δ 12 0 a0).toInt = 0 → (1 : Int) = 0 → (x1).toInt = 0) from ⟨I, ⟨kp_w (by decide) kp_r, rfl, kr_w (by decide) (kr_r (ad := ad))⟩, bo_1, by first | assumption | omega, by first | assumption | omega⟩)
    · have c46 : (q_I δ 12 0 a0).toInt ≠ (0 : Int) := o_ne h44
      unfold J_X12_may_38
      refine ok_gp (by decide) ?_
      exact ok_some (show RI ad h.1 δ0 δ ∧ (kp [(12, 0)] δ δ ∧ q_V δ = q_V δ ∧ kr ad [100] δ δ) ∧ bo ((0 : Int32)) ∧ ((0 : Int) = 1 → (x1).toInt ≠ 0) ∧ ((q_I δ 12 0 a0).toInt = 0 → (0 : Int) = 0 → (x1).toInt = 0) from ⟨I, ⟨kp_w (by decide) kp_r, rfl, kr_w (by decide) (kr_r (ad := ad))⟩, bo_0, by first | assumption | omega, by first | assumption | omega⟩)
set_option maxHeartbeats 4000000 in
theorem k_X12_within {ad : List Nat} {h : hp} (L : Lay TLx ad h) {δ0 : dp} {N : Nat} (hN : 10000000 ≤ N) {x0 : Int32} {x1 : Int32} {x2 : Int32} {δ : dp} (I : RI ad h.1 δ0 δ) : ok (D_X12_within N h.1 x0 x1 x2 δ) (fun r => r.2 = δ ∧ bo (r.1) ∧ ((r.1).toInt = 1 → (x1).toInt ≤ (x0).toInt ∧ (x0).toInt ≤ (x2).toInt) ∧ ((r.1).toInt = 0 → (x0).toInt < (x1).toInt ∨ (x2).toInt < (x0).toInt)) := by
  unfold D_X12_within
  have f1 := ti_b x0
  have f2 := ti_b x1
  refine ok_ite (fun h3 => ?_) (fun h3 => ?_)
  · have c4 : x0.toInt < x1.toInt := o_lt h3
    unfold J_X12_within_14
    unfold J_X12_within_15
    refine ok_gp (by decide) ?_
    have f5 := ti_b x2
    exact ok_some (show δ = δ ∧ bo ((0 : Int32)) ∧ ((0 : Int) = 1 → (x1).toInt ≤ (x0).toInt ∧ (x0).toInt ≤ (x2).toInt) ∧ ((0 : Int) = 0 → (x0).toInt < (x1).toInt ∨ (x2).toInt < (x0).toInt) from ⟨rfl, bo_0, by first | assumption | omega, by first | assumption | omega⟩)
  · have c6 : x1.toInt ≤ x0.toInt := o_nlt h3
    have f7 := ti_b x2
    refine ok_ite (fun h8 => ?_) (fun h8 => ?_)
    · have c9 : x2.toInt < x0.toInt := o_lt h8
      unfold J_X12_within_14
      unfold J_X12_within_15
      refine ok_gp (by decide) ?_
      exact ok_some (show δ = δ ∧ bo ((0 : Int32)) ∧ ((0 : Int) = 1 → (x1).toInt ≤ (x0).toInt ∧ (x0).toInt ≤ (x2).toInt) ∧ ((0 : Int) = 0 → (x0).toInt < (x1).toInt ∨ (x2).toInt < (x0).toInt) from ⟨rfl, bo_0, by first | assumption | omega, by first | assumption | omega⟩)
    · have c10 : x0.toInt ≤ x2.toInt := o_nlt h8
      unfold J_X12_within_15
      refine ok_gp (by decide) ?_
      exact ok_some (show δ = δ ∧ bo ((1 : Int32)) ∧ ((1 : Int) = 1 → (x1).toInt ≤ (x0).toInt ∧ (x0).toInt ≤ (x2).toInt) ∧ ((1 : Int) = 0 → (x0).toInt < (x1).toInt ∨ (x2).toInt < (x0).toInt) from ⟨rfl, bo_1, by first | assumption | omega, by first | assumption | omega⟩)
set_option maxHeartbeats 4000000 in
theorem kl_X12_feed_23 {ad : List Nat} {h : hp} (L : Lay TLx ad h) {δ0 : dp} {N : Nat} (hN : 10000000 ≤ N) {a0 : Nat} {x1 : Int32} {x2 : Int32} {x3 : Int32} {x4 : Int32} {x5 : Int32} (k_a0 : q_K h.1 a0 = 12) : ∀ (n : Nat) (x6v : Int32) (δ : dp), RI ad h.1 δ0 δ → 0 ≤ (x6v).toInt → (x6v).toInt ≤ 20 → (q_I δ 12 2 a0).toInt + 20 - (x6v).toInt ≤ 500 → 20 - (x6v).toInt < (n : Int) → ok (L_X12_feed_23 N h.1 a0 x1 x2 x3 x4 x5 n x6v δ) (fun r => RI ad h.1 δ0 r.2 ∧ (kp [(12, 0), (12, 2)] δ r.2 ∧ q_V r.2 = q_V δ ∧ kr ad [101] δ r.2) ∧ (r.1).toInt = (q_I δ 12 2 a0).toInt + 20 - (x6v).toInt ∧ (q_I r.2 12 2 a0).toInt = (q_I δ 12 2 a0).toInt + 20 - (x6v).toInt) := by
  intro n
  induction n with
  | zero =>
    intro x6v δ I j0 j1 j2 hm
    have f1 := ti_b x6v
    have f2 := cb_12_2 I k_a0
    exfalso; omega
  | succ n ih =>
    intro x6v δ I j0 j1 j2 hm
    unfold L_X12_feed_23
    have f1 := ti_b x6v
    have f2 := cb_12_2 I k_a0
    refine ok_ite (fun h3 => ?_) (fun h3 => ?_)
    · have c4 : (20 : Int) ≤ x6v.toInt := o_le h3
      exact ok_some (show RI ad h.1 δ0 δ ∧ (kp [(12, 0), (12, 2)] δ δ ∧ q_V δ = q_V δ ∧ kr ad [101] δ δ) ∧ ((q_I δ 12 2 a0)).toInt = (q_I δ 12 2 a0).toInt + 20 - (x6v).toInt ∧ (q_I δ 12 2 a0).toInt = (q_I δ 12 2 a0).toInt + 20 - (x6v).toInt from ⟨I, ⟨kp_w (by decide) kp_r, rfl, kr_w (by decide) (kr_r (ad := ad))⟩, by first | assumption | omega, by first | assumption | omega⟩)
    · have c5 : x6v.toInt < (20 : Int) := o_nle h3
      refine ok_ite (fun h6 => ?_) (fun h6 => ?_)
      · have c7 : (4 : Int) ≤ x6v.toInt := o_le h6
        refine ok_ite (fun h8 => ?_) (fun h8 => ?_)
        · have c9 : (8 : Int) ≤ x6v.toInt := o_le h8
          refine ok_ite (fun h10 => ?_) (fun h10 => ?_)
          · have c11 : (12 : Int) ≤ x6v.toInt := o_le h10
            refine ok_ite (fun h12 => ?_) (fun h12 => ?_)
            · have c13 : (16 : Int) ≤ x6v.toInt := o_le h12
              unfold J_X12_feed_76
              obtain ⟨b14, o15, k16, n17, w18⟩ := gO_12_9 L k_a0
              obtain rfl := gS_12_9 L k_a0 o15
              refine ok_at o15 ?_
              have t19 := ti_tn (q_I δ 12 2 a0)
              refine ok_gd (fun hc20 => ?_) ?_
              · rcases hc20 with hc20 | hc20
                · have c21 : (q_I δ 12 2 a0).toInt < (0 : Int) := o_lt hc20
                  omega
                · omega
              refine ok_bdv (fun d22 e23 => ?_)
              have i24 : RI ad h.1 δ0 d22 := by rw [e23]; exact RI.sR L I w18
              have u25 := kp_N kp_r (show q_I d22 = q_I δ by rw [e23]; rfl)
              have v26 : q_V d22 = q_V δ := ((show q_V d22 = q_V δ by rw [e23]; rfl)).trans rfl
              have v27 := kr_s L (by decide) (kr_r (ad := ad)) e23
              have f31 := cb_12_2 i24 k_a0
              have f32 : (q_I d22 12 2 a0).toInt = (q_I δ 12 2 a0).toInt := congrArg Int32.toInt (by rw [e23]; rfl)
              first | (have q34 := te_addc (c := 1) (n := 1) rfl (q_I d22 12 2 a0) (by omega) (by omega); obtain ⟨f35, f36, f37⟩ := q34) | (obtain ⟨q34, f35, f36, f37⟩ := ti_addc (c := 1) (n := 1) rfl (q_I d22 12 2 a0))
              refine ok_bdv (fun d28 e29 => ?_)
              have i30 : RI ad h.1 δ0 d28 := by rw [e29]; exact cs_12_2 L i24 k_a0 (show 0 ≤ ((q_I d22 12 2 a0) + (1 : Int32)).toInt by omega) (show ((q_I d22 12 2 a0) + (1 : Int32)).toInt ≤ 500 by omega)
              have u38 := kp_I u25 e29
              have v39 : q_V d28 = q_V δ := ((show q_V d28 = q_V d22 by rw [e29]; rfl)).trans v26
              have v40 := kr_N v27 (show q_R d28 = q_R d22 by rw [e29]; rfl)
              refine ok_biv (fun vx41 e42 => ?_)
              first | (have q43 := te_addc (c := 1) (n := 1) rfl x6v (by omega) (by omega); rw [← e42] at q43; obtain ⟨f44, f45, f46⟩ := q43) | (obtain ⟨q43, f44, f45, f46⟩ : ∃ q : Int, vx41.toInt = x6v.toInt + (1 : Int) + 4294967296 * q ∧ -2147483648 ≤ vx41.toInt ∧ vx41.toInt ≤ 2147483647 := by rw [e42]; exact ti_addc (c := 1) (n := 1) rfl x6v)
              have f47 := cb_12_2 i30 k_a0
              have f48 : (q_I d28 12 2 a0).toInt = ((q_I d22 12 2 a0) + (1 : Int32)).toInt := congrArg Int32.toInt (show q_I d28 12 2 a0 = ((q_I d22 12 2 a0) + (1 : Int32)) by rw [e29]; exact rI_s)
              refine ok_mono (ih vx41 d28 i30 (show 0 ≤ (vx41).toInt by first | assumption | omega) (show (vx41).toInt ≤ 20 by first | assumption | omega) (show (q_I d28 12 2 a0).toInt + 20 - (vx41).toInt ≤ 500 by first | assumption | omega) (show 20 - (vx41).toInt < _ by omega)) (fun r49 hr50 => ?_)
              obtain ⟨i51, ⟨u54, u55, u56⟩, p52, p53⟩ := hr50
              have u57 := kp_t u38 u54
              have v58 : q_V r49.2 = q_V δ := (u55).trans v39
              have v59 := kr_t v40 u56
              have f60 := ti_b r49.1
              have f61 := cb_12_2 i51 k_a0
              have f62 := ti_b r49.1
              exact ⟨by assumption, ⟨kp_w (by decide) u57, v58, kr_w (by decide) v59⟩, by first | assumption | omega, by first | assumption | omega⟩
            · have c63 : x6v.toInt < (16 : Int) := o_nle h12
              unfold J_X12_feed_76
              obtain ⟨b64, o65, k66, n67, w68⟩ := gO_12_9 L k_a0
              obtain rfl := gS_12_9 L k_a0 o65
              refine ok_at o65 ?_
              have t69 := ti_tn (q_I δ 12 2 a0)
              refine ok_gd (fun hc70 => ?_) ?_
              · rcases hc70 with hc70 | hc70
                · have c71 : (q_I δ 12 2 a0).toInt < (0 : Int) := o_lt hc70
                  omega
                · omega
              refine ok_bdv (fun d72 e73 => ?_)
              have i74 : RI ad h.1 δ0 d72 := by rw [e73]; exact RI.sR L I w68
              have u75 := kp_N kp_r (show q_I d72 = q_I δ by rw [e73]; rfl)
              have v76 : q_V d72 = q_V δ := ((show q_V d72 = q_V δ by rw [e73]; rfl)).trans rfl
              have v77 := kr_s L (by decide) (kr_r (ad := ad)) e73
              have f81 := cb_12_2 i74 k_a0
              have f82 : (q_I d72 12 2 a0).toInt = (q_I δ 12 2 a0).toInt := congrArg Int32.toInt (by rw [e73]; rfl)
              first | (have q84 := te_addc (c := 1) (n := 1) rfl (q_I d72 12 2 a0) (by omega) (by omega); obtain ⟨f85, f86, f87⟩ := q84) | (obtain ⟨q84, f85, f86, f87⟩ := ti_addc (c := 1) (n := 1) rfl (q_I d72 12 2 a0))
              refine ok_bdv (fun d78 e79 => ?_)
              have i80 : RI ad h.1 δ0 d78 := by rw [e79]; exact cs_12_2 L i74 k_a0 (show 0 ≤ ((q_I d72 12 2 a0) + (1 : Int32)).toInt by omega) (show ((q_I d72 12 2 a0) + (1 : Int32)).toInt ≤ 500 by omega)
              have u88 := kp_I u75 e79
              have v89 : q_V d78 = q_V δ := ((show q_V d78 = q_V d72 by rw [e79]; rfl)).trans v76
              have v90 := kr_N v77 (show q_R d78 = q_R d72 by rw [e79]; rfl)
              refine ok_biv (fun vx91 e92 => ?_)
              first | (have q93 := te_addc (c := 1) (n := 1) rfl x6v (by omega) (by omega); rw [← e92] at q93; obtain ⟨f94, f95, f96⟩ := q93) | (obtain ⟨q93, f94, f95, f96⟩ : ∃ q : Int, vx91.toInt = x6v.toInt + (1 : Int) + 4294967296 * q ∧ -2147483648 ≤ vx91.toInt ∧ vx91.toInt ≤ 2147483647 := by rw [e92]; exact ti_addc (c := 1) (n := 1) rfl x6v)
              have f97 := cb_12_2 i80 k_a0
              have f98 : (q_I d78 12 2 a0).toInt = ((q_I d72 12 2 a0) + (1 : Int32)).toInt := congrArg Int32.toInt (show q_I d78 12 2 a0 = ((q_I d72 12 2 a0) + (1 : Int32)) by rw [e79]; exact rI_s)
              refine ok_mono (ih vx91 d78 i80 (show 0 ≤ (vx91).toInt by first | assumption | omega) (show (vx91).toInt ≤ 20 by first | assumption | omega) (show (q_I d78 12 2 a0).toInt + 20 - (vx91).toInt ≤ 500 by first | assumption | omega) (show 20 - (vx91).toInt < _ by omega)) (fun r99 hr100 => ?_)
              obtain ⟨i101, ⟨u104, u105, u106⟩, p102, p103⟩ := hr100
              have u107 := kp_t u88 u104
              have v108 : q_V r99.2 = q_V δ := (u105).trans v89
              have v109 := kr_t v90 u106
              have f110 := ti_b r99.1
              have f111 := cb_12_2 i101 k_a0
              have f112 := ti_b r99.1
              exact ⟨by assumption, ⟨kp_w (by decide) u107, v108, kr_w (by decide) v109⟩, by first | assumption | omega, by first | assumption | omega⟩
          · have c113 : x6v.toInt < (12 : Int) := o_nle h10
            unfold J_X12_feed_76
            obtain ⟨b114, o115, k116, n117, w118⟩ := gO_12_9 L k_a0
            obtain rfl := gS_12_9 L k_a0 o115
            refine ok_at o115 ?_
            have t119 := ti_tn (q_I δ 12 2 a0)
            refine ok_gd (fun hc120 => ?_) ?_
            · rcases hc120 with hc120 | hc120
              · have c121 : (q_I δ 12 2 a0).toInt < (0 : Int) := o_lt hc120
                omega
              · omega
            refine ok_bdv (fun d122 e123 => ?_)
            have i124 : RI ad h.1 δ0 d122 := by rw [e123]; exact RI.sR L I w118
            have u125 := kp_N kp_r (show q_I d122 = q_I δ by rw [e123]; rfl)
            have v126 : q_V d122 = q_V δ := ((show q_V d122 = q_V δ by rw [e123]; rfl)).trans rfl
            have v127 := kr_s L (by decide) (kr_r (ad := ad)) e123
            have f131 := cb_12_2 i124 k_a0
            have f132 : (q_I d122 12 2 a0).toInt = (q_I δ 12 2 a0).toInt := congrArg Int32.toInt (by rw [e123]; rfl)
            first | (have q134 := te_addc (c := 1) (n := 1) rfl (q_I d122 12 2 a0) (by omega) (by omega); obtain ⟨f135, f136, f137⟩ := q134) | (obtain ⟨q134, f135, f136, f137⟩ := ti_addc (c := 1) (n := 1) rfl (q_I d122 12 2 a0))
            refine ok_bdv (fun d128 e129 => ?_)
            have i130 : RI ad h.1 δ0 d128 := by rw [e129]; exact cs_12_2 L i124 k_a0 (show 0 ≤ ((q_I d122 12 2 a0) + (1 : Int32)).toInt by omega) (show ((q_I d122 12 2 a0) + (1 : Int32)).toInt ≤ 500 by omega)
            have u138 := kp_I u125 e129
            have v139 : q_V d128 = q_V δ := ((show q_V d128 = q_V d122 by rw [e129]; rfl)).trans v126
            have v140 := kr_N v127 (show q_R d128 = q_R d122 by rw [e129]; rfl)
            refine ok_biv (fun vx141 e142 => ?_)
            first | (have q143 := te_addc (c := 1) (n := 1) rfl x6v (by omega) (by omega); rw [← e142] at q143; obtain ⟨f144, f145, f146⟩ := q143) | (obtain ⟨q143, f144, f145, f146⟩ : ∃ q : Int, vx141.toInt = x6v.toInt + (1 : Int) + 4294967296 * q ∧ -2147483648 ≤ vx141.toInt ∧ vx141.toInt ≤ 2147483647 := by rw [e142]; exact ti_addc (c := 1) (n := 1) rfl x6v)
            have f147 := cb_12_2 i130 k_a0
            have f148 : (q_I d128 12 2 a0).toInt = ((q_I d122 12 2 a0) + (1 : Int32)).toInt := congrArg Int32.toInt (show q_I d128 12 2 a0 = ((q_I d122 12 2 a0) + (1 : Int32)) by rw [e129]; exact rI_s)
            refine ok_mono (ih vx141 d128 i130 (show 0 ≤ (vx141).toInt by first | assumption | omega) (show (vx141).toInt ≤ 20 by first | assumption | omega) (show (q_I d128 12 2 a0).toInt + 20 - (vx141).toInt ≤ 500 by first | assumption | omega) (show 20 - (vx141).toInt < _ by omega)) (fun r149 hr150 => ?_)
            obtain ⟨i151, ⟨u154, u155, u156⟩, p152, p153⟩ := hr150
            have u157 := kp_t u138 u154
            have v158 : q_V r149.2 = q_V δ := (u155).trans v139
            have v159 := kr_t v140 u156
            have f160 := ti_b r149.1
            have f161 := cb_12_2 i151 k_a0
            have f162 := ti_b r149.1
            exact ⟨by assumption, ⟨kp_w (by decide) u157, v158, kr_w (by decide) v159⟩, by first | assumption | omega, by first | assumption | omega⟩
        · have c163 : x6v.toInt < (8 : Int) := o_nle h8
          unfold J_X12_feed_76
          obtain ⟨b164, o165, k166, n167, w168⟩ := gO_12_9 L k_a0
          obtain rfl := gS_12_9 L k_a0 o165
          refine ok_at o165 ?_
          have t169 := ti_tn (q_I δ 12 2 a0)
          refine ok_gd (fun hc170 => ?_) ?_
          · rcases hc170 with hc170 | hc170
            · have c171 : (q_I δ 12 2 a0).toInt < (0 : Int) := o_lt hc170
              omega
            · omega
          refine ok_bdv (fun d172 e173 => ?_)
          have i174 : RI ad h.1 δ0 d172 := by rw [e173]; exact RI.sR L I w168
          have u175 := kp_N kp_r (show q_I d172 = q_I δ by rw [e173]; rfl)
          have v176 : q_V d172 = q_V δ := ((show q_V d172 = q_V δ by rw [e173]; rfl)).trans rfl
          have v177 := kr_s L (by decide) (kr_r (ad := ad)) e173
          have f181 := cb_12_2 i174 k_a0
          have f182 : (q_I d172 12 2 a0).toInt = (q_I δ 12 2 a0).toInt := congrArg Int32.toInt (by rw [e173]; rfl)
          first | (have q184 := te_addc (c := 1) (n := 1) rfl (q_I d172 12 2 a0) (by omega) (by omega); obtain ⟨f185, f186, f187⟩ := q184) | (obtain ⟨q184, f185, f186, f187⟩ := ti_addc (c := 1) (n := 1) rfl (q_I d172 12 2 a0))
          refine ok_bdv (fun d178 e179 => ?_)
          have i180 : RI ad h.1 δ0 d178 := by rw [e179]; exact cs_12_2 L i174 k_a0 (show 0 ≤ ((q_I d172 12 2 a0) + (1 : Int32)).toInt by omega) (show ((q_I d172 12 2 a0) + (1 : Int32)).toInt ≤ 500 by omega)
          have u188 := kp_I u175 e179
          have v189 : q_V d178 = q_V δ := ((show q_V d178 = q_V d172 by rw [e179]; rfl)).trans v176
          have v190 := kr_N v177 (show q_R d178 = q_R d172 by rw [e179]; rfl)
          refine ok_biv (fun vx191 e192 => ?_)
          first | (have q193 := te_addc (c := 1) (n := 1) rfl x6v (by omega) (by omega); rw [← e192] at q193; obtain ⟨f194, f195, f196⟩ := q193) | (obtain ⟨q193, f194, f195, f196⟩ : ∃ q : Int, vx191.toInt = x6v.toInt + (1 : Int) + 4294967296 * q ∧ -2147483648 ≤ vx191.toInt ∧ vx191.toInt ≤ 2147483647 := by rw [e192]; exact ti_addc (c := 1) (n := 1) rfl x6v)
          have f197 := cb_12_2 i180 k_a0
          have f198 : (q_I d178 12 2 a0).toInt = ((q_I d172 12 2 a0) + (1 : Int32)).toInt := congrArg Int32.toInt (show q_I d178 12 2 a0 = ((q_I d172 12 2 a0) + (1 : Int32)) by rw [e179]; exact rI_s)
          refine ok_mono (ih vx191 d178 i180 (show 0 ≤ (vx191).toInt by first | assumption | omega) (show (vx191).toInt ≤ 20 by first | assumption | omega) (show (q_I d178 12 2 a0).toInt + 20 - (vx191).toInt ≤ 500 by first | assumption | omega) (show 20 - (vx191).toInt < _ by omega)) (fun r199 hr200 => ?_)
          obtain ⟨i201, ⟨u204, u205, u206⟩, p202, p203⟩ := hr200
          have u207 := kp_t u188 u204
          have v208 : q_V r199.2 = q_V δ := (u205).trans v189
          have v209 := kr_t v190 u206
          have f210 := ti_b r199.1
          have f211 := cb_12_2 i201 k_a0
          have f212 := ti_b r199.1
          exact ⟨by assumption, ⟨kp_w (by decide) u207, v208, kr_w (by decide) v209⟩, by first | assumption | omega, by first | assumption | omega⟩
      · have c213 : x6v.toInt < (4 : Int) := o_nle h6
        unfold J_X12_feed_76
        obtain ⟨b214, o215, k216, n217, w218⟩ := gO_12_9 L k_a0
        obtain rfl := gS_12_9 L k_a0 o215
        refine ok_at o215 ?_
        have t219 := ti_tn (q_I δ 12 2 a0)
        refine ok_gd (fun hc220 => ?_) ?_
        · rcases hc220 with hc220 | hc220
          · have c221 : (q_I δ 12 2 a0).toInt < (0 : Int) := o_lt hc220
            omega
          · omega
        refine ok_bdv (fun d222 e223 => ?_)
        have i224 : RI ad h.1 δ0 d222 := by rw [e223]; exact RI.sR L I w218
        have u225 := kp_N kp_r (show q_I d222 = q_I δ by rw [e223]; rfl)
        have v226 : q_V d222 = q_V δ := ((show q_V d222 = q_V δ by rw [e223]; rfl)).trans rfl
        have v227 := kr_s L (by decide) (kr_r (ad := ad)) e223
        have f231 := cb_12_2 i224 k_a0
        have f232 : (q_I d222 12 2 a0).toInt = (q_I δ 12 2 a0).toInt := congrArg Int32.toInt (by rw [e223]; rfl)
        first | (have q234 := te_addc (c := 1) (n := 1) rfl (q_I d222 12 2 a0) (by omega) (by omega); obtain ⟨f235, f236, f237⟩ := q234) | (obtain ⟨q234, f235, f236, f237⟩ := ti_addc (c := 1) (n := 1) rfl (q_I d222 12 2 a0))
        refine ok_bdv (fun d228 e229 => ?_)
        have i230 : RI ad h.1 δ0 d228 := by rw [e229]; exact cs_12_2 L i224 k_a0 (show 0 ≤ ((q_I d222 12 2 a0) + (1 : Int32)).toInt by omega) (show ((q_I d222 12 2 a0) + (1 : Int32)).toInt ≤ 500 by omega)
        have u238 := kp_I u225 e229
        have v239 : q_V d228 = q_V δ := ((show q_V d228 = q_V d222 by rw [e229]; rfl)).trans v226
        have v240 := kr_N v227 (show q_R d228 = q_R d222 by rw [e229]; rfl)
        refine ok_biv (fun vx241 e242 => ?_)
        first | (have q243 := te_addc (c := 1) (n := 1) rfl x6v (by omega) (by omega); rw [← e242] at q243; obtain ⟨f244, f245, f246⟩ := q243) | (obtain ⟨q243, f244, f245, f246⟩ : ∃ q : Int, vx241.toInt = x6v.toInt + (1 : Int) + 4294967296 * q ∧ -2147483648 ≤ vx241.toInt ∧ vx241.toInt ≤ 2147483647 := by rw [e242]; exact ti_addc (c := 1) (n := 1) rfl x6v)
        have f247 := cb_12_2 i230 k_a0
        have f248 : (q_I d228 12 2 a0).toInt = ((q_I d222 12 2 a0) + (1 : Int32)).toInt := congrArg Int32.toInt (show q_I d228 12 2 a0 = ((q_I d222 12 2 a0) + (1 : Int32)) by rw [e229]; exact rI_s)
        refine ok_mono (ih vx241 d228 i230 (show 0 ≤ (vx241).toInt by first | assumption | omega) (show (vx241).toInt ≤ 20 by first | assumption | omega) (show (q_I d228 12 2 a0).toInt + 20 - (vx241).toInt ≤ 500 by first | assumption | omega) (show 20 - (vx241).toInt < _ by omega)) (fun r249 hr250 => ?_)
        obtain ⟨i251, ⟨u254, u255, u256⟩, p252, p253⟩ := hr250
        have u257 := kp_t u238 u254
        have v258 : q_V r249.2 = q_V δ := (u255).trans v239
        have v259 := kr_t v240 u256
        have f260 := ti_b r249.1
        have f261 := cb_12_2 i251 k_a0
        have f262 := ti_b r249.1
        exact ⟨by assumption, ⟨kp_w (by decide) u257, v258, kr_w (by decide) v259⟩, by first | assumption | omega, by first | assumption | omega⟩
set_option maxHeartbeats 4000000 in
theorem k_X12_feed {ad : List Nat} {h : hp} (L : Lay TLx ad h) {δ0 : dp} {N : Nat} (hN : 10000000 ≤ N) {a0 : Nat} {x1 : Int32} {x2 : Int32} {x3 : Int32} {x4 : Int32} {x5 : Int32} (k_a0 : q_K h.1 a0 = 12) {δ : dp} (I : RI ad h.1 δ0 δ) : ok (D_X12_feed N h.1 a0 x1 x2 x3 x4 x5 δ) (fun r => RI ad h.1 δ0 r.2 ∧ (kp [(12, 0), (12, 2)] δ r.2 ∧ q_V r.2 = q_V δ ∧ kr ad [101] δ r.2) ∧ ((q_I δ 12 2 a0).toInt + 20 ≤ 500 → (r.1).toInt = (q_I δ 12 2 a0).toInt + 20 ∧ (q_I r.2 12 2 a0).toInt = (q_I δ 12 2 a0).toInt + 20) ∧ (500 < (q_I δ 12 2 a0).toInt + 20 → (r.1).toInt = -1 ∧ (q_I r.2 12 2 a0).toInt = (q_I δ 12 2 a0).toInt)) := by
  unfold D_X12_feed
  refine ok_bdv (fun d1 e2 => ?_)
  have i3 : RI ad h.1 δ0 d1 := by rw [e2]; exact cs_12_0 L I
  have u4 := kp_I kp_r e2
  have v5 : q_V d1 = q_V δ := ((show q_V d1 = q_V δ by rw [e2]; rfl)).trans rfl
  have v6 := kr_N (kr_r (ad := ad)) (show q_R d1 = q_R δ by rw [e2]; rfl)
  have f7 := cb_12_2 i3 k_a0
  have f8 : (q_I d1 12 2 a0).toInt = (q_I δ 12 2 a0).toInt := congrArg Int32.toInt (by rw [e2]; exact rI_o (by decide))
  have f9 := cb_12_2 I k_a0
  first | (have q11 := te_addc (c := 20) (n := 20) rfl (q_I d1 12 2 a0) (by omega) (by omega); obtain ⟨f12, f13, f14⟩ := q11) | (obtain ⟨q11, f12, f13, f14⟩ := ti_addc (c := 20) (n := 20) rfl (q_I d1 12 2 a0))
  refine ok_ite (fun h15 => ?_) (fun h15 => ?_)
  · have c16 : ((q_I d1 12 2 a0) + (20 : Int32)).toInt ≤ (500 : Int) := o_le h15
    refine ok_mono (kl_X12_feed_23 L hN   k_a0 _ (0 : Int32) d1 i3 (show 0 ≤ (0 : Int) by first | assumption | omega) (show (0 : Int) ≤ 20 by first | assumption | omega) (show (q_I d1 12 2 a0).toInt + 20 - (0 : Int) ≤ 500 by first | assumption | omega) (show 20 - (0 : Int) < _ by omega)) (fun r17 hr18 => ?_)
    obtain ⟨i19, ⟨u22, u23, u24⟩, p20, p21⟩ := hr18
    have u25 := kp_t u4 u22
    have v26 : q_V r17.2 = q_V δ := (u23).trans v5
    have v27 := kr_t v6 u24
    have f28 := ti_b r17.1
    replace p20 : (r17.1).toInt = (q_I d1 12 2 a0).toInt + 20 - (0 : Int) := p20
    have f29 := cb_12_2 i19 k_a0
    replace p21 : (q_I r17.2 12 2 a0).toInt = (q_I d1 12 2 a0).toInt + 20 - (0 : Int) := p21
    have f30 := ti_b r17.1
    exact ⟨by assumption, ⟨kp_w (by decide) u25, v26, kr_w (by decide) v27⟩, by first | assumption | omega, by first | assumption | omega⟩
  · have c31 : (500 : Int) < ((q_I d1 12 2 a0) + (20 : Int32)).toInt := o_nle h15
    exact ok_some (show RI ad h.1 δ0 d1 ∧ (kp [(12, 0), (12, 2)] δ d1 ∧ q_V d1 = q_V δ ∧ kr ad [101] δ d1) ∧ ((q_I δ 12 2 a0).toInt + 20 ≤ 500 → (-1 : Int) = (q_I δ 12 2 a0).toInt + 20 ∧ (q_I d1 12 2 a0).toInt = (q_I δ 12 2 a0).toInt + 20) ∧ (500 < (q_I δ 12 2 a0).toInt + 20 → (-1 : Int) = -1 ∧ (q_I d1 12 2 a0).toInt = (q_I δ 12 2 a0).toInt) from ⟨i3, ⟨kp_w (by decide) u4, v5, kr_w (by decide) v6⟩, by first | assumption | omega, by first | assumption | omega⟩)
set_option maxHeartbeats 4000000 in
theorem k_X12_fine {ad : List Nat} {h : hp} (L : Lay TLx ad h) {δ0 : dp} {N : Nat} (hN : 10000000 ≤ N) {a0 : Nat} (k_a0 : q_K h.1 a0 = 12) {δ : dp} (I : RI ad h.1 δ0 δ) : ok (D_X12_fine N h.1 a0 δ) (fun r => r.2 = δ ∧ bo (r.1) ∧ 0 ≤ (q_I δ 12 5 a0).toInt + (r.1).toInt ∧ (q_I δ 12 5 a0).toInt + 501 * (r.1).toInt ≤ 500) := by
  unfold D_X12_fine
  have f1 := cb_12_5 I k_a0
  refine ok_ite (fun h2 => ?_) (fun h2 => ?_)
  · have c3 : (q_I δ 12 5 a0).toInt = (-1 : Int) := o_eq h2
    unfold J_X12_fine_13
    refine ok_gp (by decide) ?_
    exact ok_some (show δ = δ ∧ bo ((1 : Int32)) ∧ 0 ≤ (q_I δ 12 5 a0).toInt + (1 : Int) ∧ (q_I δ 12 5 a0).toInt + 501 * (1 : Int) ≤ 500 from ⟨rfl, bo_1, by first | assumption | omega, by first | assumption | omega⟩)
  · have c4 : (q_I δ 12 5 a0).toInt ≠ (-1 : Int) := o_ne h2
    unfold J_X12_fine_13
    refine ok_gp (by decide) ?_
    exact ok_some (show δ = δ ∧ bo ((0 : Int32)) ∧ 0 ≤ (q_I δ 12 5 a0).toInt + (0 : Int) ∧ (q_I δ 12 5 a0).toInt + 501 * (0 : Int) ≤ 500 from ⟨rfl, bo_0, by first | assumption | omega, by first | assumption | omega⟩)
set_option maxHeartbeats 4000000 in
theorem k_X12_wrong {ad : List Nat} {h : hp} (L : Lay TLx ad h) {δ0 : dp} {N : Nat} (hN : 10000000 ≤ N) {a0 : Nat} {x1 : Int32} {x2 : Int32} (k_a0 : q_K h.1 a0 = 12) {δ : dp} (z0 : 0 ≤ (x2).toInt) (z1 : (x2).toInt ≤ 500) (z2 : 0 ≤ (x1).toInt) (z3 : (x1).toInt ≤ 4) (I : RI ad h.1 δ0 δ) : ok (D_X12_wrong N h.1 a0 x1 x2 δ) (fun r => RI ad h.1 δ0 r ∧ (kp [(12, 5), (12, 6)] δ r ∧ q_V r = q_V δ ∧ q_R r = q_R δ ∧ kr ad [] δ r) ∧ 0 ≤ (q_I r 12 5 a0).toInt ∧ (q_I δ 12 5 a0).toInt ≤ (q_I r 12 5 a0).toInt) := by
  unfold D_X12_wrong
  have f1 := ti_b x2
  have f2 := ti_b x1
  have f3 := cb_12_5 I k_a0
  refine ok_ite (fun h4 => ?_) (fun h4 => ?_)
  · have c5 : (q_I δ 12 5 a0).toInt = (-1 : Int) := o_eq h4
    refine ok_bdv (fun d6 e7 => ?_)
    have i8 : RI ad h.1 δ0 d6 := by rw [e7]; exact cs_12_5 L I k_a0 (show -1 ≤ x2.toInt by omega) (show x2.toInt ≤ 500 by omega)
    have u9 := kp_I kp_r e7
    have v10 : q_V d6 = q_V δ := ((show q_V d6 = q_V δ by rw [e7]; rfl)).trans rfl
    have v11 : q_R d6 = q_R δ := ((show q_R d6 = q_R δ by rw [e7]; rfl)).trans rfl
    have v12 := kr_N (kr_r (ad := ad)) (show q_R d6 = q_R δ by rw [e7]; rfl)
    refine ok_bdv (fun d13 e14 => ?_)
    have i15 : RI ad h.1 δ0 d13 := by rw [e14]; exact cs_12_6 L i8 k_a0 (show 0 ≤ x1.toInt by omega) (show x1.toInt ≤ 4 by omega)
    have u16 := kp_I u9 e14
    have v17 : q_V d13 = q_V δ := ((show q_V d13 = q_V d6 by rw [e14]; rfl)).trans v10
    have v18 : q_R d13 = q_R δ := ((show q_R d13 = q_R d6 by rw [e14]; rfl)).trans v11
    have v19 := kr_N v12 (show q_R d13 = q_R d6 by rw [e14]; rfl)
    have f20 := cb_12_5 i15 k_a0
    have f21 : (q_I d13 12 5 a0).toInt = (q_I d6 12 5 a0).toInt := congrArg Int32.toInt (by rw [e14]; exact rI_o (by decide))
    have f22 := cb_12_5 i8 k_a0
    have f23 : (q_I d6 12 5 a0).toInt = x2.toInt := congrArg Int32.toInt (show q_I d6 12 5 a0 = x2 by rw [e7]; exact rI_s)
    exact ok_some (show RI ad h.1 δ0 d13 ∧ (kp [(12, 5), (12, 6)] δ d13 ∧ q_V d13 = q_V δ ∧ q_R d13 = q_R δ ∧ kr ad [] δ d13) ∧ 0 ≤ (q_I d13 12 5 a0).toInt ∧ (q_I δ 12 5 a0).toInt ≤ (q_I d13 12 5 a0).toInt from ⟨i15, ⟨kp_w (by decide) u16, v17, v18, kr_w (by decide) v19⟩, by first | assumption | omega, by first | assumption | omega⟩)
  · have c24 : (q_I δ 12 5 a0).toInt ≠ (-1 : Int) := o_ne h4
    exact ok_some (show RI ad h.1 δ0 δ ∧ (kp [(12, 5), (12, 6)] δ δ ∧ q_V δ = q_V δ ∧ q_R δ = q_R δ ∧ kr ad [] δ δ) ∧ 0 ≤ (q_I δ 12 5 a0).toInt ∧ (q_I δ 12 5 a0).toInt ≤ (q_I δ 12 5 a0).toInt from ⟨I, ⟨kp_w (by decide) kp_r, rfl, rfl, kr_w (by decide) (kr_r (ad := ad))⟩, by first | assumption | omega, by first | assumption | omega⟩)
set_option maxHeartbeats 4000000 in
theorem kl_X12_here_0 {ad : List Nat} {h : hp} (L : Lay TLx ad h) {δ0 : dp} {N : Nat} (hN : 10000000 ≤ N) {a0 : Nat} (k_a0 : q_K h.1 a0 = 12) : ∀ (n : Nat) (δ : dp), RI ad h.1 δ0 δ → 501 - (q_I δ 12 4 a0).toInt < (n : Int) → ok (L_X12_here_0 N h.1 a0 n δ) (fun r => RI ad h.1 δ0 r.2 ∧ (kp [(12, 4)] δ r.2 ∧ q_V r.2 = q_V δ ∧ q_R r.2 = q_R δ ∧ kr ad [] δ r.2) ∧ (q_I δ 12 4 a0).toInt ≤ (q_I r.2 12 4 a0).toInt ∧ ((r.1).toInt ≠ 0 → (q_I r.2 12 4 a0).toInt < (q_I δ 12 3 a0).toInt ∧ (r.1).toInt = hc ad r.2 a0) ∧ ((q_I δ 12 4 a0).toInt < (q_I δ 12 3 a0).toInt → hc ad δ a0 ≠ 32 → (q_I r.2 12 4 a0).toInt = (q_I δ 12 4 a0).toInt ∧ (r.1).toInt = hc ad δ a0)) := by
  intro n
  induction n with
  | zero =>
    intro δ I hm
    have f1 := cb_12_4 I k_a0
    exfalso; omega
  | succ n ih =>
    intro δ I hm
    unfold L_X12_here_0
    have f1 := cb_12_4 I k_a0
    have f2 := cb_12_3 I k_a0
    refine ok_ite (fun h3 => ?_) (fun h3 => ?_)
    · have c4 : (q_I δ 12 3 a0).toInt ≤ (q_I δ 12 4 a0).toInt := o_le h3
      unfold J_X12_here_38
      refine ok_ite (fun h5 => ?_) (fun h5 => ?_)
      · have c6 : (q_I δ 12 3 a0).toInt ≤ (q_I δ 12 4 a0).toInt := o_le h5
        unfold J_X12_here_62
        have f7 : hc ad δ a0 = (q_R δ (Ad ad 101) (q_I δ 12 4 a0).toNatClampNeg).toInt := rfl
        have t8 := ti_tn (q_I δ 12 4 a0)
        have f9 := ti_b (q_R δ (Ad ad 101) (q_I δ 12 4 a0).toNatClampNeg)
        exact ok_some (show RI ad h.1 δ0 δ ∧ (kp [(12, 4)] δ δ ∧ q_V δ = q_V δ ∧ q_R δ = q_R δ ∧ kr ad [] δ δ) ∧ (q_I δ 12 4 a0).toInt ≤ (q_I δ 12 4 a0).toInt ∧ ((0 : Int) ≠ 0 → (q_I δ 12 4 a0).toInt < (q_I δ 12 3 a0).toInt ∧ (0 : Int) = hc ad δ a0) ∧ ((q_I δ 12 4 a0).toInt < (q_I δ 12 3 a0).toInt → hc ad δ a0 ≠ 32 → (q_I δ 12 4 a0).toInt = (q_I δ 12 4 a0).toInt ∧ (0 : Int) = hc ad δ a0) from ⟨I, ⟨kp_w (by decide) kp_r, rfl, rfl, kr_w (by decide) (kr_r (ad := ad))⟩, by first | assumption | omega, by first | assumption | omega, by first | assumption | omega⟩)
      · have c10 : (q_I δ 12 4 a0).toInt < (q_I δ 12 3 a0).toInt := o_nle h5
        obtain ⟨b11, o12, k13, n14, w15⟩ := gO_12_9 L k_a0
        obtain rfl := gS_12_9 L k_a0 o12
        refine ok_at o12 ?_
        have t16 := ti_tn (q_I δ 12 4 a0)
        refine ok_gd (fun hc17 => ?_) ?_
        · rcases hc17 with hc17 | hc17
          · have c18 : (q_I δ 12 4 a0).toInt < (0 : Int) := o_lt hc17
            omega
          · omega
        unfold J_X12_here_62
        have f19 := ti_b (q_R δ (Ad ad 101) (q_I δ 12 4 a0).toNatClampNeg)
        have f20 : hc ad δ a0 = (q_R δ (Ad ad 101) (q_I δ 12 4 a0).toNatClampNeg).toInt := rfl
        exact ok_some (show RI ad h.1 δ0 δ ∧ (kp [(12, 4)] δ δ ∧ q_V δ = q_V δ ∧ q_R δ = q_R δ ∧ kr ad [] δ δ) ∧ (q_I δ 12 4 a0).toInt ≤ (q_I δ 12 4 a0).toInt ∧ (((q_R δ (Ad ad 101) (q_I δ 12 4 a0).toNatClampNeg)).toInt ≠ 0 → (q_I δ 12 4 a0).toInt < (q_I δ 12 3 a0).toInt ∧ ((q_R δ (Ad ad 101) (q_I δ 12 4 a0).toNatClampNeg)).toInt = hc ad δ a0) ∧ ((q_I δ 12 4 a0).toInt < (q_I δ 12 3 a0).toInt → hc ad δ a0 ≠ 32 → (q_I δ 12 4 a0).toInt = (q_I δ 12 4 a0).toInt ∧ ((q_R δ (Ad ad 101) (q_I δ 12 4 a0).toNatClampNeg)).toInt = hc ad δ a0) from ⟨I, ⟨kp_w (by decide) kp_r, rfl, rfl, kr_w (by decide) (kr_r (ad := ad))⟩, by first | assumption | omega, by first | assumption | omega, by first | assumption | omega⟩)
    · have c21 : (q_I δ 12 4 a0).toInt < (q_I δ 12 3 a0).toInt := o_nle h3
      obtain ⟨b22, o23, k24, n25, w26⟩ := gO_12_9 L k_a0
      obtain rfl := gS_12_9 L k_a0 o23
      refine ok_at o23 ?_
      have t27 := ti_tn (q_I δ 12 4 a0)
      refine ok_gd (fun hc28 => ?_) ?_
      · rcases hc28 with hc28 | hc28
        · have c29 : (q_I δ 12 4 a0).toInt < (0 : Int) := o_lt hc28
          omega
        · omega
      have f30 := ti_b (q_R δ (Ad ad 101) (q_I δ 12 4 a0).toNatClampNeg)
      refine ok_ite (fun h31 => ?_) (fun h31 => ?_)
      · have c32 : (q_R δ (Ad ad 101) (q_I δ 12 4 a0).toNatClampNeg).toInt = (32 : Int) := o_eq h31
        first | (have q37 := te_addc (c := 1) (n := 1) rfl (q_I δ 12 4 a0) (by omega) (by omega); obtain ⟨f38, f39, f40⟩ := q37) | (obtain ⟨q37, f38, f39, f40⟩ := ti_addc (c := 1) (n := 1) rfl (q_I δ 12 4 a0))
        refine ok_bdv (fun d33 e34 => ?_)
        have i35 : RI ad h.1 δ0 d33 := by rw [e34]; exact cs_12_4 L I k_a0 (show 0 ≤ ((q_I δ 12 4 a0) + (1 : Int32)).toInt by omega) (show ((q_I δ 12 4 a0) + (1 : Int32)).toInt ≤ 500 by omega)
        have u41 := kp_I kp_r e34
        have v42 : q_V d33 = q_V δ := ((show q_V d33 = q_V δ by rw [e34]; rfl)).trans rfl
        have v43 : q_R d33 = q_R δ := ((show q_R d33 = q_R δ by rw [e34]; rfl)).trans rfl
        have v44 := kr_N (kr_r (ad := ad)) (show q_R d33 = q_R δ by rw [e34]; rfl)
        have f45 := cb_12_4 i35 k_a0
        have f46 : (q_I d33 12 4 a0).toInt = ((q_I δ 12 4 a0) + (1 : Int32)).toInt := congrArg Int32.toInt (show q_I d33 12 4 a0 = ((q_I δ 12 4 a0) + (1 : Int32)) by rw [e34]; exact rI_s)
        refine ok_mono (ih d33 i35  (show 501 - (q_I d33 12 4 a0).toInt < _ by omega)) (fun r47 hr48 => ?_)
        obtain ⟨i49, ⟨u53, u54, u55, u56⟩, p50, p51, p52⟩ := hr48
        have u57 := kp_t u41 u53
        have v58 : q_V r47.2 = q_V δ := (u54).trans v42
        have v59 : q_R r47.2 = q_R δ := (u55).trans v43
        have v60 := kr_t v44 u56
        have f61 := cb_12_4 i49 k_a0
        have f62 : hc ad r47.2 a0 = (q_R r47.2 (Ad ad 101) (q_I r47.2 12 4 a0).toNatClampNeg).toInt := rfl
        have t63 := ti_tn (q_I r47.2 12 4 a0)
        have f64 : (q_R r47.2 (Ad ad 101) (q_I r47.2 12 4 a0).toNatClampNeg).toInt = (q_R d33 (Ad ad 101) (q_I r47.2 12 4 a0).toNatClampNeg).toInt := congrArg Int32.toInt (congrFun (u56 101 (by decide) (by decide) (by decide)) _)
        have f65 : (q_R d33 (Ad ad 101) (q_I r47.2 12 4 a0).toNatClampNeg).toInt = (q_R δ (Ad ad 101) (q_I r47.2 12 4 a0).toNatClampNeg).toInt := congrArg Int32.toInt (show q_R d33 (Ad ad 101) (q_I r47.2 12 4 a0).toNatClampNeg = _ by rw [e34]; rfl)
        have f66 := ti_b (q_R δ (Ad ad 101) (q_I r47.2 12 4 a0).toNatClampNeg)
        have f67 := ti_b (q_R d33 (Ad ad 101) (q_I r47.2 12 4 a0).toNatClampNeg)
        have f68 := ti_b (q_R r47.2 (Ad ad 101) (q_I r47.2 12 4 a0).toNatClampNeg)
        have f69 := ti_b r47.1
        have f70 := cb_12_3 i35 k_a0
        have f71 : (q_I d33 12 3 a0).toInt = (q_I δ 12 3 a0).toInt := congrArg Int32.toInt (by rw [e34]; exact rI_o (by decide))
        have f72 : hc ad d33 a0 = (q_R d33 (Ad ad 101) (q_I d33 12 4 a0).toNatClampNeg).toInt := rfl
        have t73 := ti_tn (q_I d33 12 4 a0)
        have f74 : (q_R d33 (Ad ad 101) (q_I d33 12 4 a0).toNatClampNeg).toInt = (q_R δ (Ad ad 101) (q_I d33 12 4 a0).toNatClampNeg).toInt := congrArg Int32.toInt (show q_R d33 (Ad ad 101) (q_I d33 12 4 a0).toNatClampNeg = _ by rw [e34]; rfl)
        have f75 := ti_b (q_R δ (Ad ad 101) (q_I d33 12 4 a0).toNatClampNeg)
        have f76 := ti_b (q_R d33 (Ad ad 101) (q_I d33 12 4 a0).toNatClampNeg)
        have f77 := ti_b r47.1
        have f78 : hc ad δ a0 = (q_R δ (Ad ad 101) (q_I δ 12 4 a0).toNatClampNeg).toInt := rfl
        exact ⟨by assumption, ⟨kp_w (by decide) u57, v58, v59, kr_w (by decide) v60⟩, by first | assumption | omega, by first | assumption | omega, by first | assumption | omega⟩
      · have c79 : (q_R δ (Ad ad 101) (q_I δ 12 4 a0).toNatClampNeg).toInt ≠ (32 : Int) := o_ne h31
        unfold J_X12_here_38
        refine ok_ite (fun h80 => ?_) (fun h80 => ?_)
        · have c81 : (q_I δ 12 3 a0).toInt ≤ (q_I δ 12 4 a0).toInt := o_le h80
          unfold J_X12_here_62
          have f82 : hc ad δ a0 = (q_R δ (Ad ad 101) (q_I δ 12 4 a0).toNatClampNeg).toInt := rfl
          exact ok_some (show RI ad h.1 δ0 δ ∧ (kp [(12, 4)] δ δ ∧ q_V δ = q_V δ ∧ q_R δ = q_R δ ∧ kr ad [] δ δ) ∧ (q_I δ 12 4 a0).toInt ≤ (q_I δ 12 4 a0).toInt ∧ ((0 : Int) ≠ 0 → (q_I δ 12 4 a0).toInt < (q_I δ 12 3 a0).toInt ∧ (0 : Int) = hc ad δ a0) ∧ ((q_I δ 12 4 a0).toInt < (q_I δ 12 3 a0).toInt → hc ad δ a0 ≠ 32 → (q_I δ 12 4 a0).toInt = (q_I δ 12 4 a0).toInt ∧ (0 : Int) = hc ad δ a0) from ⟨I, ⟨kp_w (by decide) kp_r, rfl, rfl, kr_w (by decide) (kr_r (ad := ad))⟩, by first | assumption | omega, by first | assumption | omega, by first | assumption | omega⟩)
        · have c83 : (q_I δ 12 4 a0).toInt < (q_I δ 12 3 a0).toInt := o_nle h80
          refine ok_at o23 ?_
          refine ok_gd (fun hc84 => ?_) ?_
          · rcases hc84 with hc84 | hc84
            · have c85 : (q_I δ 12 4 a0).toInt < (0 : Int) := o_lt hc84
              omega
            · omega
          unfold J_X12_here_62
          have f86 : hc ad δ a0 = (q_R δ (Ad ad 101) (q_I δ 12 4 a0).toNatClampNeg).toInt := rfl
          exact ok_some (show RI ad h.1 δ0 δ ∧ (kp [(12, 4)] δ δ ∧ q_V δ = q_V δ ∧ q_R δ = q_R δ ∧ kr ad [] δ δ) ∧ (q_I δ 12 4 a0).toInt ≤ (q_I δ 12 4 a0).toInt ∧ (((q_R δ (Ad ad 101) (q_I δ 12 4 a0).toNatClampNeg)).toInt ≠ 0 → (q_I δ 12 4 a0).toInt < (q_I δ 12 3 a0).toInt ∧ ((q_R δ (Ad ad 101) (q_I δ 12 4 a0).toNatClampNeg)).toInt = hc ad δ a0) ∧ ((q_I δ 12 4 a0).toInt < (q_I δ 12 3 a0).toInt → hc ad δ a0 ≠ 32 → (q_I δ 12 4 a0).toInt = (q_I δ 12 4 a0).toInt ∧ ((q_R δ (Ad ad 101) (q_I δ 12 4 a0).toNatClampNeg)).toInt = hc ad δ a0) from ⟨I, ⟨kp_w (by decide) kp_r, rfl, rfl, kr_w (by decide) (kr_r (ad := ad))⟩, by first | assumption | omega, by first | assumption | omega, by first | assumption | omega⟩)
set_option maxHeartbeats 4000000 in
theorem k_X12_here {ad : List Nat} {h : hp} (L : Lay TLx ad h) {δ0 : dp} {N : Nat} (hN : 10000000 ≤ N) {a0 : Nat} (k_a0 : q_K h.1 a0 = 12) {δ : dp} (I : RI ad h.1 δ0 δ) : ok (D_X12_here N h.1 a0 δ) (fun r => RI ad h.1 δ0 r.2 ∧ (kp [(12, 4)] δ r.2 ∧ q_V r.2 = q_V δ ∧ q_R r.2 = q_R δ ∧ kr ad [] δ r.2) ∧ (q_I δ 12 4 a0).toInt ≤ (q_I r.2 12 4 a0).toInt ∧ ((r.1).toInt ≠ 0 → (q_I r.2 12 4 a0).toInt < (q_I δ 12 3 a0).toInt ∧ (r.1).toInt = hc ad r.2 a0) ∧ ((q_I δ 12 4 a0).toInt < (q_I δ 12 3 a0).toInt → hc ad δ a0 ≠ 32 → (q_I r.2 12 4 a0).toInt = (q_I δ 12 4 a0).toInt ∧ (r.1).toInt = hc ad δ a0)) := by
  unfold D_X12_here
  have f1 := cb_12_4 I k_a0
  refine ok_mono (kl_X12_here_0 L hN   k_a0 _ δ I  (show 501 - (q_I δ 12 4 a0).toInt < _ by omega)) (fun r2 hr3 => ?_)
  obtain ⟨i4, ⟨u8, u9, u10, u11⟩, p5, p6, p7⟩ := hr3
  have u12 := kp_t kp_r u8
  have v13 : q_V r2.2 = q_V δ := (u9).trans rfl
  have v14 : q_R r2.2 = q_R δ := (u10).trans rfl
  have v15 := kr_t (kr_r (ad := ad)) u11
  have f16 := cb_12_4 i4 k_a0
  have f17 : hc ad r2.2 a0 = (q_R r2.2 (Ad ad 101) (q_I r2.2 12 4 a0).toNatClampNeg).toInt := rfl
  have t18 := ti_tn (q_I r2.2 12 4 a0)
  have f19 : (q_R r2.2 (Ad ad 101) (q_I r2.2 12 4 a0).toNatClampNeg).toInt = (q_R δ (Ad ad 101) (q_I r2.2 12 4 a0).toNatClampNeg).toInt := congrArg Int32.toInt (congrFun (u11 101 (by decide) (by decide) (by decide)) _)
  have f20 := ti_b (q_R δ (Ad ad 101) (q_I r2.2 12 4 a0).toNatClampNeg)
  have f21 := ti_b (q_R r2.2 (Ad ad 101) (q_I r2.2 12 4 a0).toNatClampNeg)
  have f22 := ti_b r2.1
  have f23 := cb_12_3 I k_a0
  have f24 : hc ad δ a0 = (q_R δ (Ad ad 101) (q_I δ 12 4 a0).toNatClampNeg).toInt := rfl
  have t25 := ti_tn (q_I δ 12 4 a0)
  have f26 := ti_b (q_R δ (Ad ad 101) (q_I δ 12 4 a0).toNatClampNeg)
  have f27 := ti_b r2.1
  exact ⟨by assumption, ⟨kp_w (by decide) u12, v13, v14, kr_w (by decide) v15⟩, by first | assumption | omega, by first | assumption | omega, by first | assumption | omega⟩
set_option maxHeartbeats 4000000 in
theorem k_X12_isSmall {ad : List Nat} {h : hp} (L : Lay TLx ad h) {δ0 : dp} {N : Nat} (hN : 10000000 ≤ N) {x0 : Int32} {δ : dp} (I : RI ad h.1 δ0 δ) : ok (D_X12_isSmall N h.1 x0 δ) (fun r => r.2 = δ ∧ bo (r.1) ∧ ((r.1).toInt = 1 → 97 ≤ (x0).toInt ∧ (x0).toInt ≤ 122) ∧ ((r.1).toInt = 0 → (x0).toInt < 97 ∨ 122 < (x0).toInt)) := by
  unfold D_X12_isSmall
  have f1 := ti_b x0
  refine ok_ite (fun h2 => ?_) (fun h2 => ?_)
  · have c3 : x0.toInt < (97 : Int) := o_lt h2
    unfold J_X12_isSmall_16
    unfold J_X12_isSmall_17
    refine ok_gp (by decide) ?_
    exact ok_some (show δ = δ ∧ bo ((0 : Int32)) ∧ ((0 : Int) = 1 → 97 ≤ (x0).toInt ∧ (x0).toInt ≤ 122) ∧ ((0 : Int) = 0 → (x0).toInt < 97 ∨ 122 < (x0).toInt) from ⟨rfl, bo_0, by first | assumption | omega, by first | assumption | omega⟩)
  · have c4 : (97 : Int) ≤ x0.toInt := o_nlt h2
    refine ok_ite (fun h5 => ?_) (fun h5 => ?_)
    · have c6 : (122 : Int) < x0.toInt := o_lt h5
      unfold J_X12_isSmall_16
      unfold J_X12_isSmall_17
      refine ok_gp (by decide) ?_
      exact ok_some (show δ = δ ∧ bo ((0 : Int32)) ∧ ((0 : Int) = 1 → 97 ≤ (x0).toInt ∧ (x0).toInt ≤ 122) ∧ ((0 : Int) = 0 → (x0).toInt < 97 ∨ 122 < (x0).toInt) from ⟨rfl, bo_0, by first | assumption | omega, by first | assumption | omega⟩)
    · have c7 : x0.toInt ≤ (122 : Int) := o_nlt h5
      unfold J_X12_isSmall_17
      refine ok_gp (by decide) ?_
      exact ok_some (show δ = δ ∧ bo ((1 : Int32)) ∧ ((1 : Int) = 1 → 97 ≤ (x0).toInt ∧ (x0).toInt ≤ 122) ∧ ((1 : Int) = 0 → (x0).toInt < 97 ∨ 122 < (x0).toInt) from ⟨rfl, bo_1, by first | assumption | omega, by first | assumption | omega⟩)
set_option maxHeartbeats 4000000 in
theorem k_X12_isDigit {ad : List Nat} {h : hp} (L : Lay TLx ad h) {δ0 : dp} {N : Nat} (hN : 10000000 ≤ N) {x0 : Int32} {δ : dp} (I : RI ad h.1 δ0 δ) : ok (D_X12_isDigit N h.1 x0 δ) (fun r => r.2 = δ ∧ bo (r.1) ∧ ((r.1).toInt = 1 → 48 ≤ (x0).toInt ∧ (x0).toInt ≤ 57) ∧ ((r.1).toInt = 0 → (x0).toInt < 48 ∨ 57 < (x0).toInt)) := by
  unfold D_X12_isDigit
  have f1 := ti_b x0
  refine ok_ite (fun h2 => ?_) (fun h2 => ?_)
  · have c3 : x0.toInt < (48 : Int) := o_lt h2
    unfold J_X12_isDigit_16
    unfold J_X12_isDigit_17
    refine ok_gp (by decide) ?_
    exact ok_some (show δ = δ ∧ bo ((0 : Int32)) ∧ ((0 : Int) = 1 → 48 ≤ (x0).toInt ∧ (x0).toInt ≤ 57) ∧ ((0 : Int) = 0 → (x0).toInt < 48 ∨ 57 < (x0).toInt) from ⟨rfl, bo_0, by first | assumption | omega, by first | assumption | omega⟩)
  · have c4 : (48 : Int) ≤ x0.toInt := o_nlt h2
    refine ok_ite (fun h5 => ?_) (fun h5 => ?_)
    · have c6 : (57 : Int) < x0.toInt := o_lt h5
      unfold J_X12_isDigit_16
      unfold J_X12_isDigit_17
      refine ok_gp (by decide) ?_
      exact ok_some (show δ = δ ∧ bo ((0 : Int32)) ∧ ((0 : Int) = 1 → 48 ≤ (x0).toInt ∧ (x0).toInt ≤ 57) ∧ ((0 : Int) = 0 → (x0).toInt < 48 ∨ 57 < (x0).toInt) from ⟨rfl, bo_0, by first | assumption | omega, by first | assumption | omega⟩)
    · have c7 : x0.toInt ≤ (57 : Int) := o_nlt h5
      unfold J_X12_isDigit_17
      refine ok_gp (by decide) ?_
      exact ok_some (show δ = δ ∧ bo ((1 : Int32)) ∧ ((1 : Int) = 1 → 48 ≤ (x0).toInt ∧ (x0).toInt ≤ 57) ∧ ((1 : Int) = 0 → (x0).toInt < 48 ∨ 57 < (x0).toInt) from ⟨rfl, bo_1, by first | assumption | omega, by first | assumption | omega⟩)
set_option maxHeartbeats 4000000 in
theorem kl_X12_word_14 {ad : List Nat} {h : hp} (L : Lay TLx ad h) {δ0 : dp} {N : Nat} (hN : 10000000 ≤ N) {a0 : Nat} (k_a0 : q_K h.1 a0 = 12) : ∀ (n : Nat) (x1v : Int32) (x2v : Int32) (x3v : Int32) (δ : dp), RI ad h.1 δ0 δ → 0 ≤ (x3v).toInt → (x3v).toInt ≤ 500 → ((x3v).toInt = (q_I δ 12 4 a0).toInt ∨ (q_I δ 12 4 a0).toInt < (q_I δ 12 3 a0).toInt ∧ 97 ≤ hc ad δ a0 ∧ hc ad δ a0 ≤ 122) → ((x1v).toInt = 0 ∨ (q_I δ 12 4 a0).toInt < (q_I δ 12 3 a0).toInt ∧ 97 ≤ hc ad δ a0 ∧ hc ad δ a0 ≤ 122) → 500 - (x3v).toInt < (n : Int) → ok (L_X12_word_14 N h.1 a0 n x1v x2v x3v δ) (fun r => RI ad h.1 δ0 r.2 ∧ (kp [(12, 4)] δ r.2 ∧ q_V r.2 = q_V δ ∧ q_R r.2 = q_R δ ∧ kr ad [] δ r.2) ∧ (q_I δ 12 4 a0).toInt ≤ (q_I r.2 12 4 a0).toInt ∧ ((r.1).toInt ≠ 0 → (q_I r.2 12 4 a0).toInt < (q_I δ 12 3 a0).toInt ∧ 97 ≤ hc ad r.2 a0 ∧ hc ad r.2 a0 ≤ 122)) := by
  intro n
  induction n with
  | zero =>
    intro x1v x2v x3v δ I j0 j1 j2 j3 hm
    have f1 : hc ad δ a0 = (q_R δ (Ad ad 101) (q_I δ 12 4 a0).toNatClampNeg).toInt := rfl
    have f2 := cb_12_4 I k_a0
    have t3 := ti_tn (q_I δ 12 4 a0)
    have f4 := ti_b (q_R δ (Ad ad 101) (q_I δ 12 4 a0).toNatClampNeg)
    have f5 := ti_b x3v
    have f6 := cb_12_3 I k_a0
    have f7 := ti_b x1v
    exfalso; omega
  | succ n ih =>
    intro x1v x2v x3v δ I j0 j1 j2 j3 hm
    unfold L_X12_word_14
    have f1 : hc ad δ a0 = (q_R δ (Ad ad 101) (q_I δ 12 4 a0).toNatClampNeg).toInt := rfl
    have f2 := cb_12_4 I k_a0
    have t3 := ti_tn (q_I δ 12 4 a0)
    have f4 := ti_b (q_R δ (Ad ad 101) (q_I δ 12 4 a0).toNatClampNeg)
    have f5 := ti_b x3v
    have f6 := cb_12_3 I k_a0
    have f7 := ti_b x1v
    have hint0 : x3v.toInt = (q_I δ 12 4 a0).toInt → (q_R δ (Ad ad 101) x3v.toNatClampNeg).toInt = hc ad δ a0 := fun e => by rw [i_eq e]; rfl
    refine ok_ite (fun h8 => ?_) (fun h8 => ?_)
    · have c9 : (q_I δ 12 3 a0).toInt ≤ x3v.toInt := o_le h8
      unfold J_X12_word_67
      have f10 := ti_b x2v
      refine ok_ite (fun h11 => ?_) (fun h11 => ?_)
      · have c12 : x2v.toInt ≤ (6 : Int) := o_le h11
        unfold J_X12_word_78
        exact ok_some (show RI ad h.1 δ0 δ ∧ (kp [(12, 4)] δ δ ∧ q_V δ = q_V δ ∧ q_R δ = q_R δ ∧ kr ad [] δ δ) ∧ (q_I δ 12 4 a0).toInt ≤ (q_I δ 12 4 a0).toInt ∧ ((x1v).toInt ≠ 0 → (q_I δ 12 4 a0).toInt < (q_I δ 12 3 a0).toInt ∧ 97 ≤ hc ad δ a0 ∧ hc ad δ a0 ≤ 122) from ⟨I, ⟨kp_w (by decide) kp_r, rfl, rfl, kr_w (by decide) (kr_r (ad := ad))⟩, by first | assumption | omega, by first | assumption | omega⟩)
      · have c13 : (6 : Int) < x2v.toInt := o_nle h11
        unfold J_X12_word_78
        exact ok_some (show RI ad h.1 δ0 δ ∧ (kp [(12, 4)] δ δ ∧ q_V δ = q_V δ ∧ q_R δ = q_R δ ∧ kr ad [] δ δ) ∧ (q_I δ 12 4 a0).toInt ≤ (q_I δ 12 4 a0).toInt ∧ ((0 : Int) ≠ 0 → (q_I δ 12 4 a0).toInt < (q_I δ 12 3 a0).toInt ∧ 97 ≤ hc ad δ a0 ∧ hc ad δ a0 ≤ 122) from ⟨I, ⟨kp_w (by decide) kp_r, rfl, rfl, kr_w (by decide) (kr_r (ad := ad))⟩, by first | assumption | omega, by first | assumption | omega⟩)
    · have c14 : x3v.toInt < (q_I δ 12 3 a0).toInt := o_nle h8
      obtain ⟨b15, o16, k17, n18, w19⟩ := gO_12_9 L k_a0
      obtain rfl := gS_12_9 L k_a0 o16
      refine ok_at o16 ?_
      have t20 := ti_tn x3v
      refine ok_gd (fun hc21 => ?_) ?_
      · rcases hc21 with hc21 | hc21
        · have c22 : x3v.toInt < (0 : Int) := o_lt hc21
          omega
        · omega
      refine ok_bind (k_X12_isSmall L hN (x0 := (q_R δ (Ad ad 101) x3v.toNatClampNeg))  I) (fun r23 hr24 => ?_)
      obtain ⟨i25, p26, p27, p28⟩ := hr24
      try rw [i25]
      have f29 := bo_l p26
      have f30 := ti_b r23.1
      have f31 := ti_b (q_R δ (Ad ad 101) x3v.toNatClampNeg)
      have f32 := ti_b r23.1
      refine ok_ite (fun h33 => ?_) (fun h33 => ?_)
      · have c34 : r23.1.toInt = (0 : Int) := o_eq h33
        unfold J_X12_word_67
        have f35 := ti_b x2v
        refine ok_ite (fun h36 => ?_) (fun h36 => ?_)
        · have c37 : x2v.toInt ≤ (6 : Int) := o_le h36
          unfold J_X12_word_78
          exact ok_some (show RI ad h.1 δ0 δ ∧ (kp [(12, 4)] δ δ ∧ q_V δ = q_V δ ∧ q_R δ = q_R δ ∧ kr ad [] δ δ) ∧ (q_I δ 12 4 a0).toInt ≤ (q_I δ 12 4 a0).toInt ∧ ((x1v).toInt ≠ 0 → (q_I δ 12 4 a0).toInt < (q_I δ 12 3 a0).toInt ∧ 97 ≤ hc ad δ a0 ∧ hc ad δ a0 ≤ 122) from ⟨I, ⟨kp_w (by decide) kp_r, rfl, rfl, kr_w (by decide) (kr_r (ad := ad))⟩, by first | assumption | omega, by first | assumption | omega⟩)
        · have c38 : (6 : Int) < x2v.toInt := o_nle h36
          unfold J_X12_word_78
          exact ok_some (show RI ad h.1 δ0 δ ∧ (kp [(12, 4)] δ δ ∧ q_V δ = q_V δ ∧ q_R δ = q_R δ ∧ kr ad [] δ δ) ∧ (q_I δ 12 4 a0).toInt ≤ (q_I δ 12 4 a0).toInt ∧ ((0 : Int) ≠ 0 → (q_I δ 12 4 a0).toInt < (q_I δ 12 3 a0).toInt ∧ 97 ≤ hc ad δ a0 ∧ hc ad δ a0 ≤ 122) from ⟨I, ⟨kp_w (by decide) kp_r, rfl, rfl, kr_w (by decide) (kr_r (ad := ad))⟩, by first | assumption | omega, by first | assumption | omega⟩)
      · have c39 : r23.1.toInt ≠ (0 : Int) := o_ne h33
        have f40 := ti_b x2v
        refine ok_ite (fun h41 => ?_) (fun h41 => ?_)
        · have c42 : (6 : Int) ≤ x2v.toInt := o_le h41
          unfold J_X12_word_57
          refine ok_biv (fun vx43 e44 => ?_)
          first | (have q45 := te_addc (c := 1) (n := 1) rfl x2v (by omega) (by omega); rw [← e44] at q45; obtain ⟨f46, f47, f48⟩ := q45) | (obtain ⟨q45, f46, f47, f48⟩ : ∃ q : Int, vx43.toInt = x2v.toInt + (1 : Int) + 4294967296 * q ∧ -2147483648 ≤ vx43.toInt ∧ vx43.toInt ≤ 2147483647 := by rw [e44]; exact ti_addc (c := 1) (n := 1) rfl x2v)
          refine ok_biv (fun vx49 e50 => ?_)
          first | (have q51 := te_addc (c := 1) (n := 1) rfl x3v (by omega) (by omega); rw [← e50] at q51; obtain ⟨f52, f53, f54⟩ := q51) | (obtain ⟨q51, f52, f53, f54⟩ : ∃ q : Int, vx49.toInt = x3v.toInt + (1 : Int) + 4294967296 * q ∧ -2147483648 ≤ vx49.toInt ∧ vx49.toInt ≤ 2147483647 := by rw [e50]; exact ti_addc (c := 1) (n := 1) rfl x3v)
          refine ok_mono (ih (0 : Int32) vx43 vx49 δ I (show 0 ≤ (vx49).toInt by first | assumption | omega) (show (vx49).toInt ≤ 500 by first | assumption | omega) (show (vx49).toInt = (q_I δ 12 4 a0).toInt ∨ (q_I δ 12 4 a0).toInt < (q_I δ 12 3 a0).toInt ∧ 97 ≤ hc ad δ a0 ∧ hc ad δ a0 ≤ 122 by first | assumption | omega) (show (0 : Int) = 0 ∨ (q_I δ 12 4 a0).toInt < (q_I δ 12 3 a0).toInt ∧ 97 ≤ hc ad δ a0 ∧ hc ad δ a0 ≤ 122 by first | assumption | omega) (show 500 - (vx49).toInt < _ by omega)) (fun r55 hr56 => ?_)
          obtain ⟨i57, ⟨u60, u61, u62, u63⟩, p58, p59⟩ := hr56
          have u64 := kp_t kp_r u60
          have v65 : q_V r55.2 = q_V δ := (u61).trans rfl
          have v66 : q_R r55.2 = q_R δ := (u62).trans rfl
          have v67 := kr_t (kr_r (ad := ad)) u63
          have f68 := cb_12_4 i57 k_a0
          have f69 : hc ad r55.2 a0 = (q_R r55.2 (Ad ad 101) (q_I r55.2 12 4 a0).toNatClampNeg).toInt := rfl
          have t70 := ti_tn (q_I r55.2 12 4 a0)
          have f71 : (q_R r55.2 (Ad ad 101) (q_I r55.2 12 4 a0).toNatClampNeg).toInt = (q_R δ (Ad ad 101) (q_I r55.2 12 4 a0).toNatClampNeg).toInt := congrArg Int32.toInt (congrFun (u63 101 (by decide) (by decide) (by decide)) _)
          have f72 := ti_b (q_R δ (Ad ad 101) (q_I r55.2 12 4 a0).toNatClampNeg)
          have f73 := ti_b (q_R r55.2 (Ad ad 101) (q_I r55.2 12 4 a0).toNatClampNeg)
          have f74 := ti_b r55.1
          have f75 := ti_b r55.1
          exact ⟨by assumption, ⟨kp_w (by decide) u64, v65, v66, kr_w (by decide) v67⟩, by first | assumption | omega, by first | assumption | omega⟩
        · have c76 : x2v.toInt < (6 : Int) := o_nle h41
          refine ok_at o16 ?_
          refine ok_gd (fun hc77 => ?_) ?_
          · rcases hc77 with hc77 | hc77
            · have c78 : x3v.toInt < (0 : Int) := o_lt hc77
              omega
            · omega
          unfold J_X12_word_57
          refine ok_biv (fun vx79 e80 => ?_)
          first | (have q81 := te_addc (c := 1) (n := 1) rfl x2v (by omega) (by omega); rw [← e80] at q81; obtain ⟨f82, f83, f84⟩ := q81) | (obtain ⟨q81, f82, f83, f84⟩ : ∃ q : Int, vx79.toInt = x2v.toInt + (1 : Int) + 4294967296 * q ∧ -2147483648 ≤ vx79.toInt ∧ vx79.toInt ≤ 2147483647 := by rw [e80]; exact ti_addc (c := 1) (n := 1) rfl x2v)
          refine ok_biv (fun vx85 e86 => ?_)
          first | (have q87 := te_addc (c := 1) (n := 1) rfl x3v (by omega) (by omega); rw [← e86] at q87; obtain ⟨f88, f89, f90⟩ := q87) | (obtain ⟨q87, f88, f89, f90⟩ : ∃ q : Int, vx85.toInt = x3v.toInt + (1 : Int) + 4294967296 * q ∧ -2147483648 ≤ vx85.toInt ∧ vx85.toInt ≤ 2147483647 := by rw [e86]; exact ti_addc (c := 1) (n := 1) rfl x3v)
          have f91 := ti_b ((x1v <<< ((5 : Int32) &&& 31)) ||| ((q_R δ (Ad ad 101) x3v.toNatClampNeg) - (96 : Int32)))
          refine ok_mono (ih ((x1v <<< ((5 : Int32) &&& 31)) ||| ((q_R δ (Ad ad 101) x3v.toNatClampNeg) - (96 : Int32))) vx79 vx85 δ I (show 0 ≤ (vx85).toInt by first | assumption | omega) (show (vx85).toInt ≤ 500 by first | assumption | omega) (show (vx85).toInt = (q_I δ 12 4 a0).toInt ∨ (q_I δ 12 4 a0).toInt < (q_I δ 12 3 a0).toInt ∧ 97 ≤ hc ad δ a0 ∧ hc ad δ a0 ≤ 122 by first | assumption | omega) (show (((x1v <<< ((5 : Int32) &&& 31)) ||| ((q_R δ (Ad ad 101) x3v.toNatClampNeg) - (96 : Int32)))).toInt = 0 ∨ (q_I δ 12 4 a0).toInt < (q_I δ 12 3 a0).toInt ∧ 97 ≤ hc ad δ a0 ∧ hc ad δ a0 ≤ 122 by first | assumption | omega) (show 500 - (vx85).toInt < _ by omega)) (fun r92 hr93 => ?_)
          obtain ⟨i94, ⟨u97, u98, u99, u100⟩, p95, p96⟩ := hr93
          have u101 := kp_t kp_r u97
          have v102 : q_V r92.2 = q_V δ := (u98).trans rfl
          have v103 : q_R r92.2 = q_R δ := (u99).trans rfl
          have v104 := kr_t (kr_r (ad := ad)) u100
          have f105 := cb_12_4 i94 k_a0
          have f106 : hc ad r92.2 a0 = (q_R r92.2 (Ad ad 101) (q_I r92.2 12 4 a0).toNatClampNeg).toInt := rfl
          have t107 := ti_tn (q_I r92.2 12 4 a0)
          have f108 : (q_R r92.2 (Ad ad 101) (q_I r92.2 12 4 a0).toNatClampNeg).toInt = (q_R δ (Ad ad 101) (q_I r92.2 12 4 a0).toNatClampNeg).toInt := congrArg Int32.toInt (congrFun (u100 101 (by decide) (by decide) (by decide)) _)
          have f109 := ti_b (q_R δ (Ad ad 101) (q_I r92.2 12 4 a0).toNatClampNeg)
          have f110 := ti_b (q_R r92.2 (Ad ad 101) (q_I r92.2 12 4 a0).toNatClampNeg)
          have f111 := ti_b r92.1
          have f112 := ti_b r92.1
          exact ⟨by assumption, ⟨kp_w (by decide) u101, v102, v103, kr_w (by decide) v104⟩, by first | assumption | omega, by first | assumption | omega⟩
set_option maxHeartbeats 4000000 in
theorem k_X12_word {ad : List Nat} {h : hp} (L : Lay TLx ad h) {δ0 : dp} {N : Nat} (hN : 10000000 ≤ N) {a0 : Nat} (k_a0 : q_K h.1 a0 = 12) {δ : dp} (I : RI ad h.1 δ0 δ) : ok (D_X12_word N h.1 a0 δ) (fun r => RI ad h.1 δ0 r.2 ∧ (kp [(12, 4)] δ r.2 ∧ q_V r.2 = q_V δ ∧ q_R r.2 = q_R δ ∧ kr ad [] δ r.2) ∧ (q_I δ 12 4 a0).toInt ≤ (q_I r.2 12 4 a0).toInt ∧ ((r.1).toInt ≠ 0 → (q_I r.2 12 4 a0).toInt < (q_I δ 12 3 a0).toInt ∧ 97 ≤ hc ad r.2 a0 ∧ hc ad r.2 a0 ≤ 122)) := by
  unfold D_X12_word
  refine ok_bind (k_X12_here L hN (a0 := a0) k_a0 I) (fun r1 hr2 => ?_)
  obtain ⟨i3, ⟨u7, u8, u9, u10⟩, p4, p5, p6⟩ := hr2
  have u11 := kp_t kp_r u7
  have v12 : q_V r1.2 = q_V δ := (u8).trans rfl
  have v13 : q_R r1.2 = q_R δ := (u9).trans rfl
  have v14 := kr_t (kr_r (ad := ad)) u10
  have f15 := cb_12_4 I k_a0
  have f16 := cb_12_4 i3 k_a0
  have f17 : hc ad r1.2 a0 = (q_R r1.2 (Ad ad 101) (q_I r1.2 12 4 a0).toNatClampNeg).toInt := rfl
  have t18 := ti_tn (q_I r1.2 12 4 a0)
  have f19 : (q_R r1.2 (Ad ad 101) (q_I r1.2 12 4 a0).toNatClampNeg).toInt = (q_R δ (Ad ad 101) (q_I r1.2 12 4 a0).toNatClampNeg).toInt := congrArg Int32.toInt (congrFun (u10 101 (by decide) (by decide) (by decide)) _)
  have f20 := ti_b (q_R δ (Ad ad 101) (q_I r1.2 12 4 a0).toNatClampNeg)
  have f21 := ti_b (q_R r1.2 (Ad ad 101) (q_I r1.2 12 4 a0).toNatClampNeg)
  have f22 := ti_b r1.1
  have f23 := cb_12_3 I k_a0
  have f24 : hc ad δ a0 = (q_R δ (Ad ad 101) (q_I δ 12 4 a0).toNatClampNeg).toInt := rfl
  have t25 := ti_tn (q_I δ 12 4 a0)
  have f26 := ti_b (q_R δ (Ad ad 101) (q_I δ 12 4 a0).toNatClampNeg)
  have f27 := ti_b r1.1
  refine ok_biv (fun vx28 e29 => ?_)
  have f30 : vx28.toInt = (q_I r1.2 12 4 a0).toInt := congrArg Int32.toInt e29
  have f31 := cb_12_3 i3 k_a0
  have f32 : (q_I r1.2 12 3 a0).toInt = (q_I δ 12 3 a0).toInt := congrArg Int32.toInt (u7 12 3 a0 (by decide))
  refine ok_mono (kl_X12_word_14 L hN   k_a0 _ (0 : Int32) (0 : Int32) vx28 r1.2 i3 (show 0 ≤ (vx28).toInt by first | assumption | omega) (show (vx28).toInt ≤ 500 by first | assumption | omega) (show (vx28).toInt = (q_I r1.2 12 4 a0).toInt ∨ (q_I r1.2 12 4 a0).toInt < (q_I r1.2 12 3 a0).toInt ∧ 97 ≤ hc ad r1.2 a0 ∧ hc ad r1.2 a0 ≤ 122 by first | assumption | omega) (show (0 : Int) = 0 ∨ (q_I r1.2 12 4 a0).toInt < (q_I r1.2 12 3 a0).toInt ∧ 97 ≤ hc ad r1.2 a0 ∧ hc ad r1.2 a0 ≤ 122 by first | assumption | omega) (show 500 - (vx28).toInt < _ by omega)) (fun r33 hr34 => ?_)
  obtain ⟨i35, ⟨u38, u39, u40, u41⟩, p36, p37⟩ := hr34
  have u42 := kp_t u11 u38
  have v43 : q_V r33.2 = q_V δ := (u39).trans v12
  have v44 : q_R r33.2 = q_R δ := (u40).trans v13
  have v45 := kr_t v14 u41
  have f46 := cb_12_4 i35 k_a0
  have f47 : hc ad r33.2 a0 = (q_R r33.2 (Ad ad 101) (q_I r33.2 12 4 a0).toNatClampNeg).toInt := rfl
  have t48 := ti_tn (q_I r33.2 12 4 a0)
  have f49 : (q_R r33.2 (Ad ad 101) (q_I r33.2 12 4 a0).toNatClampNeg).toInt = (q_R r1.2 (Ad ad 101) (q_I r33.2 12 4 a0).toNatClampNeg).toInt := congrArg Int32.toInt (congrFun (u41 101 (by decide) (by decide) (by decide)) _)
  have f50 : (q_R r1.2 (Ad ad 101) (q_I r33.2 12 4 a0).toNatClampNeg).toInt = (q_R δ (Ad ad 101) (q_I r33.2 12 4 a0).toNatClampNeg).toInt := congrArg Int32.toInt (congrFun (u10 101 (by decide) (by decide) (by decide)) _)
  have f51 := ti_b (q_R δ (Ad ad 101) (q_I r33.2 12 4 a0).toNatClampNeg)
  have f52 := ti_b (q_R r1.2 (Ad ad 101) (q_I r33.2 12 4 a0).toNatClampNeg)
  have f53 := ti_b (q_R r33.2 (Ad ad 101) (q_I r33.2 12 4 a0).toNatClampNeg)
  have f54 := ti_b r33.1
  have f55 := ti_b r33.1
  exact ⟨by assumption, ⟨kp_w (by decide) u42, v43, v44, kr_w (by decide) v45⟩, by first | assumption | omega, by first | assumption | omega⟩
set_option maxHeartbeats 4000000 in
theorem kl_X12_pass_0 {ad : List Nat} {h : hp} (L : Lay TLx ad h) {δ0 : dp} {N : Nat} (hN : 10000000 ≤ N) {a0 : Nat} (k_a0 : q_K h.1 a0 = 12) : ∀ (n : Nat) (δ : dp), RI ad h.1 δ0 δ → 501 - (q_I δ 12 4 a0).toInt < (n : Int) → ok (L_X12_pass_0 N h.1 a0 n δ) (fun r => RI ad h.1 δ0 r ∧ (kp [(12, 4)] δ r ∧ q_V r = q_V δ ∧ q_R r = q_R δ ∧ kr ad [] δ r) ∧ (q_I δ 12 4 a0).toInt ≤ (q_I r 12 4 a0).toInt ∧ ((q_I δ 12 4 a0).toInt < (q_I δ 12 3 a0).toInt ∧ 97 ≤ hc ad δ a0 ∧ hc ad δ a0 ≤ 122 → (q_I δ 12 4 a0).toInt < (q_I r 12 4 a0).toInt)) := by
  intro n
  induction n with
  | zero =>
    intro δ I hm
    have f1 := cb_12_4 I k_a0
    exfalso; omega
  | succ n ih =>
    intro δ I hm
    unfold L_X12_pass_0
    have f1 := cb_12_4 I k_a0
    have f2 := cb_12_3 I k_a0
    refine ok_ite (fun h3 => ?_) (fun h3 => ?_)
    · have c4 : (q_I δ 12 3 a0).toInt ≤ (q_I δ 12 4 a0).toInt := o_le h3
      unfold J_X12_pass_39
      have f5 : hc ad δ a0 = (q_R δ (Ad ad 101) (q_I δ 12 4 a0).toNatClampNeg).toInt := rfl
      have t6 := ti_tn (q_I δ 12 4 a0)
      have f7 := ti_b (q_R δ (Ad ad 101) (q_I δ 12 4 a0).toNatClampNeg)
      exact ok_some (show RI ad h.1 δ0 δ ∧ (kp [(12, 4)] δ δ ∧ q_V δ = q_V δ ∧ q_R δ = q_R δ ∧ kr ad [] δ δ) ∧ (q_I δ 12 4 a0).toInt ≤ (q_I δ 12 4 a0).toInt ∧ ((q_I δ 12 4 a0).toInt < (q_I δ 12 3 a0).toInt ∧ 97 ≤ hc ad δ a0 ∧ hc ad δ a0 ≤ 122 → (q_I δ 12 4 a0).toInt < (q_I δ 12 4 a0).toInt) from ⟨I, ⟨kp_w (by decide) kp_r, rfl, rfl, kr_w (by decide) (kr_r (ad := ad))⟩, by first | assumption | omega, by first | assumption | omega⟩)
    · have c8 : (q_I δ 12 4 a0).toInt < (q_I δ 12 3 a0).toInt := o_nle h3
      obtain ⟨b9, o10, k11, n12, w13⟩ := gO_12_9 L k_a0
      obtain rfl := gS_12_9 L k_a0 o10
      refine ok_at o10 ?_
      have t14 := ti_tn (q_I δ 12 4 a0)
      refine ok_gd (fun hc15 => ?_) ?_
      · rcases hc15 with hc15 | hc15
        · have c16 : (q_I δ 12 4 a0).toInt < (0 : Int) := o_lt hc15
          omega
        · omega
      refine ok_bind (k_X12_isSmall L hN (x0 := (q_R δ (Ad ad 101) (q_I δ 12 4 a0).toNatClampNeg))  I) (fun r17 hr18 => ?_)
      obtain ⟨i19, p20, p21, p22⟩ := hr18
      try rw [i19]
      have f23 := bo_l p20
      have f24 := ti_b r17.1
      have f25 := ti_b (q_R δ (Ad ad 101) (q_I δ 12 4 a0).toNatClampNeg)
      have f26 := ti_b r17.1
      refine ok_ite (fun h27 => ?_) (fun h27 => ?_)
      · have c28 : r17.1.toInt = (0 : Int) := o_eq h27
        unfold J_X12_pass_39
        have f29 : hc ad δ a0 = (q_R δ (Ad ad 101) (q_I δ 12 4 a0).toNatClampNeg).toInt := rfl
        exact ok_some (show RI ad h.1 δ0 δ ∧ (kp [(12, 4)] δ δ ∧ q_V δ = q_V δ ∧ q_R δ = q_R δ ∧ kr ad [] δ δ) ∧ (q_I δ 12 4 a0).toInt ≤ (q_I δ 12 4 a0).toInt ∧ ((q_I δ 12 4 a0).toInt < (q_I δ 12 3 a0).toInt ∧ 97 ≤ hc ad δ a0 ∧ hc ad δ a0 ≤ 122 → (q_I δ 12 4 a0).toInt < (q_I δ 12 4 a0).toInt) from ⟨I, ⟨kp_w (by decide) kp_r, rfl, rfl, kr_w (by decide) (kr_r (ad := ad))⟩, by first | assumption | omega, by first | assumption | omega⟩)
      · have c30 : r17.1.toInt ≠ (0 : Int) := o_ne h27
        first | (have q35 := te_addc (c := 1) (n := 1) rfl (q_I δ 12 4 a0) (by omega) (by omega); obtain ⟨f36, f37, f38⟩ := q35) | (obtain ⟨q35, f36, f37, f38⟩ := ti_addc (c := 1) (n := 1) rfl (q_I δ 12 4 a0))
        refine ok_bdv (fun d31 e32 => ?_)
        have i33 : RI ad h.1 δ0 d31 := by rw [e32]; exact cs_12_4 L I k_a0 (show 0 ≤ ((q_I δ 12 4 a0) + (1 : Int32)).toInt by omega) (show ((q_I δ 12 4 a0) + (1 : Int32)).toInt ≤ 500 by omega)
        have u39 := kp_I kp_r e32
        have v40 : q_V d31 = q_V δ := ((show q_V d31 = q_V δ by rw [e32]; rfl)).trans rfl
        have v41 : q_R d31 = q_R δ := ((show q_R d31 = q_R δ by rw [e32]; rfl)).trans rfl
        have v42 := kr_N (kr_r (ad := ad)) (show q_R d31 = q_R δ by rw [e32]; rfl)
        have f43 := cb_12_4 i33 k_a0
        have f44 : (q_I d31 12 4 a0).toInt = ((q_I δ 12 4 a0) + (1 : Int32)).toInt := congrArg Int32.toInt (show q_I d31 12 4 a0 = ((q_I δ 12 4 a0) + (1 : Int32)) by rw [e32]; exact rI_s)
        refine ok_mono (ih d31 i33  (show 501 - (q_I d31 12 4 a0).toInt < _ by omega)) (fun r45 hr46 => ?_)
        obtain ⟨i47, ⟨u50, u51, u52, u53⟩, p48, p49⟩ := hr46
        have u54 := kp_t u39 u50
        have v55 : q_V r45 = q_V δ := (u51).trans v40
        have v56 : q_R r45 = q_R δ := (u52).trans v41
        have v57 := kr_t v42 u53
        have f58 := cb_12_4 i47 k_a0
        have f59 : hc ad d31 a0 = (q_R d31 (Ad ad 101) (q_I d31 12 4 a0).toNatClampNeg).toInt := rfl
        have t60 := ti_tn (q_I d31 12 4 a0)
        have f61 : (q_R d31 (Ad ad 101) (q_I d31 12 4 a0).toNatClampNeg).toInt = (q_R δ (Ad ad 101) (q_I d31 12 4 a0).toNatClampNeg).toInt := congrArg Int32.toInt (show q_R d31 (Ad ad 101) (q_I d31 12 4 a0).toNatClampNeg = _ by rw [e32]; rfl)
        have f62 := ti_b (q_R δ (Ad ad 101) (q_I d31 12 4 a0).toNatClampNeg)
        have f63 := ti_b (q_R d31 (Ad ad 101) (q_I d31 12 4 a0).toNatClampNeg)
        have f64 := cb_12_3 i33 k_a0
        have f65 : (q_I d31 12 3 a0).toInt = (q_I δ 12 3 a0).toInt := congrArg Int32.toInt (by rw [e32]; exact rI_o (by decide))
        have f66 : hc ad δ a0 = (q_R δ (Ad ad 101) (q_I δ 12 4 a0).toNatClampNeg).toInt := rfl
        exact ⟨by assumption, ⟨kp_w (by decide) u54, v55, v56, kr_w (by decide) v57⟩, by first | assumption | omega, by first | assumption | omega⟩
set_option maxHeartbeats 4000000 in
theorem k_X12_pass {ad : List Nat} {h : hp} (L : Lay TLx ad h) {δ0 : dp} {N : Nat} (hN : 10000000 ≤ N) {a0 : Nat} (k_a0 : q_K h.1 a0 = 12) {δ : dp} (I : RI ad h.1 δ0 δ) : ok (D_X12_pass N h.1 a0 δ) (fun r => RI ad h.1 δ0 r ∧ (kp [(12, 4)] δ r ∧ q_V r = q_V δ ∧ q_R r = q_R δ ∧ kr ad [] δ r) ∧ (q_I δ 12 4 a0).toInt ≤ (q_I r 12 4 a0).toInt ∧ ((q_I δ 12 4 a0).toInt < (q_I δ 12 3 a0).toInt ∧ 97 ≤ hc ad δ a0 ∧ hc ad δ a0 ≤ 122 → (q_I δ 12 4 a0).toInt < (q_I r 12 4 a0).toInt)) := by
  unfold D_X12_pass
  have f1 := cb_12_4 I k_a0
  refine ok_mono (kl_X12_pass_0 L hN   k_a0 _ δ I  (show 501 - (q_I δ 12 4 a0).toInt < _ by omega)) (fun r2 hr3 => ?_)
  obtain ⟨i4, ⟨u7, u8, u9, u10⟩, p5, p6⟩ := hr3
  have u11 := kp_t kp_r u7
  have v12 : q_V r2 = q_V δ := (u8).trans rfl
  have v13 : q_R r2 = q_R δ := (u9).trans rfl
  have v14 := kr_t (kr_r (ad := ad)) u10
  have f15 := cb_12_4 i4 k_a0
  have f16 : hc ad δ a0 = (q_R δ (Ad ad 101) (q_I δ 12 4 a0).toNatClampNeg).toInt := rfl
  have t17 := ti_tn (q_I δ 12 4 a0)
  have f18 := ti_b (q_R δ (Ad ad 101) (q_I δ 12 4 a0).toNatClampNeg)
  have f19 := cb_12_3 I k_a0
  exact ⟨by assumption, ⟨kp_w (by decide) u11, v12, v13, kr_w (by decide) v14⟩, by first | assumption | omega, by first | assumption | omega⟩
set_option maxHeartbeats 4000000 in
theorem kl_X12_readNumber_41 {ad : List Nat} {h : hp} (L : Lay TLx ad h) {δ0 : dp} {N : Nat} (hN : 10000000 ≤ N) {a0 : Nat} {x1 : Int32} {x2 : Int32} (k_a0 : q_K h.1 a0 = 12) : ∀ (n : Nat) (x4v : Int32) (x5v : Int32) (δ : dp), RI ad h.1 δ0 δ → 0 ≤ (x4v).toInt → (x4v).toInt ≤ 500 → 0 ≤ (x5v).toInt → (x5v).toInt ≤ 1000000 → (q_I δ 12 5 a0).toInt < 0 → 501 - (q_I δ 12 4 a0).toInt < (n : Int) → ok (L_X12_readNumber_41 N h.1 a0 x1 x2 n x4v x5v δ) (fun r => RI ad h.1 δ0 r.2 ∧ (kp [(12, 4), (12, 5), (12, 6)] δ r.2 ∧ q_V r.2 = q_V δ ∧ q_R r.2 = q_R δ ∧ kr ad [] δ r.2) ∧ (q_I δ 12 4 a0).toInt ≤ (q_I r.2 12 4 a0).toInt ∧ 0 ≤ (r.1).toInt ∧ (r.1).toInt ≤ 1000000 ∧ ((q_I δ 12 4 a0).toInt < (q_I δ 12 3 a0).toInt ∧ 48 ≤ hc ad δ a0 ∧ hc ad δ a0 ≤ 57 → (q_I δ 12 4 a0).toInt < (q_I r.2 12 4 a0).toInt) ∧ ((q_I r.2 12 5 a0).toInt < 0 → (x1).toInt ≤ (r.1).toInt ∧ (r.1).toInt ≤ (x2).toInt)) := by
  intro n
  induction n with
  | zero =>
    intro x4v x5v δ I j0 j1 j2 j3 j4 hm
    have f1 := ti_b x4v
    have f2 := ti_b x5v
    have f3 := cb_12_5 I k_a0
    have f4 := cb_12_4 I k_a0
    exfalso; omega
  | succ n ih =>
    intro x4v x5v δ I j0 j1 j2 j3 j4 hm
    unfold L_X12_readNumber_41
    have f1 := ti_b x4v
    have f2 := ti_b x5v
    have f3 := cb_12_5 I k_a0
    have f4 := cb_12_4 I k_a0
    have f5 := cb_12_3 I k_a0
    refine ok_ite (fun h6 => ?_) (fun h6 => ?_)
    · have c7 : (q_I δ 12 3 a0).toInt ≤ (q_I δ 12 4 a0).toInt := o_le h6
      unfold J_X12_readNumber_112
      have f8 := ti_b x1
      refine ok_ite (fun h9 => ?_) (fun h9 => ?_)
      · have c10 : x5v.toInt < x1.toInt := o_lt h9
        unfold J_X12_readNumber_124
        refine ok_bind (k_X12_wrong L hN (a0 := a0) (x1 := (2 : Int32)) (x2 := x4v) k_a0 (show 0 ≤ (x4v).toInt by first | assumption | omega) (show (x4v).toInt ≤ 500 by first | assumption | omega) (show 0 ≤ (2 : Int) by first | assumption | omega) (show (2 : Int) ≤ 4 by first | assumption | omega) I) (fun r11 hr12 => ?_)
        obtain ⟨i13, ⟨u16, u17, u18, u19⟩, p14, p15⟩ := hr12
        have u20 := kp_t kp_r u16
        have v21 : q_V r11 = q_V δ := (u17).trans rfl
        have v22 : q_R r11 = q_R δ := (u18).trans rfl
        have v23 := kr_t (kr_r (ad := ad)) u19
        have f24 := cb_12_5 i13 k_a0
        have f25 := cb_12_4 i13 k_a0
        have f26 : (q_I r11 12 4 a0).toInt = (q_I δ 12 4 a0).toInt := congrArg Int32.toInt (u16 12 4 a0 (by decide))
        have f27 : hc ad δ a0 = (q_R δ (Ad ad 101) (q_I δ 12 4 a0).toNatClampNeg).toInt := rfl
        have t28 := ti_tn (q_I δ 12 4 a0)
        have f29 := ti_b (q_R δ (Ad ad 101) (q_I δ 12 4 a0).toNatClampNeg)
        have f30 := ti_b x2
        exact ok_some (show RI ad h.1 δ0 r11 ∧ (kp [(12, 4), (12, 5), (12, 6)] δ r11 ∧ q_V r11 = q_V δ ∧ q_R r11 = q_R δ ∧ kr ad [] δ r11) ∧ (q_I δ 12 4 a0).toInt ≤ (q_I r11 12 4 a0).toInt ∧ 0 ≤ (0 : Int) ∧ (0 : Int) ≤ 1000000 ∧ ((q_I δ 12 4 a0).toInt < (q_I δ 12 3 a0).toInt ∧ 48 ≤ hc ad δ a0 ∧ hc ad δ a0 ≤ 57 → (q_I δ 12 4 a0).toInt < (q_I r11 12 4 a0).toInt) ∧ ((q_I r11 12 5 a0).toInt < 0 → (x1).toInt ≤ (0 : Int) ∧ (0 : Int) ≤ (x2).toInt) from ⟨i13, ⟨kp_w (by decide) u20, v21, v22, kr_w (by decide) v23⟩, by first | assumption | omega, by first | assumption | omega, by first | assumption | omega, by first | assumption | omega, by first | assumption | omega⟩)
      · have c31 : x1.toInt ≤ x5v.toInt := o_nlt h9
        have f32 := ti_b x2
        refine ok_ite (fun h33 => ?_) (fun h33 => ?_)
        · have c34 : x5v.toInt ≤ x2.toInt := o_le h33
          have f35 : hc ad δ a0 = (q_R δ (Ad ad 101) (q_I δ 12 4 a0).toNatClampNeg).toInt := rfl
          have t36 := ti_tn (q_I δ 12 4 a0)
          have f37 := ti_b (q_R δ (Ad ad 101) (q_I δ 12 4 a0).toNatClampNeg)
          exact ok_some (show RI ad h.1 δ0 δ ∧ (kp [(12, 4), (12, 5), (12, 6)] δ δ ∧ q_V δ = q_V δ ∧ q_R δ = q_R δ ∧ kr ad [] δ δ) ∧ (q_I δ 12 4 a0).toInt ≤ (q_I δ 12 4 a0).toInt ∧ 0 ≤ (x5v).toInt ∧ (x5v).toInt ≤ 1000000 ∧ ((q_I δ 12 4 a0).toInt < (q_I δ 12 3 a0).toInt ∧ 48 ≤ hc ad δ a0 ∧ hc ad δ a0 ≤ 57 → (q_I δ 12 4 a0).toInt < (q_I δ 12 4 a0).toInt) ∧ ((q_I δ 12 5 a0).toInt < 0 → (x1).toInt ≤ (x5v).toInt ∧ (x5v).toInt ≤ (x2).toInt) from ⟨I, ⟨kp_w (by decide) kp_r, rfl, rfl, kr_w (by decide) (kr_r (ad := ad))⟩, by first | assumption | omega, by first | assumption | omega, by first | assumption | omega, by first | assumption | omega, by first | assumption | omega⟩)
        · have c38 : x2.toInt < x5v.toInt := o_nle h33
          unfold J_X12_readNumber_124
          refine ok_bind (k_X12_wrong L hN (a0 := a0) (x1 := (2 : Int32)) (x2 := x4v) k_a0 (show 0 ≤ (x4v).toInt by first | assumption | omega) (show (x4v).toInt ≤ 500 by first | assumption | omega) (show 0 ≤ (2 : Int) by first | assumption | omega) (show (2 : Int) ≤ 4 by first | assumption | omega) I) (fun r39 hr40 => ?_)
          obtain ⟨i41, ⟨u44, u45, u46, u47⟩, p42, p43⟩ := hr40
          have u48 := kp_t kp_r u44
          have v49 : q_V r39 = q_V δ := (u45).trans rfl
          have v50 : q_R r39 = q_R δ := (u46).trans rfl
          have v51 := kr_t (kr_r (ad := ad)) u47
          have f52 := cb_12_5 i41 k_a0
          have f53 := cb_12_4 i41 k_a0
          have f54 : (q_I r39 12 4 a0).toInt = (q_I δ 12 4 a0).toInt := congrArg Int32.toInt (u44 12 4 a0 (by decide))
          have f55 : hc ad δ a0 = (q_R δ (Ad ad 101) (q_I δ 12 4 a0).toNatClampNeg).toInt := rfl
          have t56 := ti_tn (q_I δ 12 4 a0)
          have f57 := ti_b (q_R δ (Ad ad 101) (q_I δ 12 4 a0).toNatClampNeg)
          exact ok_some (show RI ad h.1 δ0 r39 ∧ (kp [(12, 4), (12, 5), (12, 6)] δ r39 ∧ q_V r39 = q_V δ ∧ q_R r39 = q_R δ ∧ kr ad [] δ r39) ∧ (q_I δ 12 4 a0).toInt ≤ (q_I r39 12 4 a0).toInt ∧ 0 ≤ (0 : Int) ∧ (0 : Int) ≤ 1000000 ∧ ((q_I δ 12 4 a0).toInt < (q_I δ 12 3 a0).toInt ∧ 48 ≤ hc ad δ a0 ∧ hc ad δ a0 ≤ 57 → (q_I δ 12 4 a0).toInt < (q_I r39 12 4 a0).toInt) ∧ ((q_I r39 12 5 a0).toInt < 0 → (x1).toInt ≤ (0 : Int) ∧ (0 : Int) ≤ (x2).toInt) from ⟨i41, ⟨kp_w (by decide) u48, v49, v50, kr_w (by decide) v51⟩, by first | assumption | omega, by first | assumption | omega, by first | assumption | omega, by first | assumption | omega, by first | assumption | omega⟩)
    · have c58 : (q_I δ 12 4 a0).toInt < (q_I δ 12 3 a0).toInt := o_nle h6
      obtain ⟨b59, o60, k61, n62, w63⟩ := gO_12_9 L k_a0
      obtain rfl := gS_12_9 L k_a0 o60
      refine ok_at o60 ?_
      have t64 := ti_tn (q_I δ 12 4 a0)
      refine ok_gd (fun hc65 => ?_) ?_
      · rcases hc65 with hc65 | hc65
        · have c66 : (q_I δ 12 4 a0).toInt < (0 : Int) := o_lt hc65
          omega
        · omega
      refine ok_bind (k_X12_isDigit L hN (x0 := (q_R δ (Ad ad 101) (q_I δ 12 4 a0).toNatClampNeg))  I) (fun r67 hr68 => ?_)
      obtain ⟨i69, p70, p71, p72⟩ := hr68
      try rw [i69]
      have f73 := bo_l p70
      have f74 := ti_b r67.1
      have f75 := ti_b (q_R δ (Ad ad 101) (q_I δ 12 4 a0).toNatClampNeg)
      have f76 := ti_b r67.1
      refine ok_ite (fun h77 => ?_) (fun h77 => ?_)
      · have c78 : r67.1.toInt = (0 : Int) := o_eq h77
        unfold J_X12_readNumber_112
        have f79 := ti_b x1
        refine ok_ite (fun h80 => ?_) (fun h80 => ?_)
        · have c81 : x5v.toInt < x1.toInt := o_lt h80
          unfold J_X12_readNumber_124
          refine ok_bind (k_X12_wrong L hN (a0 := a0) (x1 := (2 : Int32)) (x2 := x4v) k_a0 (show 0 ≤ (x4v).toInt by first | assumption | omega) (show (x4v).toInt ≤ 500 by first | assumption | omega) (show 0 ≤ (2 : Int) by first | assumption | omega) (show (2 : Int) ≤ 4 by first | assumption | omega) I) (fun r82 hr83 => ?_)
          obtain ⟨i84, ⟨u87, u88, u89, u90⟩, p85, p86⟩ := hr83
          have u91 := kp_t kp_r u87
          have v92 : q_V r82 = q_V δ := (u88).trans rfl
          have v93 : q_R r82 = q_R δ := (u89).trans rfl
          have v94 := kr_t (kr_r (ad := ad)) u90
          have f95 := cb_12_5 i84 k_a0
          have f96 := cb_12_4 i84 k_a0
          have f97 : (q_I r82 12 4 a0).toInt = (q_I δ 12 4 a0).toInt := congrArg Int32.toInt (u87 12 4 a0 (by decide))
          have f98 : hc ad δ a0 = (q_R δ (Ad ad 101) (q_I δ 12 4 a0).toNatClampNeg).toInt := rfl
          have f99 := ti_b x2
          exact ok_some (show RI ad h.1 δ0 r82 ∧ (kp [(12, 4), (12, 5), (12, 6)] δ r82 ∧ q_V r82 = q_V δ ∧ q_R r82 = q_R δ ∧ kr ad [] δ r82) ∧ (q_I δ 12 4 a0).toInt ≤ (q_I r82 12 4 a0).toInt ∧ 0 ≤ (0 : Int) ∧ (0 : Int) ≤ 1000000 ∧ ((q_I δ 12 4 a0).toInt < (q_I δ 12 3 a0).toInt ∧ 48 ≤ hc ad δ a0 ∧ hc ad δ a0 ≤ 57 → (q_I δ 12 4 a0).toInt < (q_I r82 12 4 a0).toInt) ∧ ((q_I r82 12 5 a0).toInt < 0 → (x1).toInt ≤ (0 : Int) ∧ (0 : Int) ≤ (x2).toInt) from ⟨i84, ⟨kp_w (by decide) u91, v92, v93, kr_w (by decide) v94⟩, by first | assumption | omega, by first | assumption | omega, by first | assumption | omega, by first | assumption | omega, by first | assumption | omega⟩)
        · have c100 : x1.toInt ≤ x5v.toInt := o_nlt h80
          have f101 := ti_b x2
          refine ok_ite (fun h102 => ?_) (fun h102 => ?_)
          · have c103 : x5v.toInt ≤ x2.toInt := o_le h102
            have f104 : hc ad δ a0 = (q_R δ (Ad ad 101) (q_I δ 12 4 a0).toNatClampNeg).toInt := rfl
            exact ok_some (show RI ad h.1 δ0 δ ∧ (kp [(12, 4), (12, 5), (12, 6)] δ δ ∧ q_V δ = q_V δ ∧ q_R δ = q_R δ ∧ kr ad [] δ δ) ∧ (q_I δ 12 4 a0).toInt ≤ (q_I δ 12 4 a0).toInt ∧ 0 ≤ (x5v).toInt ∧ (x5v).toInt ≤ 1000000 ∧ ((q_I δ 12 4 a0).toInt < (q_I δ 12 3 a0).toInt ∧ 48 ≤ hc ad δ a0 ∧ hc ad δ a0 ≤ 57 → (q_I δ 12 4 a0).toInt < (q_I δ 12 4 a0).toInt) ∧ ((q_I δ 12 5 a0).toInt < 0 → (x1).toInt ≤ (x5v).toInt ∧ (x5v).toInt ≤ (x2).toInt) from ⟨I, ⟨kp_w (by decide) kp_r, rfl, rfl, kr_w (by decide) (kr_r (ad := ad))⟩, by first | assumption | omega, by first | assumption | omega, by first | assumption | omega, by first | assumption | omega, by first | assumption | omega⟩)
          · have c105 : x2.toInt < x5v.toInt := o_nle h102
            unfold J_X12_readNumber_124
            refine ok_bind (k_X12_wrong L hN (a0 := a0) (x1 := (2 : Int32)) (x2 := x4v) k_a0 (show 0 ≤ (x4v).toInt by first | assumption | omega) (show (x4v).toInt ≤ 500 by first | assumption | omega) (show 0 ≤ (2 : Int) by first | assumption | omega) (show (2 : Int) ≤ 4 by first | assumption | omega) I) (fun r106 hr107 => ?_)
            obtain ⟨i108, ⟨u111, u112, u113, u114⟩, p109, p110⟩ := hr107
            have u115 := kp_t kp_r u111
            have v116 : q_V r106 = q_V δ := (u112).trans rfl
            have v117 : q_R r106 = q_R δ := (u113).trans rfl
            have v118 := kr_t (kr_r (ad := ad)) u114
            have f119 := cb_12_5 i108 k_a0
            have f120 := cb_12_4 i108 k_a0
            have f121 : (q_I r106 12 4 a0).toInt = (q_I δ 12 4 a0).toInt := congrArg Int32.toInt (u111 12 4 a0 (by decide))
            have f122 : hc ad δ a0 = (q_R δ (Ad ad 101) (q_I δ 12 4 a0).toNatClampNeg).toInt := rfl
            exact ok_some (show RI ad h.1 δ0 r106 ∧ (kp [(12, 4), (12, 5), (12, 6)] δ r106 ∧ q_V r106 = q_V δ ∧ q_R r106 = q_R δ ∧ kr ad [] δ r106) ∧ (q_I δ 12 4 a0).toInt ≤ (q_I r106 12 4 a0).toInt ∧ 0 ≤ (0 : Int) ∧ (0 : Int) ≤ 1000000 ∧ ((q_I δ 12 4 a0).toInt < (q_I δ 12 3 a0).toInt ∧ 48 ≤ hc ad δ a0 ∧ hc ad δ a0 ≤ 57 → (q_I δ 12 4 a0).toInt < (q_I r106 12 4 a0).toInt) ∧ ((q_I r106 12 5 a0).toInt < 0 → (x1).toInt ≤ (0 : Int) ∧ (0 : Int) ≤ (x2).toInt) from ⟨i108, ⟨kp_w (by decide) u115, v116, v117, kr_w (by decide) v118⟩, by first | assumption | omega, by first | assumption | omega, by first | assumption | omega, by first | assumption | omega, by first | assumption | omega⟩)
      · have c123 : r67.1.toInt ≠ (0 : Int) := o_ne h77
        refine ok_ite (fun h124 => ?_) (fun h124 => ?_)
        · have c125 : x5v.toInt ≤ (99999 : Int) := o_le h124
          refine ok_at o60 ?_
          refine ok_gd (fun hc126 => ?_) ?_
          · rcases hc126 with hc126 | hc126
            · have c127 : (q_I δ 12 4 a0).toInt < (0 : Int) := o_lt hc126
              omega
            · omega
          unfold J_X12_readNumber_97
          first | (have q132 := te_addc (c := 1) (n := 1) rfl (q_I δ 12 4 a0) (by omega) (by omega); obtain ⟨f133, f134, f135⟩ := q132) | (obtain ⟨q132, f133, f134, f135⟩ := ti_addc (c := 1) (n := 1) rfl (q_I δ 12 4 a0))
          refine ok_bdv (fun d128 e129 => ?_)
          have i130 : RI ad h.1 δ0 d128 := by rw [e129]; exact cs_12_4 L I k_a0 (show 0 ≤ ((q_I δ 12 4 a0) + (1 : Int32)).toInt by omega) (show ((q_I δ 12 4 a0) + (1 : Int32)).toInt ≤ 500 by omega)
          have u136 := kp_I kp_r e129
          have v137 : q_V d128 = q_V δ := ((show q_V d128 = q_V δ by rw [e129]; rfl)).trans rfl
          have v138 : q_R d128 = q_R δ := ((show q_R d128 = q_R δ by rw [e129]; rfl)).trans rfl
          have v139 := kr_N (kr_r (ad := ad)) (show q_R d128 = q_R δ by rw [e129]; rfl)
          first | (have q141 := te_mulc (c := 10) (n := 10) rfl x5v (by omega) (by omega); obtain ⟨f142, f143, f144⟩ := q141) | (obtain ⟨q141, f142, f143, f144⟩ := ti_mulc (c := 10) (n := 10) rfl x5v)
          first | (have q146 := te_add ((10 : Int32) * x5v) (q_R δ (Ad ad 101) (q_I δ 12 4 a0).toNatClampNeg) (by omega) (by omega); obtain ⟨f147, f148, f149⟩ := q146) | (obtain ⟨q146, f147, f148, f149⟩ := ti_add ((10 : Int32) * x5v) (q_R δ (Ad ad 101) (q_I δ 12 4 a0).toNatClampNeg))
          first | (have q151 := te_subc (c := 48) (n := 48) rfl (((10 : Int32) * x5v) + (q_R δ (Ad ad 101) (q_I δ 12 4 a0).toNatClampNeg)) (by omega) (by omega); obtain ⟨f152, f153, f154⟩ := q151) | (obtain ⟨q151, f152, f153, f154⟩ := ti_subc (c := 48) (n := 48) rfl (((10 : Int32) * x5v) + (q_R δ (Ad ad 101) (q_I δ 12 4 a0).toNatClampNeg)))
          have f155 := cb_12_5 i130 k_a0
          have f156 : (q_I d128 12 5 a0).toInt = (q_I δ 12 5 a0).toInt := congrArg Int32.toInt (by rw [e129]; exact rI_o (by decide))
          have f157 := cb_12_4 i130 k_a0
          have f158 : (q_I d128 12 4 a0).toInt = ((q_I δ 12 4 a0) + (1 : Int32)).toInt := congrArg Int32.toInt (show q_I d128 12 4 a0 = ((q_I δ 12 4 a0) + (1 : Int32)) by rw [e129]; exact rI_s)
          refine ok_mono (ih x4v ((((10 : Int32) * x5v) + (q_R δ (Ad ad 101) (q_I δ 12 4 a0).toNatClampNeg)) - (48 : Int32)) d128 i130 (show 0 ≤ (x4v).toInt by first | assumption | omega) (show (x4v).toInt ≤ 500 by first | assumption | omega) (show 0 ≤ (((((10 : Int32) * x5v) + (q_R δ (Ad ad 101) (q_I δ 12 4 a0).toNatClampNeg)) - (48 : Int32))).toInt by first | assumption | omega) (show (((((10 : Int32) * x5v) + (q_R δ (Ad ad 101) (q_I δ 12 4 a0).toNatClampNeg)) - (48 : Int32))).toInt ≤ 1000000 by first | assumption | omega) (show (q_I d128 12 5 a0).toInt < 0 by first | assumption | omega) (show 501 - (q_I d128 12 4 a0).toInt < _ by omega)) (fun r159 hr160 => ?_)
          obtain ⟨i161, ⟨u167, u168, u169, u170⟩, p162, p163, p164, p165, p166⟩ := hr160
          have u171 := kp_t u136 u167
          have v172 : q_V r159.2 = q_V δ := (u168).trans v137
          have v173 : q_R r159.2 = q_R δ := (u169).trans v138
          have v174 := kr_t v139 u170
          have f175 := cb_12_4 i161 k_a0
          have f176 := ti_b r159.1
          have f177 : hc ad d128 a0 = (q_R d128 (Ad ad 101) (q_I d128 12 4 a0).toNatClampNeg).toInt := rfl
          have t178 := ti_tn (q_I d128 12 4 a0)
          have f179 : (q_R d128 (Ad ad 101) (q_I d128 12 4 a0).toNatClampNeg).toInt = (q_R δ (Ad ad 101) (q_I d128 12 4 a0).toNatClampNeg).toInt := congrArg Int32.toInt (show q_R d128 (Ad ad 101) (q_I d128 12 4 a0).toNatClampNeg = _ by rw [e129]; rfl)
          have f180 := ti_b (q_R δ (Ad ad 101) (q_I d128 12 4 a0).toNatClampNeg)
          have f181 := ti_b (q_R d128 (Ad ad 101) (q_I d128 12 4 a0).toNatClampNeg)
          have f182 := cb_12_3 i130 k_a0
          have f183 : (q_I d128 12 3 a0).toInt = (q_I δ 12 3 a0).toInt := congrArg Int32.toInt (by rw [e129]; exact rI_o (by decide))
          have f184 := cb_12_5 i161 k_a0
          have f185 := ti_b x1
          have f186 := ti_b x2
          have f187 := ti_b r159.1
          have f188 : hc ad δ a0 = (q_R δ (Ad ad 101) (q_I δ 12 4 a0).toNatClampNeg).toInt := rfl
          exact ⟨by assumption, ⟨kp_w (by decide) u171, v172, v173, kr_w (by decide) v174⟩, by first | assumption | omega, by first | assumption | omega, by first | assumption | omega, by first | assumption | omega, by first | assumption | omega⟩
        · have c189 : (99999 : Int) < x5v.toInt := o_nle h124
          unfold J_X12_readNumber_97
          first | (have q194 := te_addc (c := 1) (n := 1) rfl (q_I δ 12 4 a0) (by omega) (by omega); obtain ⟨f195, f196, f197⟩ := q194) | (obtain ⟨q194, f195, f196, f197⟩ := ti_addc (c := 1) (n := 1) rfl (q_I δ 12 4 a0))
          refine ok_bdv (fun d190 e191 => ?_)
          have i192 : RI ad h.1 δ0 d190 := by rw [e191]; exact cs_12_4 L I k_a0 (show 0 ≤ ((q_I δ 12 4 a0) + (1 : Int32)).toInt by omega) (show ((q_I δ 12 4 a0) + (1 : Int32)).toInt ≤ 500 by omega)
          have u198 := kp_I kp_r e191
          have v199 : q_V d190 = q_V δ := ((show q_V d190 = q_V δ by rw [e191]; rfl)).trans rfl
          have v200 : q_R d190 = q_R δ := ((show q_R d190 = q_R δ by rw [e191]; rfl)).trans rfl
          have v201 := kr_N (kr_r (ad := ad)) (show q_R d190 = q_R δ by rw [e191]; rfl)
          have f202 := cb_12_5 i192 k_a0
          have f203 : (q_I d190 12 5 a0).toInt = (q_I δ 12 5 a0).toInt := congrArg Int32.toInt (by rw [e191]; exact rI_o (by decide))
          have f204 := cb_12_4 i192 k_a0
          have f205 : (q_I d190 12 4 a0).toInt = ((q_I δ 12 4 a0) + (1 : Int32)).toInt := congrArg Int32.toInt (show q_I d190 12 4 a0 = ((q_I δ 12 4 a0) + (1 : Int32)) by rw [e191]; exact rI_s)
          refine ok_mono (ih x4v (100000 : Int32) d190 i192 (show 0 ≤ (x4v).toInt by first | assumption | omega) (show (x4v).toInt ≤ 500 by first | assumption | omega) (show 0 ≤ (100000 : Int) by first | assumption | omega) (show (100000 : Int) ≤ 1000000 by first | assumption | omega) (show (q_I d190 12 5 a0).toInt < 0 by first | assumption | omega) (show 501 - (q_I d190 12 4 a0).toInt < _ by omega)) (fun r206 hr207 => ?_)
          obtain ⟨i208, ⟨u214, u215, u216, u217⟩, p209, p210, p211, p212, p213⟩ := hr207
          have u218 := kp_t u198 u214
          have v219 : q_V r206.2 = q_V δ := (u215).trans v199
          have v220 : q_R r206.2 = q_R δ := (u216).trans v200
          have v221 := kr_t v201 u217
          have f222 := cb_12_4 i208 k_a0
          have f223 := ti_b r206.1
          have f224 : hc ad d190 a0 = (q_R d190 (Ad ad 101) (q_I d190 12 4 a0).toNatClampNeg).toInt := rfl
          have t225 := ti_tn (q_I d190 12 4 a0)
          have f226 : (q_R d190 (Ad ad 101) (q_I d190 12 4 a0).toNatClampNeg).toInt = (q_R δ (Ad ad 101) (q_I d190 12 4 a0).toNatClampNeg).toInt := congrArg Int32.toInt (show q_R d190 (Ad ad 101) (q_I d190 12 4 a0).toNatClampNeg = _ by rw [e191]; rfl)
          have f227 := ti_b (q_R δ (Ad ad 101) (q_I d190 12 4 a0).toNatClampNeg)
          have f228 := ti_b (q_R d190 (Ad ad 101) (q_I d190 12 4 a0).toNatClampNeg)
          have f229 := cb_12_3 i192 k_a0
          have f230 : (q_I d190 12 3 a0).toInt = (q_I δ 12 3 a0).toInt := congrArg Int32.toInt (by rw [e191]; exact rI_o (by decide))
          have f231 := cb_12_5 i208 k_a0
          have f232 := ti_b x1
          have f233 := ti_b x2
          have f234 := ti_b r206.1
          have f235 : hc ad δ a0 = (q_R δ (Ad ad 101) (q_I δ 12 4 a0).toNatClampNeg).toInt := rfl
          exact ⟨by assumption, ⟨kp_w (by decide) u218, v219, v220, kr_w (by decide) v221⟩, by first | assumption | omega, by first | assumption | omega, by first | assumption | omega, by first | assumption | omega, by first | assumption | omega⟩
set_option maxHeartbeats 4000000 in
theorem k_X12_readNumber {ad : List Nat} {h : hp} (L : Lay TLx ad h) {δ0 : dp} {N : Nat} (hN : 10000000 ≤ N) {a0 : Nat} {x1 : Int32} {x2 : Int32} (k_a0 : q_K h.1 a0 = 12) {δ : dp} (I : RI ad h.1 δ0 δ) : ok (D_X12_readNumber N h.1 a0 x1 x2 δ) (fun r => RI ad h.1 δ0 r.2 ∧ (kp [(12, 4), (12, 5), (12, 6)] δ r.2 ∧ q_V r.2 = q_V δ ∧ q_R r.2 = q_R δ ∧ kr ad [] δ r.2) ∧ (q_I δ 12 4 a0).toInt ≤ (q_I r.2 12 4 a0).toInt ∧ (q_I δ 12 5 a0).toInt ≤ (q_I r.2 12 5 a0).toInt ∧ 0 ≤ (r.1).toInt ∧ (r.1).toInt ≤ 1000000 ∧ ((q_I r.2 12 5 a0).toInt < 0 → (q_I δ 12 4 a0).toInt < (q_I r.2 12 4 a0).toInt) ∧ ((q_I r.2 12 5 a0).toInt < 0 → (x1).toInt ≤ (r.1).toInt ∧ (r.1).toInt ≤ (x2).toInt)) := by
  unfold D_X12_readNumber
  refine ok_bind (k_X12_fine L hN (a0 := a0) k_a0 I) (fun r1 hr2 => ?_)
  obtain ⟨i3, p4, p5, p6⟩ := hr2
  try rw [i3]
  have f7 := bo_l p4
  have f8 := cb_12_5 I k_a0
  have f9 := ti_b r1.1
  have f10 := ti_b r1.1
  refine ok_ite (fun h11 => ?_) (fun h11 => ?_)
  · have c12 : r1.1.toInt = (0 : Int) := o_eq h11
    have f13 := cb_12_4 I k_a0
    have f14 := ti_b x1
    have f15 := ti_b x2
    exact ok_some (show RI ad h.1 δ0 δ ∧ (kp [(12, 4), (12, 5), (12, 6)] δ δ ∧ q_V δ = q_V δ ∧ q_R δ = q_R δ ∧ kr ad [] δ δ) ∧ (q_I δ 12 4 a0).toInt ≤ (q_I δ 12 4 a0).toInt ∧ (q_I δ 12 5 a0).toInt ≤ (q_I δ 12 5 a0).toInt ∧ 0 ≤ (0 : Int) ∧ (0 : Int) ≤ 1000000 ∧ ((q_I δ 12 5 a0).toInt < 0 → (q_I δ 12 4 a0).toInt < (q_I δ 12 4 a0).toInt) ∧ ((q_I δ 12 5 a0).toInt < 0 → (x1).toInt ≤ (0 : Int) ∧ (0 : Int) ≤ (x2).toInt) from ⟨I, ⟨kp_w (by decide) kp_r, rfl, rfl, kr_w (by decide) (kr_r (ad := ad))⟩, by first | assumption | omega, by first | assumption | omega, by first | assumption | omega, by first | assumption | omega, by first | assumption | omega, by first | assumption | omega⟩)
  · have c16 : r1.1.toInt ≠ (0 : Int) := o_ne h11
    refine ok_bind (k_X12_here L hN (a0 := a0) k_a0 I) (fun r17 hr18 => ?_)
    obtain ⟨i19, ⟨u23, u24, u25, u26⟩, p20, p21, p22⟩ := hr18
    have u27 := kp_t kp_r u23
    have v28 : q_V r17.2 = q_V δ := (u24).trans rfl
    have v29 : q_R r17.2 = q_R δ := (u25).trans rfl
    have v30 := kr_t (kr_r (ad := ad)) u26
    have f31 := cb_12_4 I k_a0
    have f32 := cb_12_4 i19 k_a0
    have f33 : hc ad r17.2 a0 = (q_R r17.2 (Ad ad 101) (q_I r17.2 12 4 a0).toNatClampNeg).toInt := rfl
    have t34 := ti_tn (q_I r17.2 12 4 a0)
    have f35 : (q_R r17.2 (Ad ad 101) (q_I r17.2 12 4 a0).toNatClampNeg).toInt = (q_R δ (Ad ad 101) (q_I r17.2 12 4 a0).toNatClampNeg).toInt := congrArg Int32.toInt (congrFun (u26 101 (by decide) (by decide) (by decide)) _)
    have f36 := ti_b (q_R δ (Ad ad 101) (q_I r17.2 12 4 a0).toNatClampNeg)
    have f37 := ti_b (q_R r17.2 (Ad ad 101) (q_I r17.2 12 4 a0).toNatClampNeg)
    have f38 := ti_b r17.1
    have f39 := cb_12_3 I k_a0
    have f40 : hc ad δ a0 = (q_R δ (Ad ad 101) (q_I δ 12 4 a0).toNatClampNeg).toInt := rfl
    have t41 := ti_tn (q_I δ 12 4 a0)
    have f42 := ti_b (q_R δ (Ad ad 101) (q_I δ 12 4 a0).toNatClampNeg)
    have f43 := ti_b r17.1
    refine ok_biv (fun vx44 e45 => ?_)
    have f46 : vx44.toInt = (q_I r17.2 12 4 a0).toInt := congrArg Int32.toInt e45
    refine ok_bind (k_X12_isDigit L hN (x0 := r17.1)  i19) (fun r47 hr48 => ?_)
    obtain ⟨i49, p50, p51, p52⟩ := hr48
    try rw [i49]
    have f53 := bo_l p50
    have f54 := ti_b r47.1
    have f55 := ti_b r47.1
    refine ok_ite (fun h56 => ?_) (fun h56 => ?_)
    · have c57 : r47.1.toInt = (0 : Int) := o_eq h56
      refine ok_bind (k_X12_wrong L hN (a0 := a0) (x1 := (1 : Int32)) (x2 := (q_I r17.2 12 4 a0)) k_a0 (show 0 ≤ ((q_I r17.2 12 4 a0)).toInt by first | assumption | omega) (show ((q_I r17.2 12 4 a0)).toInt ≤ 500 by first | assumption | omega) (show 0 ≤ (1 : Int) by first | assumption | omega) (show (1 : Int) ≤ 4 by first | assumption | omega) i19) (fun r58 hr59 => ?_)
      obtain ⟨i60, ⟨u63, u64, u65, u66⟩, p61, p62⟩ := hr59
      have u67 := kp_t u27 u63
      have v68 : q_V r58 = q_V δ := (u64).trans v28
      have v69 : q_R r58 = q_R δ := (u65).trans v29
      have v70 := kr_t v30 u66
      have f71 := cb_12_5 i60 k_a0
      have f72 := cb_12_5 i19 k_a0
      have f73 : (q_I r17.2 12 5 a0).toInt = (q_I δ 12 5 a0).toInt := congrArg Int32.toInt (u23 12 5 a0 (by decide))
      have f74 := cb_12_4 i60 k_a0
      have f75 : (q_I r58 12 4 a0).toInt = (q_I r17.2 12 4 a0).toInt := congrArg Int32.toInt (u63 12 4 a0 (by decide))
      have f76 := ti_b x1
      have f77 := ti_b x2
      exact ok_some (show RI ad h.1 δ0 r58 ∧ (kp [(12, 4), (12, 5), (12, 6)] δ r58 ∧ q_V r58 = q_V δ ∧ q_R r58 = q_R δ ∧ kr ad [] δ r58) ∧ (q_I δ 12 4 a0).toInt ≤ (q_I r58 12 4 a0).toInt ∧ (q_I δ 12 5 a0).toInt ≤ (q_I r58 12 5 a0).toInt ∧ 0 ≤ (0 : Int) ∧ (0 : Int) ≤ 1000000 ∧ ((q_I r58 12 5 a0).toInt < 0 → (q_I δ 12 4 a0).toInt < (q_I r58 12 4 a0).toInt) ∧ ((q_I r58 12 5 a0).toInt < 0 → (x1).toInt ≤ (0 : Int) ∧ (0 : Int) ≤ (x2).toInt) from ⟨i60, ⟨kp_w (by decide) u67, v68, v69, kr_w (by decide) v70⟩, by first | assumption | omega, by first | assumption | omega, by first | assumption | omega, by first | assumption | omega, by first | assumption | omega, by first | assumption | omega⟩)
    · have c78 : r47.1.toInt ≠ (0 : Int) := o_ne h56
      have f79 := cb_12_5 i19 k_a0
      have f80 : (q_I r17.2 12 5 a0).toInt = (q_I δ 12 5 a0).toInt := congrArg Int32.toInt (u23 12 5 a0 (by decide))
      refine ok_mono (kl_X12_readNumber_41 L hN   k_a0 _ vx44 (0 : Int32) r17.2 i19 (show 0 ≤ (vx44).toInt by first | assumption | omega) (show (vx44).toInt ≤ 500 by first | assumption | omega) (show 0 ≤ (0 : Int) by first | assumption | omega) (show (0 : Int) ≤ 1000000 by first | assumption | omega) (show (q_I r17.2 12 5 a0).toInt < 0 by first | assumption | omega) (show 501 - (q_I r17.2 12 4 a0).toInt < _ by omega)) (fun r81 hr82 => ?_)
      obtain ⟨i83, ⟨u89, u90, u91, u92⟩, p84, p85, p86, p87, p88⟩ := hr82
      have u93 := kp_t u27 u89
      have v94 : q_V r81.2 = q_V δ := (u90).trans v28
      have v95 : q_R r81.2 = q_R δ := (u91).trans v29
      have v96 := kr_t v30 u92
      have f97 := cb_12_4 i83 k_a0
      have f98 := ti_b r81.1
      have f99 := cb_12_3 i19 k_a0
      have f100 : (q_I r17.2 12 3 a0).toInt = (q_I δ 12 3 a0).toInt := congrArg Int32.toInt (u23 12 3 a0 (by decide))
      have f101 := cb_12_5 i83 k_a0
      have f102 := ti_b x1
      have f103 := ti_b x2
      have f104 := ti_b r81.1
      exact ⟨by assumption, ⟨kp_w (by decide) u93, v94, v95, kr_w (by decide) v96⟩, by first | assumption | omega, by first | assumption | omega, by first | assumption | omega, by first | assumption | omega, by first | assumption | omega, by first | assumption | omega⟩
set_option maxHeartbeats 4000000 in
theorem k_X12_sign {ad : List Nat} {h : hp} (L : Lay TLx ad h) {δ0 : dp} {N : Nat} (hN : 10000000 ≤ N) {a0 : Nat} {x1 : Int32} (k_a0 : q_K h.1 a0 = 12) {δ : dp} (z0 : (x1).toInt ≠ 0) (I : RI ad h.1 δ0 δ) : ok (D_X12_sign N h.1 a0 x1 δ) (fun r => RI ad h.1 δ0 r ∧ (kp [(12, 4), (12, 5), (12, 6)] δ r ∧ q_V r = q_V δ ∧ q_R r = q_R δ ∧ kr ad [] δ r) ∧ (q_I δ 12 4 a0).toInt ≤ (q_I r 12 4 a0).toInt ∧ (q_I δ 12 5 a0).toInt ≤ (q_I r 12 5 a0).toInt ∧ ((q_I r 12 5 a0).toInt < 0 → (q_I δ 12 4 a0).toInt < (q_I r 12 4 a0).toInt)) := by
  unfold D_X12_sign
  have f1 := ti_b x1
  refine ok_bind (k_X12_fine L hN (a0 := a0) k_a0 I) (fun r2 hr3 => ?_)
  obtain ⟨i4, p5, p6, p7⟩ := hr3
  try rw [i4]
  have f8 := bo_l p5
  have f9 := cb_12_5 I k_a0
  have f10 := ti_b r2.1
  have f11 := ti_b r2.1
  refine ok_ite (fun h12 => ?_) (fun h12 => ?_)
  · have c13 : r2.1.toInt = (0 : Int) := o_eq h12
    unfold J_X12_sign_24
    refine ok_bind (k_X12_fine L hN (a0 := a0) k_a0 I) (fun r14 hr15 => ?_)
    obtain ⟨i16, p17, p18, p19⟩ := hr15
    try rw [i16]
    have f20 := bo_l p17
    have f21 := ti_b r14.1
    have f22 := ti_b r14.1
    refine ok_ite (fun h23 => ?_) (fun h23 => ?_)
    · have c24 : r14.1.toInt = (0 : Int) := o_eq h23
      unfold J_X12_sign_41
      have f25 := cb_12_4 I k_a0
      exact ok_some (show RI ad h.1 δ0 δ ∧ (kp [(12, 4), (12, 5), (12, 6)] δ δ ∧ q_V δ = q_V δ ∧ q_R δ = q_R δ ∧ kr ad [] δ δ) ∧ (q_I δ 12 4 a0).toInt ≤ (q_I δ 12 4 a0).toInt ∧ (q_I δ 12 5 a0).toInt ≤ (q_I δ 12 5 a0).toInt ∧ ((q_I δ 12 5 a0).toInt < 0 → (q_I δ 12 4 a0).toInt < (q_I δ 12 4 a0).toInt) from ⟨I, ⟨kp_w (by decide) kp_r, rfl, rfl, kr_w (by decide) (kr_r (ad := ad))⟩, by first | assumption | omega, by first | assumption | omega, by first | assumption | omega⟩)
    · have c26 : r14.1.toInt ≠ (0 : Int) := o_ne h23
      have f30 := cb_12_4 I k_a0
      first | (have q32 := te_addc (c := 1) (n := 1) rfl (q_I δ 12 4 a0) (by omega) (by omega); obtain ⟨f33, f34, f35⟩ := q32) | (obtain ⟨q32, f33, f34, f35⟩ := ti_addc (c := 1) (n := 1) rfl (q_I δ 12 4 a0))
      refine ok_bdv (fun d27 e28 => ?_)
      have i29 : RI ad h.1 δ0 d27 := by rw [e28]; exact cs_12_4 L I k_a0 (show 0 ≤ ((q_I δ 12 4 a0) + (1 : Int32)).toInt by omega) (show ((q_I δ 12 4 a0) + (1 : Int32)).toInt ≤ 500 by omega)
      have u36 := kp_I kp_r e28
      have v37 : q_V d27 = q_V δ := ((show q_V d27 = q_V δ by rw [e28]; rfl)).trans rfl
      have v38 : q_R d27 = q_R δ := ((show q_R d27 = q_R δ by rw [e28]; rfl)).trans rfl
      have v39 := kr_N (kr_r (ad := ad)) (show q_R d27 = q_R δ by rw [e28]; rfl)
      unfold J_X12_sign_41
      have f40 := cb_12_4 i29 k_a0
      have f41 : (q_I d27 12 4 a0).toInt = ((q_I δ 12 4 a0) + (1 : Int32)).toInt := congrArg Int32.toInt (show q_I d27 12 4 a0 = ((q_I δ 12 4 a0) + (1 : Int32)) by rw [e28]; exact rI_s)
      have f42 := cb_12_5 i29 k_a0
      have f43 : (q_I d27 12 5 a0).toInt = (q_I δ 12 5 a0).toInt := congrArg Int32.toInt (by rw [e28]; exact rI_o (by decide))
      exact ok_some (show RI ad h.1 δ0 d27 ∧ (kp [(12, 4), (12, 5), (12, 6)] δ d27 ∧ q_V d27 = q_V δ ∧ q_R d27 = q_R δ ∧ kr ad [] δ d27) ∧ (q_I δ 12 4 a0).toInt ≤ (q_I d27 12 4 a0).toInt ∧ (q_I δ 12 5 a0).toInt ≤ (q_I d27 12 5 a0).toInt ∧ ((q_I d27 12 5 a0).toInt < 0 → (q_I δ 12 4 a0).toInt < (q_I d27 12 4 a0).toInt) from ⟨i29, ⟨kp_w (by decide) u36, v37, v38, kr_w (by decide) v39⟩, by first | assumption | omega, by first | assumption | omega, by first | assumption | omega⟩)
  · have c44 : r2.1.toInt ≠ (0 : Int) := o_ne h12
    refine ok_bind (k_X12_here L hN (a0 := a0) k_a0 I) (fun r45 hr46 => ?_)
    obtain ⟨i47, ⟨u51, u52, u53, u54⟩, p48, p49, p50⟩ := hr46
    have u55 := kp_t kp_r u51
    have v56 : q_V r45.2 = q_V δ := (u52).trans rfl
    have v57 : q_R r45.2 = q_R δ := (u53).trans rfl
    have v58 := kr_t (kr_r (ad := ad)) u54
    have f59 := cb_12_4 I k_a0
    have f60 := cb_12_4 i47 k_a0
    have f61 : hc ad r45.2 a0 = (q_R r45.2 (Ad ad 101) (q_I r45.2 12 4 a0).toNatClampNeg).toInt := rfl
    have t62 := ti_tn (q_I r45.2 12 4 a0)
    have f63 : (q_R r45.2 (Ad ad 101) (q_I r45.2 12 4 a0).toNatClampNeg).toInt = (q_R δ (Ad ad 101) (q_I r45.2 12 4 a0).toNatClampNeg).toInt := congrArg Int32.toInt (congrFun (u54 101 (by decide) (by decide) (by decide)) _)
    have f64 := ti_b (q_R δ (Ad ad 101) (q_I r45.2 12 4 a0).toNatClampNeg)
    have f65 := ti_b (q_R r45.2 (Ad ad 101) (q_I r45.2 12 4 a0).toNatClampNeg)
    have f66 := ti_b r45.1
    have f67 := cb_12_3 I k_a0
    have f68 : hc ad δ a0 = (q_R δ (Ad ad 101) (q_I δ 12 4 a0).toNatClampNeg).toInt := rfl
    have t69 := ti_tn (q_I δ 12 4 a0)
    have f70 := ti_b (q_R δ (Ad ad 101) (q_I δ 12 4 a0).toNatClampNeg)
    have f71 := ti_b r45.1
    refine ok_ite (fun h72 => ?_) (fun h72 => ?_)
    · have c73 : r45.1.toInt = x1.toInt := o_eq h72
      unfold J_X12_sign_24
      refine ok_bind (k_X12_fine L hN (a0 := a0) k_a0 i47) (fun r74 hr75 => ?_)
      obtain ⟨i76, p77, p78, p79⟩ := hr75
      try rw [i76]
      have f80 := bo_l p77
      have f81 := cb_12_5 i47 k_a0
      have f82 : (q_I r45.2 12 5 a0).toInt = (q_I δ 12 5 a0).toInt := congrArg Int32.toInt (u51 12 5 a0 (by decide))
      have f83 := ti_b r74.1
      have f84 := ti_b r74.1
      refine ok_ite (fun h85 => ?_) (fun h85 => ?_)
      · have c86 : r74.1.toInt = (0 : Int) := o_eq h85
        unfold J_X12_sign_41
        exact ok_some (show RI ad h.1 δ0 r45.2 ∧ (kp [(12, 4), (12, 5), (12, 6)] δ r45.2 ∧ q_V r45.2 = q_V δ ∧ q_R r45.2 = q_R δ ∧ kr ad [] δ r45.2) ∧ (q_I δ 12 4 a0).toInt ≤ (q_I r45.2 12 4 a0).toInt ∧ (q_I δ 12 5 a0).toInt ≤ (q_I r45.2 12 5 a0).toInt ∧ ((q_I r45.2 12 5 a0).toInt < 0 → (q_I δ 12 4 a0).toInt < (q_I r45.2 12 4 a0).toInt) from ⟨i47, ⟨kp_w (by decide) u55, v56, v57, kr_w (by decide) v58⟩, by first | assumption | omega, by first | assumption | omega, by first | assumption | omega⟩)
      · have c87 : r74.1.toInt ≠ (0 : Int) := o_ne h85
        first | (have q92 := te_addc (c := 1) (n := 1) rfl (q_I r45.2 12 4 a0) (by omega) (by omega); obtain ⟨f93, f94, f95⟩ := q92) | (obtain ⟨q92, f93, f94, f95⟩ := ti_addc (c := 1) (n := 1) rfl (q_I r45.2 12 4 a0))
        refine ok_bdv (fun d88 e89 => ?_)
        have i90 : RI ad h.1 δ0 d88 := by rw [e89]; exact cs_12_4 L i47 k_a0 (show 0 ≤ ((q_I r45.2 12 4 a0) + (1 : Int32)).toInt by omega) (show ((q_I r45.2 12 4 a0) + (1 : Int32)).toInt ≤ 500 by omega)
        have u96 := kp_I u55 e89
        have v97 : q_V d88 = q_V δ := ((show q_V d88 = q_V r45.2 by rw [e89]; rfl)).trans v56
        have v98 : q_R d88 = q_R δ := ((show q_R d88 = q_R r45.2 by rw [e89]; rfl)).trans v57
        have v99 := kr_N v58 (show q_R d88 = q_R r45.2 by rw [e89]; rfl)
        unfold J_X12_sign_41
        have f100 := cb_12_4 i90 k_a0
        have f101 : (q_I d88 12 4 a0).toInt = ((q_I r45.2 12 4 a0) + (1 : Int32)).toInt := congrArg Int32.toInt (show q_I d88 12 4 a0 = ((q_I r45.2 12 4 a0) + (1 : Int32)) by rw [e89]; exact rI_s)
        have f102 := cb_12_5 i90 k_a0
        have f103 : (q_I d88 12 5 a0).toInt = (q_I r45.2 12 5 a0).toInt := congrArg Int32.toInt (by rw [e89]; exact rI_o (by decide))
        exact ok_some (show RI ad h.1 δ0 d88 ∧ (kp [(12, 4), (12, 5), (12, 6)] δ d88 ∧ q_V d88 = q_V δ ∧ q_R d88 = q_R δ ∧ kr ad [] δ d88) ∧ (q_I δ 12 4 a0).toInt ≤ (q_I d88 12 4 a0).toInt ∧ (q_I δ 12 5 a0).toInt ≤ (q_I d88 12 5 a0).toInt ∧ ((q_I d88 12 5 a0).toInt < 0 → (q_I δ 12 4 a0).toInt < (q_I d88 12 4 a0).toInt) from ⟨i90, ⟨kp_w (by decide) u96, v97, v98, kr_w (by decide) v99⟩, by first | assumption | omega, by first | assumption | omega, by first | assumption | omega⟩)
    · have c104 : r45.1.toInt ≠ x1.toInt := o_ne h72
      refine ok_bind (k_X12_wrong L hN (a0 := a0) (x1 := (1 : Int32)) (x2 := (q_I r45.2 12 4 a0)) k_a0 (show 0 ≤ ((q_I r45.2 12 4 a0)).toInt by first | assumption | omega) (show ((q_I r45.2 12 4 a0)).toInt ≤ 500 by first | assumption | omega) (show 0 ≤ (1 : Int) by first | assumption | omega) (show (1 : Int) ≤ 4 by first | assumption | omega) i47) (fun r105 hr106 => ?_)
      obtain ⟨i107, ⟨u110, u111, u112, u113⟩, p108, p109⟩ := hr106
      have u114 := kp_t u55 u110
      have v115 : q_V r105 = q_V δ := (u111).trans v56
      have v116 : q_R r105 = q_R δ := (u112).trans v57
      have v117 := kr_t v58 u113
      have f118 := cb_12_5 i107 k_a0
      have f119 := cb_12_5 i47 k_a0
      have f120 : (q_I r45.2 12 5 a0).toInt = (q_I δ 12 5 a0).toInt := congrArg Int32.toInt (u51 12 5 a0 (by decide))
      unfold J_X12_sign_24
      refine ok_bind (k_X12_fine L hN (a0 := a0) k_a0 i107) (fun r121 hr122 => ?_)
      obtain ⟨i123, p124, p125, p126⟩ := hr122
      try rw [i123]
      have f127 := bo_l p124
      have f128 := ti_b r121.1
      have f129 := ti_b r121.1
      refine ok_ite (fun h130 => ?_) (fun h130 => ?_)
      · have c131 : r121.1.toInt = (0 : Int) := o_eq h130
        unfold J_X12_sign_41
        have f132 := cb_12_4 i107 k_a0
        have f133 : (q_I r105 12 4 a0).toInt = (q_I r45.2 12 4 a0).toInt := congrArg Int32.toInt (u110 12 4 a0 (by decide))
        exact ok_some (show RI ad h.1 δ0 r105 ∧ (kp [(12, 4), (12, 5), (12, 6)] δ r105 ∧ q_V r105 = q_V δ ∧ q_R r105 = q_R δ ∧ kr ad [] δ r105) ∧ (q_I δ 12 4 a0).toInt ≤ (q_I r105 12 4 a0).toInt ∧ (q_I δ 12 5 a0).toInt ≤ (q_I r105 12 5 a0).toInt ∧ ((q_I r105 12 5 a0).toInt < 0 → (q_I δ 12 4 a0).toInt < (q_I r105 12 4 a0).toInt) from ⟨i107, ⟨kp_w (by decide) u114, v115, v116, kr_w (by decide) v117⟩, by first | assumption | omega, by first | assumption | omega, by first | assumption | omega⟩)
      · have c134 : r121.1.toInt ≠ (0 : Int) := o_ne h130
        have f138 := cb_12_4 i107 k_a0
        have f139 : (q_I r105 12 4 a0).toInt = (q_I r45.2 12 4 a0).toInt := congrArg Int32.toInt (u110 12 4 a0 (by decide))
        first | (have q141 := te_addc (c := 1) (n := 1) rfl (q_I r105 12 4 a0) (by omega) (by omega); obtain ⟨f142, f143, f144⟩ := q141) | (obtain ⟨q141, f142, f143, f144⟩ := ti_addc (c := 1) (n := 1) rfl (q_I r105 12 4 a0))
        refine ok_bdv (fun d135 e136 => ?_)
        have i137 : RI ad h.1 δ0 d135 := by rw [e136]; exact cs_12_4 L i107 k_a0 (show 0 ≤ ((q_I r105 12 4 a0) + (1 : Int32)).toInt by omega) (show ((q_I r105 12 4 a0) + (1 : Int32)).toInt ≤ 500 by omega)
        have u145 := kp_I u114 e136
        have v146 : q_V d135 = q_V δ := ((show q_V d135 = q_V r105 by rw [e136]; rfl)).trans v115
        have v147 : q_R d135 = q_R δ := ((show q_R d135 = q_R r105 by rw [e136]; rfl)).trans v116
        have v148 := kr_N v117 (show q_R d135 = q_R r105 by rw [e136]; rfl)
        unfold J_X12_sign_41
        have f149 := cb_12_4 i137 k_a0
        have f150 : (q_I d135 12 4 a0).toInt = ((q_I r105 12 4 a0) + (1 : Int32)).toInt := congrArg Int32.toInt (show q_I d135 12 4 a0 = ((q_I r105 12 4 a0) + (1 : Int32)) by rw [e136]; exact rI_s)
        have f151 := cb_12_5 i137 k_a0
        have f152 : (q_I d135 12 5 a0).toInt = (q_I r105 12 5 a0).toInt := congrArg Int32.toInt (by rw [e136]; exact rI_o (by decide))
        exact ok_some (show RI ad h.1 δ0 d135 ∧ (kp [(12, 4), (12, 5), (12, 6)] δ d135 ∧ q_V d135 = q_V δ ∧ q_R d135 = q_R δ ∧ kr ad [] δ d135) ∧ (q_I δ 12 4 a0).toInt ≤ (q_I d135 12 4 a0).toInt ∧ (q_I δ 12 5 a0).toInt ≤ (q_I d135 12 5 a0).toInt ∧ ((q_I d135 12 5 a0).toInt < 0 → (q_I δ 12 4 a0).toInt < (q_I d135 12 4 a0).toInt) from ⟨i137, ⟨kp_w (by decide) u145, v146, v147, kr_w (by decide) v148⟩, by first | assumption | omega, by first | assumption | omega, by first | assumption | omega⟩)
set_option maxHeartbeats 4000000 in
theorem k_X12_isMore {ad : List Nat} {h : hp} (L : Lay TLx ad h) {δ0 : dp} {N : Nat} (hN : 10000000 ≤ N) {a0 : Nat} (k_a0 : q_K h.1 a0 = 12) {δ : dp} (I : RI ad h.1 δ0 δ) : ok (D_X12_isMore N h.1 a0 δ) (fun r => RI ad h.1 δ0 r.2 ∧ (kp [(12, 4)] δ r.2 ∧ q_V r.2 = q_V δ ∧ q_R r.2 = q_R δ ∧ kr ad [] δ r.2) ∧ bo (r.1) ∧ (q_I δ 12 4 a0).toInt ≤ (q_I r.2 12 4 a0).toInt ∧ ((r.1).toInt = 1 → (q_I r.2 12 4 a0).toInt < (q_I δ 12 3 a0).toInt)) := by
  unfold D_X12_isMore
  refine ok_bind (k_X12_here L hN (a0 := a0) k_a0 I) (fun r1 hr2 => ?_)
  obtain ⟨i3, ⟨u7, u8, u9, u10⟩, p4, p5, p6⟩ := hr2
  have u11 := kp_t kp_r u7
  have v12 : q_V r1.2 = q_V δ := (u8).trans rfl
  have v13 : q_R r1.2 = q_R δ := (u9).trans rfl
  have v14 := kr_t (kr_r (ad := ad)) u10
  have f15 := cb_12_4 I k_a0
  have f16 := cb_12_4 i3 k_a0
  have f17 : hc ad r1.2 a0 = (q_R r1.2 (Ad ad 101) (q_I r1.2 12 4 a0).toNatClampNeg).toInt := rfl
  have t18 := ti_tn (q_I r1.2 12 4 a0)
  have f19 : (q_R r1.2 (Ad ad 101) (q_I r1.2 12 4 a0).toNatClampNeg).toInt = (q_R δ (Ad ad 101) (q_I r1.2 12 4 a0).toNatClampNeg).toInt := congrArg Int32.toInt (congrFun (u10 101 (by decide) (by decide) (by decide)) _)
  have f20 := ti_b (q_R δ (Ad ad 101) (q_I r1.2 12 4 a0).toNatClampNeg)
  have f21 := ti_b (q_R r1.2 (Ad ad 101) (q_I r1.2 12 4 a0).toNatClampNeg)
  have f22 := ti_b r1.1
  have f23 := cb_12_3 I k_a0
  have f24 : hc ad δ a0 = (q_R δ (Ad ad 101) (q_I δ 12 4 a0).toNatClampNeg).toInt := rfl
  have t25 := ti_tn (q_I δ 12 4 a0)
  have f26 := ti_b (q_R δ (Ad ad 101) (q_I δ 12 4 a0).toNatClampNeg)
  have f27 := ti_b r1.1
  have f28 := cb_12_3 i3 k_a0
  have f29 : (q_I r1.2 12 3 a0).toInt = (q_I δ 12 3 a0).toInt := congrArg Int32.toInt (u7 12 3 a0 (by decide))
  refine ok_ite (fun h30 => ?_) (fun h30 => ?_)
  · have c31 : (q_I r1.2 12 3 a0).toInt ≤ (q_I r1.2 12 4 a0).toInt := o_le h30
    unfold J_X12_isMore_21
    refine ok_gp (by decide) ?_
    exact ok_some (show RI ad h.1 δ0 r1.2 ∧ (kp [(12, 4)] δ r1.2 ∧ q_V r1.2 = q_V δ ∧ q_R r1.2 = q_R δ ∧ kr ad [] δ r1.2) ∧ bo ((0 : Int32)) ∧ (q_I δ 12 4 a0).toInt ≤ (q_I r1.2 12 4 a0).toInt ∧ ((0 : Int) = 1 → (q_I r1.2 12 4 a0).toInt < (q_I δ 12 3 a0).toInt) from ⟨i3, ⟨kp_w (by decide) u11, v12, v13, kr_w (by decide) v14⟩, bo_0, by first | assumption | omega, by first | assumption | omega⟩)
  · have c32 : (q_I r1.2 12 4 a0).toInt < (q_I r1.2 12 3 a0).toInt := o_nle h30
    unfold J_X12_isMore_21
    refine ok_gp (by decide) ?_
    exact ok_some (show RI ad h.1 δ0 r1.2 ∧ (kp [(12, 4)] δ r1.2 ∧ q_V r1.2 = q_V δ ∧ q_R r1.2 = q_R δ ∧ kr ad [] δ r1.2) ∧ bo ((1 : Int32)) ∧ (q_I δ 12 4 a0).toInt ≤ (q_I r1.2 12 4 a0).toInt ∧ ((1 : Int) = 1 → (q_I r1.2 12 4 a0).toInt < (q_I δ 12 3 a0).toInt) from ⟨i3, ⟨kp_w (by decide) u11, v12, v13, kr_w (by decide) v14⟩, bo_1, by first | assumption | omega, by first | assumption | omega⟩)
set_option maxHeartbeats 4000000 in
theorem k_X12_begins {ad : List Nat} {h : hp} (L : Lay TLx ad h) {δ0 : dp} {N : Nat} (hN : 10000000 ≤ N) {a0 : Nat} {x1 : Int32} (k_a0 : q_K h.1 a0 = 12) {δ : dp} (z0 : 0 ≤ (x1).toInt) (z1 : (x1).toInt ≤ 500) (I : RI ad h.1 δ0 δ) : ok (D_X12_begins N h.1 a0 x1 δ) (fun r => RI ad h.1 δ0 r ∧ (kp [(12, 2), (12, 3), (12, 4), (12, 5), (12, 7), (12, 8)] δ r ∧ q_V r = q_V δ ∧ q_R r = q_R δ ∧ kr ad [] δ r) ∧ (q_I r 12 2 a0).toInt = 0 ∧ (q_I r 12 4 a0).toInt = 0 ∧ (q_I r 12 3 a0).toInt = (x1).toInt ∧ (q_I r 12 5 a0).toInt = -1 ∧ (q_I r 12 7 a0).toInt = 0) := by
  unfold D_X12_begins
  have f1 := ti_b x1
  refine ok_bdv (fun d2 e3 => ?_)
  have i4 : RI ad h.1 δ0 d2 := by rw [e3]; exact cs_12_2 L I k_a0 (show 0 ≤ (0 : Int) by omega) (show (0 : Int) ≤ 500 by omega)
  have u5 := kp_I kp_r e3
  have v6 : q_V d2 = q_V δ := ((show q_V d2 = q_V δ by rw [e3]; rfl)).trans rfl
  have v7 : q_R d2 = q_R δ := ((show q_R d2 = q_R δ by rw [e3]; rfl)).trans rfl
  have v8 := kr_N (kr_r (ad := ad)) (show q_R d2 = q_R δ by rw [e3]; rfl)
  refine ok_bdv (fun d9 e10 => ?_)
  have i11 : RI ad h.1 δ0 d9 := by rw [e10]; exact cs_12_8 L i4
  have u12 := kp_I u5 e10
  have v13 : q_V d9 = q_V δ := ((show q_V d9 = q_V d2 by rw [e10]; rfl)).trans v6
  have v14 : q_R d9 = q_R δ := ((show q_R d9 = q_R d2 by rw [e10]; rfl)).trans v7
  have v15 := kr_N v8 (show q_R d9 = q_R d2 by rw [e10]; rfl)
  refine ok_bdv (fun d16 e17 => ?_)
  have i18 : RI ad h.1 δ0 d16 := by rw [e17]; exact cs_12_3 L i11 k_a0 (show 0 ≤ x1.toInt by omega) (show x1.toInt ≤ 500 by omega)
  have u19 := kp_I u12 e17
  have v20 : q_V d16 = q_V δ := ((show q_V d16 = q_V d9 by rw [e17]; rfl)).trans v13
  have v21 : q_R d16 = q_R δ := ((show q_R d16 = q_R d9 by rw [e17]; rfl)).trans v14
  have v22 := kr_N v15 (show q_R d16 = q_R d9 by rw [e17]; rfl)
  refine ok_bdv (fun d23 e24 => ?_)
  have i25 : RI ad h.1 δ0 d23 := by rw [e24]; exact cs_12_4 L i18 k_a0 (show 0 ≤ (0 : Int) by omega) (show (0 : Int) ≤ 500 by omega)
  have u26 := kp_I u19 e24
  have v27 : q_V d23 = q_V δ := ((show q_V d23 = q_V d16 by rw [e24]; rfl)).trans v20
  have v28 : q_R d23 = q_R δ := ((show q_R d23 = q_R d16 by rw [e24]; rfl)).trans v21
  have v29 := kr_N v22 (show q_R d23 = q_R d16 by rw [e24]; rfl)
  refine ok_bdv (fun d30 e31 => ?_)
  have i32 : RI ad h.1 δ0 d30 := by rw [e31]; exact cs_12_5 L i25 k_a0 (show -1 ≤ (-1 : Int) by omega) (show (-1 : Int) ≤ 500 by omega)
  have u33 := kp_I u26 e31
  have v34 : q_V d30 = q_V δ := ((show q_V d30 = q_V d23 by rw [e31]; rfl)).trans v27
  have v35 : q_R d30 = q_R δ := ((show q_R d30 = q_R d23 by rw [e31]; rfl)).trans v28
  have v36 := kr_N v29 (show q_R d30 = q_R d23 by rw [e31]; rfl)
  refine ok_bdv (fun d37 e38 => ?_)
  have i39 : RI ad h.1 δ0 d37 := by rw [e38]; exact cs_12_7 L i32
  have u40 := kp_I u33 e38
  have v41 : q_V d37 = q_V δ := ((show q_V d37 = q_V d30 by rw [e38]; rfl)).trans v34
  have v42 : q_R d37 = q_R δ := ((show q_R d37 = q_R d30 by rw [e38]; rfl)).trans v35
  have v43 := kr_N v36 (show q_R d37 = q_R d30 by rw [e38]; rfl)
  have f44 := cb_12_2 i39 k_a0
  have f45 : (q_I d37 12 2 a0).toInt = (q_I d30 12 2 a0).toInt := congrArg Int32.toInt (by rw [e38]; exact rI_o (by decide))
  have f46 := cb_12_2 i32 k_a0
  have f47 : (q_I d30 12 2 a0).toInt = (q_I d23 12 2 a0).toInt := congrArg Int32.toInt (by rw [e31]; exact rI_o (by decide))
  have f48 := cb_12_2 i25 k_a0
  have f49 : (q_I d23 12 2 a0).toInt = (q_I d16 12 2 a0).toInt := congrArg Int32.toInt (by rw [e24]; exact rI_o (by decide))
  have f50 := cb_12_2 i18 k_a0
  have f51 : (q_I d16 12 2 a0).toInt = (q_I d9 12 2 a0).toInt := congrArg Int32.toInt (by rw [e17]; exact rI_o (by decide))
  have f52 := cb_12_2 i11 k_a0
  have f53 : (q_I d9 12 2 a0).toInt = (q_I d2 12 2 a0).toInt := congrArg Int32.toInt (by rw [e10]; exact rI_o (by decide))
  have f54 := cb_12_2 i4 k_a0
  have f55 : (q_I d2 12 2 a0).toInt = (0 : Int) := congrArg Int32.toInt (show q_I d2 12 2 a0 = (0 : Int32) by rw [e3]; exact rI_s)
  have f56 := cb_12_4 i39 k_a0
  have f57 : (q_I d37 12 4 a0).toInt = (q_I d30 12 4 a0).toInt := congrArg Int32.toInt (by rw [e38]; exact rI_o (by decide))
  have f58 := cb_12_4 i32 k_a0
  have f59 : (q_I d30 12 4 a0).toInt = (q_I d23 12 4 a0).toInt := congrArg Int32.toInt (by rw [e31]; exact rI_o (by decide))
  have f60 := cb_12_4 i25 k_a0
  have f61 : (q_I d23 12 4 a0).toInt = (0 : Int) := congrArg Int32.toInt (show q_I d23 12 4 a0 = (0 : Int32) by rw [e24]; exact rI_s)
  have f62 := cb_12_3 i39 k_a0
  have f63 : (q_I d37 12 3 a0).toInt = (q_I d30 12 3 a0).toInt := congrArg Int32.toInt (by rw [e38]; exact rI_o (by decide))
  have f64 := cb_12_3 i32 k_a0
  have f65 : (q_I d30 12 3 a0).toInt = (q_I d23 12 3 a0).toInt := congrArg Int32.toInt (by rw [e31]; exact rI_o (by decide))
  have f66 := cb_12_3 i25 k_a0
  have f67 : (q_I d23 12 3 a0).toInt = (q_I d16 12 3 a0).toInt := congrArg Int32.toInt (by rw [e24]; exact rI_o (by decide))
  have f68 := cb_12_3 i18 k_a0
  have f69 : (q_I d16 12 3 a0).toInt = x1.toInt := congrArg Int32.toInt (show q_I d16 12 3 a0 = x1 by rw [e17]; exact rI_s)
  have f70 := cb_12_5 i39 k_a0
  have f71 : (q_I d37 12 5 a0).toInt = (q_I d30 12 5 a0).toInt := congrArg Int32.toInt (by rw [e38]; exact rI_o (by decide))
  have f72 := cb_12_5 i32 k_a0
  have f73 : (q_I d30 12 5 a0).toInt = (-1 : Int) := congrArg Int32.toInt (show q_I d30 12 5 a0 = (-1 : Int32) by rw [e31]; exact rI_s)
  have f74 := ti_b (q_I d37 12 7 a0)
  have f75 : (q_I d37 12 7 a0).toInt = (0 : Int) := congrArg Int32.toInt (show q_I d37 12 7 a0 = (0 : Int32) by rw [e38]; exact rI_s)
  exact ok_some (show RI ad h.1 δ0 d37 ∧ (kp [(12, 2), (12, 3), (12, 4), (12, 5), (12, 7), (12, 8)] δ d37 ∧ q_V d37 = q_V δ ∧ q_R d37 = q_R δ ∧ kr ad [] δ d37) ∧ (q_I d37 12 2 a0).toInt = 0 ∧ (q_I d37 12 4 a0).toInt = 0 ∧ (q_I d37 12 3 a0).toInt = (x1).toInt ∧ (q_I d37 12 5 a0).toInt = -1 ∧ (q_I d37 12 7 a0).toInt = 0 from ⟨i39, ⟨kp_w (by decide) u40, v41, v42, kr_w (by decide) v43⟩, by first | assumption | omega, by first | assumption | omega, by first | assumption | omega, by first | assumption | omega, by first | assumption | omega⟩)
set_option maxHeartbeats 4000000 in
theorem k_X12_result {ad : List Nat} {h : hp} (L : Lay TLx ad h) {δ0 : dp} {N : Nat} (hN : 10000000 ≤ N) {a0 : Nat} {x1 : Int32} (k_a0 : q_K h.1 a0 = 12) {δ : dp} (I : RI ad h.1 δ0 δ) : ok (D_X12_result N h.1 a0 x1 δ) (fun r => RI ad h.1 δ0 r.2 ∧ (kp [(12, 8)] δ r.2 ∧ q_V r.2 = q_V δ ∧ q_R r.2 = q_R δ ∧ kr ad [] δ r.2) ∧ ((q_I δ 12 5 a0).toInt < 0 ∨ (r.1).toInt ≤ -6)) := by
  unfold D_X12_result
  have f4 := cb_12_5 I k_a0
  refine ok_bdv (fun d1 e2 => ?_)
  have i3 : RI ad h.1 δ0 d1 := by rw [e2]; exact cs_12_8 L I
  have u5 := kp_I kp_r e2
  have v6 : q_V d1 = q_V δ := ((show q_V d1 = q_V δ by rw [e2]; rfl)).trans rfl
  have v7 : q_R d1 = q_R δ := ((show q_R d1 = q_R δ by rw [e2]; rfl)).trans rfl
  have v8 := kr_N (kr_r (ad := ad)) (show q_R d1 = q_R δ by rw [e2]; rfl)
  refine ok_bind (k_X12_fine L hN (a0 := a0) k_a0 i3) (fun r9 hr10 => ?_)
  obtain ⟨i11, p12, p13, p14⟩ := hr10
  try rw [i11]
  have f15 := bo_l p12
  have f16 := cb_12_5 i3 k_a0
  have f17 : (q_I d1 12 5 a0).toInt = (q_I δ 12 5 a0).toInt := congrArg Int32.toInt (by rw [e2]; exact rI_o (by decide))
  have f18 := ti_b r9.1
  have f19 := ti_b r9.1
  refine ok_ite (fun h20 => ?_) (fun h20 => ?_)
  · have c21 : r9.1.toInt = (0 : Int) := o_eq h20
    unfold J_X12_result_26
    have f22 := cb_12_6 i3 k_a0
    have f23 : (q_I d1 12 6 a0).toInt = (q_I δ 12 6 a0).toInt := congrArg Int32.toInt (by rw [e2]; exact rI_o (by decide))
    have f24 := cb_12_6 I k_a0
    first | (have q26 := te_subc (c := 10) (n := 10) rfl (q_I d1 12 6 a0) (by omega) (by omega); obtain ⟨f27, f28, f29⟩ := q26) | (obtain ⟨q26, f27, f28, f29⟩ := ti_subc (c := 10) (n := 10) rfl (q_I d1 12 6 a0))
    exact ok_some (show RI ad h.1 δ0 d1 ∧ (kp [(12, 8)] δ d1 ∧ q_V d1 = q_V δ ∧ q_R d1 = q_R δ ∧ kr ad [] δ d1) ∧ ((q_I δ 12 5 a0).toInt < 0 ∨ (((q_I d1 12 6 a0) - (10 : Int32))).toInt ≤ -6) from ⟨i3, ⟨kp_w (by decide) u5, v6, v7, kr_w (by decide) v8⟩, by first | assumption | omega⟩)
  · have c30 : r9.1.toInt ≠ (0 : Int) := o_ne h20
    unfold J_X12_result_26
    have f31 := ti_b x1
    exact ok_some (show RI ad h.1 δ0 d1 ∧ (kp [(12, 8)] δ d1 ∧ q_V d1 = q_V δ ∧ q_R d1 = q_R δ ∧ kr ad [] δ d1) ∧ ((q_I δ 12 5 a0).toInt < 0 ∨ (x1).toInt ≤ -6) from ⟨i3, ⟨kp_w (by decide) u5, v6, v7, kr_w (by decide) v8⟩, by first | assumption | omega⟩)
set_option maxHeartbeats 4000000 in
theorem k_X12_fault {ad : List Nat} {h : hp} (L : Lay TLx ad h) {δ0 : dp} {N : Nat} (hN : 10000000 ≤ N) {a0 : Nat} (k_a0 : q_K h.1 a0 = 12) {δ : dp} (I : RI ad h.1 δ0 δ) : ok (D_X12_fault N h.1 a0 δ) (fun r => RI ad h.1 δ0 r.2 ∧ (kp [(12, 0)] δ r.2 ∧ q_V r.2 = q_V δ ∧ q_R r.2 = q_R δ ∧ kr ad [] δ r.2)) := by
  unfold D_X12_fault
  refine ok_bdv (fun d1 e2 => ?_)
  have i3 : RI ad h.1 δ0 d1 := by rw [e2]; exact cs_12_0 L I
  have u4 := kp_I kp_r e2
  have v5 : q_V d1 = q_V δ := ((show q_V d1 = q_V δ by rw [e2]; rfl)).trans rfl
  have v6 : q_R d1 = q_R δ := ((show q_R d1 = q_R δ by rw [e2]; rfl)).trans rfl
  have v7 := kr_N (kr_r (ad := ad)) (show q_R d1 = q_R δ by rw [e2]; rfl)
  exact ok_some (show RI ad h.1 δ0 d1 ∧ (kp [(12, 0)] δ d1 ∧ q_V d1 = q_V δ ∧ q_R d1 = q_R δ ∧ kr ad [] δ d1) from ⟨i3, ⟨kp_w (by decide) u4, v5, v6, kr_w (by decide) v7⟩⟩)
