/-! 58.kX8 (by gen_safe.py) -/
set_option maxHeartbeats 4000000 in
theorem k_X8_clear {ad : List Nat} {h : hp} (L : Lay TLx ad h) {δ0 : dp} {N : Nat} (hN : 10000000 ≤ N) {a0 : Nat} (k_a0 : q_K h.1 a0 = 8) {δ : dp} (I : CI ad h.1 δ0 δ) : ok (D_X8_clear N h.1 a0 δ) (fun r => CI ad h.1 δ0 r ∧ (kp [(8, 2), (8, 3)] δ r ∧ q_V r = q_V δ ∧ q_R r = q_R δ) ∧ (q_I r 8 2 a0).toInt = 0) := by
  unfold D_X8_clear
  have f4 := cb_8_2 I k_a0
  refine ok_bdv (fun d1 e2 => ?_)
  have i3 : CI ad h.1 δ0 d1 := by rw [e2]; exact cs_8_2 L I k_a0 (show 0 ≤ (0 : Int) by omega) (show (0 : Int) ≤ (q_I δ 8 2 a0).toInt by omega)
  have u5 := kp_I kp_r e2
  have v6 : q_V d1 = q_V δ := ((show q_V d1 = q_V δ by rw [e2]; rfl)).trans rfl
  have v7 : q_R d1 = q_R δ := ((show q_R d1 = q_R δ by rw [e2]; rfl)).trans rfl
  refine ok_bdv (fun d8 e9 => ?_)
  have i10 : CI ad h.1 δ0 d8 := by rw [e9]; exact cs_8_3 L i3 k_a0 (show 0 ≤ (0 : Int) by omega) (show (0 : Int) ≤ 1 by omega)
  have u11 := kp_I u5 e9
  have v12 : q_V d8 = q_V δ := ((show q_V d8 = q_V d1 by rw [e9]; rfl)).trans v6
  have v13 : q_R d8 = q_R δ := ((show q_R d8 = q_R d1 by rw [e9]; rfl)).trans v7
  have f14 := cb_8_2 i10 k_a0
  have f15 : (q_I d8 8 2 a0).toInt = (q_I d1 8 2 a0).toInt := congrArg Int32.toInt (by rw [e9]; exact rI_o (by decide))
  have f16 := cb_8_2 i3 k_a0
  have f17 : (q_I d1 8 2 a0).toInt = (0 : Int) := congrArg Int32.toInt (show q_I d1 8 2 a0 = (0 : Int32) by rw [e2]; exact rI_s)
  exact ok_some (show CI ad h.1 δ0 d8 ∧ (kp [(8, 2), (8, 3)] δ d8 ∧ q_V d8 = q_V δ ∧ q_R d8 = q_R δ) ∧ (q_I d8 8 2 a0).toInt = 0 from ⟨i10, ⟨kp_w (by decide) u11, v12, v13⟩, by first | assumption | omega⟩)
set_option maxHeartbeats 4000000 in
theorem k_X8_add {ad : List Nat} {h : hp} (L : Lay TLx ad h) {δ0 : dp} {N : Nat} (hN : 10000000 ≤ N) {a0 : Nat} {x1 : Int32} {x2 : Int32} (k_a0 : q_K h.1 a0 = 8) {δ : dp} (z0 : 0 ≤ (x2).toInt) (z1 : (x1).toInt = 1 → (x2).toInt < 4) (z2 : (x1).toInt = 11 → (q_I δ 8 2 a0).toInt < 500 → (x2).toInt < 500) (I : CI ad h.1 δ0 δ) : ok (D_X8_add N h.1 a0 x1 x2 δ) (fun r => CI ad h.1 δ0 r ∧ (kp [(8, 2), (8, 3)] δ r ∧ q_V r = q_V δ ∧ q_R r (Ad ad 7) = q_R δ (Ad ad 7)) ∧ (q_I δ 8 2 a0).toInt ≤ (q_I r 8 2 a0).toInt) := by
  unfold D_X8_add
  have f1 := ti_b x2
  have f2 := ti_b x1
  have f3 := cb_8_2 I k_a0
  refine ok_ite (fun h4 => ?_) (fun h4 => ?_)
  · have c5 : (500 : Int) ≤ (q_I δ 8 2 a0).toInt := o_le h4
    unfold J_X8_add_40
    have f6 := cb_8_3 I k_a0
    refine ok_ite (fun h7 => ?_) (fun h7 => ?_)
    · have c8 : (q_I δ 8 3 a0).toInt = (0 : Int) := o_eq h7
      refine ok_ite (fun h9 => ?_) (fun h9 => ?_)
      · have c10 : x1.toInt = (4 : Int) := o_eq h9
        unfold J_X8_add_53
        unfold J_X8_add_58
        refine ok_gp (by decide) ?_
        refine ok_bdv (fun d11 e12 => ?_)
        have i13 : CI ad h.1 δ0 d11 := by rw [e12]; exact cs_8_3 L I k_a0 (show 0 ≤ (1 : Int) by omega) (show (1 : Int) ≤ 1 by omega)
        have u14 := kp_I kp_r e12
        have v15 : q_V d11 = q_V δ := ((show q_V d11 = q_V δ by rw [e12]; rfl)).trans rfl
        have v16 : q_R d11 (Ad ad 7) = q_R δ (Ad ad 7) := ((show q_R d11 (Ad ad 7) = q_R δ (Ad ad 7) by rw [e12]; rfl)).trans rfl
        have f17 := cb_8_2 i13 k_a0
        have f18 : (q_I d11 8 2 a0).toInt = (q_I δ 8 2 a0).toInt := congrArg Int32.toInt (by rw [e12]; exact rI_o (by decide))
        exact ok_some (show CI ad h.1 δ0 d11 ∧ (kp [(8, 2), (8, 3)] δ d11 ∧ q_V d11 = q_V δ ∧ q_R d11 (Ad ad 7) = q_R δ (Ad ad 7)) ∧ (q_I δ 8 2 a0).toInt ≤ (q_I d11 8 2 a0).toInt from ⟨i13, ⟨kp_w (by decide) u14, v15, v16⟩, by first | assumption | omega⟩)
      · have c19 : x1.toInt ≠ (4 : Int) := o_ne h9
        unfold J_X8_add_58
        refine ok_gp (by decide) ?_
        refine ok_bdv (fun d20 e21 => ?_)
        have i22 : CI ad h.1 δ0 d20 := by rw [e21]; exact cs_8_3 L I k_a0 (show 0 ≤ (0 : Int) by omega) (show (0 : Int) ≤ 1 by omega)
        have u23 := kp_I kp_r e21
        have v24 : q_V d20 = q_V δ := ((show q_V d20 = q_V δ by rw [e21]; rfl)).trans rfl
        have v25 : q_R d20 (Ad ad 7) = q_R δ (Ad ad 7) := ((show q_R d20 (Ad ad 7) = q_R δ (Ad ad 7) by rw [e21]; rfl)).trans rfl
        have f26 := cb_8_2 i22 k_a0
        have f27 : (q_I d20 8 2 a0).toInt = (q_I δ 8 2 a0).toInt := congrArg Int32.toInt (by rw [e21]; exact rI_o (by decide))
        exact ok_some (show CI ad h.1 δ0 d20 ∧ (kp [(8, 2), (8, 3)] δ d20 ∧ q_V d20 = q_V δ ∧ q_R d20 (Ad ad 7) = q_R δ (Ad ad 7)) ∧ (q_I δ 8 2 a0).toInt ≤ (q_I d20 8 2 a0).toInt from ⟨i22, ⟨kp_w (by decide) u23, v24, v25⟩, by first | assumption | omega⟩)
    · have c28 : (q_I δ 8 3 a0).toInt ≠ (0 : Int) := o_ne h7
      unfold J_X8_add_53
      unfold J_X8_add_58
      refine ok_gp (by decide) ?_
      refine ok_bdv (fun d29 e30 => ?_)
      have i31 : CI ad h.1 δ0 d29 := by rw [e30]; exact cs_8_3 L I k_a0 (show 0 ≤ (1 : Int) by omega) (show (1 : Int) ≤ 1 by omega)
      have u32 := kp_I kp_r e30
      have v33 : q_V d29 = q_V δ := ((show q_V d29 = q_V δ by rw [e30]; rfl)).trans rfl
      have v34 : q_R d29 (Ad ad 7) = q_R δ (Ad ad 7) := ((show q_R d29 (Ad ad 7) = q_R δ (Ad ad 7) by rw [e30]; rfl)).trans rfl
      have f35 := cb_8_2 i31 k_a0
      have f36 : (q_I d29 8 2 a0).toInt = (q_I δ 8 2 a0).toInt := congrArg Int32.toInt (by rw [e30]; exact rI_o (by decide))
      exact ok_some (show CI ad h.1 δ0 d29 ∧ (kp [(8, 2), (8, 3)] δ d29 ∧ q_V d29 = q_V δ ∧ q_R d29 (Ad ad 7) = q_R δ (Ad ad 7)) ∧ (q_I δ 8 2 a0).toInt ≤ (q_I d29 8 2 a0).toInt from ⟨i31, ⟨kp_w (by decide) u32, v33, v34⟩, by first | assumption | omega⟩)
  · have c37 : (q_I δ 8 2 a0).toInt < (500 : Int) := o_nle h4
    obtain ⟨b38, o39, k40, n41⟩ := gO_8_0 L k_a0
    refine ok_at o39 ?_
    have t42 := ti_tn (q_I δ 8 2 a0)
    refine ok_gd (fun hc43 => ?_) ?_
    · rcases hc43 with hc43 | hc43
      · have c44 : (q_I δ 8 2 a0).toInt < (0 : Int) := o_lt hc43
        omega
      · omega
    refine ok_bdv (fun d45 e46 => ?_)
    have u48 := kp_N kp_r (show q_I d45 = q_I δ by rw [e46]; rfl)
    have v49 : q_V d45 = q_V δ := ((show q_V d45 = q_V δ by rw [e46]; rfl)).trans rfl
    have v50 : q_R d45 (Ad ad 7) = q_R δ (Ad ad 7) := ((show q_R d45 (Ad ad 7) = q_R δ (Ad ad 7) by rw [e46]; exact rR_o (th_n7 L k_a0 o39))).trans rfl
    obtain ⟨b51, o52, k53, n54⟩ := gO_8_1 L k_a0
    refine ok_at o52 ?_
    have f55 : (q_I d45 8 2 a0).toInt = (q_I δ 8 2 a0).toInt := congrArg Int32.toInt (by rw [e46]; rfl)
    have t56 := ti_tn (q_I d45 8 2 a0)
    refine ok_gd (fun hc57 => ?_) ?_
    · rcases hc57 with hc57 | hc57
      · have c58 : (q_I d45 8 2 a0).toInt < (0 : Int) := o_lt hc57
        omega
      · omega
    refine ok_bdv (fun d59 e60 => ?_)
    have u62 := kp_N u48 (show q_I d59 = q_I d45 by rw [e60]; rfl)
    have v63 : q_V d59 = q_V δ := ((show q_V d59 = q_V d45 by rw [e60]; rfl)).trans v49
    have v64 : q_R d59 (Ad ad 7) = q_R δ (Ad ad 7) := ((show q_R d59 (Ad ad 7) = q_R d45 (Ad ad 7) by rw [e60]; exact rR_o (th_n7v L k_a0 o52))).trans v50
    have f68 : (q_I d59 8 2 a0).toInt = (q_I d45 8 2 a0).toInt := congrArg Int32.toInt (by rw [e60]; rfl)
    first | (have q70 := te_addc (c := 1) (n := 1) rfl (q_I d59 8 2 a0) (by omega) (by omega); obtain ⟨f71, f72, f73⟩ := q70) | (obtain ⟨q70, f71, f72, f73⟩ := ti_addc (c := 1) (n := 1) rfl (q_I d59 8 2 a0))
    refine ok_bdv (fun d65 e66 => ?_)
    have i67 : CI ad h.1 δ0 d65 := by subst e66; subst e60; subst e46; exact th_add L I k_a0 o39 o52 ⟨by first | assumption | omega, fun z => z1 (o_eq z), fun z => z2 (o_eq z) (by omega)⟩ (by omega) rfl (by omega) (by omega)
    have u74 := kp_I u62 e66
    have v75 : q_V d65 = q_V δ := ((show q_V d65 = q_V d59 by rw [e66]; rfl)).trans v63
    have v76 : q_R d65 (Ad ad 7) = q_R δ (Ad ad 7) := ((show q_R d65 (Ad ad 7) = q_R d59 (Ad ad 7) by rw [e66]; rfl)).trans v64
    unfold J_X8_add_40
    have f77 := cb_8_3 i67 k_a0
    have f78 : (q_I d65 8 3 a0).toInt = (q_I d59 8 3 a0).toInt := congrArg Int32.toInt (by rw [e66]; exact rI_o (by decide))
    have f79 : (q_I d59 8 3 a0).toInt = (q_I d45 8 3 a0).toInt := congrArg Int32.toInt (by rw [e60]; rfl)
    have f80 : (q_I d45 8 3 a0).toInt = (q_I δ 8 3 a0).toInt := congrArg Int32.toInt (by rw [e46]; rfl)
    have f81 := cb_8_3 I k_a0
    refine ok_ite (fun h82 => ?_) (fun h82 => ?_)
    · have c83 : (q_I d65 8 3 a0).toInt = (0 : Int) := o_eq h82
      refine ok_ite (fun h84 => ?_) (fun h84 => ?_)
      · have c85 : x1.toInt = (4 : Int) := o_eq h84
        unfold J_X8_add_53
        unfold J_X8_add_58
        refine ok_gp (by decide) ?_
        refine ok_bdv (fun d86 e87 => ?_)
        have i88 : CI ad h.1 δ0 d86 := by rw [e87]; exact cs_8_3 L i67 k_a0 (show 0 ≤ (1 : Int) by omega) (show (1 : Int) ≤ 1 by omega)
        have u89 := kp_I u74 e87
        have v90 : q_V d86 = q_V δ := ((show q_V d86 = q_V d65 by rw [e87]; rfl)).trans v75
        have v91 : q_R d86 (Ad ad 7) = q_R δ (Ad ad 7) := ((show q_R d86 (Ad ad 7) = q_R d65 (Ad ad 7) by rw [e87]; rfl)).trans v76
        have f92 := cb_8_2 i88 k_a0
        have f93 : (q_I d86 8 2 a0).toInt = (q_I d65 8 2 a0).toInt := congrArg Int32.toInt (by rw [e87]; exact rI_o (by decide))
        have f94 := cb_8_2 i67 k_a0
        have f95 : (q_I d65 8 2 a0).toInt = ((q_I d59 8 2 a0) + (1 : Int32)).toInt := congrArg Int32.toInt (show q_I d65 8 2 a0 = ((q_I d59 8 2 a0) + (1 : Int32)) by rw [e66]; exact rI_s)
        exact ok_some (show CI ad h.1 δ0 d86 ∧ (kp [(8, 2), (8, 3)] δ d86 ∧ q_V d86 = q_V δ ∧ q_R d86 (Ad ad 7) = q_R δ (Ad ad 7)) ∧ (q_I δ 8 2 a0).toInt ≤ (q_I d86 8 2 a0).toInt from ⟨i88, ⟨kp_w (by decide) u89, v90, v91⟩, by first | assumption | omega⟩)
      · have c96 : x1.toInt ≠ (4 : Int) := o_ne h84
        unfold J_X8_add_58
        refine ok_gp (by decide) ?_
        refine ok_bdv (fun d97 e98 => ?_)
        have i99 : CI ad h.1 δ0 d97 := by rw [e98]; exact cs_8_3 L i67 k_a0 (show 0 ≤ (0 : Int) by omega) (show (0 : Int) ≤ 1 by omega)
        have u100 := kp_I u74 e98
        have v101 : q_V d97 = q_V δ := ((show q_V d97 = q_V d65 by rw [e98]; rfl)).trans v75
        have v102 : q_R d97 (Ad ad 7) = q_R δ (Ad ad 7) := ((show q_R d97 (Ad ad 7) = q_R d65 (Ad ad 7) by rw [e98]; rfl)).trans v76
        have f103 := cb_8_2 i99 k_a0
        have f104 : (q_I d97 8 2 a0).toInt = (q_I d65 8 2 a0).toInt := congrArg Int32.toInt (by rw [e98]; exact rI_o (by decide))
        have f105 := cb_8_2 i67 k_a0
        have f106 : (q_I d65 8 2 a0).toInt = ((q_I d59 8 2 a0) + (1 : Int32)).toInt := congrArg Int32.toInt (show q_I d65 8 2 a0 = ((q_I d59 8 2 a0) + (1 : Int32)) by rw [e66]; exact rI_s)
        exact ok_some (show CI ad h.1 δ0 d97 ∧ (kp [(8, 2), (8, 3)] δ d97 ∧ q_V d97 = q_V δ ∧ q_R d97 (Ad ad 7) = q_R δ (Ad ad 7)) ∧ (q_I δ 8 2 a0).toInt ≤ (q_I d97 8 2 a0).toInt from ⟨i99, ⟨kp_w (by decide) u100, v101, v102⟩, by first | assumption | omega⟩)
    · have c107 : (q_I d65 8 3 a0).toInt ≠ (0 : Int) := o_ne h82
      unfold J_X8_add_53
      unfold J_X8_add_58
      refine ok_gp (by decide) ?_
      refine ok_bdv (fun d108 e109 => ?_)
      have i110 : CI ad h.1 δ0 d108 := by rw [e109]; exact cs_8_3 L i67 k_a0 (show 0 ≤ (1 : Int) by omega) (show (1 : Int) ≤ 1 by omega)
      have u111 := kp_I u74 e109
      have v112 : q_V d108 = q_V δ := ((show q_V d108 = q_V d65 by rw [e109]; rfl)).trans v75
      have v113 : q_R d108 (Ad ad 7) = q_R δ (Ad ad 7) := ((show q_R d108 (Ad ad 7) = q_R d65 (Ad ad 7) by rw [e109]; rfl)).trans v76
      have f114 := cb_8_2 i110 k_a0
      have f115 : (q_I d108 8 2 a0).toInt = (q_I d65 8 2 a0).toInt := congrArg Int32.toInt (by rw [e109]; exact rI_o (by decide))
      have f116 := cb_8_2 i67 k_a0
      have f117 : (q_I d65 8 2 a0).toInt = ((q_I d59 8 2 a0) + (1 : Int32)).toInt := congrArg Int32.toInt (show q_I d65 8 2 a0 = ((q_I d59 8 2 a0) + (1 : Int32)) by rw [e66]; exact rI_s)
      exact ok_some (show CI ad h.1 δ0 d108 ∧ (kp [(8, 2), (8, 3)] δ d108 ∧ q_V d108 = q_V δ ∧ q_R d108 (Ad ad 7) = q_R δ (Ad ad 7)) ∧ (q_I δ 8 2 a0).toInt ≤ (q_I d108 8 2 a0).toInt from ⟨i110, ⟨kp_w (by decide) u111, v112, v113⟩, by first | assumption | omega⟩)
