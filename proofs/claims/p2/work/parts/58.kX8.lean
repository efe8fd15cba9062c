/-! 58.kX8 (by gen_safe.py) -/
set_option maxHeartbeats 4000000 in
theorem k_X8_clear {ad : List Nat} {h : hp} (L : Lay TLx ad h) {δ0 : dp} {N : Nat} (hN : 10000000 ≤ N) {a0 : Nat} (k_a0 : q_K h.1 a0 = 8) {δ : dp} (I : CI ad h.1 δ0 δ) : ok (D_X8_clear N h.1 a0 δ) (fun r => CI ad h.1 δ0 r ∧ (kp [(8, 2), (8, 3)] δ r ∧ q_V r = q_V δ) ∧ (q_I r 8 2 a0).toInt = 0) := by
  unfold D_X8_clear
  have f4 := cb_8_2 I k_a0
  refine ok_bdv (fun d1 e2 => ?_)
  have i3 : CI ad h.1 δ0 d1 := by rw [e2]; exact cs_8_2 L I k_a0 (show 0 ≤ (0 : Int) by omega) (show (0 : Int) ≤ (q_I δ 8 2 a0).toInt by omega)
  have u5 := kp_I kp_r e2
  have v6 : q_V d1 = q_V δ := (show q_V d1 = q_V δ by rw [e2]; rfl).trans rfl
  refine ok_bdv (fun d7 e8 => ?_)
  have i9 : CI ad h.1 δ0 d7 := by rw [e8]; exact cs_8_3 L i3 k_a0 (show 0 ≤ (0 : Int) by omega) (show (0 : Int) ≤ 1 by omega)
  have u10 := kp_I u5 e8
  have v11 : q_V d7 = q_V δ := (show q_V d7 = q_V d1 by rw [e8]; rfl).trans v6
  have f12 := cb_8_2 i9 k_a0
  have f13 : (q_I d7 8 2 a0).toInt = (q_I d1 8 2 a0).toInt := congrArg Int32.toInt (by rw [e8]; exact rI_o (by decide))
  have f14 := cb_8_2 i3 k_a0
  have f15 : (q_I d1 8 2 a0).toInt = (0 : Int) := congrArg Int32.toInt (show q_I d1 8 2 a0 = (0 : Int32) by rw [e2]; exact rI_s)
  exact ok_some (show CI ad h.1 δ0 d7 ∧ (kp [(8, 2), (8, 3)] δ d7 ∧ q_V d7 = q_V δ) ∧ (q_I d7 8 2 a0).toInt = 0 from ⟨i9, ⟨kp_w (by decide) u10, v11⟩, by first | assumption | omega⟩)
set_option maxHeartbeats 4000000 in
theorem k_X8_add {ad : List Nat} {h : hp} (L : Lay TLx ad h) {δ0 : dp} {N : Nat} (hN : 10000000 ≤ N) {a0 : Nat} {x1 : Int32} {x2 : Int32} (k_a0 : q_K h.1 a0 = 8) {δ : dp} (z0 : 0 ≤ (x2).toInt) (z1 : (x1).toInt = 1 → (x2).toInt < 4) (z2 : (x1).toInt = 11 → (x2).toInt < 500) (I : CI ad h.1 δ0 δ) : ok (D_X8_add N h.1 a0 x1 x2 δ) (fun r => CI ad h.1 δ0 r ∧ (kp [(8, 2), (8, 3)] δ r ∧ q_V r = q_V δ) ∧ (q_I δ 8 2 a0).toInt ≤ (q_I r 8 2 a0).toInt) := by
  unfold D_X8_add
  have f1 := ti_b x2
  have f2 := ti_b x1
  have f3 := cb_8_2 I k_a0
  refine ok_ite (fun h4 => ?_) (fun h4 => ?_)
  · have c5 : (500 : Int) ≤ (q_I δ 8 2 a0).toInt := o_le h4
    unfold J_X8_add_40
    have f6 := cb_8_3 I k_a0
    refine ok_ite (fun h7 => ?_) (fun h7 => ?_)
    · have c8 : (q_I δ 8 3 a0).toInt = (0 : Int) := o_eq h7
      refine ok_ite (fun h9 => ?_) (fun h9 => ?_)
      · have c10 : x1.toInt = (4 : Int) := o_eq h9
        unfold J_X8_add_53
        unfold J_X8_add_58
        refine ok_gp (by decide) ?_
        refine ok_bdv (fun d11 e12 => ?_)
        have i13 : CI ad h.1 δ0 d11 := by rw [e12]; exact cs_8_3 L I k_a0 (show 0 ≤ (1 : Int) by omega) (show (1 : Int) ≤ 1 by omega)
        have u14 := kp_I kp_r e12
        have v15 : q_V d11 = q_V δ := (show q_V d11 = q_V δ by rw [e12]; rfl).trans rfl
        have f16 := cb_8_2 i13 k_a0
        have f17 : (q_I d11 8 2 a0).toInt = (q_I δ 8 2 a0).toInt := congrArg Int32.toInt (by rw [e12]; exact rI_o (by decide))
        exact ok_some (show CI ad h.1 δ0 d11 ∧ (kp [(8, 2), (8, 3)] δ d11 ∧ q_V d11 = q_V δ) ∧ (q_I δ 8 2 a0).toInt ≤ (q_I d11 8 2 a0).toInt from ⟨i13, ⟨kp_w (by decide) u14, v15⟩, by first | assumption | omega⟩)
      · have c18 : x1.toInt ≠ (4 : Int) := o_ne h9
        unfold J_X8_add_58
        refine ok_gp (by decide) ?_
        refine ok_bdv (fun d19 e20 => ?_)
        have i21 : CI ad h.1 δ0 d19 := by rw [e20]; exact cs_8_3 L I k_a0 (show 0 ≤ (0 : Int) by omega) (show (0 : Int) ≤ 1 by omega)
        have u22 := kp_I kp_r e20
        have v23 : q_V d19 = q_V δ := (show q_V d19 = q_V δ by rw [e20]; rfl).trans rfl
        have f24 := cb_8_2 i21 k_a0
        have f25 : (q_I d19 8 2 a0).toInt = (q_I δ 8 2 a0).toInt := congrArg Int32.toInt (by rw [e20]; exact rI_o (by decide))
        exact ok_some (show CI ad h.1 δ0 d19 ∧ (kp [(8, 2), (8, 3)] δ d19 ∧ q_V d19 = q_V δ) ∧ (q_I δ 8 2 a0).toInt ≤ (q_I d19 8 2 a0).toInt from ⟨i21, ⟨kp_w (by decide) u22, v23⟩, by first | assumption | omega⟩)
    · have c26 : (q_I δ 8 3 a0).toInt ≠ (0 : Int) := o_ne h7
      unfold J_X8_add_53
      unfold J_X8_add_58
      refine ok_gp (by decide) ?_
      refine ok_bdv (fun d27 e28 => ?_)
      have i29 : CI ad h.1 δ0 d27 := by rw [e28]; exact cs_8_3 L I k_a0 (show 0 ≤ (1 : Int) by omega) (show (1 : Int) ≤ 1 by omega)
      have u30 := kp_I kp_r e28
      have v31 : q_V d27 = q_V δ := (show q_V d27 = q_V δ by rw [e28]; rfl).trans rfl
      have f32 := cb_8_2 i29 k_a0
      have f33 : (q_I d27 8 2 a0).toInt = (q_I δ 8 2 a0).toInt := congrArg Int32.toInt (by rw [e28]; exact rI_o (by decide))
      exact ok_some (show CI ad h.1 δ0 d27 ∧ (kp [(8, 2), (8, 3)] δ d27 ∧ q_V d27 = q_V δ) ∧ (q_I δ 8 2 a0).toInt ≤ (q_I d27 8 2 a0).toInt from ⟨i29, ⟨kp_w (by decide) u30, v31⟩, by first | assumption | omega⟩)
  · have c34 : (q_I δ 8 2 a0).toInt < (500 : Int) := o_nle h4
    obtain ⟨b35, o36, k37, n38⟩ := gO_8_0 L k_a0
    refine ok_at o36 ?_
    have t39 := ti_tn (q_I δ 8 2 a0)
    refine ok_gd (fun hc40 => ?_) ?_
    · rcases hc40 with hc40 | hc40
      · have c41 : (q_I δ 8 2 a0).toInt < (0 : Int) := o_lt hc40
        omega
      · omega
    refine ok_bdv (fun d42 e43 => ?_)
    have u45 := kp_N kp_r (show q_I d42 = q_I δ by rw [e43]; rfl)
    have v46 : q_V d42 = q_V δ := (show q_V d42 = q_V δ by rw [e43]; rfl).trans rfl
    obtain ⟨b47, o48, k49, n50⟩ := gO_8_1 L k_a0
    refine ok_at o48 ?_
    have f51 : (q_I d42 8 2 a0).toInt = (q_I δ 8 2 a0).toInt := congrArg Int32.toInt (by rw [e43]; rfl)
    have t52 := ti_tn (q_I d42 8 2 a0)
    refine ok_gd (fun hc53 => ?_) ?_
    · rcases hc53 with hc53 | hc53
      · have c54 : (q_I d42 8 2 a0).toInt < (0 : Int) := o_lt hc53
        omega
      · omega
    refine ok_bdv (fun d55 e56 => ?_)
    have u58 := kp_N u45 (show q_I d55 = q_I d42 by rw [e56]; rfl)
    have v59 : q_V d55 = q_V δ := (show q_V d55 = q_V d42 by rw [e56]; rfl).trans v46
    have f63 : (q_I d55 8 2 a0).toInt = (q_I d42 8 2 a0).toInt := congrArg Int32.toInt (by rw [e56]; rfl)
    first | (have q65 := te_addc (c := 1) (n := 1) rfl (q_I d55 8 2 a0) (by omega) (by omega); obtain ⟨f66, f67, f68⟩ := q65) | (obtain ⟨q65, f66, f67, f68⟩ := ti_addc (c := 1) (n := 1) rfl (q_I d55 8 2 a0))
    refine ok_bdv (fun d60 e61 => ?_)
    have i62 : CI ad h.1 δ0 d60 := by subst e61; subst e56; subst e43; exact th_add L I k_a0 o36 o48 ⟨by first | assumption | omega, fun z => z1 (o_eq z), fun z => z2 (o_eq z)⟩ (by omega) rfl (by omega) (by omega)
    have u69 := kp_I u58 e61
    have v70 : q_V d60 = q_V δ := (show q_V d60 = q_V d55 by rw [e61]; rfl).trans v59
    unfold J_X8_add_40
    have f71 := cb_8_3 i62 k_a0
    have f72 : (q_I d60 8 3 a0).toInt = (q_I d55 8 3 a0).toInt := congrArg Int32.toInt (by rw [e61]; exact rI_o (by decide))
    have f73 : (q_I d55 8 3 a0).toInt = (q_I d42 8 3 a0).toInt := congrArg Int32.toInt (by rw [e56]; rfl)
    have f74 : (q_I d42 8 3 a0).toInt = (q_I δ 8 3 a0).toInt := congrArg Int32.toInt (by rw [e43]; rfl)
    have f75 := cb_8_3 I k_a0
    refine ok_ite (fun h76 => ?_) (fun h76 => ?_)
    · have c77 : (q_I d60 8 3 a0).toInt = (0 : Int) := o_eq h76
      refine ok_ite (fun h78 => ?_) (fun h78 => ?_)
      · have c79 : x1.toInt = (4 : Int) := o_eq h78
        unfold J_X8_add_53
        unfold J_X8_add_58
        refine ok_gp (by decide) ?_
        refine ok_bdv (fun d80 e81 => ?_)
        have i82 : CI ad h.1 δ0 d80 := by rw [e81]; exact cs_8_3 L i62 k_a0 (show 0 ≤ (1 : Int) by omega) (show (1 : Int) ≤ 1 by omega)
        have u83 := kp_I u69 e81
        have v84 : q_V d80 = q_V δ := (show q_V d80 = q_V d60 by rw [e81]; rfl).trans v70
        have f85 := cb_8_2 i82 k_a0
        have f86 : (q_I d80 8 2 a0).toInt = (q_I d60 8 2 a0).toInt := congrArg Int32.toInt (by rw [e81]; exact rI_o (by decide))
        have f87 := cb_8_2 i62 k_a0
        have f88 : (q_I d60 8 2 a0).toInt = ((q_I d55 8 2 a0) + (1 : Int32)).toInt := congrArg Int32.toInt (show q_I d60 8 2 a0 = ((q_I d55 8 2 a0) + (1 : Int32)) by rw [e61]; exact rI_s)
        exact ok_some (show CI ad h.1 δ0 d80 ∧ (kp [(8, 2), (8, 3)] δ d80 ∧ q_V d80 = q_V δ) ∧ (q_I δ 8 2 a0).toInt ≤ (q_I d80 8 2 a0).toInt from ⟨i82, ⟨kp_w (by decide) u83, v84⟩, by first | assumption | omega⟩)
      · have c89 : x1.toInt ≠ (4 : Int) := o_ne h78
        unfold J_X8_add_58
        refine ok_gp (by decide) ?_
        refine ok_bdv (fun d90 e91 => ?_)
        have i92 : CI ad h.1 δ0 d90 := by rw [e91]; exact cs_8_3 L i62 k_a0 (show 0 ≤ (0 : Int) by omega) (show (0 : Int) ≤ 1 by omega)
        have u93 := kp_I u69 e91
        have v94 : q_V d90 = q_V δ := (show q_V d90 = q_V d60 by rw [e91]; rfl).trans v70
        have f95 := cb_8_2 i92 k_a0
        have f96 : (q_I d90 8 2 a0).toInt = (q_I d60 8 2 a0).toInt := congrArg Int32.toInt (by rw [e91]; exact rI_o (by decide))
        have f97 := cb_8_2 i62 k_a0
        have f98 : (q_I d60 8 2 a0).toInt = ((q_I d55 8 2 a0) + (1 : Int32)).toInt := congrArg Int32.toInt (show q_I d60 8 2 a0 = ((q_I d55 8 2 a0) + (1 : Int32)) by rw [e61]; exact rI_s)
        exact ok_some (show CI ad h.1 δ0 d90 ∧ (kp [(8, 2), (8, 3)] δ d90 ∧ q_V d90 = q_V δ) ∧ (q_I δ 8 2 a0).toInt ≤ (q_I d90 8 2 a0).toInt from ⟨i92, ⟨kp_w (by decide) u93, v94⟩, by first | assumption | omega⟩)
    · have c99 : (q_I d60 8 3 a0).toInt ≠ (0 : Int) := o_ne h76
      unfold J_X8_add_53
      unfold J_X8_add_58
      refine ok_gp (by decide) ?_
      refine ok_bdv (fun d100 e101 => ?_)
      have i102 : CI ad h.1 δ0 d100 := by rw [e101]; exact cs_8_3 L i62 k_a0 (show 0 ≤ (1 : Int) by omega) (show (1 : Int) ≤ 1 by omega)
      have u103 := kp_I u69 e101
      have v104 : q_V d100 = q_V δ := (show q_V d100 = q_V d60 by rw [e101]; rfl).trans v70
      have f105 := cb_8_2 i102 k_a0
      have f106 : (q_I d100 8 2 a0).toInt = (q_I d60 8 2 a0).toInt := congrArg Int32.toInt (by rw [e101]; exact rI_o (by decide))
      have f107 := cb_8_2 i62 k_a0
      have f108 : (q_I d60 8 2 a0).toInt = ((q_I d55 8 2 a0) + (1 : Int32)).toInt := congrArg Int32.toInt (show q_I d60 8 2 a0 = ((q_I d55 8 2 a0) + (1 : Int32)) by rw [e61]; exact rI_s)
      exact ok_some (show CI ad h.1 δ0 d100 ∧ (kp [(8, 2), (8, 3)] δ d100 ∧ q_V d100 = q_V δ) ∧ (q_I δ 8 2 a0).toInt ≤ (q_I d100 8 2 a0).toInt from ⟨i102, ⟨kp_w (by decide) u103, v104⟩, by first | assumption | omega⟩)
