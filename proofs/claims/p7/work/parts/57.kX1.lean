/-! 57.kX1 (by gen_safe.py) -/
set_option maxHeartbeats 4000000 in
theorem k_X1_valueAt {ad : List Nat} {h : hp} (L : Lay TLx ad h) {δ0 : dp} {N : Nat} (hN : 10000000 ≤ N) {a0 : Nat} {x1 : Int32} {nu : Nat} (k_a0 : q_K h.1 a0 = 1) (hnu : q_O h.1 1 1 a0 = some nu) (knu : q_K h.1 nu = 3) {δ : dp} (z0 : 0 ≤ (x1).toInt) (z1 : (x1).toInt < (q_I δ 3 1 nu).toInt) (I : CI ad h.1 δ0 δ) : ok (D_X1_valueAt N h.1 a0 x1 δ) (fun r => r.2 = δ) := by
  unfold D_X1_valueAt
  have f1 := ti_b x1
  obtain ⟨b2, o3, k4, ⟨n5, n6⟩, w7⟩ := gO_3_0 L knu
  have f8 := cb_3_1 I knu o3
  have o9 := gH L k_a0 hnu o3
  refine ok_at o9 ?_
  have t10 := ti_tn x1
  refine ok_gd (fun hc11 => ?_) ?_
  · rcases hc11 with hc11 | hc11
    · have c12 : x1.toInt < (0 : Int) := o_lt hc11
      omega
    · omega
  exact ok_some (show δ = δ from rfl)
set_option maxHeartbeats 4000000 in
theorem kl_X1_firstFrom_10 {ad : List Nat} {h : hp} (L : Lay TLx ad h) {δ0 : dp} {N : Nat} (hN : 10000000 ≤ N) {a0 : Nat} {x3 : Int32} {nu : Nat} (k_a0 : q_K h.1 a0 = 1) (hnu : q_O h.1 1 1 a0 = some nu) (knu : q_K h.1 nu = 3) : ∀ (n : Nat) (x1v : Int32) (x2v : Int32) (x4v : Int32) (δ : dp), CI ad h.1 δ0 δ → 0 ≤ (x1v).toInt → (x1v).toInt ≤ (x2v).toInt → (x2v).toInt ≤ (q_I δ 3 1 nu).toInt → (x2v).toInt - (x1v).toInt < (n : Int) → ok (L_X1_firstFrom_10 N h.1 a0 x3 n x1v x2v x4v δ) (fun r => r.2 = δ ∧ (x1v).toInt ≤ (r.1).toInt ∧ (r.1).toInt ≤ (x2v).toInt) := by
  intro n
  induction n with
  | zero =>
    intro x1v x2v x4v δ I j0 j1 j2 hm
    have f1 := ti_b x1v
    have f2 := ti_b x2v
    obtain ⟨b3, o4, k5, ⟨n6, n7⟩, w8⟩ := gO_3_0 L knu
    have f9 := cb_3_1 I knu o4
    exfalso; omega
  | succ n ih =>
    intro x1v x2v x4v δ I j0 j1 j2 hm
    unfold L_X1_firstFrom_10
    have f1 := ti_b x1v
    have f2 := ti_b x2v
    obtain ⟨b3, o4, k5, ⟨n6, n7⟩, w8⟩ := gO_3_0 L knu
    have f9 := cb_3_1 I knu o4
    refine ok_ite (fun h10 => ?_) (fun h10 => ?_)
    · have c11 : x2v.toInt ≤ x1v.toInt := o_le h10
      exact ok_some (show δ = δ ∧ (x1v).toInt ≤ (x1v).toInt ∧ (x1v).toInt ≤ (x2v).toInt from ⟨rfl, by first | assumption | omega, by first | assumption | omega⟩)
    · have c12 : x1v.toInt < x2v.toInt := o_nle h10
      first | (have q16 := te_add x1v x2v (by omega) (by omega); obtain ⟨f17, f18, f19⟩ := q16) | (obtain ⟨q16, f17, f18, f19⟩ := ti_add x1v x2v)
      have f20 := ti_div (c := 2) (n := 2) rfl (by decide) (x1v + x2v)
      have f21 := ti_b ((x1v + x2v) / (2 : Int32))
      refine ok_biv (fun vx13 e14 => ?_)
      have f22 : vx13.toInt = ((x1v + x2v) / (2 : Int32)).toInt := congrArg Int32.toInt e14
      have o23 := gH L k_a0 hnu o4
      refine ok_at o23 ?_
      have t24 := ti_tn vx13
      refine ok_gd (fun hc25 => ?_) ?_
      · rcases hc25 with hc25 | hc25
        · have c26 : vx13.toInt < (0 : Int) := o_lt hc25
          omega
        · omega
      have f27 := ti_b x3
      have f28 := ti_b (((q_R δ b3 vx13.toNatClampNeg) >>> ((q_I δ 1 5 a0) &&& 31)) &&& x4v)
      refine ok_ite (fun h29 => ?_) (fun h29 => ?_)
      · have c30 : x3.toInt ≤ (((q_R δ b3 vx13.toNatClampNeg) >>> ((q_I δ 1 5 a0) &&& 31)) &&& x4v).toInt := o_le h29
        unfold J_X1_firstFrom_52
        refine ok_mono (ih x1v vx13 x4v δ I (show 0 ≤ (x1v).toInt by first | assumption | omega) (show (x1v).toInt ≤ (vx13).toInt by first | assumption | omega) (show (vx13).toInt ≤ (q_I δ 3 1 nu).toInt by first | assumption | omega) (show (vx13).toInt - (x1v).toInt < _ by omega)) (fun r31 hr32 => ?_)
        obtain ⟨i33, p34, p35⟩ := hr32
        have f36 := ti_b r31.1
        have f37 := ti_b r31.1
        exact ⟨by assumption, by first | assumption | omega, by first | assumption | omega⟩
      · have c38 : (((q_R δ b3 vx13.toNatClampNeg) >>> ((q_I δ 1 5 a0) &&& 31)) &&& x4v).toInt < x3.toInt := o_nle h29
        refine ok_biv (fun vx39 e40 => ?_)
        first | (have q41 := te_addc (c := 1) (n := 1) rfl vx13 (by omega) (by omega); rw [← e40] at q41; obtain ⟨f42, f43, f44⟩ := q41) | (obtain ⟨q41, f42, f43, f44⟩ : ∃ q : Int, vx39.toInt = vx13.toInt + (1 : Int) + 4294967296 * q ∧ -2147483648 ≤ vx39.toInt ∧ vx39.toInt ≤ 2147483647 := by rw [e40]; exact ti_addc (c := 1) (n := 1) rfl vx13)
        unfold J_X1_firstFrom_52
        refine ok_mono (ih vx39 x2v x4v δ I (show 0 ≤ (vx39).toInt by first | assumption | omega) (show (vx39).toInt ≤ (x2v).toInt by first | assumption | omega) (show (x2v).toInt ≤ (q_I δ 3 1 nu).toInt by first | assumption | omega) (show (x2v).toInt - (vx39).toInt < _ by omega)) (fun r45 hr46 => ?_)
        obtain ⟨i47, p48, p49⟩ := hr46
        have f50 := ti_b r45.1
        have f51 := ti_b r45.1
        exact ⟨by assumption, by first | assumption | omega, by first | assumption | omega⟩
set_option maxHeartbeats 4000000 in
theorem k_X1_firstFrom {ad : List Nat} {h : hp} (L : Lay TLx ad h) {δ0 : dp} {N : Nat} (hN : 10000000 ≤ N) {a0 : Nat} {x1 : Int32} {x2 : Int32} {x3 : Int32} {nu : Nat} (k_a0 : q_K h.1 a0 = 1) (hnu : q_O h.1 1 1 a0 = some nu) (knu : q_K h.1 nu = 3) {δ : dp} (z0 : 0 ≤ (x1).toInt) (z1 : (x1).toInt ≤ (x2).toInt) (z2 : (x2).toInt ≤ (q_I δ 3 1 nu).toInt) (I : CI ad h.1 δ0 δ) : ok (D_X1_firstFrom N h.1 a0 x1 x2 x3 δ) (fun r => r.2 = δ ∧ (x1).toInt ≤ (r.1).toInt ∧ (r.1).toInt ≤ (x2).toInt) := by
  unfold D_X1_firstFrom
  have f1 := ti_b x1
  have f2 := ti_b x2
  obtain ⟨b3, o4, k5, ⟨n6, n7⟩, w8⟩ := gO_3_0 L knu
  have f9 := cb_3_1 I knu o4
  have f12 := ti_b (q_I δ 1 6 a0)
  have f13 := sh_b (q_I δ 1 6 a0)
  have f14 := ti_b ((1 : Int32) <<< ((q_I δ 1 6 a0) &&& 31))
  refine ok_biv (fun vx10 e11 => ?_)
  first | (have q15 := te_subc (c := 1) (n := 1) rfl ((1 : Int32) <<< ((q_I δ 1 6 a0) &&& 31)) (by omega) (by omega); rw [← e11] at q15; obtain ⟨f16, f17, f18⟩ := q15) | (obtain ⟨q15, f16, f17, f18⟩ : ∃ q : Int, vx10.toInt = ((1 : Int32) <<< ((q_I δ 1 6 a0) &&& 31)).toInt - (1 : Int) + 4294967296 * q ∧ -2147483648 ≤ vx10.toInt ∧ vx10.toInt ≤ 2147483647 := by rw [e11]; exact ti_subc (c := 1) (n := 1) rfl ((1 : Int32) <<< ((q_I δ 1 6 a0) &&& 31)))
  refine ok_mono (kl_X1_firstFrom_10 L hN   k_a0 hnu knu _ x1 x2 vx10 δ I (show 0 ≤ (x1).toInt by first | assumption | omega) (show (x1).toInt ≤ (x2).toInt by first | assumption | omega) (show (x2).toInt ≤ (q_I δ 3 1 nu).toInt by first | assumption | omega) (show (x2).toInt - (x1).toInt < _ by omega)) (fun r19 hr20 => ?_)
  obtain ⟨i21, p22, p23⟩ := hr20
  have f24 := ti_b r19.1
  have f25 := ti_b r19.1
  exact ⟨by assumption, by first | assumption | omega, by first | assumption | omega⟩
set_option maxHeartbeats 4000000 in
theorem k_X1_look {ad : List Nat} {h : hp} (L : Lay TLx ad h) {δ0 : dp} {N : Nat} (hN : 10000000 ≤ N) {a0 : Nat} {nu : Nat} (k_a0 : q_K h.1 a0 = 1) (hnu : q_O h.1 1 1 a0 = some nu) (knu : q_K h.1 nu = 3) {δ : dp} (z0 : 0 ≤ (q_I δ 1 3 a0).toInt) (z1 : (q_I δ 1 4 a0).toInt ≤ (q_I δ 3 1 nu).toInt) (I : CI ad h.1 δ0 δ) : ok (D_X1_look N h.1 a0 δ) (fun r => CI ad h.1 δ0 r ∧ (kp [(1, 7), (1, 9), (1, 10), (1, 11), (1, 12), (1, 15)] δ r ∧ q_V r = q_V δ ∧ q_R r = q_R δ) ∧ ((q_I r 1 15 a0).toInt = 0 → 0 ≤ (q_I r 1 11 a0).toInt ∧ (q_I r 1 11 a0).toInt ≤ (q_I r 1 12 a0).toInt ∧ (q_I r 1 12 a0).toInt ≤ (q_I δ 3 1 nu).toInt)) := by
  unfold D_X1_look
  have f1 := ti_b (q_I δ 1 3 a0)
  have f2 := ti_b (q_I δ 1 4 a0)
  obtain ⟨b3, o4, k5, ⟨n6, n7⟩, w8⟩ := gO_3_0 L knu
  have f9 := cb_3_1 I knu o4
  obtain ⟨b10, o11, k12⟩ := gO_1_0 L k_a0
  refine ok_at o11 ?_
  have f13 := ti_b (q_I δ 1 6 a0)
  have f14 := cb_5_2 I k12
  refine ok_ite (fun h15 => ?_) (fun h15 => ?_)
  · have c16 : (q_I δ 1 6 a0).toInt ≤ (q_I δ 5 2 b10).toInt := o_le h15
    unfold J_X1_look_26
    unfold J_X1_look_31
    refine ok_gp (by decide) ?_
    refine ok_bdv (fun d17 e18 => ?_)
    have i19 : CI ad h.1 δ0 d17 := by rw [e18]; exact cs_1_15 L I k_a0 (show 0 ≤ (1 : Int) by omega) (show (1 : Int) ≤ 1 by omega)
    have u20 := kp_I kp_r e18
    have v21 : q_V d17 = q_V δ := ((show q_V d17 = q_V δ by rw [e18]; rfl)).trans rfl
    have v22 : q_R d17 = q_R δ := ((show q_R d17 = q_R δ by rw [e18]; rfl)).trans rfl
    have f23 := cb_1_15 i19 k_a0
    have f24 : (q_I d17 1 15 a0).toInt = (1 : Int) := congrArg Int32.toInt (show q_I d17 1 15 a0 = (1 : Int32) by rw [e18]; exact rI_s)
    refine ok_ite (fun h25 => ?_) (fun h25 => ?_)
    · have c26 : (q_I d17 1 15 a0).toInt = (0 : Int) := o_eq h25
      have f29 := ti_b (q_I d17 1 3 a0)
      have f30 : (q_I d17 1 3 a0).toInt = (q_I δ 1 3 a0).toInt := congrArg Int32.toInt (by rw [e18]; exact rI_o (by decide))
      have f31 := cb_3_1 i19 knu o4
      have f32 : (q_I d17 3 1 nu).toInt = (q_I δ 3 1 nu).toInt := congrArg Int32.toInt (by rw [e18]; exact rI_o (by decide))
      refine ok_bind (k_X1_valueAt L hN (a0 := a0) (x1 := (q_I d17 1 3 a0)) k_a0 hnu knu (show 0 ≤ ((q_I d17 1 3 a0)).toInt by first | assumption | omega) (show ((q_I d17 1 3 a0)).toInt < (q_I d17 3 1 nu).toInt by first | assumption | omega) i19) (fun r27 hr28 => ?_)
      have i33 := hr28
      try rw [i33]
      have f34 := ti_b r27.1
      refine ok_bdv (fun d35 e36 => ?_)
      have i37 : CI ad h.1 δ0 d35 := by rw [e36]; exact cs_1_9 L i19
      have u38 := kp_I u20 e36
      have v39 : q_V d35 = q_V δ := ((show q_V d35 = q_V d17 by rw [e36]; rfl)).trans v21
      have v40 : q_R d35 = q_R δ := ((show q_R d35 = q_R d17 by rw [e36]; rfl)).trans v22
      have f43 := ti_b (q_I d35 1 4 a0)
      have f44 : (q_I d35 1 4 a0).toInt = (q_I d17 1 4 a0).toInt := congrArg Int32.toInt (by rw [e36]; exact rI_o (by decide))
      have f45 := ti_b (q_I d17 1 4 a0)
      have f46 : (q_I d17 1 4 a0).toInt = (q_I δ 1 4 a0).toInt := congrArg Int32.toInt (by rw [e18]; exact rI_o (by decide))
      first | (have q48 := te_subc (c := 1) (n := 1) rfl (q_I d35 1 4 a0) (by omega) (by omega); obtain ⟨f49, f50, f51⟩ := q48) | (obtain ⟨q48, f49, f50, f51⟩ := ti_subc (c := 1) (n := 1) rfl (q_I d35 1 4 a0))
      have f52 := cb_3_1 i37 knu o4
      have f53 : (q_I d35 3 1 nu).toInt = (q_I d17 3 1 nu).toInt := congrArg Int32.toInt (by rw [e36]; exact rI_o (by decide))
      refine ok_bind (k_X1_valueAt L hN (a0 := a0) (x1 := ((q_I d35 1 4 a0) - (1 : Int32))) k_a0 hnu knu (show 0 ≤ (((q_I d35 1 4 a0) - (1 : Int32))).toInt by first | assumption | omega) (show (((q_I d35 1 4 a0) - (1 : Int32))).toInt < (q_I d35 3 1 nu).toInt by first | assumption | omega) i37) (fun r41 hr42 => ?_)
      have i54 := hr42
      try rw [i54]
      have f55 := ti_b r41.1
      refine ok_bdv (fun d56 e57 => ?_)
      have i58 : CI ad h.1 δ0 d56 := by rw [e57]; exact cs_1_10 L i37
      have u59 := kp_I u38 e57
      have v60 : q_V d56 = q_V δ := ((show q_V d56 = q_V d35 by rw [e57]; rfl)).trans v39
      have v61 : q_R d56 = q_R δ := ((show q_R d56 = q_R d35 by rw [e57]; rfl)).trans v40
      have f62 := ti_b (q_I d56 1 9 a0)
      have f63 : (q_I d56 1 9 a0).toInt = (q_I d35 1 9 a0).toInt := congrArg Int32.toInt (by rw [e57]; exact rI_o (by decide))
      have f64 := ti_b (q_I d35 1 9 a0)
      have f65 : (q_I d35 1 9 a0).toInt = r27.1.toInt := congrArg Int32.toInt (show q_I d35 1 9 a0 = r27.1 by rw [e36]; exact rI_s)
      have f66 := ti_b (q_I d56 1 10 a0)
      have f67 : (q_I d56 1 10 a0).toInt = r41.1.toInt := congrArg Int32.toInt (show q_I d56 1 10 a0 = r41.1 by rw [e57]; exact rI_s)
      refine ok_ite (fun h68 => ?_) (fun h68 => ?_)
      · have c69 : (q_I d56 1 9 a0).toInt = (q_I d56 1 10 a0).toInt := o_eq h68
        unfold J_X1_look_85
        refine ok_gp (by decide) ?_
        refine ok_bdv (fun d70 e71 => ?_)
        have i72 : CI ad h.1 δ0 d70 := by rw [e71]; exact cs_1_15 L i58 k_a0 (show 0 ≤ (1 : Int) by omega) (show (1 : Int) ≤ 1 by omega)
        have u73 := kp_I u59 e71
        have v74 : q_V d70 = q_V δ := ((show q_V d70 = q_V d56 by rw [e71]; rfl)).trans v60
        have v75 : q_R d70 = q_R δ := ((show q_R d70 = q_R d56 by rw [e71]; rfl)).trans v61
        have f76 := cb_1_15 i72 k_a0
        have f77 : (q_I d70 1 15 a0).toInt = (1 : Int) := congrArg Int32.toInt (show q_I d70 1 15 a0 = (1 : Int32) by rw [e71]; exact rI_s)
        refine ok_ite (fun h78 => ?_) (fun h78 => ?_)
        · have c79 : (q_I d70 1 15 a0).toInt = (0 : Int) := o_eq h78
          refine ok_at o11 ?_
          refine ok_bind (k_X5_lowerBits L hN (a0 := b10) (x1 := (q_I d70 1 6 a0)) k12 i72) (fun r80 hr81 => ?_)
          obtain ⟨i82, p83⟩ := hr81
          try rw [i82]
          have f84 := ti_b (q_I d70 1 6 a0)
          have f85 : (q_I d70 1 6 a0).toInt = (q_I d56 1 6 a0).toInt := congrArg Int32.toInt (by rw [e71]; exact rI_o (by decide))
          have f86 := ti_b (q_I d56 1 6 a0)
          have f87 : (q_I d56 1 6 a0).toInt = (q_I d35 1 6 a0).toInt := congrArg Int32.toInt (by rw [e57]; exact rI_o (by decide))
          have f88 := ti_b (q_I d35 1 6 a0)
          have f89 : (q_I d35 1 6 a0).toInt = (q_I d17 1 6 a0).toInt := congrArg Int32.toInt (by rw [e36]; exact rI_o (by decide))
          have f90 := ti_b (q_I d17 1 6 a0)
          have f91 : (q_I d17 1 6 a0).toInt = (q_I δ 1 6 a0).toInt := congrArg Int32.toInt (by rw [e18]; exact rI_o (by decide))
          have f92 := ti_b r80.1
          have f93 := ti_b r80.1
          refine ok_bdv (fun d94 e95 => ?_)
          have i96 : CI ad h.1 δ0 d94 := by rw [e95]; exact cs_1_7 L i72
          have u97 := kp_I u73 e95
          have v98 : q_V d94 = q_V δ := ((show q_V d94 = q_V d70 by rw [e95]; rfl)).trans v74
          have v99 : q_R d94 = q_R δ := ((show q_R d94 = q_R d70 by rw [e95]; rfl)).trans v75
          have f102 := ti_b (q_I d94 1 3 a0)
          have f103 : (q_I d94 1 3 a0).toInt = (q_I d70 1 3 a0).toInt := congrArg Int32.toInt (by rw [e95]; exact rI_o (by decide))
          have f104 := ti_b (q_I d70 1 3 a0)
          have f105 : (q_I d70 1 3 a0).toInt = (q_I d56 1 3 a0).toInt := congrArg Int32.toInt (by rw [e71]; exact rI_o (by decide))
          have f106 := ti_b (q_I d56 1 3 a0)
          have f107 : (q_I d56 1 3 a0).toInt = (q_I d35 1 3 a0).toInt := congrArg Int32.toInt (by rw [e57]; exact rI_o (by decide))
          have f108 := ti_b (q_I d35 1 3 a0)
          have f109 : (q_I d35 1 3 a0).toInt = (q_I d17 1 3 a0).toInt := congrArg Int32.toInt (by rw [e36]; exact rI_o (by decide))
          first | (have q111 := te_addc (c := 1) (n := 1) rfl (q_I d94 1 3 a0) (by omega) (by omega); obtain ⟨f112, f113, f114⟩ := q111) | (obtain ⟨q111, f112, f113, f114⟩ := ti_addc (c := 1) (n := 1) rfl (q_I d94 1 3 a0))
          have f115 := ti_b (q_I d94 1 4 a0)
          have f116 : (q_I d94 1 4 a0).toInt = (q_I d70 1 4 a0).toInt := congrArg Int32.toInt (by rw [e95]; exact rI_o (by decide))
          have f117 := ti_b (q_I d70 1 4 a0)
          have f118 : (q_I d70 1 4 a0).toInt = (q_I d56 1 4 a0).toInt := congrArg Int32.toInt (by rw [e71]; exact rI_o (by decide))
          have f119 := ti_b (q_I d56 1 4 a0)
          have f120 : (q_I d56 1 4 a0).toInt = (q_I d35 1 4 a0).toInt := congrArg Int32.toInt (by rw [e57]; exact rI_o (by decide))
          have f121 := cb_3_1 i96 knu o4
          have f122 : (q_I d94 3 1 nu).toInt = (q_I d70 3 1 nu).toInt := congrArg Int32.toInt (by rw [e95]; exact rI_o (by decide))
          have f123 := cb_3_1 i72 knu o4
          have f124 : (q_I d70 3 1 nu).toInt = (q_I d56 3 1 nu).toInt := congrArg Int32.toInt (by rw [e71]; exact rI_o (by decide))
          have f125 := cb_3_1 i58 knu o4
          have f126 : (q_I d56 3 1 nu).toInt = (q_I d35 3 1 nu).toInt := congrArg Int32.toInt (by rw [e57]; exact rI_o (by decide))
          refine ok_bind (k_X1_firstFrom L hN (a0 := a0) (x1 := ((q_I d94 1 3 a0) + (1 : Int32))) (x2 := (q_I d94 1 4 a0)) (x3 := ((q_I d94 1 9 a0) + (1 : Int32))) k_a0 hnu knu (show 0 ≤ (((q_I d94 1 3 a0) + (1 : Int32))).toInt by first | assumption | omega) (show (((q_I d94 1 3 a0) + (1 : Int32))).toInt ≤ ((q_I d94 1 4 a0)).toInt by first | assumption | omega) (show ((q_I d94 1 4 a0)).toInt ≤ (q_I d94 3 1 nu).toInt by first | assumption | omega) i96) (fun r100 hr101 => ?_)
          obtain ⟨i127, p128, p129⟩ := hr101
          try rw [i127]
          have f130 := ti_b r100.1
          have f131 := ti_b r100.1
          refine ok_bdv (fun d132 e133 => ?_)
          have i134 : CI ad h.1 δ0 d132 := by rw [e133]; exact cs_1_11 L i96
          have u135 := kp_I u97 e133
          have v136 : q_V d132 = q_V δ := ((show q_V d132 = q_V d94 by rw [e133]; rfl)).trans v98
          have v137 : q_R d132 = q_R δ := ((show q_R d132 = q_R d94 by rw [e133]; rfl)).trans v99
          have f140 := ti_b (q_I d132 1 11 a0)
          have f141 : (q_I d132 1 11 a0).toInt = r100.1.toInt := congrArg Int32.toInt (show q_I d132 1 11 a0 = r100.1 by rw [e133]; exact rI_s)
          have f142 := ti_b (q_I d132 1 4 a0)
          have f143 : (q_I d132 1 4 a0).toInt = (q_I d94 1 4 a0).toInt := congrArg Int32.toInt (by rw [e133]; exact rI_o (by decide))
          have f144 := cb_3_1 i134 knu o4
          have f145 : (q_I d132 3 1 nu).toInt = (q_I d94 3 1 nu).toInt := congrArg Int32.toInt (by rw [e133]; exact rI_o (by decide))
          refine ok_bind (k_X1_firstFrom L hN (a0 := a0) (x1 := (q_I d132 1 11 a0)) (x2 := (q_I d132 1 4 a0)) (x3 := (q_I d132 1 10 a0)) k_a0 hnu knu (show 0 ≤ ((q_I d132 1 11 a0)).toInt by first | assumption | omega) (show ((q_I d132 1 11 a0)).toInt ≤ ((q_I d132 1 4 a0)).toInt by first | assumption | omega) (show ((q_I d132 1 4 a0)).toInt ≤ (q_I d132 3 1 nu).toInt by first | assumption | omega) i134) (fun r138 hr139 => ?_)
          obtain ⟨i146, p147, p148⟩ := hr139
          try rw [i146]
          have f149 := ti_b r138.1
          have f150 := ti_b r138.1
          refine ok_bdv (fun d151 e152 => ?_)
          have i153 : CI ad h.1 δ0 d151 := by rw [e152]; exact cs_1_12 L i134
          have u154 := kp_I u135 e152
          have v155 : q_V d151 = q_V δ := ((show q_V d151 = q_V d132 by rw [e152]; rfl)).trans v136
          have v156 : q_R d151 = q_R δ := ((show q_R d151 = q_R d132 by rw [e152]; rfl)).trans v137
          unfold J_X1_look_154
          have f157 := cb_1_15 i153 k_a0
          have f158 : (q_I d151 1 15 a0).toInt = (q_I d132 1 15 a0).toInt := congrArg Int32.toInt (by rw [e152]; exact rI_o (by decide))
          have f159 := cb_1_15 i134 k_a0
          have f160 : (q_I d132 1 15 a0).toInt = (q_I d94 1 15 a0).toInt := congrArg Int32.toInt (by rw [e133]; exact rI_o (by decide))
          have f161 := cb_1_15 i96 k_a0
          have f162 : (q_I d94 1 15 a0).toInt = (q_I d70 1 15 a0).toInt := congrArg Int32.toInt (by rw [e95]; exact rI_o (by decide))
          have f163 := ti_b (q_I d151 1 11 a0)
          have f164 : (q_I d151 1 11 a0).toInt = (q_I d132 1 11 a0).toInt := congrArg Int32.toInt (by rw [e152]; exact rI_o (by decide))
          have f165 := ti_b (q_I d151 1 12 a0)
          have f166 : (q_I d151 1 12 a0).toInt = r138.1.toInt := congrArg Int32.toInt (show q_I d151 1 12 a0 = r138.1 by rw [e152]; exact rI_s)
          exact ok_some (show CI ad h.1 δ0 d151 ∧ (kp [(1, 7), (1, 9), (1, 10), (1, 11), (1, 12), (1, 15)] δ d151 ∧ q_V d151 = q_V δ ∧ q_R d151 = q_R δ) ∧ ((q_I d151 1 15 a0).toInt = 0 → 0 ≤ (q_I d151 1 11 a0).toInt ∧ (q_I d151 1 11 a0).toInt ≤ (q_I d151 1 12 a0).toInt ∧ (q_I d151 1 12 a0).toInt ≤ (q_I δ 3 1 nu).toInt) from ⟨i153, ⟨kp_w (by decide) u154, v155, v156⟩, by first | assumption | omega⟩)
        · have c167 : (q_I d70 1 15 a0).toInt ≠ (0 : Int) := o_ne h78
          unfold J_X1_look_154
          have f168 := ti_b (q_I d70 1 11 a0)
          have f169 : (q_I d70 1 11 a0).toInt = (q_I d56 1 11 a0).toInt := congrArg Int32.toInt (by rw [e71]; exact rI_o (by decide))
          have f170 := ti_b (q_I d56 1 11 a0)
          have f171 : (q_I d56 1 11 a0).toInt = (q_I d35 1 11 a0).toInt := congrArg Int32.toInt (by rw [e57]; exact rI_o (by decide))
          have f172 := ti_b (q_I d35 1 11 a0)
          have f173 : (q_I d35 1 11 a0).toInt = (q_I d17 1 11 a0).toInt := congrArg Int32.toInt (by rw [e36]; exact rI_o (by decide))
          have f174 := ti_b (q_I d17 1 11 a0)
          have f175 : (q_I d17 1 11 a0).toInt = (q_I δ 1 11 a0).toInt := congrArg Int32.toInt (by rw [e18]; exact rI_o (by decide))
          have f176 := ti_b (q_I δ 1 11 a0)
          have f177 := ti_b (q_I d70 1 12 a0)
          have f178 : (q_I d70 1 12 a0).toInt = (q_I d56 1 12 a0).toInt := congrArg Int32.toInt (by rw [e71]; exact rI_o (by decide))
          have f179 := ti_b (q_I d56 1 12 a0)
          have f180 : (q_I d56 1 12 a0).toInt = (q_I d35 1 12 a0).toInt := congrArg Int32.toInt (by rw [e57]; exact rI_o (by decide))
          have f181 := ti_b (q_I d35 1 12 a0)
          have f182 : (q_I d35 1 12 a0).toInt = (q_I d17 1 12 a0).toInt := congrArg Int32.toInt (by rw [e36]; exact rI_o (by decide))
          have f183 := ti_b (q_I d17 1 12 a0)
          have f184 : (q_I d17 1 12 a0).toInt = (q_I δ 1 12 a0).toInt := congrArg Int32.toInt (by rw [e18]; exact rI_o (by decide))
          have f185 := ti_b (q_I δ 1 12 a0)
          exact ok_some (show CI ad h.1 δ0 d70 ∧ (kp [(1, 7), (1, 9), (1, 10), (1, 11), (1, 12), (1, 15)] δ d70 ∧ q_V d70 = q_V δ ∧ q_R d70 = q_R δ) ∧ ((q_I d70 1 15 a0).toInt = 0 → 0 ≤ (q_I d70 1 11 a0).toInt ∧ (q_I d70 1 11 a0).toInt ≤ (q_I d70 1 12 a0).toInt ∧ (q_I d70 1 12 a0).toInt ≤ (q_I δ 3 1 nu).toInt) from ⟨i72, ⟨kp_w (by decide) u73, v74, v75⟩, by first | assumption | omega⟩)
      · have c186 : (q_I d56 1 9 a0).toInt ≠ (q_I d56 1 10 a0).toInt := o_ne h68
        unfold J_X1_look_85
        refine ok_gp (by decide) ?_
        refine ok_bdv (fun d187 e188 => ?_)
        have i189 : CI ad h.1 δ0 d187 := by rw [e188]; exact cs_1_15 L i58 k_a0 (show 0 ≤ (0 : Int) by omega) (show (0 : Int) ≤ 1 by omega)
        have u190 := kp_I u59 e188
        have v191 : q_V d187 = q_V δ := ((show q_V d187 = q_V d56 by rw [e188]; rfl)).trans v60
        have v192 : q_R d187 = q_R δ := ((show q_R d187 = q_R d56 by rw [e188]; rfl)).trans v61
        have f193 := cb_1_15 i189 k_a0
        have f194 : (q_I d187 1 15 a0).toInt = (0 : Int) := congrArg Int32.toInt (show q_I d187 1 15 a0 = (0 : Int32) by rw [e188]; exact rI_s)
        refine ok_ite (fun h195 => ?_) (fun h195 => ?_)
        · have c196 : (q_I d187 1 15 a0).toInt = (0 : Int) := o_eq h195
          refine ok_at o11 ?_
          refine ok_bind (k_X5_lowerBits L hN (a0 := b10) (x1 := (q_I d187 1 6 a0)) k12 i189) (fun r197 hr198 => ?_)
          obtain ⟨i199, p200⟩ := hr198
          try rw [i199]
          have f201 := ti_b (q_I d187 1 6 a0)
          have f202 : (q_I d187 1 6 a0).toInt = (q_I d56 1 6 a0).toInt := congrArg Int32.toInt (by rw [e188]; exact rI_o (by decide))
          have f203 := ti_b (q_I d56 1 6 a0)
          have f204 : (q_I d56 1 6 a0).toInt = (q_I d35 1 6 a0).toInt := congrArg Int32.toInt (by rw [e57]; exact rI_o (by decide))
          have f205 := ti_b (q_I d35 1 6 a0)
          have f206 : (q_I d35 1 6 a0).toInt = (q_I d17 1 6 a0).toInt := congrArg Int32.toInt (by rw [e36]; exact rI_o (by decide))
          have f207 := ti_b (q_I d17 1 6 a0)
          have f208 : (q_I d17 1 6 a0).toInt = (q_I δ 1 6 a0).toInt := congrArg Int32.toInt (by rw [e18]; exact rI_o (by decide))
          have f209 := ti_b r197.1
          have f210 := ti_b r197.1
          refine ok_bdv (fun d211 e212 => ?_)
          have i213 : CI ad h.1 δ0 d211 := by rw [e212]; exact cs_1_7 L i189
          have u214 := kp_I u190 e212
          have v215 : q_V d211 = q_V δ := ((show q_V d211 = q_V d187 by rw [e212]; rfl)).trans v191
          have v216 : q_R d211 = q_R δ := ((show q_R d211 = q_R d187 by rw [e212]; rfl)).trans v192
          have f219 := ti_b (q_I d211 1 3 a0)
          have f220 : (q_I d211 1 3 a0).toInt = (q_I d187 1 3 a0).toInt := congrArg Int32.toInt (by rw [e212]; exact rI_o (by decide))
          have f221 := ti_b (q_I d187 1 3 a0)
          have f222 : (q_I d187 1 3 a0).toInt = (q_I d56 1 3 a0).toInt := congrArg Int32.toInt (by rw [e188]; exact rI_o (by decide))
          have f223 := ti_b (q_I d56 1 3 a0)
          have f224 : (q_I d56 1 3 a0).toInt = (q_I d35 1 3 a0).toInt := congrArg Int32.toInt (by rw [e57]; exact rI_o (by decide))
          have f225 := ti_b (q_I d35 1 3 a0)
          have f226 : (q_I d35 1 3 a0).toInt = (q_I d17 1 3 a0).toInt := congrArg Int32.toInt (by rw [e36]; exact rI_o (by decide))
          first | (have q228 := te_addc (c := 1) (n := 1) rfl (q_I d211 1 3 a0) (by omega) (by omega); obtain ⟨f229, f230, f231⟩ := q228) | (obtain ⟨q228, f229, f230, f231⟩ := ti_addc (c := 1) (n := 1) rfl (q_I d211 1 3 a0))
          have f232 := ti_b (q_I d211 1 4 a0)
          have f233 : (q_I d211 1 4 a0).toInt = (q_I d187 1 4 a0).toInt := congrArg Int32.toInt (by rw [e212]; exact rI_o (by decide))
          have f234 := ti_b (q_I d187 1 4 a0)
          have f235 : (q_I d187 1 4 a0).toInt = (q_I d56 1 4 a0).toInt := congrArg Int32.toInt (by rw [e188]; exact rI_o (by decide))
          have f236 := ti_b (q_I d56 1 4 a0)
          have f237 : (q_I d56 1 4 a0).toInt = (q_I d35 1 4 a0).toInt := congrArg Int32.toInt (by rw [e57]; exact rI_o (by decide))
          have f238 := cb_3_1 i213 knu o4
          have f239 : (q_I d211 3 1 nu).toInt = (q_I d187 3 1 nu).toInt := congrArg Int32.toInt (by rw [e212]; exact rI_o (by decide))
          have f240 := cb_3_1 i189 knu o4
          have f241 : (q_I d187 3 1 nu).toInt = (q_I d56 3 1 nu).toInt := congrArg Int32.toInt (by rw [e188]; exact rI_o (by decide))
          have f242 := cb_3_1 i58 knu o4
          have f243 : (q_I d56 3 1 nu).toInt = (q_I d35 3 1 nu).toInt := congrArg Int32.toInt (by rw [e57]; exact rI_o (by decide))
          refine ok_bind (k_X1_firstFrom L hN (a0 := a0) (x1 := ((q_I d211 1 3 a0) + (1 : Int32))) (x2 := (q_I d211 1 4 a0)) (x3 := ((q_I d211 1 9 a0) + (1 : Int32))) k_a0 hnu knu (show 0 ≤ (((q_I d211 1 3 a0) + (1 : Int32))).toInt by first | assumption | omega) (show (((q_I d211 1 3 a0) + (1 : Int32))).toInt ≤ ((q_I d211 1 4 a0)).toInt by first | assumption | omega) (show ((q_I d211 1 4 a0)).toInt ≤ (q_I d211 3 1 nu).toInt by first | assumption | omega) i213) (fun r217 hr218 => ?_)
          obtain ⟨i244, p245, p246⟩ := hr218
          try rw [i244]
          have f247 := ti_b r217.1
          have f248 := ti_b r217.1
          refine ok_bdv (fun d249 e250 => ?_)
          have i251 : CI ad h.1 δ0 d249 := by rw [e250]; exact cs_1_11 L i213
          have u252 := kp_I u214 e250
          have v253 : q_V d249 = q_V δ := ((show q_V d249 = q_V d211 by rw [e250]; rfl)).trans v215
          have v254 : q_R d249 = q_R δ := ((show q_R d249 = q_R d211 by rw [e250]; rfl)).trans v216
          have f257 := ti_b (q_I d249 1 11 a0)
          have f258 : (q_I d249 1 11 a0).toInt = r217.1.toInt := congrArg Int32.toInt (show q_I d249 1 11 a0 = r217.1 by rw [e250]; exact rI_s)
          have f259 := ti_b (q_I d249 1 4 a0)
          have f260 : (q_I d249 1 4 a0).toInt = (q_I d211 1 4 a0).toInt := congrArg Int32.toInt (by rw [e250]; exact rI_o (by decide))
          have f261 := cb_3_1 i251 knu o4
          have f262 : (q_I d249 3 1 nu).toInt = (q_I d211 3 1 nu).toInt := congrArg Int32.toInt (by rw [e250]; exact rI_o (by decide))
          refine ok_bind (k_X1_firstFrom L hN (a0 := a0) (x1 := (q_I d249 1 11 a0)) (x2 := (q_I d249 1 4 a0)) (x3 := (q_I d249 1 10 a0)) k_a0 hnu knu (show 0 ≤ ((q_I d249 1 11 a0)).toInt by first | assumption | omega) (show ((q_I d249 1 11 a0)).toInt ≤ ((q_I d249 1 4 a0)).toInt by first | assumption | omega) (show ((q_I d249 1 4 a0)).toInt ≤ (q_I d249 3 1 nu).toInt by first | assumption | omega) i251) (fun r255 hr256 => ?_)
          obtain ⟨i263, p264, p265⟩ := hr256
          try rw [i263]
          have f266 := ti_b r255.1
          have f267 := ti_b r255.1
          refine ok_bdv (fun d268 e269 => ?_)
          have i270 : CI ad h.1 δ0 d268 := by rw [e269]; exact cs_1_12 L i251
          have u271 := kp_I u252 e269
          have v272 : q_V d268 = q_V δ := ((show q_V d268 = q_V d249 by rw [e269]; rfl)).trans v253
          have v273 : q_R d268 = q_R δ := ((show q_R d268 = q_R d249 by rw [e269]; rfl)).trans v254
          unfold J_X1_look_154
          have f274 := cb_1_15 i270 k_a0
          have f275 : (q_I d268 1 15 a0).toInt = (q_I d249 1 15 a0).toInt := congrArg Int32.toInt (by rw [e269]; exact rI_o (by decide))
          have f276 := cb_1_15 i251 k_a0
          have f277 : (q_I d249 1 15 a0).toInt = (q_I d211 1 15 a0).toInt := congrArg Int32.toInt (by rw [e250]; exact rI_o (by decide))
          have f278 := cb_1_15 i213 k_a0
          have f279 : (q_I d211 1 15 a0).toInt = (q_I d187 1 15 a0).toInt := congrArg Int32.toInt (by rw [e212]; exact rI_o (by decide))
          have f280 := ti_b (q_I d268 1 11 a0)
          have f281 : (q_I d268 1 11 a0).toInt = (q_I d249 1 11 a0).toInt := congrArg Int32.toInt (by rw [e269]; exact rI_o (by decide))
          have f282 := ti_b (q_I d268 1 12 a0)
          have f283 : (q_I d268 1 12 a0).toInt = r255.1.toInt := congrArg Int32.toInt (show q_I d268 1 12 a0 = r255.1 by rw [e269]; exact rI_s)
          exact ok_some (show CI ad h.1 δ0 d268 ∧ (kp [(1, 7), (1, 9), (1, 10), (1, 11), (1, 12), (1, 15)] δ d268 ∧ q_V d268 = q_V δ ∧ q_R d268 = q_R δ) ∧ ((q_I d268 1 15 a0).toInt = 0 → 0 ≤ (q_I d268 1 11 a0).toInt ∧ (q_I d268 1 11 a0).toInt ≤ (q_I d268 1 12 a0).toInt ∧ (q_I d268 1 12 a0).toInt ≤ (q_I δ 3 1 nu).toInt) from ⟨i270, ⟨kp_w (by decide) u271, v272, v273⟩, by first | assumption | omega⟩)
        · have c284 : (q_I d187 1 15 a0).toInt ≠ (0 : Int) := o_ne h195
          unfold J_X1_look_154
          have f285 := ti_b (q_I d187 1 11 a0)
          have f286 : (q_I d187 1 11 a0).toInt = (q_I d56 1 11 a0).toInt := congrArg Int32.toInt (by rw [e188]; exact rI_o (by decide))
          have f287 := ti_b (q_I d56 1 11 a0)
          have f288 : (q_I d56 1 11 a0).toInt = (q_I d35 1 11 a0).toInt := congrArg Int32.toInt (by rw [e57]; exact rI_o (by decide))
          have f289 := ti_b (q_I d35 1 11 a0)
          have f290 : (q_I d35 1 11 a0).toInt = (q_I d17 1 11 a0).toInt := congrArg Int32.toInt (by rw [e36]; exact rI_o (by decide))
          have f291 := ti_b (q_I d17 1 11 a0)
          have f292 : (q_I d17 1 11 a0).toInt = (q_I δ 1 11 a0).toInt := congrArg Int32.toInt (by rw [e18]; exact rI_o (by decide))
          have f293 := ti_b (q_I δ 1 11 a0)
          have f294 := ti_b (q_I d187 1 12 a0)
          have f295 : (q_I d187 1 12 a0).toInt = (q_I d56 1 12 a0).toInt := congrArg Int32.toInt (by rw [e188]; exact rI_o (by decide))
          have f296 := ti_b (q_I d56 1 12 a0)
          have f297 : (q_I d56 1 12 a0).toInt = (q_I d35 1 12 a0).toInt := congrArg Int32.toInt (by rw [e57]; exact rI_o (by decide))
          have f298 := ti_b (q_I d35 1 12 a0)
          have f299 : (q_I d35 1 12 a0).toInt = (q_I d17 1 12 a0).toInt := congrArg Int32.toInt (by rw [e36]; exact rI_o (by decide))
          have f300 := ti_b (q_I d17 1 12 a0)
          have f301 : (q_I d17 1 12 a0).toInt = (q_I δ 1 12 a0).toInt := congrArg Int32.toInt (by rw [e18]; exact rI_o (by decide))
          have f302 := ti_b (q_I δ 1 12 a0)
          exact ok_some (show CI ad h.1 δ0 d187 ∧ (kp [(1, 7), (1, 9), (1, 10), (1, 11), (1, 12), (1, 15)] δ d187 ∧ q_V d187 = q_V δ ∧ q_R d187 = q_R δ) ∧ ((q_I d187 1 15 a0).toInt = 0 → 0 ≤ (q_I d187 1 11 a0).toInt ∧ (q_I d187 1 11 a0).toInt ≤ (q_I d187 1 12 a0).toInt ∧ (q_I d187 1 12 a0).toInt ≤ (q_I δ 3 1 nu).toInt) from ⟨i189, ⟨kp_w (by decide) u190, v191, v192⟩, by first | assumption | omega⟩)
    · have c303 : (q_I d17 1 15 a0).toInt ≠ (0 : Int) := o_ne h25
      have f304 := ti_b (q_I d17 1 11 a0)
      have f305 : (q_I d17 1 11 a0).toInt = (q_I δ 1 11 a0).toInt := congrArg Int32.toInt (by rw [e18]; exact rI_o (by decide))
      have f306 := ti_b (q_I δ 1 11 a0)
      have f307 := ti_b (q_I d17 1 12 a0)
      have f308 : (q_I d17 1 12 a0).toInt = (q_I δ 1 12 a0).toInt := congrArg Int32.toInt (by rw [e18]; exact rI_o (by decide))
      have f309 := ti_b (q_I δ 1 12 a0)
      exact ok_some (show CI ad h.1 δ0 d17 ∧ (kp [(1, 7), (1, 9), (1, 10), (1, 11), (1, 12), (1, 15)] δ d17 ∧ q_V d17 = q_V δ ∧ q_R d17 = q_R δ) ∧ ((q_I d17 1 15 a0).toInt = 0 → 0 ≤ (q_I d17 1 11 a0).toInt ∧ (q_I d17 1 11 a0).toInt ≤ (q_I d17 1 12 a0).toInt ∧ (q_I d17 1 12 a0).toInt ≤ (q_I δ 3 1 nu).toInt) from ⟨i19, ⟨kp_w (by decide) u20, v21, v22⟩, by first | assumption | omega⟩)
  · have c310 : (q_I δ 5 2 b10).toInt < (q_I δ 1 6 a0).toInt := o_nle h15
    refine ok_ite (fun h311 => ?_) (fun h311 => ?_)
    · have c312 : (q_I δ 1 3 a0).toInt < (q_I δ 1 4 a0).toInt := o_lt h311
      unfold J_X1_look_31
      refine ok_gp (by decide) ?_
      refine ok_bdv (fun d313 e314 => ?_)
      have i315 : CI ad h.1 δ0 d313 := by rw [e314]; exact cs_1_15 L I k_a0 (show 0 ≤ (0 : Int) by omega) (show (0 : Int) ≤ 1 by omega)
      have u316 := kp_I kp_r e314
      have v317 : q_V d313 = q_V δ := ((show q_V d313 = q_V δ by rw [e314]; rfl)).trans rfl
      have v318 : q_R d313 = q_R δ := ((show q_R d313 = q_R δ by rw [e314]; rfl)).trans rfl
      have f319 := cb_1_15 i315 k_a0
      have f320 : (q_I d313 1 15 a0).toInt = (0 : Int) := congrArg Int32.toInt (show q_I d313 1 15 a0 = (0 : Int32) by rw [e314]; exact rI_s)
      refine ok_ite (fun h321 => ?_) (fun h321 => ?_)
      · have c322 : (q_I d313 1 15 a0).toInt = (0 : Int) := o_eq h321
        have f325 := ti_b (q_I d313 1 3 a0)
        have f326 : (q_I d313 1 3 a0).toInt = (q_I δ 1 3 a0).toInt := congrArg Int32.toInt (by rw [e314]; exact rI_o (by decide))
        have f327 := cb_3_1 i315 knu o4
        have f328 : (q_I d313 3 1 nu).toInt = (q_I δ 3 1 nu).toInt := congrArg Int32.toInt (by rw [e314]; exact rI_o (by decide))
        refine ok_bind (k_X1_valueAt L hN (a0 := a0) (x1 := (q_I d313 1 3 a0)) k_a0 hnu knu (show 0 ≤ ((q_I d313 1 3 a0)).toInt by first | assumption | omega) (show ((q_I d313 1 3 a0)).toInt < (q_I d313 3 1 nu).toInt by first | assumption | omega) i315) (fun r323 hr324 => ?_)
        have i329 := hr324
        try rw [i329]
        have f330 := ti_b r323.1
        refine ok_bdv (fun d331 e332 => ?_)
        have i333 : CI ad h.1 δ0 d331 := by rw [e332]; exact cs_1_9 L i315
        have u334 := kp_I u316 e332
        have v335 : q_V d331 = q_V δ := ((show q_V d331 = q_V d313 by rw [e332]; rfl)).trans v317
        have v336 : q_R d331 = q_R δ := ((show q_R d331 = q_R d313 by rw [e332]; rfl)).trans v318
        have f339 := ti_b (q_I d331 1 4 a0)
        have f340 : (q_I d331 1 4 a0).toInt = (q_I d313 1 4 a0).toInt := congrArg Int32.toInt (by rw [e332]; exact rI_o (by decide))
        have f341 := ti_b (q_I d313 1 4 a0)
        have f342 : (q_I d313 1 4 a0).toInt = (q_I δ 1 4 a0).toInt := congrArg Int32.toInt (by rw [e314]; exact rI_o (by decide))
        first | (have q344 := te_subc (c := 1) (n := 1) rfl (q_I d331 1 4 a0) (by omega) (by omega); obtain ⟨f345, f346, f347⟩ := q344) | (obtain ⟨q344, f345, f346, f347⟩ := ti_subc (c := 1) (n := 1) rfl (q_I d331 1 4 a0))
        have f348 := cb_3_1 i333 knu o4
        have f349 : (q_I d331 3 1 nu).toInt = (q_I d313 3 1 nu).toInt := congrArg Int32.toInt (by rw [e332]; exact rI_o (by decide))
        refine ok_bind (k_X1_valueAt L hN (a0 := a0) (x1 := ((q_I d331 1 4 a0) - (1 : Int32))) k_a0 hnu knu (show 0 ≤ (((q_I d331 1 4 a0) - (1 : Int32))).toInt by first | assumption | omega) (show (((q_I d331 1 4 a0) - (1 : Int32))).toInt < (q_I d331 3 1 nu).toInt by first | assumption | omega) i333) (fun r337 hr338 => ?_)
        have i350 := hr338
        try rw [i350]
        have f351 := ti_b r337.1
        refine ok_bdv (fun d352 e353 => ?_)
        have i354 : CI ad h.1 δ0 d352 := by rw [e353]; exact cs_1_10 L i333
        have u355 := kp_I u334 e353
        have v356 : q_V d352 = q_V δ := ((show q_V d352 = q_V d331 by rw [e353]; rfl)).trans v335
        have v357 : q_R d352 = q_R δ := ((show q_R d352 = q_R d331 by rw [e353]; rfl)).trans v336
        have f358 := ti_b (q_I d352 1 9 a0)
        have f359 : (q_I d352 1 9 a0).toInt = (q_I d331 1 9 a0).toInt := congrArg Int32.toInt (by rw [e353]; exact rI_o (by decide))
        have f360 := ti_b (q_I d331 1 9 a0)
        have f361 : (q_I d331 1 9 a0).toInt = r323.1.toInt := congrArg Int32.toInt (show q_I d331 1 9 a0 = r323.1 by rw [e332]; exact rI_s)
        have f362 := ti_b (q_I d352 1 10 a0)
        have f363 : (q_I d352 1 10 a0).toInt = r337.1.toInt := congrArg Int32.toInt (show q_I d352 1 10 a0 = r337.1 by rw [e353]; exact rI_s)
        refine ok_ite (fun h364 => ?_) (fun h364 => ?_)
        · have c365 : (q_I d352 1 9 a0).toInt = (q_I d352 1 10 a0).toInt := o_eq h364
          unfold J_X1_look_85
          refine ok_gp (by decide) ?_
          refine ok_bdv (fun d366 e367 => ?_)
          have i368 : CI ad h.1 δ0 d366 := by rw [e367]; exact cs_1_15 L i354 k_a0 (show 0 ≤ (1 : Int) by omega) (show (1 : Int) ≤ 1 by omega)
          have u369 := kp_I u355 e367
          have v370 : q_V d366 = q_V δ := ((show q_V d366 = q_V d352 by rw [e367]; rfl)).trans v356
          have v371 : q_R d366 = q_R δ := ((show q_R d366 = q_R d352 by rw [e367]; rfl)).trans v357
          have f372 := cb_1_15 i368 k_a0
          have f373 : (q_I d366 1 15 a0).toInt = (1 : Int) := congrArg Int32.toInt (show q_I d366 1 15 a0 = (1 : Int32) by rw [e367]; exact rI_s)
          refine ok_ite (fun h374 => ?_) (fun h374 => ?_)
          · have c375 : (q_I d366 1 15 a0).toInt = (0 : Int) := o_eq h374
            refine ok_at o11 ?_
            refine ok_bind (k_X5_lowerBits L hN (a0 := b10) (x1 := (q_I d366 1 6 a0)) k12 i368) (fun r376 hr377 => ?_)
            obtain ⟨i378, p379⟩ := hr377
            try rw [i378]
            have f380 := ti_b (q_I d366 1 6 a0)
            have f381 : (q_I d366 1 6 a0).toInt = (q_I d352 1 6 a0).toInt := congrArg Int32.toInt (by rw [e367]; exact rI_o (by decide))
            have f382 := ti_b (q_I d352 1 6 a0)
            have f383 : (q_I d352 1 6 a0).toInt = (q_I d331 1 6 a0).toInt := congrArg Int32.toInt (by rw [e353]; exact rI_o (by decide))
            have f384 := ti_b (q_I d331 1 6 a0)
            have f385 : (q_I d331 1 6 a0).toInt = (q_I d313 1 6 a0).toInt := congrArg Int32.toInt (by rw [e332]; exact rI_o (by decide))
            have f386 := ti_b (q_I d313 1 6 a0)
            have f387 : (q_I d313 1 6 a0).toInt = (q_I δ 1 6 a0).toInt := congrArg Int32.toInt (by rw [e314]; exact rI_o (by decide))
            have f388 := ti_b r376.1
            have f389 := ti_b r376.1
            refine ok_bdv (fun d390 e391 => ?_)
            have i392 : CI ad h.1 δ0 d390 := by rw [e391]; exact cs_1_7 L i368
            have u393 := kp_I u369 e391
            have v394 : q_V d390 = q_V δ := ((show q_V d390 = q_V d366 by rw [e391]; rfl)).trans v370
            have v395 : q_R d390 = q_R δ := ((show q_R d390 = q_R d366 by rw [e391]; rfl)).trans v371
            have f398 := ti_b (q_I d390 1 3 a0)
            have f399 : (q_I d390 1 3 a0).toInt = (q_I d366 1 3 a0).toInt := congrArg Int32.toInt (by rw [e391]; exact rI_o (by decide))
            have f400 := ti_b (q_I d366 1 3 a0)
            have f401 : (q_I d366 1 3 a0).toInt = (q_I d352 1 3 a0).toInt := congrArg Int32.toInt (by rw [e367]; exact rI_o (by decide))
            have f402 := ti_b (q_I d352 1 3 a0)
            have f403 : (q_I d352 1 3 a0).toInt = (q_I d331 1 3 a0).toInt := congrArg Int32.toInt (by rw [e353]; exact rI_o (by decide))
            have f404 := ti_b (q_I d331 1 3 a0)
            have f405 : (q_I d331 1 3 a0).toInt = (q_I d313 1 3 a0).toInt := congrArg Int32.toInt (by rw [e332]; exact rI_o (by decide))
            first | (have q407 := te_addc (c := 1) (n := 1) rfl (q_I d390 1 3 a0) (by omega) (by omega); obtain ⟨f408, f409, f410⟩ := q407) | (obtain ⟨q407, f408, f409, f410⟩ := ti_addc (c := 1) (n := 1) rfl (q_I d390 1 3 a0))
            have f411 := ti_b (q_I d390 1 4 a0)
            have f412 : (q_I d390 1 4 a0).toInt = (q_I d366 1 4 a0).toInt := congrArg Int32.toInt (by rw [e391]; exact rI_o (by decide))
            have f413 := ti_b (q_I d366 1 4 a0)
            have f414 : (q_I d366 1 4 a0).toInt = (q_I d352 1 4 a0).toInt := congrArg Int32.toInt (by rw [e367]; exact rI_o (by decide))
            have f415 := ti_b (q_I d352 1 4 a0)
            have f416 : (q_I d352 1 4 a0).toInt = (q_I d331 1 4 a0).toInt := congrArg Int32.toInt (by rw [e353]; exact rI_o (by decide))
            have f417 := cb_3_1 i392 knu o4
            have f418 : (q_I d390 3 1 nu).toInt = (q_I d366 3 1 nu).toInt := congrArg Int32.toInt (by rw [e391]; exact rI_o (by decide))
            have f419 := cb_3_1 i368 knu o4
            have f420 : (q_I d366 3 1 nu).toInt = (q_I d352 3 1 nu).toInt := congrArg Int32.toInt (by rw [e367]; exact rI_o (by decide))
            have f421 := cb_3_1 i354 knu o4
            have f422 : (q_I d352 3 1 nu).toInt = (q_I d331 3 1 nu).toInt := congrArg Int32.toInt (by rw [e353]; exact rI_o (by decide))
            refine ok_bind (k_X1_firstFrom L hN (a0 := a0) (x1 := ((q_I d390 1 3 a0) + (1 : Int32))) (x2 := (q_I d390 1 4 a0)) (x3 := ((q_I d390 1 9 a0) + (1 : Int32))) k_a0 hnu knu (show 0 ≤ (((q_I d390 1 3 a0) + (1 : Int32))).toInt by first | assumption | omega) (show (((q_I d390 1 3 a0) + (1 : Int32))).toInt ≤ ((q_I d390 1 4 a0)).toInt by first | assumption | omega) (show ((q_I d390 1 4 a0)).toInt ≤ (q_I d390 3 1 nu).toInt by first | assumption | omega) i392) (fun r396 hr397 => ?_)
            obtain ⟨i423, p424, p425⟩ := hr397
            try rw [i423]
            have f426 := ti_b r396.1
            have f427 := ti_b r396.1
            refine ok_bdv (fun d428 e429 => ?_)
            have i430 : CI ad h.1 δ0 d428 := by rw [e429]; exact cs_1_11 L i392
            have u431 := kp_I u393 e429
            have v432 : q_V d428 = q_V δ := ((show q_V d428 = q_V d390 by rw [e429]; rfl)).trans v394
            have v433 : q_R d428 = q_R δ := ((show q_R d428 = q_R d390 by rw [e429]; rfl)).trans v395
            have f436 := ti_b (q_I d428 1 11 a0)
            have f437 : (q_I d428 1 11 a0).toInt = r396.1.toInt := congrArg Int32.toInt (show q_I d428 1 11 a0 = r396.1 by rw [e429]; exact rI_s)
            have f438 := ti_b (q_I d428 1 4 a0)
            have f439 : (q_I d428 1 4 a0).toInt = (q_I d390 1 4 a0).toInt := congrArg Int32.toInt (by rw [e429]; exact rI_o (by decide))
            have f440 := cb_3_1 i430 knu o4
            have f441 : (q_I d428 3 1 nu).toInt = (q_I d390 3 1 nu).toInt := congrArg Int32.toInt (by rw [e429]; exact rI_o (by decide))
            refine ok_bind (k_X1_firstFrom L hN (a0 := a0) (x1 := (q_I d428 1 11 a0)) (x2 := (q_I d428 1 4 a0)) (x3 := (q_I d428 1 10 a0)) k_a0 hnu knu (show 0 ≤ ((q_I d428 1 11 a0)).toInt by first | assumption | omega) (show ((q_I d428 1 11 a0)).toInt ≤ ((q_I d428 1 4 a0)).toInt by first | assumption | omega) (show ((q_I d428 1 4 a0)).toInt ≤ (q_I d428 3 1 nu).toInt by first | assumption | omega) i430) (fun r434 hr435 => ?_)
            obtain ⟨i442, p443, p444⟩ := hr435
            try rw [i442]
            have f445 := ti_b r434.1
            have f446 := ti_b r434.1
            refine ok_bdv (fun d447 e448 => ?_)
            have i449 : CI ad h.1 δ0 d447 := by rw [e448]; exact cs_1_12 L i430
            have u450 := kp_I u431 e448
            have v451 : q_V d447 = q_V δ := ((show q_V d447 = q_V d428 by rw [e448]; rfl)).trans v432
            have v452 : q_R d447 = q_R δ := ((show q_R d447 = q_R d428 by rw [e448]; rfl)).trans v433
            unfold J_X1_look_154
            have f453 := cb_1_15 i449 k_a0
            have f454 : (q_I d447 1 15 a0).toInt = (q_I d428 1 15 a0).toInt := congrArg Int32.toInt (by rw [e448]; exact rI_o (by decide))
            have f455 := cb_1_15 i430 k_a0
            have f456 : (q_I d428 1 15 a0).toInt = (q_I d390 1 15 a0).toInt := congrArg Int32.toInt (by rw [e429]; exact rI_o (by decide))
            have f457 := cb_1_15 i392 k_a0
            have f458 : (q_I d390 1 15 a0).toInt = (q_I d366 1 15 a0).toInt := congrArg Int32.toInt (by rw [e391]; exact rI_o (by decide))
            have f459 := ti_b (q_I d447 1 11 a0)
            have f460 : (q_I d447 1 11 a0).toInt = (q_I d428 1 11 a0).toInt := congrArg Int32.toInt (by rw [e448]; exact rI_o (by decide))
            have f461 := ti_b (q_I d447 1 12 a0)
            have f462 : (q_I d447 1 12 a0).toInt = r434.1.toInt := congrArg Int32.toInt (show q_I d447 1 12 a0 = r434.1 by rw [e448]; exact rI_s)
            exact ok_some (show CI ad h.1 δ0 d447 ∧ (kp [(1, 7), (1, 9), (1, 10), (1, 11), (1, 12), (1, 15)] δ d447 ∧ q_V d447 = q_V δ ∧ q_R d447 = q_R δ) ∧ ((q_I d447 1 15 a0).toInt = 0 → 0 ≤ (q_I d447 1 11 a0).toInt ∧ (q_I d447 1 11 a0).toInt ≤ (q_I d447 1 12 a0).toInt ∧ (q_I d447 1 12 a0).toInt ≤ (q_I δ 3 1 nu).toInt) from ⟨i449, ⟨kp_w (by decide) u450, v451, v452⟩, by first | assumption | omega⟩)
          · have c463 : (q_I d366 1 15 a0).toInt ≠ (0 : Int) := o_ne h374
            unfold J_X1_look_154
            have f464 := ti_b (q_I d366 1 11 a0)
            have f465 : (q_I d366 1 11 a0).toInt = (q_I d352 1 11 a0).toInt := congrArg Int32.toInt (by rw [e367]; exact rI_o (by decide))
            have f466 := ti_b (q_I d352 1 11 a0)
            have f467 : (q_I d352 1 11 a0).toInt = (q_I d331 1 11 a0).toInt := congrArg Int32.toInt (by rw [e353]; exact rI_o (by decide))
            have f468 := ti_b (q_I d331 1 11 a0)
            have f469 : (q_I d331 1 11 a0).toInt = (q_I d313 1 11 a0).toInt := congrArg Int32.toInt (by rw [e332]; exact rI_o (by decide))
            have f470 := ti_b (q_I d313 1 11 a0)
            have f471 : (q_I d313 1 11 a0).toInt = (q_I δ 1 11 a0).toInt := congrArg Int32.toInt (by rw [e314]; exact rI_o (by decide))
            have f472 := ti_b (q_I δ 1 11 a0)
            have f473 := ti_b (q_I d366 1 12 a0)
            have f474 : (q_I d366 1 12 a0).toInt = (q_I d352 1 12 a0).toInt := congrArg Int32.toInt (by rw [e367]; exact rI_o (by decide))
            have f475 := ti_b (q_I d352 1 12 a0)
            have f476 : (q_I d352 1 12 a0).toInt = (q_I d331 1 12 a0).toInt := congrArg Int32.toInt (by rw [e353]; exact rI_o (by decide))
            have f477 := ti_b (q_I d331 1 12 a0)
            have f478 : (q_I d331 1 12 a0).toInt = (q_I d313 1 12 a0).toInt := congrArg Int32.toInt (by rw [e332]; exact rI_o (by decide))
            have f479 := ti_b (q_I d313 1 12 a0)
            have f480 : (q_I d313 1 12 a0).toInt = (q_I δ 1 12 a0).toInt := congrArg Int32.toInt (by rw [e314]; exact rI_o (by decide))
            have f481 := ti_b (q_I δ 1 12 a0)
            exact ok_some (show CI ad h.1 δ0 d366 ∧ (kp [(1, 7), (1, 9), (1, 10), (1, 11), (1, 12), (1, 15)] δ d366 ∧ q_V d366 = q_V δ ∧ q_R d366 = q_R δ) ∧ ((q_I d366 1 15 a0).toInt = 0 → 0 ≤ (q_I d366 1 11 a0).toInt ∧ (q_I d366 1 11 a0).toInt ≤ (q_I d366 1 12 a0).toInt ∧ (q_I d366 1 12 a0).toInt ≤ (q_I δ 3 1 nu).toInt) from ⟨i368, ⟨kp_w (by decide) u369, v370, v371⟩, by first | assumption | omega⟩)
        · have c482 : (q_I d352 1 9 a0).toInt ≠ (q_I d352 1 10 a0).toInt := o_ne h364
          unfold J_X1_look_85
          refine ok_gp (by decide) ?_
          refine ok_bdv (fun d483 e484 => ?_)
          have i485 : CI ad h.1 δ0 d483 := by rw [e484]; exact cs_1_15 L i354 k_a0 (show 0 ≤ (0 : Int) by omega) (show (0 : Int) ≤ 1 by omega)
          have u486 := kp_I u355 e484
          have v487 : q_V d483 = q_V δ := ((show q_V d483 = q_V d352 by rw [e484]; rfl)).trans v356
          have v488 : q_R d483 = q_R δ := ((show q_R d483 = q_R d352 by rw [e484]; rfl)).trans v357
          have f489 := cb_1_15 i485 k_a0
          have f490 : (q_I d483 1 15 a0).toInt = (0 : Int) := congrArg Int32.toInt (show q_I d483 1 15 a0 = (0 : Int32) by rw [e484]; exact rI_s)
          refine ok_ite (fun h491 => ?_) (fun h491 => ?_)
          · have c492 : (q_I d483 1 15 a0).toInt = (0 : Int) := o_eq h491
            refine ok_at o11 ?_
            refine ok_bind (k_X5_lowerBits L hN (a0 := b10) (x1 := (q_I d483 1 6 a0)) k12 i485) (fun r493 hr494 => ?_)
            obtain ⟨i495, p496⟩ := hr494
            try rw [i495]
            have f497 := ti_b (q_I d483 1 6 a0)
            have f498 : (q_I d483 1 6 a0).toInt = (q_I d352 1 6 a0).toInt := congrArg Int32.toInt (by rw [e484]; exact rI_o (by decide))
            have f499 := ti_b (q_I d352 1 6 a0)
            have f500 : (q_I d352 1 6 a0).toInt = (q_I d331 1 6 a0).toInt := congrArg Int32.toInt (by rw [e353]; exact rI_o (by decide))
            have f501 := ti_b (q_I d331 1 6 a0)
            have f502 : (q_I d331 1 6 a0).toInt = (q_I d313 1 6 a0).toInt := congrArg Int32.toInt (by rw [e332]; exact rI_o (by decide))
            have f503 := ti_b (q_I d313 1 6 a0)
            have f504 : (q_I d313 1 6 a0).toInt = (q_I δ 1 6 a0).toInt := congrArg Int32.toInt (by rw [e314]; exact rI_o (by decide))
            have f505 := ti_b r493.1
            have f506 := ti_b r493.1
            refine ok_bdv (fun d507 e508 => ?_)
            have i509 : CI ad h.1 δ0 d507 := by rw [e508]; exact cs_1_7 L i485
            have u510 := kp_I u486 e508
            have v511 : q_V d507 = q_V δ := ((show q_V d507 = q_V d483 by rw [e508]; rfl)).trans v487
            have v512 : q_R d507 = q_R δ := ((show q_R d507 = q_R d483 by rw [e508]; rfl)).trans v488
            have f515 := ti_b (q_I d507 1 3 a0)
            have f516 : (q_I d507 1 3 a0).toInt = (q_I d483 1 3 a0).toInt := congrArg Int32.toInt (by rw [e508]; exact rI_o (by decide))
            have f517 := ti_b (q_I d483 1 3 a0)
            have f518 : (q_I d483 1 3 a0).toInt = (q_I d352 1 3 a0).toInt := congrArg Int32.toInt (by rw [e484]; exact rI_o (by decide))
            have f519 := ti_b (q_I d352 1 3 a0)
            have f520 : (q_I d352 1 3 a0).toInt = (q_I d331 1 3 a0).toInt := congrArg Int32.toInt (by rw [e353]; exact rI_o (by decide))
            have f521 := ti_b (q_I d331 1 3 a0)
            have f522 : (q_I d331 1 3 a0).toInt = (q_I d313 1 3 a0).toInt := congrArg Int32.toInt (by rw [e332]; exact rI_o (by decide))
            first | (have q524 := te_addc (c := 1) (n := 1) rfl (q_I d507 1 3 a0) (by omega) (by omega); obtain ⟨f525, f526, f527⟩ := q524) | (obtain ⟨q524, f525, f526, f527⟩ := ti_addc (c := 1) (n := 1) rfl (q_I d507 1 3 a0))
            have f528 := ti_b (q_I d507 1 4 a0)
            have f529 : (q_I d507 1 4 a0).toInt = (q_I d483 1 4 a0).toInt := congrArg Int32.toInt (by rw [e508]; exact rI_o (by decide))
            have f530 := ti_b (q_I d483 1 4 a0)
            have f531 : (q_I d483 1 4 a0).toInt = (q_I d352 1 4 a0).toInt := congrArg Int32.toInt (by rw [e484]; exact rI_o (by decide))
            have f532 := ti_b (q_I d352 1 4 a0)
            have f533 : (q_I d352 1 4 a0).toInt = (q_I d331 1 4 a0).toInt := congrArg Int32.toInt (by rw [e353]; exact rI_o (by decide))
            have f534 := cb_3_1 i509 knu o4
            have f535 : (q_I d507 3 1 nu).toInt = (q_I d483 3 1 nu).toInt := congrArg Int32.toInt (by rw [e508]; exact rI_o (by decide))
            have f536 := cb_3_1 i485 knu o4
            have f537 : (q_I d483 3 1 nu).toInt = (q_I d352 3 1 nu).toInt := congrArg Int32.toInt (by rw [e484]; exact rI_o (by decide))
            have f538 := cb_3_1 i354 knu o4
            have f539 : (q_I d352 3 1 nu).toInt = (q_I d331 3 1 nu).toInt := congrArg Int32.toInt (by rw [e353]; exact rI_o (by decide))
            refine ok_bind (k_X1_firstFrom L hN (a0 := a0) (x1 := ((q_I d507 1 3 a0) + (1 : Int32))) (x2 := (q_I d507 1 4 a0)) (x3 := ((q_I d507 1 9 a0) + (1 : Int32))) k_a0 hnu knu (show 0 ≤ (((q_I d507 1 3 a0) + (1 : Int32))).toInt by first | assumption | omega) (show (((q_I d507 1 3 a0) + (1 : Int32))).toInt ≤ ((q_I d507 1 4 a0)).toInt by first | assumption | omega) (show ((q_I d507 1 4 a0)).toInt ≤ (q_I d507 3 1 nu).toInt by first | assumption | omega) i509) (fun r513 hr514 => ?_)
            obtain ⟨i540, p541, p542⟩ := hr514
            try rw [i540]
            have f543 := ti_b r513.1
            have f544 := ti_b r513.1
            refine ok_bdv (fun d545 e546 => ?_)
            have i547 : CI ad h.1 δ0 d545 := by rw [e546]; exact cs_1_11 L i509
            have u548 := kp_I u510 e546
            have v549 : q_V d545 = q_V δ := ((show q_V d545 = q_V d507 by rw [e546]; rfl)).trans v511
            have v550 : q_R d545 = q_R δ := ((show q_R d545 = q_R d507 by rw [e546]; rfl)).trans v512
            have f553 := ti_b (q_I d545 1 11 a0)
            have f554 : (q_I d545 1 11 a0).toInt = r513.1.toInt := congrArg Int32.toInt (show q_I d545 1 11 a0 = r513.1 by rw [e546]; exact rI_s)
            have f555 := ti_b (q_I d545 1 4 a0)
            have f556 : (q_I d545 1 4 a0).toInt = (q_I d507 1 4 a0).toInt := congrArg Int32.toInt (by rw [e546]; exact rI_o (by decide))
            have f557 := cb_3_1 i547 knu o4
            have f558 : (q_I d545 3 1 nu).toInt = (q_I d507 3 1 nu).toInt := congrArg Int32.toInt (by rw [e546]; exact rI_o (by decide))
            refine ok_bind (k_X1_firstFrom L hN (a0 := a0) (x1 := (q_I d545 1 11 a0)) (x2 := (q_I d545 1 4 a0)) (x3 := (q_I d545 1 10 a0)) k_a0 hnu knu (show 0 ≤ ((q_I d545 1 11 a0)).toInt by first | assumption | omega) (show ((q_I d545 1 11 a0)).toInt ≤ ((q_I d545 1 4 a0)).toInt by first | assumption | omega) (show ((q_I d545 1 4 a0)).toInt ≤ (q_I d545 3 1 nu).toInt by first | assumption | omega) i547) (fun r551 hr552 => ?_)
            obtain ⟨i559, p560, p561⟩ := hr552
            try rw [i559]
            have f562 := ti_b r551.1
            have f563 := ti_b r551.1
            refine ok_bdv (fun d564 e565 => ?_)
            have i566 : CI ad h.1 δ0 d564 := by rw [e565]; exact cs_1_12 L i547
            have u567 := kp_I u548 e565
            have v568 : q_V d564 = q_V δ := ((show q_V d564 = q_V d545 by rw [e565]; rfl)).trans v549
            have v569 : q_R d564 = q_R δ := ((show q_R d564 = q_R d545 by rw [e565]; rfl)).trans v550
            unfold J_X1_look_154
            have f570 := cb_1_15 i566 k_a0
            have f571 : (q_I d564 1 15 a0).toInt = (q_I d545 1 15 a0).toInt := congrArg Int32.toInt (by rw [e565]; exact rI_o (by decide))
            have f572 := cb_1_15 i547 k_a0
            have f573 : (q_I d545 1 15 a0).toInt = (q_I d507 1 15 a0).toInt := congrArg Int32.toInt (by rw [e546]; exact rI_o (by decide))
            have f574 := cb_1_15 i509 k_a0
            have f575 : (q_I d507 1 15 a0).toInt = (q_I d483 1 15 a0).toInt := congrArg Int32.toInt (by rw [e508]; exact rI_o (by decide))
            have f576 := ti_b (q_I d564 1 11 a0)
            have f577 : (q_I d564 1 11 a0).toInt = (q_I d545 1 11 a0).toInt := congrArg Int32.toInt (by rw [e565]; exact rI_o (by decide))
            have f578 := ti_b (q_I d564 1 12 a0)
            have f579 : (q_I d564 1 12 a0).toInt = r551.1.toInt := congrArg Int32.toInt (show q_I d564 1 12 a0 = r551.1 by rw [e565]; exact rI_s)
            exact ok_some (show CI ad h.1 δ0 d564 ∧ (kp [(1, 7), (1, 9), (1, 10), (1, 11), (1, 12), (1, 15)] δ d564 ∧ q_V d564 = q_V δ ∧ q_R d564 = q_R δ) ∧ ((q_I d564 1 15 a0).toInt = 0 → 0 ≤ (q_I d564 1 11 a0).toInt ∧ (q_I d564 1 11 a0).toInt ≤ (q_I d564 1 12 a0).toInt ∧ (q_I d564 1 12 a0).toInt ≤ (q_I δ 3 1 nu).toInt) from ⟨i566, ⟨kp_w (by decide) u567, v568, v569⟩, by first | assumption | omega⟩)
          · have c580 : (q_I d483 1 15 a0).toInt ≠ (0 : Int) := o_ne h491
            unfold J_X1_look_154
            have f581 := ti_b (q_I d483 1 11 a0)
            have f582 : (q_I d483 1 11 a0).toInt = (q_I d352 1 11 a0).toInt := congrArg Int32.toInt (by rw [e484]; exact rI_o (by decide))
            have f583 := ti_b (q_I d352 1 11 a0)
            have f584 : (q_I d352 1 11 a0).toInt = (q_I d331 1 11 a0).toInt := congrArg Int32.toInt (by rw [e353]; exact rI_o (by decide))
            have f585 := ti_b (q_I d331 1 11 a0)
            have f586 : (q_I d331 1 11 a0).toInt = (q_I d313 1 11 a0).toInt := congrArg Int32.toInt (by rw [e332]; exact rI_o (by decide))
            have f587 := ti_b (q_I d313 1 11 a0)
            have f588 : (q_I d313 1 11 a0).toInt = (q_I δ 1 11 a0).toInt := congrArg Int32.toInt (by rw [e314]; exact rI_o (by decide))
            have f589 := ti_b (q_I δ 1 11 a0)
            have f590 := ti_b (q_I d483 1 12 a0)
            have f591 : (q_I d483 1 12 a0).toInt = (q_I d352 1 12 a0).toInt := congrArg Int32.toInt (by rw [e484]; exact rI_o (by decide))
            have f592 := ti_b (q_I d352 1 12 a0)
            have f593 : (q_I d352 1 12 a0).toInt = (q_I d331 1 12 a0).toInt := congrArg Int32.toInt (by rw [e353]; exact rI_o (by decide))
            have f594 := ti_b (q_I d331 1 12 a0)
            have f595 : (q_I d331 1 12 a0).toInt = (q_I d313 1 12 a0).toInt := congrArg Int32.toInt (by rw [e332]; exact rI_o (by decide))
            have f596 := ti_b (q_I d313 1 12 a0)
            have f597 : (q_I d313 1 12 a0).toInt = (q_I δ 1 12 a0).toInt := congrArg Int32.toInt (by rw [e314]; exact rI_o (by decide))
            have f598 := ti_b (q_I δ 1 12 a0)
            exact ok_some (show CI ad h.1 δ0 d483 ∧ (kp [(1, 7), (1, 9), (1, 10), (1, 11), (1, 12), (1, 15)] δ d483 ∧ q_V d483 = q_V δ ∧ q_R d483 = q_R δ) ∧ ((q_I d483 1 15 a0).toInt = 0 → 0 ≤ (q_I d483 1 11 a0).toInt ∧ (q_I d483 1 11 a0).toInt ≤ (q_I d483 1 12 a0).toInt ∧ (q_I d483 1 12 a0).toInt ≤ (q_I δ 3 1 nu).toInt) from ⟨i485, ⟨kp_w (by decide) u486, v487, v488⟩, by first | assumption | omega⟩)
      · have c599 : (q_I d313 1 15 a0).toInt ≠ (0 : Int) := o_ne h321
        have f600 := ti_b (q_I d313 1 11 a0)
        have f601 : (q_I d313 1 11 a0).toInt = (q_I δ 1 11 a0).toInt := congrArg Int32.toInt (by rw [e314]; exact rI_o (by decide))
        have f602 := ti_b (q_I δ 1 11 a0)
        have f603 := ti_b (q_I d313 1 12 a0)
        have f604 : (q_I d313 1 12 a0).toInt = (q_I δ 1 12 a0).toInt := congrArg Int32.toInt (by rw [e314]; exact rI_o (by decide))
        have f605 := ti_b (q_I δ 1 12 a0)
        exact ok_some (show CI ad h.1 δ0 d313 ∧ (kp [(1, 7), (1, 9), (1, 10), (1, 11), (1, 12), (1, 15)] δ d313 ∧ q_V d313 = q_V δ ∧ q_R d313 = q_R δ) ∧ ((q_I d313 1 15 a0).toInt = 0 → 0 ≤ (q_I d313 1 11 a0).toInt ∧ (q_I d313 1 11 a0).toInt ≤ (q_I d313 1 12 a0).toInt ∧ (q_I d313 1 12 a0).toInt ≤ (q_I δ 3 1 nu).toInt) from ⟨i315, ⟨kp_w (by decide) u316, v317, v318⟩, by first | assumption | omega⟩)
    · have c606 : (q_I δ 1 4 a0).toInt ≤ (q_I δ 1 3 a0).toInt := o_nlt h311
      unfold J_X1_look_26
      unfold J_X1_look_31
      refine ok_gp (by decide) ?_
      refine ok_bdv (fun d607 e608 => ?_)
      have i609 : CI ad h.1 δ0 d607 := by rw [e608]; exact cs_1_15 L I k_a0 (show 0 ≤ (1 : Int) by omega) (show (1 : Int) ≤ 1 by omega)
      have u610 := kp_I kp_r e608
      have v611 : q_V d607 = q_V δ := ((show q_V d607 = q_V δ by rw [e608]; rfl)).trans rfl
      have v612 : q_R d607 = q_R δ := ((show q_R d607 = q_R δ by rw [e608]; rfl)).trans rfl
      have f613 := cb_1_15 i609 k_a0
      have f614 : (q_I d607 1 15 a0).toInt = (1 : Int) := congrArg Int32.toInt (show q_I d607 1 15 a0 = (1 : Int32) by rw [e608]; exact rI_s)
      refine ok_ite (fun h615 => ?_) (fun h615 => ?_)
      · have c616 : (q_I d607 1 15 a0).toInt = (0 : Int) := o_eq h615
        have f619 := ti_b (q_I d607 1 3 a0)
        have f620 : (q_I d607 1 3 a0).toInt = (q_I δ 1 3 a0).toInt := congrArg Int32.toInt (by rw [e608]; exact rI_o (by decide))
        have f621 := cb_3_1 i609 knu o4
        have f622 : (q_I d607 3 1 nu).toInt = (q_I δ 3 1 nu).toInt := congrArg Int32.toInt (by rw [e608]; exact rI_o (by decide))
        refine ok_bind (k_X1_valueAt L hN (a0 := a0) (x1 := (q_I d607 1 3 a0)) k_a0 hnu knu (show 0 ≤ ((q_I d607 1 3 a0)).toInt by first | assumption | omega) (show ((q_I d607 1 3 a0)).toInt < (q_I d607 3 1 nu).toInt by first | assumption | omega) i609) (fun r617 hr618 => ?_)
        have i623 := hr618
        try rw [i623]
        have f624 := ti_b r617.1
        refine ok_bdv (fun d625 e626 => ?_)
        have i627 : CI ad h.1 δ0 d625 := by rw [e626]; exact cs_1_9 L i609
        have u628 := kp_I u610 e626
        have v629 : q_V d625 = q_V δ := ((show q_V d625 = q_V d607 by rw [e626]; rfl)).trans v611
        have v630 : q_R d625 = q_R δ := ((show q_R d625 = q_R d607 by rw [e626]; rfl)).trans v612
        have f633 := ti_b (q_I d625 1 4 a0)
        have f634 : (q_I d625 1 4 a0).toInt = (q_I d607 1 4 a0).toInt := congrArg Int32.toInt (by rw [e626]; exact rI_o (by decide))
        have f635 := ti_b (q_I d607 1 4 a0)
        have f636 : (q_I d607 1 4 a0).toInt = (q_I δ 1 4 a0).toInt := congrArg Int32.toInt (by rw [e608]; exact rI_o (by decide))
        first | (have q638 := te_subc (c := 1) (n := 1) rfl (q_I d625 1 4 a0) (by omega) (by omega); obtain ⟨f639, f640, f641⟩ := q638) | (obtain ⟨q638, f639, f640, f641⟩ := ti_subc (c := 1) (n := 1) rfl (q_I d625 1 4 a0))
        have f642 := cb_3_1 i627 knu o4
        have f643 : (q_I d625 3 1 nu).toInt = (q_I d607 3 1 nu).toInt := congrArg Int32.toInt (by rw [e626]; exact rI_o (by decide))
        refine ok_bind (k_X1_valueAt L hN (a0 := a0) (x1 := ((q_I d625 1 4 a0) - (1 : Int32))) k_a0 hnu knu (show 0 ≤ (((q_I d625 1 4 a0) - (1 : Int32))).toInt by first | assumption | omega) (show (((q_I d625 1 4 a0) - (1 : Int32))).toInt < (q_I d625 3 1 nu).toInt by first | assumption | omega) i627) (fun r631 hr632 => ?_)
        have i644 := hr632
        try rw [i644]
        have f645 := ti_b r631.1
        refine ok_bdv (fun d646 e647 => ?_)
        have i648 : CI ad h.1 δ0 d646 := by rw [e647]; exact cs_1_10 L i627
        have u649 := kp_I u628 e647
        have v650 : q_V d646 = q_V δ := ((show q_V d646 = q_V d625 by rw [e647]; rfl)).trans v629
        have v651 : q_R d646 = q_R δ := ((show q_R d646 = q_R d625 by rw [e647]; rfl)).trans v630
        have f652 := ti_b (q_I d646 1 9 a0)
        have f653 : (q_I d646 1 9 a0).toInt = (q_I d625 1 9 a0).toInt := congrArg Int32.toInt (by rw [e647]; exact rI_o (by decide))
        have f654 := ti_b (q_I d625 1 9 a0)
        have f655 : (q_I d625 1 9 a0).toInt = r617.1.toInt := congrArg Int32.toInt (show q_I d625 1 9 a0 = r617.1 by rw [e626]; exact rI_s)
        have f656 := ti_b (q_I d646 1 10 a0)
        have f657 : (q_I d646 1 10 a0).toInt = r631.1.toInt := congrArg Int32.toInt (show q_I d646 1 10 a0 = r631.1 by rw [e647]; exact rI_s)
        refine ok_ite (fun h658 => ?_) (fun h658 => ?_)
        · have c659 : (q_I d646 1 9 a0).toInt = (q_I d646 1 10 a0).toInt := o_eq h658
          unfold J_X1_look_85
          refine ok_gp (by decide) ?_
          refine ok_bdv (fun d660 e661 => ?_)
          have i662 : CI ad h.1 δ0 d660 := by rw [e661]; exact cs_1_15 L i648 k_a0 (show 0 ≤ (1 : Int) by omega) (show (1 : Int) ≤ 1 by omega)
          have u663 := kp_I u649 e661
          have v664 : q_V d660 = q_V δ := ((show q_V d660 = q_V d646 by rw [e661]; rfl)).trans v650
          have v665 : q_R d660 = q_R δ := ((show q_R d660 = q_R d646 by rw [e661]; rfl)).trans v651
          have f666 := cb_1_15 i662 k_a0
          have f667 : (q_I d660 1 15 a0).toInt = (1 : Int) := congrArg Int32.toInt (show q_I d660 1 15 a0 = (1 : Int32) by rw [e661]; exact rI_s)
          refine ok_ite (fun h668 => ?_) (fun h668 => ?_)
          · have c669 : (q_I d660 1 15 a0).toInt = (0 : Int) := o_eq h668
            refine ok_at o11 ?_
            refine ok_bind (k_X5_lowerBits L hN (a0 := b10) (x1 := (q_I d660 1 6 a0)) k12 i662) (fun r670 hr671 => ?_)
            obtain ⟨i672, p673⟩ := hr671
            try rw [i672]
            have f674 := ti_b (q_I d660 1 6 a0)
            have f675 : (q_I d660 1 6 a0).toInt = (q_I d646 1 6 a0).toInt := congrArg Int32.toInt (by rw [e661]; exact rI_o (by decide))
            have f676 := ti_b (q_I d646 1 6 a0)
            have f677 : (q_I d646 1 6 a0).toInt = (q_I d625 1 6 a0).toInt := congrArg Int32.toInt (by rw [e647]; exact rI_o (by decide))
            have f678 := ti_b (q_I d625 1 6 a0)
            have f679 : (q_I d625 1 6 a0).toInt = (q_I d607 1 6 a0).toInt := congrArg Int32.toInt (by rw [e626]; exact rI_o (by decide))
            have f680 := ti_b (q_I d607 1 6 a0)
            have f681 : (q_I d607 1 6 a0).toInt = (q_I δ 1 6 a0).toInt := congrArg Int32.toInt (by rw [e608]; exact rI_o (by decide))
            have f682 := ti_b r670.1
            have f683 := ti_b r670.1
            refine ok_bdv (fun d684 e685 => ?_)
            have i686 : CI ad h.1 δ0 d684 := by rw [e685]; exact cs_1_7 L i662
            have u687 := kp_I u663 e685
            have v688 : q_V d684 = q_V δ := ((show q_V d684 = q_V d660 by rw [e685]; rfl)).trans v664
            have v689 : q_R d684 = q_R δ := ((show q_R d684 = q_R d660 by rw [e685]; rfl)).trans v665
            have f692 := ti_b (q_I d684 1 3 a0)
            have f693 : (q_I d684 1 3 a0).toInt = (q_I d660 1 3 a0).toInt := congrArg Int32.toInt (by rw [e685]; exact rI_o (by decide))
            have f694 := ti_b (q_I d660 1 3 a0)
            have f695 : (q_I d660 1 3 a0).toInt = (q_I d646 1 3 a0).toInt := congrArg Int32.toInt (by rw [e661]; exact rI_o (by decide))
            have f696 := ti_b (q_I d646 1 3 a0)
            have f697 : (q_I d646 1 3 a0).toInt = (q_I d625 1 3 a0).toInt := congrArg Int32.toInt (by rw [e647]; exact rI_o (by decide))
            have f698 := ti_b (q_I d625 1 3 a0)
            have f699 : (q_I d625 1 3 a0).toInt = (q_I d607 1 3 a0).toInt := congrArg Int32.toInt (by rw [e626]; exact rI_o (by decide))
            first | (have q701 := te_addc (c := 1) (n := 1) rfl (q_I d684 1 3 a0) (by omega) (by omega); obtain ⟨f702, f703, f704⟩ := q701) | (obtain ⟨q701, f702, f703, f704⟩ := ti_addc (c := 1) (n := 1) rfl (q_I d684 1 3 a0))
            have f705 := ti_b (q_I d684 1 4 a0)
            have f706 : (q_I d684 1 4 a0).toInt = (q_I d660 1 4 a0).toInt := congrArg Int32.toInt (by rw [e685]; exact rI_o (by decide))
            have f707 := ti_b (q_I d660 1 4 a0)
            have f708 : (q_I d660 1 4 a0).toInt = (q_I d646 1 4 a0).toInt := congrArg Int32.toInt (by rw [e661]; exact rI_o (by decide))
            have f709 := ti_b (q_I d646 1 4 a0)
            have f710 : (q_I d646 1 4 a0).toInt = (q_I d625 1 4 a0).toInt := congrArg Int32.toInt (by rw [e647]; exact rI_o (by decide))
            have f711 := cb_3_1 i686 knu o4
            have f712 : (q_I d684 3 1 nu).toInt = (q_I d660 3 1 nu).toInt := congrArg Int32.toInt (by rw [e685]; exact rI_o (by decide))
            have f713 := cb_3_1 i662 knu o4
            have f714 : (q_I d660 3 1 nu).toInt = (q_I d646 3 1 nu).toInt := congrArg Int32.toInt (by rw [e661]; exact rI_o (by decide))
            have f715 := cb_3_1 i648 knu o4
            have f716 : (q_I d646 3 1 nu).toInt = (q_I d625 3 1 nu).toInt := congrArg Int32.toInt (by rw [e647]; exact rI_o (by decide))
            refine ok_bind (k_X1_firstFrom L hN (a0 := a0) (x1 := ((q_I d684 1 3 a0) + (1 : Int32))) (x2 := (q_I d684 1 4 a0)) (x3 := ((q_I d684 1 9 a0) + (1 : Int32))) k_a0 hnu knu (show 0 ≤ (((q_I d684 1 3 a0) + (1 : Int32))).toInt by first | assumption | omega) (show (((q_I d684 1 3 a0) + (1 : Int32))).toInt ≤ ((q_I d684 1 4 a0)).toInt by first | assumption | omega) (show ((q_I d684 1 4 a0)).toInt ≤ (q_I d684 3 1 nu).toInt by first | assumption | omega) i686) (fun r690 hr691 => ?_)
            obtain ⟨i717, p718, p719⟩ := hr691
            try rw [i717]
            have f720 := ti_b r690.1
            have f721 := ti_b r690.1
            refine ok_bdv (fun d722 e723 => ?_)
            have i724 : CI ad h.1 δ0 d722 := by rw [e723]; exact cs_1_11 L i686
            have u725 := kp_I u687 e723
            have v726 : q_V d722 = q_V δ := ((show q_V d722 = q_V d684 by rw [e723]; rfl)).trans v688
            have v727 : q_R d722 = q_R δ := ((show q_R d722 = q_R d684 by rw [e723]; rfl)).trans v689
            have f730 := ti_b (q_I d722 1 11 a0)
            have f731 : (q_I d722 1 11 a0).toInt = r690.1.toInt := congrArg Int32.toInt (show q_I d722 1 11 a0 = r690.1 by rw [e723]; exact rI_s)
            have f732 := ti_b (q_I d722 1 4 a0)
            have f733 : (q_I d722 1 4 a0).toInt = (q_I d684 1 4 a0).toInt := congrArg Int32.toInt (by rw [e723]; exact rI_o (by decide))
            have f734 := cb_3_1 i724 knu o4
            have f735 : (q_I d722 3 1 nu).toInt = (q_I d684 3 1 nu).toInt := congrArg Int32.toInt (by rw [e723]; exact rI_o (by decide))
            refine ok_bind (k_X1_firstFrom L hN (a0 := a0) (x1 := (q_I d722 1 11 a0)) (x2 := (q_I d722 1 4 a0)) (x3 := (q_I d722 1 10 a0)) k_a0 hnu knu (show 0 ≤ ((q_I d722 1 11 a0)).toInt by first | assumption | omega) (show ((q_I d722 1 11 a0)).toInt ≤ ((q_I d722 1 4 a0)).toInt by first | assumption | omega) (show ((q_I d722 1 4 a0)).toInt ≤ (q_I d722 3 1 nu).toInt by first | assumption | omega) i724) (fun r728 hr729 => ?_)
            obtain ⟨i736, p737, p738⟩ := hr729
            try rw [i736]
            have f739 := ti_b r728.1
            have f740 := ti_b r728.1
            refine ok_bdv (fun d741 e742 => ?_)
            have i743 : CI ad h.1 δ0 d741 := by rw [e742]; exact cs_1_12 L i724
            have u744 := kp_I u725 e742
            have v745 : q_V d741 = q_V δ := ((show q_V d741 = q_V d722 by rw [e742]; rfl)).trans v726
            have v746 : q_R d741 = q_R δ := ((show q_R d741 = q_R d722 by rw [e742]; rfl)).trans v727
            unfold J_X1_look_154
            have f747 := cb_1_15 i743 k_a0
            have f748 : (q_I d741 1 15 a0).toInt = (q_I d722 1 15 a0).toInt := congrArg Int32.toInt (by rw [e742]; exact rI_o (by decide))
            have f749 := cb_1_15 i724 k_a0
            have f750 : (q_I d722 1 15 a0).toInt = (q_I d684 1 15 a0).toInt := congrArg Int32.toInt (by rw [e723]; exact rI_o (by decide))
            have f751 := cb_1_15 i686 k_a0
            have f752 : (q_I d684 1 15 a0).toInt = (q_I d660 1 15 a0).toInt := congrArg Int32.toInt (by rw [e685]; exact rI_o (by decide))
            have f753 := ti_b (q_I d741 1 11 a0)
            have f754 : (q_I d741 1 11 a0).toInt = (q_I d722 1 11 a0).toInt := congrArg Int32.toInt (by rw [e742]; exact rI_o (by decide))
            have f755 := ti_b (q_I d741 1 12 a0)
            have f756 : (q_I d741 1 12 a0).toInt = r728.1.toInt := congrArg Int32.toInt (show q_I d741 1 12 a0 = r728.1 by rw [e742]; exact rI_s)
            exact ok_some (show CI ad h.1 δ0 d741 ∧ (kp [(1, 7), (1, 9), (1, 10), (1, 11), (1, 12), (1, 15)] δ d741 ∧ q_V d741 = q_V δ ∧ q_R d741 = q_R δ) ∧ ((q_I d741 1 15 a0).toInt = 0 → 0 ≤ (q_I d741 1 11 a0).toInt ∧ (q_I d741 1 11 a0).toInt ≤ (q_I d741 1 12 a0).toInt ∧ (q_I d741 1 12 a0).toInt ≤ (q_I δ 3 1 nu).toInt) from ⟨i743, ⟨kp_w (by decide) u744, v745, v746⟩, by first | assumption | omega⟩)
          · have c757 : (q_I d660 1 15 a0).toInt ≠ (0 : Int) := o_ne h668
            unfold J_X1_look_154
            have f758 := ti_b (q_I d660 1 11 a0)
            have f759 : (q_I d660 1 11 a0).toInt = (q_I d646 1 11 a0).toInt := congrArg Int32.toInt (by rw [e661]; exact rI_o (by decide))
            have f760 := ti_b (q_I d646 1 11 a0)
            have f761 : (q_I d646 1 11 a0).toInt = (q_I d625 1 11 a0).toInt := congrArg Int32.toInt (by rw [e647]; exact rI_o (by decide))
            have f762 := ti_b (q_I d625 1 11 a0)
            have f763 : (q_I d625 1 11 a0).toInt = (q_I d607 1 11 a0).toInt := congrArg Int32.toInt (by rw [e626]; exact rI_o (by decide))
            have f764 := ti_b (q_I d607 1 11 a0)
            have f765 : (q_I d607 1 11 a0).toInt = (q_I δ 1 11 a0).toInt := congrArg Int32.toInt (by rw [e608]; exact rI_o (by decide))
            have f766 := ti_b (q_I δ 1 11 a0)
            have f767 := ti_b (q_I d660 1 12 a0)
            have f768 : (q_I d660 1 12 a0).toInt = (q_I d646 1 12 a0).toInt := congrArg Int32.toInt (by rw [e661]; exact rI_o (by decide))
            have f769 := ti_b (q_I d646 1 12 a0)
            have f770 : (q_I d646 1 12 a0).toInt = (q_I d625 1 12 a0).toInt := congrArg Int32.toInt (by rw [e647]; exact rI_o (by decide))
            have f771 := ti_b (q_I d625 1 12 a0)
            have f772 : (q_I d625 1 12 a0).toInt = (q_I d607 1 12 a0).toInt := congrArg Int32.toInt (by rw [e626]; exact rI_o (by decide))
            have f773 := ti_b (q_I d607 1 12 a0)
            have f774 : (q_I d607 1 12 a0).toInt = (q_I δ 1 12 a0).toInt := congrArg Int32.toInt (by rw [e608]; exact rI_o (by decide))
            have f775 := ti_b (q_I δ 1 12 a0)
            exact ok_some (show CI ad h.1 δ0 d660 ∧ (kp [(1, 7), (1, 9), (1, 10), (1, 11), (1, 12), (1, 15)] δ d660 ∧ q_V d660 = q_V δ ∧ q_R d660 = q_R δ) ∧ ((q_I d660 1 15 a0).toInt = 0 → 0 ≤ (q_I d660 1 11 a0).toInt ∧ (q_I d660 1 11 a0).toInt ≤ (q_I d660 1 12 a0).toInt ∧ (q_I d660 1 12 a0).toInt ≤ (q_I δ 3 1 nu).toInt) from ⟨i662, ⟨kp_w (by decide) u663, v664, v665⟩, by first | assumption | omega⟩)
        · have c776 : (q_I d646 1 9 a0).toInt ≠ (q_I d646 1 10 a0).toInt := o_ne h658
          unfold J_X1_look_85
          refine ok_gp (by decide) ?_
          refine ok_bdv (fun d777 e778 => ?_)
          have i779 : CI ad h.1 δ0 d777 := by rw [e778]; exact cs_1_15 L i648 k_a0 (show 0 ≤ (0 : Int) by omega) (show (0 : Int) ≤ 1 by omega)
          have u780 := kp_I u649 e778
          have v781 : q_V d777 = q_V δ := ((show q_V d777 = q_V d646 by rw [e778]; rfl)).trans v650
          have v782 : q_R d777 = q_R δ := ((show q_R d777 = q_R d646 by rw [e778]; rfl)).trans v651
          have f783 := cb_1_15 i779 k_a0
          have f784 : (q_I d777 1 15 a0).toInt = (0 : Int) := congrArg Int32.toInt (show q_I d777 1 15 a0 = (0 : Int32) by rw [e778]; exact rI_s)
          refine ok_ite (fun h785 => ?_) (fun h785 => ?_)
          · have c786 : (q_I d777 1 15 a0).toInt = (0 : Int) := o_eq h785
            refine ok_at o11 ?_
            refine ok_bind (k_X5_lowerBits L hN (a0 := b10) (x1 := (q_I d777 1 6 a0)) k12 i779) (fun r787 hr788 => ?_)
            obtain ⟨i789, p790⟩ := hr788
            try rw [i789]
            have f791 := ti_b (q_I d777 1 6 a0)
            have f792 : (q_I d777 1 6 a0).toInt = (q_I d646 1 6 a0).toInt := congrArg Int32.toInt (by rw [e778]; exact rI_o (by decide))
            have f793 := ti_b (q_I d646 1 6 a0)
            have f794 : (q_I d646 1 6 a0).toInt = (q_I d625 1 6 a0).toInt := congrArg Int32.toInt (by rw [e647]; exact rI_o (by decide))
            have f795 := ti_b (q_I d625 1 6 a0)
            have f796 : (q_I d625 1 6 a0).toInt = (q_I d607 1 6 a0).toInt := congrArg Int32.toInt (by rw [e626]; exact rI_o (by decide))
            have f797 := ti_b (q_I d607 1 6 a0)
            have f798 : (q_I d607 1 6 a0).toInt = (q_I δ 1 6 a0).toInt := congrArg Int32.toInt (by rw [e608]; exact rI_o (by decide))
            have f799 := ti_b r787.1
            have f800 := ti_b r787.1
            refine ok_bdv (fun d801 e802 => ?_)
            have i803 : CI ad h.1 δ0 d801 := by rw [e802]; exact cs_1_7 L i779
            have u804 := kp_I u780 e802
            have v805 : q_V d801 = q_V δ := ((show q_V d801 = q_V d777 by rw [e802]; rfl)).trans v781
            have v806 : q_R d801 = q_R δ := ((show q_R d801 = q_R d777 by rw [e802]; rfl)).trans v782
            have f809 := ti_b (q_I d801 1 3 a0)
            have f810 : (q_I d801 1 3 a0).toInt = (q_I d777 1 3 a0).toInt := congrArg Int32.toInt (by rw [e802]; exact rI_o (by decide))
            have f811 := ti_b (q_I d777 1 3 a0)
            have f812 : (q_I d777 1 3 a0).toInt = (q_I d646 1 3 a0).toInt := congrArg Int32.toInt (by rw [e778]; exact rI_o (by decide))
            have f813 := ti_b (q_I d646 1 3 a0)
            have f814 : (q_I d646 1 3 a0).toInt = (q_I d625 1 3 a0).toInt := congrArg Int32.toInt (by rw [e647]; exact rI_o (by decide))
            have f815 := ti_b (q_I d625 1 3 a0)
            have f816 : (q_I d625 1 3 a0).toInt = (q_I d607 1 3 a0).toInt := congrArg Int32.toInt (by rw [e626]; exact rI_o (by decide))
            first | (have q818 := te_addc (c := 1) (n := 1) rfl (q_I d801 1 3 a0) (by omega) (by omega); obtain ⟨f819, f820, f821⟩ := q818) | (obtain ⟨q818, f819, f820, f821⟩ := ti_addc (c := 1) (n := 1) rfl (q_I d801 1 3 a0))
            have f822 := ti_b (q_I d801 1 4 a0)
            have f823 : (q_I d801 1 4 a0).toInt = (q_I d777 1 4 a0).toInt := congrArg Int32.toInt (by rw [e802]; exact rI_o (by decide))
            have f824 := ti_b (q_I d777 1 4 a0)
            have f825 : (q_I d777 1 4 a0).toInt = (q_I d646 1 4 a0).toInt := congrArg Int32.toInt (by rw [e778]; exact rI_o (by decide))
            have f826 := ti_b (q_I d646 1 4 a0)
            have f827 : (q_I d646 1 4 a0).toInt = (q_I d625 1 4 a0).toInt := congrArg Int32.toInt (by rw [e647]; exact rI_o (by decide))
            have f828 := cb_3_1 i803 knu o4
            have f829 : (q_I d801 3 1 nu).toInt = (q_I d777 3 1 nu).toInt := congrArg Int32.toInt (by rw [e802]; exact rI_o (by decide))
            have f830 := cb_3_1 i779 knu o4
            have f831 : (q_I d777 3 1 nu).toInt = (q_I d646 3 1 nu).toInt := congrArg Int32.toInt (by rw [e778]; exact rI_o (by decide))
            have f832 := cb_3_1 i648 knu o4
            have f833 : (q_I d646 3 1 nu).toInt = (q_I d625 3 1 nu).toInt := congrArg Int32.toInt (by rw [e647]; exact rI_o (by decide))
            refine ok_bind (k_X1_firstFrom L hN (a0 := a0) (x1 := ((q_I d801 1 3 a0) + (1 : Int32))) (x2 := (q_I d801 1 4 a0)) (x3 := ((q_I d801 1 9 a0) + (1 : Int32))) k_a0 hnu knu (show 0 ≤ (((q_I d801 1 3 a0) + (1 : Int32))).toInt by first | assumption | omega) (show (((q_I d801 1 3 a0) + (1 : Int32))).toInt ≤ ((q_I d801 1 4 a0)).toInt by first | assumption | omega) (show ((q_I d801 1 4 a0)).toInt ≤ (q_I d801 3 1 nu).toInt by first | assumption | omega) i803) (fun r807 hr808 => ?_)
            obtain ⟨i834, p835, p836⟩ := hr808
            try rw [i834]
            have f837 := ti_b r807.1
            have f838 := ti_b r807.1
            refine ok_bdv (fun d839 e840 => ?_)
            have i841 : CI ad h.1 δ0 d839 := by rw [e840]; exact cs_1_11 L i803
            have u842 := kp_I u804 e840
            have v843 : q_V d839 = q_V δ := ((show q_V d839 = q_V d801 by rw [e840]; rfl)).trans v805
            have v844 : q_R d839 = q_R δ := ((show q_R d839 = q_R d801 by rw [e840]; rfl)).trans v806
            have f847 := ti_b (q_I d839 1 11 a0)
            have f848 : (q_I d839 1 11 a0).toInt = r807.1.toInt := congrArg Int32.toInt (show q_I d839 1 11 a0 = r807.1 by rw [e840]; exact rI_s)
            have f849 := ti_b (q_I d839 1 4 a0)
            have f850 : (q_I d839 1 4 a0).toInt = (q_I d801 1 4 a0).toInt := congrArg Int32.toInt (by rw [e840]; exact rI_o (by decide))
            have f851 := cb_3_1 i841 knu o4
            have f852 : (q_I d839 3 1 nu).toInt = (q_I d801 3 1 nu).toInt := congrArg Int32.toInt (by rw [e840]; exact rI_o (by decide))
            refine ok_bind (k_X1_firstFrom L hN (a0 := a0) (x1 := (q_I d839 1 11 a0)) (x2 := (q_I d839 1 4 a0)) (x3 := (q_I d839 1 10 a0)) k_a0 hnu knu (show 0 ≤ ((q_I d839 1 11 a0)).toInt by first | assumption | omega) (show ((q_I d839 1 11 a0)).toInt ≤ ((q_I d839 1 4 a0)).toInt by first | assumption | omega) (show ((q_I d839 1 4 a0)).toInt ≤ (q_I d839 3 1 nu).toInt by first | assumption | omega) i841) (fun r845 hr846 => ?_)
            obtain ⟨i853, p854, p855⟩ := hr846
            try rw [i853]
            have f856 := ti_b r845.1
            have f857 := ti_b r845.1
            refine ok_bdv (fun d858 e859 => ?_)
            have i860 : CI ad h.1 δ0 d858 := by rw [e859]; exact cs_1_12 L i841
            have u861 := kp_I u842 e859
            have v862 : q_V d858 = q_V δ := ((show q_V d858 = q_V d839 by rw [e859]; rfl)).trans v843
            have v863 : q_R d858 = q_R δ := ((show q_R d858 = q_R d839 by rw [e859]; rfl)).trans v844
            unfold J_X1_look_154
            have f864 := cb_1_15 i860 k_a0
            have f865 : (q_I d858 1 15 a0).toInt = (q_I d839 1 15 a0).toInt := congrArg Int32.toInt (by rw [e859]; exact rI_o (by decide))
            have f866 := cb_1_15 i841 k_a0
            have f867 : (q_I d839 1 15 a0).toInt = (q_I d801 1 15 a0).toInt := congrArg Int32.toInt (by rw [e840]; exact rI_o (by decide))
            have f868 := cb_1_15 i803 k_a0
            have f869 : (q_I d801 1 15 a0).toInt = (q_I d777 1 15 a0).toInt := congrArg Int32.toInt (by rw [e802]; exact rI_o (by decide))
            have f870 := ti_b (q_I d858 1 11 a0)
            have f871 : (q_I d858 1 11 a0).toInt = (q_I d839 1 11 a0).toInt := congrArg Int32.toInt (by rw [e859]; exact rI_o (by decide))
            have f872 := ti_b (q_I d858 1 12 a0)
            have f873 : (q_I d858 1 12 a0).toInt = r845.1.toInt := congrArg Int32.toInt (show q_I d858 1 12 a0 = r845.1 by rw [e859]; exact rI_s)
            exact ok_some (show CI ad h.1 δ0 d858 ∧ (kp [(1, 7), (1, 9), (1, 10), (1, 11), (1, 12), (1, 15)] δ d858 ∧ q_V d858 = q_V δ ∧ q_R d858 = q_R δ) ∧ ((q_I d858 1 15 a0).toInt = 0 → 0 ≤ (q_I d858 1 11 a0).toInt ∧ (q_I d858 1 11 a0).toInt ≤ (q_I d858 1 12 a0).toInt ∧ (q_I d858 1 12 a0).toInt ≤ (q_I δ 3 1 nu).toInt) from ⟨i860, ⟨kp_w (by decide) u861, v862, v863⟩, by first | assumption | omega⟩)
          · have c874 : (q_I d777 1 15 a0).toInt ≠ (0 : Int) := o_ne h785
            unfold J_X1_look_154
            have f875 := ti_b (q_I d777 1 11 a0)
            have f876 : (q_I d777 1 11 a0).toInt = (q_I d646 1 11 a0).toInt := congrArg Int32.toInt (by rw [e778]; exact rI_o (by decide))
            have f877 := ti_b (q_I d646 1 11 a0)
            have f878 : (q_I d646 1 11 a0).toInt = (q_I d625 1 11 a0).toInt := congrArg Int32.toInt (by rw [e647]; exact rI_o (by decide))
            have f879 := ti_b (q_I d625 1 11 a0)
            have f880 : (q_I d625 1 11 a0).toInt = (q_I d607 1 11 a0).toInt := congrArg Int32.toInt (by rw [e626]; exact rI_o (by decide))
            have f881 := ti_b (q_I d607 1 11 a0)
            have f882 : (q_I d607 1 11 a0).toInt = (q_I δ 1 11 a0).toInt := congrArg Int32.toInt (by rw [e608]; exact rI_o (by decide))
            have f883 := ti_b (q_I δ 1 11 a0)
            have f884 := ti_b (q_I d777 1 12 a0)
            have f885 : (q_I d777 1 12 a0).toInt = (q_I d646 1 12 a0).toInt := congrArg Int32.toInt (by rw [e778]; exact rI_o (by decide))
            have f886 := ti_b (q_I d646 1 12 a0)
            have f887 : (q_I d646 1 12 a0).toInt = (q_I d625 1 12 a0).toInt := congrArg Int32.toInt (by rw [e647]; exact rI_o (by decide))
            have f888 := ti_b (q_I d625 1 12 a0)
            have f889 : (q_I d625 1 12 a0).toInt = (q_I d607 1 12 a0).toInt := congrArg Int32.toInt (by rw [e626]; exact rI_o (by decide))
            have f890 := ti_b (q_I d607 1 12 a0)
            have f891 : (q_I d607 1 12 a0).toInt = (q_I δ 1 12 a0).toInt := congrArg Int32.toInt (by rw [e608]; exact rI_o (by decide))
            have f892 := ti_b (q_I δ 1 12 a0)
            exact ok_some (show CI ad h.1 δ0 d777 ∧ (kp [(1, 7), (1, 9), (1, 10), (1, 11), (1, 12), (1, 15)] δ d777 ∧ q_V d777 = q_V δ ∧ q_R d777 = q_R δ) ∧ ((q_I d777 1 15 a0).toInt = 0 → 0 ≤ (q_I d777 1 11 a0).toInt ∧ (q_I d777 1 11 a0).toInt ≤ (q_I d777 1 12 a0).toInt ∧ (q_I d777 1 12 a0).toInt ≤ (q_I δ 3 1 nu).toInt) from ⟨i779, ⟨kp_w (by decide) u780, v781, v782⟩, by first | assumption | omega⟩)
      · have c893 : (q_I d607 1 15 a0).toInt ≠ (0 : Int) := o_ne h615
        have f894 := ti_b (q_I d607 1 11 a0)
        have f895 : (q_I d607 1 11 a0).toInt = (q_I δ 1 11 a0).toInt := congrArg Int32.toInt (by rw [e608]; exact rI_o (by decide))
        have f896 := ti_b (q_I δ 1 11 a0)
        have f897 := ti_b (q_I d607 1 12 a0)
        have f898 : (q_I d607 1 12 a0).toInt = (q_I δ 1 12 a0).toInt := congrArg Int32.toInt (by rw [e608]; exact rI_o (by decide))
        have f899 := ti_b (q_I δ 1 12 a0)
        exact ok_some (show CI ad h.1 δ0 d607 ∧ (kp [(1, 7), (1, 9), (1, 10), (1, 11), (1, 12), (1, 15)] δ d607 ∧ q_V d607 = q_V δ ∧ q_R d607 = q_R δ) ∧ ((q_I d607 1 15 a0).toInt = 0 → 0 ≤ (q_I d607 1 11 a0).toInt ∧ (q_I d607 1 11 a0).toInt ≤ (q_I d607 1 12 a0).toInt ∧ (q_I d607 1 12 a0).toInt ≤ (q_I δ 3 1 nu).toInt) from ⟨i609, ⟨kp_w (by decide) u610, v611, v612⟩, by first | assumption | omega⟩)
set_option maxHeartbeats 4000000 in
theorem k_X1_findRoom {ad : List Nat} {h : hp} (L : Lay TLx ad h) {δ0 : dp} {N : Nat} (hN : 10000000 ≤ N) {a0 : Nat} {x1 : Int32} {nu : Nat} (k_a0 : q_K h.1 a0 = 1) (hnu : q_O h.1 1 1 a0 = some nu) (knu : q_K h.1 nu = 3) {δ : dp} (z0 : 0 ≤ (q_I δ 1 11 a0).toInt) (z1 : (q_I δ 1 11 a0).toInt ≤ (q_I δ 1 12 a0).toInt) (z2 : (q_I δ 1 12 a0).toInt ≤ (q_I δ 3 1 nu).toInt) (I : CI ad h.1 δ0 δ) : ok (D_X1_findRoom N h.1 a0 x1 δ) (fun r => CI ad h.1 δ0 r.2 ∧ (kp [(1, 13), (1, 14)] δ r.2 ∧ q_V r.2 = q_V δ ∧ q_R r.2 = q_R δ) ∧ bo (r.1) ∧ (q_I δ 1 11 a0).toInt ≤ (q_I r.2 1 13 a0).toInt ∧ (q_I r.2 1 13 a0).toInt ≤ (q_I r.2 1 14 a0).toInt ∧ (q_I r.2 1 14 a0).toInt ≤ (q_I δ 1 12 a0).toInt ∧ ((r.1).toInt = 1 → (q_I r.2 1 13 a0).toInt < (q_I r.2 1 14 a0).toInt)) := by
  unfold D_X1_findRoom
  have f1 := ti_b (q_I δ 1 11 a0)
  have f2 := ti_b (q_I δ 1 12 a0)
  obtain ⟨b3, o4, k5, ⟨n6, n7⟩, w8⟩ := gO_3_0 L knu
  have f9 := cb_3_1 I knu o4
  have f12 := ti_b ((x1 >>> ((q_I δ 1 7 a0) &&& 31)) <<< ((q_I δ 1 7 a0) &&& 31))
  refine ok_biv (fun vx10 e11 => ?_)
  have f13 : vx10.toInt = ((x1 >>> ((q_I δ 1 7 a0) &&& 31)) <<< ((q_I δ 1 7 a0) &&& 31)).toInt := congrArg Int32.toInt e11
  refine ok_bind (k_X1_firstFrom L hN (a0 := a0) (x1 := (q_I δ 1 11 a0)) (x2 := (q_I δ 1 12 a0)) (x3 := vx10) k_a0 hnu knu (show 0 ≤ ((q_I δ 1 11 a0)).toInt by first | assumption | omega) (show ((q_I δ 1 11 a0)).toInt ≤ ((q_I δ 1 12 a0)).toInt by first | assumption | omega) (show ((q_I δ 1 12 a0)).toInt ≤ (q_I δ 3 1 nu).toInt by first | assumption | omega) I) (fun r14 hr15 => ?_)
  obtain ⟨i16, p17, p18⟩ := hr15
  try rw [i16]
  have f19 := ti_b r14.1
  have f20 := ti_b r14.1
  refine ok_bdv (fun d21 e22 => ?_)
  have i23 : CI ad h.1 δ0 d21 := by rw [e22]; exact cs_1_13 L I
  have u24 := kp_I kp_r e22
  have v25 : q_V d21 = q_V δ := ((show q_V d21 = q_V δ by rw [e22]; rfl)).trans rfl
  have v26 : q_R d21 = q_R δ := ((show q_R d21 = q_R δ by rw [e22]; rfl)).trans rfl
  have f29 := ti_b (q_I d21 1 13 a0)
  have f30 : (q_I d21 1 13 a0).toInt = r14.1.toInt := congrArg Int32.toInt (show q_I d21 1 13 a0 = r14.1 by rw [e22]; exact rI_s)
  have f31 := ti_b (q_I d21 1 12 a0)
  have f32 : (q_I d21 1 12 a0).toInt = (q_I δ 1 12 a0).toInt := congrArg Int32.toInt (by rw [e22]; exact rI_o (by decide))
  have f33 := cb_3_1 i23 knu o4
  have f34 : (q_I d21 3 1 nu).toInt = (q_I δ 3 1 nu).toInt := congrArg Int32.toInt (by rw [e22]; exact rI_o (by decide))
  refine ok_bind (k_X1_firstFrom L hN (a0 := a0) (x1 := (q_I d21 1 13 a0)) (x2 := (q_I d21 1 12 a0)) (x3 := (vx10 + ((1 : Int32) <<< ((q_I d21 1 7 a0) &&& 31)))) k_a0 hnu knu (show 0 ≤ ((q_I d21 1 13 a0)).toInt by first | assumption | omega) (show ((q_I d21 1 13 a0)).toInt ≤ ((q_I d21 1 12 a0)).toInt by first | assumption | omega) (show ((q_I d21 1 12 a0)).toInt ≤ (q_I d21 3 1 nu).toInt by first | assumption | omega) i23) (fun r27 hr28 => ?_)
  obtain ⟨i35, p36, p37⟩ := hr28
  try rw [i35]
  have f38 := ti_b r27.1
  have f39 := ti_b r27.1
  refine ok_bdv (fun d40 e41 => ?_)
  have i42 : CI ad h.1 δ0 d40 := by rw [e41]; exact cs_1_14 L i23
  have u43 := kp_I u24 e41
  have v44 : q_V d40 = q_V δ := ((show q_V d40 = q_V d21 by rw [e41]; rfl)).trans v25
  have v45 : q_R d40 = q_R δ := ((show q_R d40 = q_R d21 by rw [e41]; rfl)).trans v26
  have f46 := ti_b (q_I d40 1 14 a0)
  have f47 : (q_I d40 1 14 a0).toInt = r27.1.toInt := congrArg Int32.toInt (show q_I d40 1 14 a0 = r27.1 by rw [e41]; exact rI_s)
  have f48 := ti_b (q_I d40 1 13 a0)
  have f49 : (q_I d40 1 13 a0).toInt = (q_I d21 1 13 a0).toInt := congrArg Int32.toInt (by rw [e41]; exact rI_o (by decide))
  refine ok_ite (fun h50 => ?_) (fun h50 => ?_)
  · have c51 : (q_I d40 1 14 a0).toInt ≤ (q_I d40 1 13 a0).toInt := o_le h50
    unfold J_X1_findRoom_69
    refine ok_gp (by decide) ?_
    exact ok_some (show CI ad h.1 δ0 d40 ∧ (kp [(1, 13), (1, 14)] δ d40 ∧ q_V d40 = q_V δ ∧ q_R d40 = q_R δ) ∧ bo ((0 : Int32)) ∧ (q_I δ 1 11 a0).toInt ≤ (q_I d40 1 13 a0).toInt ∧ (q_I d40 1 13 a0).toInt ≤ (q_I d40 1 14 a0).toInt ∧ (q_I d40 1 14 a0).toInt ≤ (q_I δ 1 12 a0).toInt ∧ ((0 : Int) = 1 → (q_I d40 1 13 a0).toInt < (q_I d40 1 14 a0).toInt) from ⟨i42, ⟨kp_w (by decide) u43, v44, v45⟩, bo_0, by first | assumption | omega, by first | assumption | omega, by first | assumption | omega, by first | assumption | omega⟩)
  · have c52 : (q_I d40 1 13 a0).toInt < (q_I d40 1 14 a0).toInt := o_nle h50
    unfold J_X1_findRoom_69
    refine ok_gp (by decide) ?_
    exact ok_some (show CI ad h.1 δ0 d40 ∧ (kp [(1, 13), (1, 14)] δ d40 ∧ q_V d40 = q_V δ ∧ q_R d40 = q_R δ) ∧ bo ((1 : Int32)) ∧ (q_I δ 1 11 a0).toInt ≤ (q_I d40 1 13 a0).toInt ∧ (q_I d40 1 13 a0).toInt ≤ (q_I d40 1 14 a0).toInt ∧ (q_I d40 1 14 a0).toInt ≤ (q_I δ 1 12 a0).toInt ∧ ((1 : Int) = 1 → (q_I d40 1 13 a0).toInt < (q_I d40 1 14 a0).toInt) from ⟨i42, ⟨kp_w (by decide) u43, v44, v45⟩, bo_1, by first | assumption | omega, by first | assumption | omega, by first | assumption | omega, by first | assumption | omega⟩)
set_option maxHeartbeats 4000000 in
theorem k_X1_enterRoom {ad : List Nat} {h : hp} (L : Lay TLx ad h) {δ0 : dp} {N : Nat} (hN : 10000000 ≤ N) {a0 : Nat} {x1 : Int32} (k_a0 : q_K h.1 a0 = 1) {δ : dp} (I : CI ad h.1 δ0 δ) : ok (D_X1_enterRoom N h.1 a0 x1 δ) (fun r => CI ad h.1 δ0 r ∧ (kp [(1, 3), (1, 4), (1, 6), (1, 8)] δ r ∧ q_V r = q_V δ ∧ q_R r = q_R δ) ∧ (q_I r 1 3 a0).toInt = (q_I δ 1 13 a0).toInt ∧ (q_I r 1 4 a0).toInt = (q_I δ 1 14 a0).toInt) := by
  unfold D_X1_enterRoom
  have f4 := ti_b (q_I δ 1 13 a0)
  refine ok_bdv (fun d1 e2 => ?_)
  have i3 : CI ad h.1 δ0 d1 := by rw [e2]; exact cs_1_3 L I
  have u5 := kp_I kp_r e2
  have v6 : q_V d1 = q_V δ := ((show q_V d1 = q_V δ by rw [e2]; rfl)).trans rfl
  have v7 : q_R d1 = q_R δ := ((show q_R d1 = q_R δ by rw [e2]; rfl)).trans rfl
  have f11 := ti_b (q_I d1 1 14 a0)
  have f12 : (q_I d1 1 14 a0).toInt = (q_I δ 1 14 a0).toInt := congrArg Int32.toInt (by rw [e2]; exact rI_o (by decide))
  have f13 := ti_b (q_I δ 1 14 a0)
  refine ok_bdv (fun d8 e9 => ?_)
  have i10 : CI ad h.1 δ0 d8 := by rw [e9]; exact cs_1_4 L i3
  have u14 := kp_I u5 e9
  have v15 : q_V d8 = q_V δ := ((show q_V d8 = q_V d1 by rw [e9]; rfl)).trans v6
  have v16 : q_R d8 = q_R δ := ((show q_R d8 = q_R d1 by rw [e9]; rfl)).trans v7
  have f20 := ti_b (q_I d8 1 7 a0)
  have f21 : (q_I d8 1 7 a0).toInt = (q_I d1 1 7 a0).toInt := congrArg Int32.toInt (by rw [e9]; exact rI_o (by decide))
  have f22 := ti_b (q_I d1 1 7 a0)
  have f23 : (q_I d1 1 7 a0).toInt = (q_I δ 1 7 a0).toInt := congrArg Int32.toInt (by rw [e2]; exact rI_o (by decide))
  have f24 := ti_b (q_I δ 1 7 a0)
  refine ok_bdv (fun d17 e18 => ?_)
  have i19 : CI ad h.1 δ0 d17 := by rw [e18]; exact cs_1_6 L i10
  have u25 := kp_I u14 e18
  have v26 : q_V d17 = q_V δ := ((show q_V d17 = q_V d8 by rw [e18]; rfl)).trans v15
  have v27 : q_R d17 = q_R δ := ((show q_R d17 = q_R d8 by rw [e18]; rfl)).trans v16
  have f31 := ti_b (x1 &&& (((1 : Int32) <<< ((q_I d17 1 7 a0) &&& 31)) - (1 : Int32)))
  refine ok_bdv (fun d28 e29 => ?_)
  have i30 : CI ad h.1 δ0 d28 := by rw [e29]; exact cs_1_8 L i19
  have u32 := kp_I u25 e29
  have v33 : q_V d28 = q_V δ := ((show q_V d28 = q_V d17 by rw [e29]; rfl)).trans v26
  have v34 : q_R d28 = q_R δ := ((show q_R d28 = q_R d17 by rw [e29]; rfl)).trans v27
  have f35 := ti_b (q_I d28 1 3 a0)
  have f36 : (q_I d28 1 3 a0).toInt = (q_I d17 1 3 a0).toInt := congrArg Int32.toInt (by rw [e29]; exact rI_o (by decide))
  have f37 := ti_b (q_I d17 1 3 a0)
  have f38 : (q_I d17 1 3 a0).toInt = (q_I d8 1 3 a0).toInt := congrArg Int32.toInt (by rw [e18]; exact rI_o (by decide))
  have f39 := ti_b (q_I d8 1 3 a0)
  have f40 : (q_I d8 1 3 a0).toInt = (q_I d1 1 3 a0).toInt := congrArg Int32.toInt (by rw [e9]; exact rI_o (by decide))
  have f41 := ti_b (q_I d1 1 3 a0)
  have f42 : (q_I d1 1 3 a0).toInt = (q_I δ 1 13 a0).toInt := congrArg Int32.toInt (show q_I d1 1 3 a0 = (q_I δ 1 13 a0) by rw [e2]; exact rI_s)
  have f43 := ti_b (q_I d28 1 4 a0)
  have f44 : (q_I d28 1 4 a0).toInt = (q_I d17 1 4 a0).toInt := congrArg Int32.toInt (by rw [e29]; exact rI_o (by decide))
  have f45 := ti_b (q_I d17 1 4 a0)
  have f46 : (q_I d17 1 4 a0).toInt = (q_I d8 1 4 a0).toInt := congrArg Int32.toInt (by rw [e18]; exact rI_o (by decide))
  have f47 := ti_b (q_I d8 1 4 a0)
  have f48 : (q_I d8 1 4 a0).toInt = (q_I d1 1 14 a0).toInt := congrArg Int32.toInt (show q_I d8 1 4 a0 = (q_I d1 1 14 a0) by rw [e9]; exact rI_s)
  exact ok_some (show CI ad h.1 δ0 d28 ∧ (kp [(1, 3), (1, 4), (1, 6), (1, 8)] δ d28 ∧ q_V d28 = q_V δ ∧ q_R d28 = q_R δ) ∧ (q_I d28 1 3 a0).toInt = (q_I δ 1 13 a0).toInt ∧ (q_I d28 1 4 a0).toInt = (q_I δ 1 14 a0).toInt from ⟨i30, ⟨kp_w (by decide) u32, v33, v34⟩, by first | assumption | omega, by first | assumption | omega⟩)
set_option maxHeartbeats 4000000 in
theorem k_X1_enterList {ad : List Nat} {h : hp} (L : Lay TLx ad h) {δ0 : dp} {N : Nat} (hN : 10000000 ≤ N) {a0 : Nat} {x1 : Int32} (k_a0 : q_K h.1 a0 = 1) {δ : dp} (I : CI ad h.1 δ0 δ) : ok (D_X1_enterList N h.1 a0 x1 δ) (fun r => CI ad h.1 δ0 r ∧ (kp [(1, 3), (1, 4), (1, 5), (1, 6), (1, 8)] δ r ∧ q_V r = q_V δ ∧ q_R r = q_R δ) ∧ (q_I r 1 3 a0).toInt = (q_I δ 1 11 a0).toInt ∧ (q_I r 1 4 a0).toInt = (q_I δ 1 12 a0).toInt) := by
  unfold D_X1_enterList
  have f4 := ti_b (q_I δ 1 11 a0)
  refine ok_bdv (fun d1 e2 => ?_)
  have i3 : CI ad h.1 δ0 d1 := by rw [e2]; exact cs_1_3 L I
  have u5 := kp_I kp_r e2
  have v6 : q_V d1 = q_V δ := ((show q_V d1 = q_V δ by rw [e2]; rfl)).trans rfl
  have v7 : q_R d1 = q_R δ := ((show q_R d1 = q_R δ by rw [e2]; rfl)).trans rfl
  have f11 := ti_b (q_I d1 1 12 a0)
  have f12 : (q_I d1 1 12 a0).toInt = (q_I δ 1 12 a0).toInt := congrArg Int32.toInt (by rw [e2]; exact rI_o (by decide))
  have f13 := ti_b (q_I δ 1 12 a0)
  refine ok_bdv (fun d8 e9 => ?_)
  have i10 : CI ad h.1 δ0 d8 := by rw [e9]; exact cs_1_4 L i3
  have u14 := kp_I u5 e9
  have v15 : q_V d8 = q_V δ := ((show q_V d8 = q_V d1 by rw [e9]; rfl)).trans v6
  have v16 : q_R d8 = q_R δ := ((show q_R d8 = q_R d1 by rw [e9]; rfl)).trans v7
  have f20 := ti_b (q_I d8 1 5 a0)
  have f21 : (q_I d8 1 5 a0).toInt = (q_I d1 1 5 a0).toInt := congrArg Int32.toInt (by rw [e9]; exact rI_o (by decide))
  have f22 := ti_b (q_I d1 1 5 a0)
  have f23 : (q_I d1 1 5 a0).toInt = (q_I δ 1 5 a0).toInt := congrArg Int32.toInt (by rw [e2]; exact rI_o (by decide))
  have f24 := ti_b (q_I δ 1 5 a0)
  have f25 := ti_b (q_I d8 1 7 a0)
  have f26 : (q_I d8 1 7 a0).toInt = (q_I d1 1 7 a0).toInt := congrArg Int32.toInt (by rw [e9]; exact rI_o (by decide))
  have f27 := ti_b (q_I d1 1 7 a0)
  have f28 : (q_I d1 1 7 a0).toInt = (q_I δ 1 7 a0).toInt := congrArg Int32.toInt (by rw [e2]; exact rI_o (by decide))
  have f29 := ti_b (q_I δ 1 7 a0)
  first | (have q31 := te_add (q_I d8 1 5 a0) (q_I d8 1 7 a0) (by omega) (by omega); obtain ⟨f32, f33, f34⟩ := q31) | (obtain ⟨q31, f32, f33, f34⟩ := ti_add (q_I d8 1 5 a0) (q_I d8 1 7 a0))
  refine ok_bdv (fun d17 e18 => ?_)
  have i19 : CI ad h.1 δ0 d17 := by rw [e18]; exact cs_1_5 L i10
  have u35 := kp_I u14 e18
  have v36 : q_V d17 = q_V δ := ((show q_V d17 = q_V d8 by rw [e18]; rfl)).trans v15
  have v37 : q_R d17 = q_R δ := ((show q_R d17 = q_R d8 by rw [e18]; rfl)).trans v16
  have f41 := ti_b (q_I d17 1 6 a0)
  have f42 : (q_I d17 1 6 a0).toInt = (q_I d8 1 6 a0).toInt := congrArg Int32.toInt (by rw [e18]; exact rI_o (by decide))
  have f43 := ti_b (q_I d8 1 6 a0)
  have f44 : (q_I d8 1 6 a0).toInt = (q_I d1 1 6 a0).toInt := congrArg Int32.toInt (by rw [e9]; exact rI_o (by decide))
  have f45 := ti_b (q_I d1 1 6 a0)
  have f46 : (q_I d1 1 6 a0).toInt = (q_I δ 1 6 a0).toInt := congrArg Int32.toInt (by rw [e2]; exact rI_o (by decide))
  have f47 := ti_b (q_I δ 1 6 a0)
  have f48 := ti_b (q_I d17 1 7 a0)
  have f49 : (q_I d17 1 7 a0).toInt = (q_I d8 1 7 a0).toInt := congrArg Int32.toInt (by rw [e18]; exact rI_o (by decide))
  first | (have q51 := te_sub (q_I d17 1 6 a0) (q_I d17 1 7 a0) (by omega) (by omega); obtain ⟨f52, f53, f54⟩ := q51) | (obtain ⟨q51, f52, f53, f54⟩ := ti_sub (q_I d17 1 6 a0) (q_I d17 1 7 a0))
  refine ok_bdv (fun d38 e39 => ?_)
  have i40 : CI ad h.1 δ0 d38 := by rw [e39]; exact cs_1_6 L i19
  have u55 := kp_I u35 e39
  have v56 : q_V d38 = q_V δ := ((show q_V d38 = q_V d17 by rw [e39]; rfl)).trans v36
  have v57 : q_R d38 = q_R δ := ((show q_R d38 = q_R d17 by rw [e39]; rfl)).trans v37
  have f61 := ti_b (x1 >>> ((q_I d38 1 7 a0) &&& 31))
  refine ok_bdv (fun d58 e59 => ?_)
  have i60 : CI ad h.1 δ0 d58 := by rw [e59]; exact cs_1_8 L i40
  have u62 := kp_I u55 e59
  have v63 : q_V d58 = q_V δ := ((show q_V d58 = q_V d38 by rw [e59]; rfl)).trans v56
  have v64 : q_R d58 = q_R δ := ((show q_R d58 = q_R d38 by rw [e59]; rfl)).trans v57
  have f65 := ti_b (q_I d58 1 3 a0)
  have f66 : (q_I d58 1 3 a0).toInt = (q_I d38 1 3 a0).toInt := congrArg Int32.toInt (by rw [e59]; exact rI_o (by decide))
  have f67 := ti_b (q_I d38 1 3 a0)
  have f68 : (q_I d38 1 3 a0).toInt = (q_I d17 1 3 a0).toInt := congrArg Int32.toInt (by rw [e39]; exact rI_o (by decide))
  have f69 := ti_b (q_I d17 1 3 a0)
  have f70 : (q_I d17 1 3 a0).toInt = (q_I d8 1 3 a0).toInt := congrArg Int32.toInt (by rw [e18]; exact rI_o (by decide))
  have f71 := ti_b (q_I d8 1 3 a0)
  have f72 : (q_I d8 1 3 a0).toInt = (q_I d1 1 3 a0).toInt := congrArg Int32.toInt (by rw [e9]; exact rI_o (by decide))
  have f73 := ti_b (q_I d1 1 3 a0)
  have f74 : (q_I d1 1 3 a0).toInt = (q_I δ 1 11 a0).toInt := congrArg Int32.toInt (show q_I d1 1 3 a0 = (q_I δ 1 11 a0) by rw [e2]; exact rI_s)
  have f75 := ti_b (q_I d58 1 4 a0)
  have f76 : (q_I d58 1 4 a0).toInt = (q_I d38 1 4 a0).toInt := congrArg Int32.toInt (by rw [e59]; exact rI_o (by decide))
  have f77 := ti_b (q_I d38 1 4 a0)
  have f78 : (q_I d38 1 4 a0).toInt = (q_I d17 1 4 a0).toInt := congrArg Int32.toInt (by rw [e39]; exact rI_o (by decide))
  have f79 := ti_b (q_I d17 1 4 a0)
  have f80 : (q_I d17 1 4 a0).toInt = (q_I d8 1 4 a0).toInt := congrArg Int32.toInt (by rw [e18]; exact rI_o (by decide))
  have f81 := ti_b (q_I d8 1 4 a0)
  have f82 : (q_I d8 1 4 a0).toInt = (q_I d1 1 12 a0).toInt := congrArg Int32.toInt (show q_I d8 1 4 a0 = (q_I d1 1 12 a0) by rw [e9]; exact rI_s)
  exact ok_some (show CI ad h.1 δ0 d58 ∧ (kp [(1, 3), (1, 4), (1, 5), (1, 6), (1, 8)] δ d58 ∧ q_V d58 = q_V δ ∧ q_R d58 = q_R δ) ∧ (q_I d58 1 3 a0).toInt = (q_I δ 1 11 a0).toInt ∧ (q_I d58 1 4 a0).toInt = (q_I δ 1 12 a0).toInt from ⟨i60, ⟨kp_w (by decide) u62, v63, v64⟩, by first | assumption | omega, by first | assumption | omega⟩)
set_option maxHeartbeats 4000000 in
theorem k_X1_goOnPutting {ad : List Nat} {h : hp} (L : Lay TLx ad h) {δ0 : dp} {N : Nat} (hN : 10000000 ≤ N) {a0 : Nat} {nu : Nat} (k_a0 : q_K h.1 a0 = 1) (hnu : q_O h.1 1 1 a0 = some nu) (knu : q_K h.1 nu = 3) {δ : dp} (z0 : 0 ≤ (q_I δ 1 11 a0).toInt) (z1 : (q_I δ 1 11 a0).toInt ≤ (q_I δ 1 12 a0).toInt) (z2 : (q_I δ 1 12 a0).toInt ≤ (q_I δ 3 1 nu).toInt) (z3 : 0 ≤ (q_I δ 1 3 a0).toInt) (z4 : (q_I δ 1 4 a0).toInt ≤ (q_I δ 3 1 nu).toInt) (I : CI ad h.1 δ0 δ) : ok (D_X1_goOnPutting N h.1 a0 δ) (fun r => CI ad h.1 δ0 r.2 ∧ (kp [(1, 3), (1, 4), (1, 5), (1, 6), (1, 8), (1, 13), (1, 14), (1, 15)] δ r.2 ∧ q_V r.2 = q_V δ ∧ q_R r.2 = q_R δ) ∧ 0 ≤ (q_I r.2 1 3 a0).toInt ∧ (q_I r.2 1 4 a0).toInt ≤ (q_I δ 3 1 nu).toInt) := by
  unfold D_X1_goOnPutting
  have f1 := ti_b (q_I δ 1 11 a0)
  have f2 := ti_b (q_I δ 1 12 a0)
  obtain ⟨b3, o4, k5, ⟨n6, n7⟩, w8⟩ := gO_3_0 L knu
  have f9 := cb_3_1 I knu o4
  have f10 := ti_b (q_I δ 1 3 a0)
  have f11 := ti_b (q_I δ 1 4 a0)
  have f12 := ti_b (q_I δ 1 8 a0)
  have f13 := ti_b (q_I δ 1 9 a0)
  refine ok_ite (fun h14 => ?_) (fun h14 => ?_)
  · have c15 : (q_I δ 1 8 a0).toInt = (q_I δ 1 9 a0).toInt := o_eq h14
    unfold J_X1_goOnPutting_22
    refine ok_bdv (fun d16 e17 => ?_)
    have i18 : CI ad h.1 δ0 d16 := by rw [e17]; exact cs_1_15 L I k_a0 (show 0 ≤ (1 : Int) by omega) (show (1 : Int) ≤ 1 by omega)
    have u19 := kp_I kp_r e17
    have v20 : q_V d16 = q_V δ := ((show q_V d16 = q_V δ by rw [e17]; rfl)).trans rfl
    have v21 : q_R d16 = q_R δ := ((show q_R d16 = q_R δ by rw [e17]; rfl)).trans rfl
    have f22 := ti_b (q_I d16 1 3 a0)
    have f23 : (q_I d16 1 3 a0).toInt = (q_I δ 1 3 a0).toInt := congrArg Int32.toInt (by rw [e17]; exact rI_o (by decide))
    have f24 := ti_b (q_I d16 1 4 a0)
    have f25 : (q_I d16 1 4 a0).toInt = (q_I δ 1 4 a0).toInt := congrArg Int32.toInt (by rw [e17]; exact rI_o (by decide))
    exact ok_some (show CI ad h.1 δ0 d16 ∧ (kp [(1, 3), (1, 4), (1, 5), (1, 6), (1, 8), (1, 13), (1, 14), (1, 15)] δ d16 ∧ q_V d16 = q_V δ ∧ q_R d16 = q_R δ) ∧ 0 ≤ (q_I d16 1 3 a0).toInt ∧ (q_I d16 1 4 a0).toInt ≤ (q_I δ 3 1 nu).toInt from ⟨i18, ⟨kp_w (by decide) u19, v20, v21⟩, by first | assumption | omega, by first | assumption | omega⟩)
  · have c26 : (q_I δ 1 8 a0).toInt ≠ (q_I δ 1 9 a0).toInt := o_ne h14
    have f27 := ti_b (q_I δ 1 10 a0)
    refine ok_ite (fun h28 => ?_) (fun h28 => ?_)
    · have c29 : (q_I δ 1 8 a0).toInt = (q_I δ 1 10 a0).toInt := o_eq h28
      unfold J_X1_goOnPutting_22
      refine ok_bdv (fun d30 e31 => ?_)
      have i32 : CI ad h.1 δ0 d30 := by rw [e31]; exact cs_1_15 L I k_a0 (show 0 ≤ (1 : Int) by omega) (show (1 : Int) ≤ 1 by omega)
      have u33 := kp_I kp_r e31
      have v34 : q_V d30 = q_V δ := ((show q_V d30 = q_V δ by rw [e31]; rfl)).trans rfl
      have v35 : q_R d30 = q_R δ := ((show q_R d30 = q_R δ by rw [e31]; rfl)).trans rfl
      have f36 := ti_b (q_I d30 1 3 a0)
      have f37 : (q_I d30 1 3 a0).toInt = (q_I δ 1 3 a0).toInt := congrArg Int32.toInt (by rw [e31]; exact rI_o (by decide))
      have f38 := ti_b (q_I d30 1 4 a0)
      have f39 : (q_I d30 1 4 a0).toInt = (q_I δ 1 4 a0).toInt := congrArg Int32.toInt (by rw [e31]; exact rI_o (by decide))
      exact ok_some (show CI ad h.1 δ0 d30 ∧ (kp [(1, 3), (1, 4), (1, 5), (1, 6), (1, 8), (1, 13), (1, 14), (1, 15)] δ d30 ∧ q_V d30 = q_V δ ∧ q_R d30 = q_R δ) ∧ 0 ≤ (q_I d30 1 3 a0).toInt ∧ (q_I d30 1 4 a0).toInt ≤ (q_I δ 3 1 nu).toInt from ⟨i32, ⟨kp_w (by decide) u33, v34, v35⟩, by first | assumption | omega, by first | assumption | omega⟩)
    · have c40 : (q_I δ 1 8 a0).toInt ≠ (q_I δ 1 10 a0).toInt := o_ne h28
      refine ok_bind (k_J9_max_7cf53 L hN (x0 := (q_I δ 1 8 a0)) (x1 := (q_I δ 1 9 a0))  I) (fun r41 hr42 => ?_)
      obtain ⟨i43, p44, p45, p46⟩ := hr42
      try rw [i43]
      have f47 := ti_b r41.1
      have f48 := ti_b r41.1
      refine ok_bind (k_J9_min_7cf53 L hN (x0 := r41.1) (x1 := (q_I δ 1 10 a0))  I) (fun r49 hr50 => ?_)
      obtain ⟨i51, p52, p53, p54⟩ := hr50
      try rw [i51]
      have f55 := ti_b r49.1
      have f56 := ti_b r49.1
      refine ok_bind (k_X1_findRoom L hN (a0 := a0) (x1 := r49.1) k_a0 hnu knu (show 0 ≤ (q_I δ 1 11 a0).toInt by first | assumption | omega) (show (q_I δ 1 11 a0).toInt ≤ (q_I δ 1 12 a0).toInt by first | assumption | omega) (show (q_I δ 1 12 a0).toInt ≤ (q_I δ 3 1 nu).toInt by first | assumption | omega) I) (fun r57 hr58 => ?_)
      obtain ⟨i59, ⟨u65, u66, u67⟩, p60, p61, p62, p63, p64⟩ := hr58
      have u68 := kp_t kp_r u65
      have v69 : q_V r57.2 = q_V δ := (u66).trans rfl
      have v70 : q_R r57.2 = q_R δ := (u67).trans rfl
      have f71 := bo_t p60
      have f72 := ti_b (q_I r57.2 1 13 a0)
      have f73 := ti_b (q_I r57.2 1 14 a0)
      have f74 := ti_b r57.1
      have f75 := ti_b r57.1
      refine ok_ite (fun h76 => ?_) (fun h76 => ?_)
      · have c77 : r57.1.toInt = (0 : Int) := o_eq h76
        refine ok_bind (k_X1_enterList L hN (a0 := a0) (x1 := r49.1) k_a0 i59) (fun r78 hr79 => ?_)
        obtain ⟨i80, ⟨u83, u84, u85⟩, p81, p82⟩ := hr79
        have u86 := kp_t u68 u83
        have v87 : q_V r78 = q_V δ := (u84).trans v69
        have v88 : q_R r78 = q_R δ := (u85).trans v70
        have f89 := ti_b (q_I r78 1 3 a0)
        have f90 := ti_b (q_I r57.2 1 11 a0)
        have f91 : (q_I r57.2 1 11 a0).toInt = (q_I δ 1 11 a0).toInt := congrArg Int32.toInt (u65 1 11 a0 (by decide))
        have f92 := ti_b (q_I r78 1 4 a0)
        have f93 := ti_b (q_I r57.2 1 12 a0)
        have f94 : (q_I r57.2 1 12 a0).toInt = (q_I δ 1 12 a0).toInt := congrArg Int32.toInt (u65 1 12 a0 (by decide))
        exact ok_some (show CI ad h.1 δ0 r78 ∧ (kp [(1, 3), (1, 4), (1, 5), (1, 6), (1, 8), (1, 13), (1, 14), (1, 15)] δ r78 ∧ q_V r78 = q_V δ ∧ q_R r78 = q_R δ) ∧ 0 ≤ (q_I r78 1 3 a0).toInt ∧ (q_I r78 1 4 a0).toInt ≤ (q_I δ 3 1 nu).toInt from ⟨i80, ⟨kp_w (by decide) u86, v87, v88⟩, by first | assumption | omega, by first | assumption | omega⟩)
      · have c95 : r57.1.toInt ≠ (0 : Int) := o_ne h76
        refine ok_bind (k_X1_enterRoom L hN (a0 := a0) (x1 := r49.1) k_a0 i59) (fun r96 hr97 => ?_)
        obtain ⟨i98, ⟨u101, u102, u103⟩, p99, p100⟩ := hr97
        have u104 := kp_t u68 u101
        have v105 : q_V r96 = q_V δ := (u102).trans v69
        have v106 : q_R r96 = q_R δ := (u103).trans v70
        have f107 := ti_b (q_I r96 1 3 a0)
        have f108 := ti_b (q_I r96 1 4 a0)
        exact ok_some (show CI ad h.1 δ0 r96 ∧ (kp [(1, 3), (1, 4), (1, 5), (1, 6), (1, 8), (1, 13), (1, 14), (1, 15)] δ r96 ∧ q_V r96 = q_V δ ∧ q_R r96 = q_R δ) ∧ 0 ≤ (q_I r96 1 3 a0).toInt ∧ (q_I r96 1 4 a0).toInt ≤ (q_I δ 3 1 nu).toInt from ⟨i98, ⟨kp_w (by decide) u104, v105, v106⟩, by first | assumption | omega, by first | assumption | omega⟩)
set_option maxHeartbeats 4000000 in
theorem k_X1_goOnDropping {ad : List Nat} {h : hp} (L : Lay TLx ad h) {δ0 : dp} {N : Nat} (hN : 10000000 ≤ N) {a0 : Nat} {nu : Nat} (k_a0 : q_K h.1 a0 = 1) (hnu : q_O h.1 1 1 a0 = some nu) (knu : q_K h.1 nu = 3) {δ : dp} (z0 : 0 ≤ (q_I δ 1 11 a0).toInt) (z1 : (q_I δ 1 11 a0).toInt ≤ (q_I δ 1 12 a0).toInt) (z2 : (q_I δ 1 12 a0).toInt ≤ (q_I δ 3 1 nu).toInt) (z3 : 0 ≤ (q_I δ 1 3 a0).toInt) (z4 : (q_I δ 1 4 a0).toInt ≤ (q_I δ 3 1 nu).toInt) (I : CI ad h.1 δ0 δ) : ok (D_X1_goOnDropping N h.1 a0 δ) (fun r => CI ad h.1 δ0 r.2 ∧ (kp [(1, 3), (1, 4), (1, 5), (1, 6), (1, 8), (1, 13), (1, 14), (1, 15)] δ r.2 ∧ q_V r.2 = q_V δ ∧ q_R r.2 = q_R δ) ∧ 0 ≤ (q_I r.2 1 3 a0).toInt ∧ (q_I r.2 1 4 a0).toInt ≤ (q_I δ 3 1 nu).toInt) := by
  unfold D_X1_goOnDropping
  have f1 := ti_b (q_I δ 1 11 a0)
  have f2 := ti_b (q_I δ 1 12 a0)
  obtain ⟨b3, o4, k5, ⟨n6, n7⟩, w8⟩ := gO_3_0 L knu
  have f9 := cb_3_1 I knu o4
  have f10 := ti_b (q_I δ 1 3 a0)
  have f11 := ti_b (q_I δ 1 4 a0)
  have f12 := ti_b (q_I δ 1 8 a0)
  have f13 := ti_b (q_I δ 1 9 a0)
  refine ok_ite (fun h14 => ?_) (fun h14 => ?_)
  · have c15 : (q_I δ 1 8 a0).toInt = (q_I δ 1 9 a0).toInt := o_eq h14
    unfold J_X1_goOnDropping_22
    unfold J_X1_goOnDropping_27
    refine ok_ite (fun h16 => ?_) (fun h16 => ?_)
    · have c17 : (q_I δ 1 8 a0).toInt < (q_I δ 1 9 a0).toInt := o_lt h16
      unfold J_X1_goOnDropping_65
      refine ok_bdv (fun d18 e19 => ?_)
      have i20 : CI ad h.1 δ0 d18 := by rw [e19]; exact cs_1_15 L I k_a0 (show 0 ≤ (1 : Int) by omega) (show (1 : Int) ≤ 1 by omega)
      have u21 := kp_I kp_r e19
      have v22 : q_V d18 = q_V δ := ((show q_V d18 = q_V δ by rw [e19]; rfl)).trans rfl
      have v23 : q_R d18 = q_R δ := ((show q_R d18 = q_R δ by rw [e19]; rfl)).trans rfl
      have f24 := ti_b (q_I d18 1 3 a0)
      have f25 : (q_I d18 1 3 a0).toInt = (q_I δ 1 3 a0).toInt := congrArg Int32.toInt (by rw [e19]; exact rI_o (by decide))
      have f26 := ti_b (q_I d18 1 4 a0)
      have f27 : (q_I d18 1 4 a0).toInt = (q_I δ 1 4 a0).toInt := congrArg Int32.toInt (by rw [e19]; exact rI_o (by decide))
      exact ok_some (show CI ad h.1 δ0 d18 ∧ (kp [(1, 3), (1, 4), (1, 5), (1, 6), (1, 8), (1, 13), (1, 14), (1, 15)] δ d18 ∧ q_V d18 = q_V δ ∧ q_R d18 = q_R δ) ∧ 0 ≤ (q_I d18 1 3 a0).toInt ∧ (q_I d18 1 4 a0).toInt ≤ (q_I δ 3 1 nu).toInt from ⟨i20, ⟨kp_w (by decide) u21, v22, v23⟩, by first | assumption | omega, by first | assumption | omega⟩)
    · have c28 : (q_I δ 1 9 a0).toInt ≤ (q_I δ 1 8 a0).toInt := o_nlt h16
      have f29 := ti_b (q_I δ 1 10 a0)
      refine ok_ite (fun h30 => ?_) (fun h30 => ?_)
      · have c31 : (q_I δ 1 10 a0).toInt < (q_I δ 1 8 a0).toInt := o_lt h30
        unfold J_X1_goOnDropping_65
        refine ok_bdv (fun d32 e33 => ?_)
        have i34 : CI ad h.1 δ0 d32 := by rw [e33]; exact cs_1_15 L I k_a0 (show 0 ≤ (1 : Int) by omega) (show (1 : Int) ≤ 1 by omega)
        have u35 := kp_I kp_r e33
        have v36 : q_V d32 = q_V δ := ((show q_V d32 = q_V δ by rw [e33]; rfl)).trans rfl
        have v37 : q_R d32 = q_R δ := ((show q_R d32 = q_R δ by rw [e33]; rfl)).trans rfl
        have f38 := ti_b (q_I d32 1 3 a0)
        have f39 : (q_I d32 1 3 a0).toInt = (q_I δ 1 3 a0).toInt := congrArg Int32.toInt (by rw [e33]; exact rI_o (by decide))
        have f40 := ti_b (q_I d32 1 4 a0)
        have f41 : (q_I d32 1 4 a0).toInt = (q_I δ 1 4 a0).toInt := congrArg Int32.toInt (by rw [e33]; exact rI_o (by decide))
        exact ok_some (show CI ad h.1 δ0 d32 ∧ (kp [(1, 3), (1, 4), (1, 5), (1, 6), (1, 8), (1, 13), (1, 14), (1, 15)] δ d32 ∧ q_V d32 = q_V δ ∧ q_R d32 = q_R δ) ∧ 0 ≤ (q_I d32 1 3 a0).toInt ∧ (q_I d32 1 4 a0).toInt ≤ (q_I δ 3 1 nu).toInt from ⟨i34, ⟨kp_w (by decide) u35, v36, v37⟩, by first | assumption | omega, by first | assumption | omega⟩)
      · have c42 : (q_I δ 1 8 a0).toInt ≤ (q_I δ 1 10 a0).toInt := o_nlt h30
        refine ok_ite (fun h43 => ?_) (fun h43 => ?_)
        · have c44 : (1 : Int) = (0 : Int) := o_eq h43
          unfold J_X1_goOnDropping_72
          refine ok_ite (fun h45 => ?_) (fun h45 => ?_)
          · have c46 : (1 : Int) = (0 : Int) := o_eq h45
            unfold J_X1_goOnDropping_81
            refine ok_ite (fun h47 => ?_) (fun h47 => ?_)
            · have c48 : (1 : Int) = (0 : Int) := o_eq h47
              unfold J_X1_goOnDropping_121
              refine ok_bind (k_X1_findRoom L hN (a0 := a0) (x1 := (q_I δ 1 8 a0)) k_a0 hnu knu (show 0 ≤ (q_I δ 1 11 a0).toInt by first | assumption | omega) (show (q_I δ 1 11 a0).toInt ≤ (q_I δ 1 12 a0).toInt by first | assumption | omega) (show (q_I δ 1 12 a0).toInt ≤ (q_I δ 3 1 nu).toInt by first | assumption | omega) I) (fun r49 hr50 => ?_)
              obtain ⟨i51, ⟨u57, u58, u59⟩, p52, p53, p54, p55, p56⟩ := hr50
              have u60 := kp_t kp_r u57
              have v61 : q_V r49.2 = q_V δ := (u58).trans rfl
              have v62 : q_R r49.2 = q_R δ := (u59).trans rfl
              have f63 := bo_t p52
              have f64 := ti_b (q_I r49.2 1 13 a0)
              have f65 := ti_b (q_I r49.2 1 14 a0)
              have f66 := ti_b r49.1
              have f67 := ti_b r49.1
              refine ok_ite (fun h68 => ?_) (fun h68 => ?_)
              · have c69 : r49.1.toInt = (0 : Int) := o_eq h68
                refine ok_bdv (fun d70 e71 => ?_)
                have i72 : CI ad h.1 δ0 d70 := by rw [e71]; exact cs_1_15 L i51 k_a0 (show 0 ≤ (1 : Int) by omega) (show (1 : Int) ≤ 1 by omega)
                have u73 := kp_I u60 e71
                have v74 : q_V d70 = q_V δ := ((show q_V d70 = q_V r49.2 by rw [e71]; rfl)).trans v61
                have v75 : q_R d70 = q_R δ := ((show q_R d70 = q_R r49.2 by rw [e71]; rfl)).trans v62
                have f76 := ti_b (q_I d70 1 3 a0)
                have f77 : (q_I d70 1 3 a0).toInt = (q_I r49.2 1 3 a0).toInt := congrArg Int32.toInt (by rw [e71]; exact rI_o (by decide))
                have f78 := ti_b (q_I r49.2 1 3 a0)
                have f79 : (q_I r49.2 1 3 a0).toInt = (q_I δ 1 3 a0).toInt := congrArg Int32.toInt (u57 1 3 a0 (by decide))
                have f80 := ti_b (q_I d70 1 4 a0)
                have f81 : (q_I d70 1 4 a0).toInt = (q_I r49.2 1 4 a0).toInt := congrArg Int32.toInt (by rw [e71]; exact rI_o (by decide))
                have f82 := ti_b (q_I r49.2 1 4 a0)
                have f83 : (q_I r49.2 1 4 a0).toInt = (q_I δ 1 4 a0).toInt := congrArg Int32.toInt (u57 1 4 a0 (by decide))
                exact ok_some (show CI ad h.1 δ0 d70 ∧ (kp [(1, 3), (1, 4), (1, 5), (1, 6), (1, 8), (1, 13), (1, 14), (1, 15)] δ d70 ∧ q_V d70 = q_V δ ∧ q_R d70 = q_R δ) ∧ 0 ≤ (q_I d70 1 3 a0).toInt ∧ (q_I d70 1 4 a0).toInt ≤ (q_I δ 3 1 nu).toInt from ⟨i72, ⟨kp_w (by decide) u73, v74, v75⟩, by first | assumption | omega, by first | assumption | omega⟩)
              · have c84 : r49.1.toInt ≠ (0 : Int) := o_ne h68
                have f87 := cb_3_1 i51 knu o4
                have f88 : (q_I r49.2 3 1 nu).toInt = (q_I δ 3 1 nu).toInt := congrArg Int32.toInt (u57 3 1 nu (by decide))
                refine ok_bind (k_X1_valueAt L hN (a0 := a0) (x1 := (q_I r49.2 1 13 a0)) k_a0 hnu knu (show 0 ≤ ((q_I r49.2 1 13 a0)).toInt by first | assumption | omega) (show ((q_I r49.2 1 13 a0)).toInt < (q_I r49.2 3 1 nu).toInt by first | assumption | omega) i51) (fun r85 hr86 => ?_)
                have i89 := hr86
                try rw [i89]
                have f90 := ti_b r85.1
                refine ok_ite (fun h91 => ?_) (fun h91 => ?_)
                · have c92 : r85.1.toInt = (q_I δ 1 8 a0).toInt := o_eq h91
                  first | (have q96 := te_subc (c := 1) (n := 1) rfl (q_I r49.2 1 14 a0) (by omega) (by omega); obtain ⟨f97, f98, f99⟩ := q96) | (obtain ⟨q96, f97, f98, f99⟩ := ti_subc (c := 1) (n := 1) rfl (q_I r49.2 1 14 a0))
                  refine ok_bind (k_X1_valueAt L hN (a0 := a0) (x1 := ((q_I r49.2 1 14 a0) - (1 : Int32))) k_a0 hnu knu (show 0 ≤ (((q_I r49.2 1 14 a0) - (1 : Int32))).toInt by first | assumption | omega) (show (((q_I r49.2 1 14 a0) - (1 : Int32))).toInt < (q_I r49.2 3 1 nu).toInt by first | assumption | omega) i51) (fun r93 hr94 => ?_)
                  have i100 := hr94
                  try rw [i100]
                  have f101 := ti_b r93.1
                  refine ok_ite (fun h102 => ?_) (fun h102 => ?_)
                  · have c103 : r93.1.toInt = (q_I δ 1 8 a0).toInt := o_eq h102
                    refine ok_bind (k_X1_enterList L hN (a0 := a0) (x1 := (q_I δ 1 8 a0)) k_a0 i51) (fun r104 hr105 => ?_)
                    obtain ⟨i106, ⟨u109, u110, u111⟩, p107, p108⟩ := hr105
                    have u112 := kp_t u60 u109
                    have v113 : q_V r104 = q_V δ := (u110).trans v61
                    have v114 : q_R r104 = q_R δ := (u111).trans v62
                    have f115 := ti_b (q_I r104 1 3 a0)
                    have f116 := ti_b (q_I r49.2 1 11 a0)
                    have f117 : (q_I r49.2 1 11 a0).toInt = (q_I δ 1 11 a0).toInt := congrArg Int32.toInt (u57 1 11 a0 (by decide))
                    have f118 := ti_b (q_I r104 1 4 a0)
                    have f119 := ti_b (q_I r49.2 1 12 a0)
                    have f120 : (q_I r49.2 1 12 a0).toInt = (q_I δ 1 12 a0).toInt := congrArg Int32.toInt (u57 1 12 a0 (by decide))
                    exact ok_some (show CI ad h.1 δ0 r104 ∧ (kp [(1, 3), (1, 4), (1, 5), (1, 6), (1, 8), (1, 13), (1, 14), (1, 15)] δ r104 ∧ q_V r104 = q_V δ ∧ q_R r104 = q_R δ) ∧ 0 ≤ (q_I r104 1 3 a0).toInt ∧ (q_I r104 1 4 a0).toInt ≤ (q_I δ 3 1 nu).toInt from ⟨i106, ⟨kp_w (by decide) u112, v113, v114⟩, by first | assumption | omega, by first | assumption | omega⟩)
                  · have c121 : r93.1.toInt ≠ (q_I δ 1 8 a0).toInt := o_ne h102
                    unfold J_X1_goOnDropping_172
                    refine ok_bind (k_X1_enterRoom L hN (a0 := a0) (x1 := (q_I δ 1 8 a0)) k_a0 i51) (fun r122 hr123 => ?_)
                    obtain ⟨i124, ⟨u127, u128, u129⟩, p125, p126⟩ := hr123
                    have u130 := kp_t u60 u127
                    have v131 : q_V r122 = q_V δ := (u128).trans v61
                    have v132 : q_R r122 = q_R δ := (u129).trans v62
                    have f133 := ti_b (q_I r122 1 3 a0)
                    have f134 := ti_b (q_I r122 1 4 a0)
                    exact ok_some (show CI ad h.1 δ0 r122 ∧ (kp [(1, 3), (1, 4), (1, 5), (1, 6), (1, 8), (1, 13), (1, 14), (1, 15)] δ r122 ∧ q_V r122 = q_V δ ∧ q_R r122 = q_R δ) ∧ 0 ≤ (q_I r122 1 3 a0).toInt ∧ (q_I r122 1 4 a0).toInt ≤ (q_I δ 3 1 nu).toInt from ⟨i124, ⟨kp_w (by decide) u130, v131, v132⟩, by first | assumption | omega, by first | assumption | omega⟩)
                · have c135 : r85.1.toInt ≠ (q_I δ 1 8 a0).toInt := o_ne h91
                  unfold J_X1_goOnDropping_172
                  refine ok_bind (k_X1_enterRoom L hN (a0 := a0) (x1 := (q_I δ 1 8 a0)) k_a0 i51) (fun r136 hr137 => ?_)
                  obtain ⟨i138, ⟨u141, u142, u143⟩, p139, p140⟩ := hr137
                  have u144 := kp_t u60 u141
                  have v145 : q_V r136 = q_V δ := (u142).trans v61
                  have v146 : q_R r136 = q_R δ := (u143).trans v62
                  have f147 := ti_b (q_I r136 1 3 a0)
                  have f148 := ti_b (q_I r136 1 4 a0)
                  exact ok_some (show CI ad h.1 δ0 r136 ∧ (kp [(1, 3), (1, 4), (1, 5), (1, 6), (1, 8), (1, 13), (1, 14), (1, 15)] δ r136 ∧ q_V r136 = q_V δ ∧ q_R r136 = q_R δ) ∧ 0 ≤ (q_I r136 1 3 a0).toInt ∧ (q_I r136 1 4 a0).toInt ≤ (q_I δ 3 1 nu).toInt from ⟨i138, ⟨kp_w (by decide) u144, v145, v146⟩, by first | assumption | omega, by first | assumption | omega⟩)
            · have c149 : (1 : Int) ≠ (0 : Int) := o_ne h47
              refine ok_ite (fun h150 => ?_) (fun h150 => ?_)
              · have c151 : (q_I δ 1 8 a0).toInt = (q_I δ 1 9 a0).toInt := o_eq h150
                unfold J_X1_goOnDropping_118
                refine ok_bind (k_X1_valueAt L hN (a0 := a0) (x1 := (q_I δ 1 11 a0)) k_a0 hnu knu (show 0 ≤ ((q_I δ 1 11 a0)).toInt by first | assumption | omega) (show ((q_I δ 1 11 a0)).toInt < (q_I δ 3 1 nu).toInt by first | assumption | omega) I) (fun r152 hr153 => ?_)
                have i154 := hr153
                try rw [i154]
                have f155 := ti_b r152.1
                unfold J_X1_goOnDropping_121
                refine ok_bind (k_X1_findRoom L hN (a0 := a0) (x1 := r152.1) k_a0 hnu knu (show 0 ≤ (q_I δ 1 11 a0).toInt by first | assumption | omega) (show (q_I δ 1 11 a0).toInt ≤ (q_I δ 1 12 a0).toInt by first | assumption | omega) (show (q_I δ 1 12 a0).toInt ≤ (q_I δ 3 1 nu).toInt by first | assumption | omega) I) (fun r156 hr157 => ?_)
                obtain ⟨i158, ⟨u164, u165, u166⟩, p159, p160, p161, p162, p163⟩ := hr157
                have u167 := kp_t kp_r u164
                have v168 : q_V r156.2 = q_V δ := (u165).trans rfl
                have v169 : q_R r156.2 = q_R δ := (u166).trans rfl
                have f170 := bo_t p159
                have f171 := ti_b (q_I r156.2 1 13 a0)
                have f172 := ti_b (q_I r156.2 1 14 a0)
                have f173 := ti_b r156.1
                have f174 := ti_b r156.1
                refine ok_ite (fun h175 => ?_) (fun h175 => ?_)
                · have c176 : r156.1.toInt = (0 : Int) := o_eq h175
                  refine ok_bdv (fun d177 e178 => ?_)
                  have i179 : CI ad h.1 δ0 d177 := by rw [e178]; exact cs_1_15 L i158 k_a0 (show 0 ≤ (1 : Int) by omega) (show (1 : Int) ≤ 1 by omega)
                  have u180 := kp_I u167 e178
                  have v181 : q_V d177 = q_V δ := ((show q_V d177 = q_V r156.2 by rw [e178]; rfl)).trans v168
                  have v182 : q_R d177 = q_R δ := ((show q_R d177 = q_R r156.2 by rw [e178]; rfl)).trans v169
                  have f183 := ti_b (q_I d177 1 3 a0)
                  have f184 : (q_I d177 1 3 a0).toInt = (q_I r156.2 1 3 a0).toInt := congrArg Int32.toInt (by rw [e178]; exact rI_o (by decide))
                  have f185 := ti_b (q_I r156.2 1 3 a0)
                  have f186 : (q_I r156.2 1 3 a0).toInt = (q_I δ 1 3 a0).toInt := congrArg Int32.toInt (u164 1 3 a0 (by decide))
                  have f187 := ti_b (q_I d177 1 4 a0)
                  have f188 : (q_I d177 1 4 a0).toInt = (q_I r156.2 1 4 a0).toInt := congrArg Int32.toInt (by rw [e178]; exact rI_o (by decide))
                  have f189 := ti_b (q_I r156.2 1 4 a0)
                  have f190 : (q_I r156.2 1 4 a0).toInt = (q_I δ 1 4 a0).toInt := congrArg Int32.toInt (u164 1 4 a0 (by decide))
                  exact ok_some (show CI ad h.1 δ0 d177 ∧ (kp [(1, 3), (1, 4), (1, 5), (1, 6), (1, 8), (1, 13), (1, 14), (1, 15)] δ d177 ∧ q_V d177 = q_V δ ∧ q_R d177 = q_R δ) ∧ 0 ≤ (q_I d177 1 3 a0).toInt ∧ (q_I d177 1 4 a0).toInt ≤ (q_I δ 3 1 nu).toInt from ⟨i179, ⟨kp_w (by decide) u180, v181, v182⟩, by first | assumption | omega, by first | assumption | omega⟩)
                · have c191 : r156.1.toInt ≠ (0 : Int) := o_ne h175
                  have f194 := cb_3_1 i158 knu o4
                  have f195 : (q_I r156.2 3 1 nu).toInt = (q_I δ 3 1 nu).toInt := congrArg Int32.toInt (u164 3 1 nu (by decide))
                  refine ok_bind (k_X1_valueAt L hN (a0 := a0) (x1 := (q_I r156.2 1 13 a0)) k_a0 hnu knu (show 0 ≤ ((q_I r156.2 1 13 a0)).toInt by first | assumption | omega) (show ((q_I r156.2 1 13 a0)).toInt < (q_I r156.2 3 1 nu).toInt by first | assumption | omega) i158) (fun r192 hr193 => ?_)
                  have i196 := hr193
                  try rw [i196]
                  have f197 := ti_b r192.1
                  refine ok_ite (fun h198 => ?_) (fun h198 => ?_)
                  · have c199 : r192.1.toInt = r152.1.toInt := o_eq h198
                    first | (have q203 := te_subc (c := 1) (n := 1) rfl (q_I r156.2 1 14 a0) (by omega) (by omega); obtain ⟨f204, f205, f206⟩ := q203) | (obtain ⟨q203, f204, f205, f206⟩ := ti_subc (c := 1) (n := 1) rfl (q_I r156.2 1 14 a0))
                    refine ok_bind (k_X1_valueAt L hN (a0 := a0) (x1 := ((q_I r156.2 1 14 a0) - (1 : Int32))) k_a0 hnu knu (show 0 ≤ (((q_I r156.2 1 14 a0) - (1 : Int32))).toInt by first | assumption | omega) (show (((q_I r156.2 1 14 a0) - (1 : Int32))).toInt < (q_I r156.2 3 1 nu).toInt by first | assumption | omega) i158) (fun r200 hr201 => ?_)
                    have i207 := hr201
                    try rw [i207]
                    have f208 := ti_b r200.1
                    refine ok_ite (fun h209 => ?_) (fun h209 => ?_)
                    · have c210 : r200.1.toInt = r152.1.toInt := o_eq h209
                      refine ok_bind (k_X1_enterList L hN (a0 := a0) (x1 := r152.1) k_a0 i158) (fun r211 hr212 => ?_)
                      obtain ⟨i213, ⟨u216, u217, u218⟩, p214, p215⟩ := hr212
                      have u219 := kp_t u167 u216
                      have v220 : q_V r211 = q_V δ := (u217).trans v168
                      have v221 : q_R r211 = q_R δ := (u218).trans v169
                      have f222 := ti_b (q_I r211 1 3 a0)
                      have f223 := ti_b (q_I r156.2 1 11 a0)
                      have f224 : (q_I r156.2 1 11 a0).toInt = (q_I δ 1 11 a0).toInt := congrArg Int32.toInt (u164 1 11 a0 (by decide))
                      have f225 := ti_b (q_I r211 1 4 a0)
                      have f226 := ti_b (q_I r156.2 1 12 a0)
                      have f227 : (q_I r156.2 1 12 a0).toInt = (q_I δ 1 12 a0).toInt := congrArg Int32.toInt (u164 1 12 a0 (by decide))
                      exact ok_some (show CI ad h.1 δ0 r211 ∧ (kp [(1, 3), (1, 4), (1, 5), (1, 6), (1, 8), (1, 13), (1, 14), (1, 15)] δ r211 ∧ q_V r211 = q_V δ ∧ q_R r211 = q_R δ) ∧ 0 ≤ (q_I r211 1 3 a0).toInt ∧ (q_I r211 1 4 a0).toInt ≤ (q_I δ 3 1 nu).toInt from ⟨i213, ⟨kp_w (by decide) u219, v220, v221⟩, by first | assumption | omega, by first | assumption | omega⟩)
                    · have c228 : r200.1.toInt ≠ r152.1.toInt := o_ne h209
                      unfold J_X1_goOnDropping_172
                      refine ok_bind (k_X1_enterRoom L hN (a0 := a0) (x1 := r152.1) k_a0 i158) (fun r229 hr230 => ?_)
                      obtain ⟨i231, ⟨u234, u235, u236⟩, p232, p233⟩ := hr230
                      have u237 := kp_t u167 u234
                      have v238 : q_V r229 = q_V δ := (u235).trans v168
                      have v239 : q_R r229 = q_R δ := (u236).trans v169
                      have f240 := ti_b (q_I r229 1 3 a0)
                      have f241 := ti_b (q_I r229 1 4 a0)
                      exact ok_some (show CI ad h.1 δ0 r229 ∧ (kp [(1, 3), (1, 4), (1, 5), (1, 6), (1, 8), (1, 13), (1, 14), (1, 15)] δ r229 ∧ q_V r229 = q_V δ ∧ q_R r229 = q_R δ) ∧ 0 ≤ (q_I r229 1 3 a0).toInt ∧ (q_I r229 1 4 a0).toInt ≤ (q_I δ 3 1 nu).toInt from ⟨i231, ⟨kp_w (by decide) u237, v238, v239⟩, by first | assumption | omega, by first | assumption | omega⟩)
                  · have c242 : r192.1.toInt ≠ r152.1.toInt := o_ne h198
                    unfold J_X1_goOnDropping_172
                    refine ok_bind (k_X1_enterRoom L hN (a0 := a0) (x1 := r152.1) k_a0 i158) (fun r243 hr244 => ?_)
                    obtain ⟨i245, ⟨u248, u249, u250⟩, p246, p247⟩ := hr244
                    have u251 := kp_t u167 u248
                    have v252 : q_V r243 = q_V δ := (u249).trans v168
                    have v253 : q_R r243 = q_R δ := (u250).trans v169
                    have f254 := ti_b (q_I r243 1 3 a0)
                    have f255 := ti_b (q_I r243 1 4 a0)
                    exact ok_some (show CI ad h.1 δ0 r243 ∧ (kp [(1, 3), (1, 4), (1, 5), (1, 6), (1, 8), (1, 13), (1, 14), (1, 15)] δ r243 ∧ q_V r243 = q_V δ ∧ q_R r243 = q_R δ) ∧ 0 ≤ (q_I r243 1 3 a0).toInt ∧ (q_I r243 1 4 a0).toInt ≤ (q_I δ 3 1 nu).toInt from ⟨i245, ⟨kp_w (by decide) u251, v252, v253⟩, by first | assumption | omega, by first | assumption | omega⟩)
              · have c256 : (q_I δ 1 8 a0).toInt ≠ (q_I δ 1 9 a0).toInt := o_ne h150
                unfold J_X1_goOnDropping_118
                first | (have q260 := te_subc (c := 1) (n := 1) rfl (q_I δ 1 12 a0) (by omega) (by omega); obtain ⟨f261, f262, f263⟩ := q260) | (obtain ⟨q260, f261, f262, f263⟩ := ti_subc (c := 1) (n := 1) rfl (q_I δ 1 12 a0))
                refine ok_bind (k_X1_valueAt L hN (a0 := a0) (x1 := ((q_I δ 1 12 a0) - (1 : Int32))) k_a0 hnu knu (show 0 ≤ (((q_I δ 1 12 a0) - (1 : Int32))).toInt by first | assumption | omega) (show (((q_I δ 1 12 a0) - (1 : Int32))).toInt < (q_I δ 3 1 nu).toInt by first | assumption | omega) I) (fun r257 hr258 => ?_)
                have i264 := hr258
                try rw [i264]
                have f265 := ti_b r257.1
                unfold J_X1_goOnDropping_121
                refine ok_bind (k_X1_findRoom L hN (a0 := a0) (x1 := r257.1) k_a0 hnu knu (show 0 ≤ (q_I δ 1 11 a0).toInt by first | assumption | omega) (show (q_I δ 1 11 a0).toInt ≤ (q_I δ 1 12 a0).toInt by first | assumption | omega) (show (q_I δ 1 12 a0).toInt ≤ (q_I δ 3 1 nu).toInt by first | assumption | omega) I) (fun r266 hr267 => ?_)
                obtain ⟨i268, ⟨u274, u275, u276⟩, p269, p270, p271, p272, p273⟩ := hr267
                have u277 := kp_t kp_r u274
                have v278 : q_V r266.2 = q_V δ := (u275).trans rfl
                have v279 : q_R r266.2 = q_R δ := (u276).trans rfl
                have f280 := bo_t p269
                have f281 := ti_b (q_I r266.2 1 13 a0)
                have f282 := ti_b (q_I r266.2 1 14 a0)
                have f283 := ti_b r266.1
                have f284 := ti_b r266.1
                refine ok_ite (fun h285 => ?_) (fun h285 => ?_)
                · have c286 : r266.1.toInt = (0 : Int) := o_eq h285
                  refine ok_bdv (fun d287 e288 => ?_)
                  have i289 : CI ad h.1 δ0 d287 := by rw [e288]; exact cs_1_15 L i268 k_a0 (show 0 ≤ (1 : Int) by omega) (show (1 : Int) ≤ 1 by omega)
                  have u290 := kp_I u277 e288
                  have v291 : q_V d287 = q_V δ := ((show q_V d287 = q_V r266.2 by rw [e288]; rfl)).trans v278
                  have v292 : q_R d287 = q_R δ := ((show q_R d287 = q_R r266.2 by rw [e288]; rfl)).trans v279
                  have f293 := ti_b (q_I d287 1 3 a0)
                  have f294 : (q_I d287 1 3 a0).toInt = (q_I r266.2 1 3 a0).toInt := congrArg Int32.toInt (by rw [e288]; exact rI_o (by decide))
                  have f295 := ti_b (q_I r266.2 1 3 a0)
                  have f296 : (q_I r266.2 1 3 a0).toInt = (q_I δ 1 3 a0).toInt := congrArg Int32.toInt (u274 1 3 a0 (by decide))
                  have f297 := ti_b (q_I d287 1 4 a0)
                  have f298 : (q_I d287 1 4 a0).toInt = (q_I r266.2 1 4 a0).toInt := congrArg Int32.toInt (by rw [e288]; exact rI_o (by decide))
                  have f299 := ti_b (q_I r266.2 1 4 a0)
                  have f300 : (q_I r266.2 1 4 a0).toInt = (q_I δ 1 4 a0).toInt := congrArg Int32.toInt (u274 1 4 a0 (by decide))
                  exact ok_some (show CI ad h.1 δ0 d287 ∧ (kp [(1, 3), (1, 4), (1, 5), (1, 6), (1, 8), (1, 13), (1, 14), (1, 15)] δ d287 ∧ q_V d287 = q_V δ ∧ q_R d287 = q_R δ) ∧ 0 ≤ (q_I d287 1 3 a0).toInt ∧ (q_I d287 1 4 a0).toInt ≤ (q_I δ 3 1 nu).toInt from ⟨i289, ⟨kp_w (by decide) u290, v291, v292⟩, by first | assumption | omega, by first | assumption | omega⟩)
                · have c301 : r266.1.toInt ≠ (0 : Int) := o_ne h285
                  have f304 := cb_3_1 i268 knu o4
                  have f305 : (q_I r266.2 3 1 nu).toInt = (q_I δ 3 1 nu).toInt := congrArg Int32.toInt (u274 3 1 nu (by decide))
                  refine ok_bind (k_X1_valueAt L hN (a0 := a0) (x1 := (q_I r266.2 1 13 a0)) k_a0 hnu knu (show 0 ≤ ((q_I r266.2 1 13 a0)).toInt by first | assumption | omega) (show ((q_I r266.2 1 13 a0)).toInt < (q_I r266.2 3 1 nu).toInt by first | assumption | omega) i268) (fun r302 hr303 => ?_)
                  have i306 := hr303
                  try rw [i306]
                  have f307 := ti_b r302.1
                  refine ok_ite (fun h308 => ?_) (fun h308 => ?_)
                  · have c309 : r302.1.toInt = r257.1.toInt := o_eq h308
                    first | (have q313 := te_subc (c := 1) (n := 1) rfl (q_I r266.2 1 14 a0) (by omega) (by omega); obtain ⟨f314, f315, f316⟩ := q313) | (obtain ⟨q313, f314, f315, f316⟩ := ti_subc (c := 1) (n := 1) rfl (q_I r266.2 1 14 a0))
                    refine ok_bind (k_X1_valueAt L hN (a0 := a0) (x1 := ((q_I r266.2 1 14 a0) - (1 : Int32))) k_a0 hnu knu (show 0 ≤ (((q_I r266.2 1 14 a0) - (1 : Int32))).toInt by first | assumption | omega) (show (((q_I r266.2 1 14 a0) - (1 : Int32))).toInt < (q_I r266.2 3 1 nu).toInt by first | assumption | omega) i268) (fun r310 hr311 => ?_)
                    have i317 := hr311
                    try rw [i317]
                    have f318 := ti_b r310.1
                    refine ok_ite (fun h319 => ?_) (fun h319 => ?_)
                    · have c320 : r310.1.toInt = r257.1.toInt := o_eq h319
                      refine ok_bind (k_X1_enterList L hN (a0 := a0) (x1 := r257.1) k_a0 i268) (fun r321 hr322 => ?_)
                      obtain ⟨i323, ⟨u326, u327, u328⟩, p324, p325⟩ := hr322
                      have u329 := kp_t u277 u326
                      have v330 : q_V r321 = q_V δ := (u327).trans v278
                      have v331 : q_R r321 = q_R δ := (u328).trans v279
                      have f332 := ti_b (q_I r321 1 3 a0)
                      have f333 := ti_b (q_I r266.2 1 11 a0)
                      have f334 : (q_I r266.2 1 11 a0).toInt = (q_I δ 1 11 a0).toInt := congrArg Int32.toInt (u274 1 11 a0 (by decide))
                      have f335 := ti_b (q_I r321 1 4 a0)
                      have f336 := ti_b (q_I r266.2 1 12 a0)
                      have f337 : (q_I r266.2 1 12 a0).toInt = (q_I δ 1 12 a0).toInt := congrArg Int32.toInt (u274 1 12 a0 (by decide))
                      exact ok_some (show CI ad h.1 δ0 r321 ∧ (kp [(1, 3), (1, 4), (1, 5), (1, 6), (1, 8), (1, 13), (1, 14), (1, 15)] δ r321 ∧ q_V r321 = q_V δ ∧ q_R r321 = q_R δ) ∧ 0 ≤ (q_I r321 1 3 a0).toInt ∧ (q_I r321 1 4 a0).toInt ≤ (q_I δ 3 1 nu).toInt from ⟨i323, ⟨kp_w (by decide) u329, v330, v331⟩, by first | assumption | omega, by first | assumption | omega⟩)
                    · have c338 : r310.1.toInt ≠ r257.1.toInt := o_ne h319
                      unfold J_X1_goOnDropping_172
                      refine ok_bind (k_X1_enterRoom L hN (a0 := a0) (x1 := r257.1) k_a0 i268) (fun r339 hr340 => ?_)
                      obtain ⟨i341, ⟨u344, u345, u346⟩, p342, p343⟩ := hr340
                      have u347 := kp_t u277 u344
                      have v348 : q_V r339 = q_V δ := (u345).trans v278
                      have v349 : q_R r339 = q_R δ := (u346).trans v279
                      have f350 := ti_b (q_I r339 1 3 a0)
                      have f351 := ti_b (q_I r339 1 4 a0)
                      exact ok_some (show CI ad h.1 δ0 r339 ∧ (kp [(1, 3), (1, 4), (1, 5), (1, 6), (1, 8), (1, 13), (1, 14), (1, 15)] δ r339 ∧ q_V r339 = q_V δ ∧ q_R r339 = q_R δ) ∧ 0 ≤ (q_I r339 1 3 a0).toInt ∧ (q_I r339 1 4 a0).toInt ≤ (q_I δ 3 1 nu).toInt from ⟨i341, ⟨kp_w (by decide) u347, v348, v349⟩, by first | assumption | omega, by first | assumption | omega⟩)
                  · have c352 : r302.1.toInt ≠ r257.1.toInt := o_ne h308
                    unfold J_X1_goOnDropping_172
                    refine ok_bind (k_X1_enterRoom L hN (a0 := a0) (x1 := r257.1) k_a0 i268) (fun r353 hr354 => ?_)
                    obtain ⟨i355, ⟨u358, u359, u360⟩, p356, p357⟩ := hr354
                    have u361 := kp_t u277 u358
                    have v362 : q_V r353 = q_V δ := (u359).trans v278
                    have v363 : q_R r353 = q_R δ := (u360).trans v279
                    have f364 := ti_b (q_I r353 1 3 a0)
                    have f365 := ti_b (q_I r353 1 4 a0)
                    exact ok_some (show CI ad h.1 δ0 r353 ∧ (kp [(1, 3), (1, 4), (1, 5), (1, 6), (1, 8), (1, 13), (1, 14), (1, 15)] δ r353 ∧ q_V r353 = q_V δ ∧ q_R r353 = q_R δ) ∧ 0 ≤ (q_I r353 1 3 a0).toInt ∧ (q_I r353 1 4 a0).toInt ≤ (q_I δ 3 1 nu).toInt from ⟨i355, ⟨kp_w (by decide) u361, v362, v363⟩, by first | assumption | omega, by first | assumption | omega⟩)
          · have c366 : (1 : Int) ≠ (0 : Int) := o_ne h45
            unfold J_X1_goOnDropping_81
            refine ok_ite (fun h367 => ?_) (fun h367 => ?_)
            · have c368 : (1 : Int) = (0 : Int) := o_eq h367
              unfold J_X1_goOnDropping_121
              refine ok_bind (k_X1_findRoom L hN (a0 := a0) (x1 := (q_I δ 1 8 a0)) k_a0 hnu knu (show 0 ≤ (q_I δ 1 11 a0).toInt by first | assumption | omega) (show (q_I δ 1 11 a0).toInt ≤ (q_I δ 1 12 a0).toInt by first | assumption | omega) (show (q_I δ 1 12 a0).toInt ≤ (q_I δ 3 1 nu).toInt by first | assumption | omega) I) (fun r369 hr370 => ?_)
              obtain ⟨i371, ⟨u377, u378, u379⟩, p372, p373, p374, p375, p376⟩ := hr370
              have u380 := kp_t kp_r u377
              have v381 : q_V r369.2 = q_V δ := (u378).trans rfl
              have v382 : q_R r369.2 = q_R δ := (u379).trans rfl
              have f383 := bo_t p372
              have f384 := ti_b (q_I r369.2 1 13 a0)
              have f385 := ti_b (q_I r369.2 1 14 a0)
              have f386 := ti_b r369.1
              have f387 := ti_b r369.1
              refine ok_ite (fun h388 => ?_) (fun h388 => ?_)
              · have c389 : r369.1.toInt = (0 : Int) := o_eq h388
                refine ok_bdv (fun d390 e391 => ?_)
                have i392 : CI ad h.1 δ0 d390 := by rw [e391]; exact cs_1_15 L i371 k_a0 (show 0 ≤ (1 : Int) by omega) (show (1 : Int) ≤ 1 by omega)
                have u393 := kp_I u380 e391
                have v394 : q_V d390 = q_V δ := ((show q_V d390 = q_V r369.2 by rw [e391]; rfl)).trans v381
                have v395 : q_R d390 = q_R δ := ((show q_R d390 = q_R r369.2 by rw [e391]; rfl)).trans v382
                have f396 := ti_b (q_I d390 1 3 a0)
                have f397 : (q_I d390 1 3 a0).toInt = (q_I r369.2 1 3 a0).toInt := congrArg Int32.toInt (by rw [e391]; exact rI_o (by decide))
                have f398 := ti_b (q_I r369.2 1 3 a0)
                have f399 : (q_I r369.2 1 3 a0).toInt = (q_I δ 1 3 a0).toInt := congrArg Int32.toInt (u377 1 3 a0 (by decide))
                have f400 := ti_b (q_I d390 1 4 a0)
                have f401 : (q_I d390 1 4 a0).toInt = (q_I r369.2 1 4 a0).toInt := congrArg Int32.toInt (by rw [e391]; exact rI_o (by decide))
                have f402 := ti_b (q_I r369.2 1 4 a0)
                have f403 : (q_I r369.2 1 4 a0).toInt = (q_I δ 1 4 a0).toInt := congrArg Int32.toInt (u377 1 4 a0 (by decide))
                exact ok_some (show CI ad h.1 δ0 d390 ∧ (kp [(1, 3), (1, 4), (1, 5), (1, 6), (1, 8), (1, 13), (1, 14), (1, 15)] δ d390 ∧ q_V d390 = q_V δ ∧ q_R d390 = q_R δ) ∧ 0 ≤ (q_I d390 1 3 a0).toInt ∧ (q_I d390 1 4 a0).toInt ≤ (q_I δ 3 1 nu).toInt from ⟨i392, ⟨kp_w (by decide) u393, v394, v395⟩, by first | assumption | omega, by first | assumption | omega⟩)
              · have c404 : r369.1.toInt ≠ (0 : Int) := o_ne h388
                have f407 := cb_3_1 i371 knu o4
                have f408 : (q_I r369.2 3 1 nu).toInt = (q_I δ 3 1 nu).toInt := congrArg Int32.toInt (u377 3 1 nu (by decide))
                refine ok_bind (k_X1_valueAt L hN (a0 := a0) (x1 := (q_I r369.2 1 13 a0)) k_a0 hnu knu (show 0 ≤ ((q_I r369.2 1 13 a0)).toInt by first | assumption | omega) (show ((q_I r369.2 1 13 a0)).toInt < (q_I r369.2 3 1 nu).toInt by first | assumption | omega) i371) (fun r405 hr406 => ?_)
                have i409 := hr406
                try rw [i409]
                have f410 := ti_b r405.1
                refine ok_ite (fun h411 => ?_) (fun h411 => ?_)
                · have c412 : r405.1.toInt = (q_I δ 1 8 a0).toInt := o_eq h411
                  first | (have q416 := te_subc (c := 1) (n := 1) rfl (q_I r369.2 1 14 a0) (by omega) (by omega); obtain ⟨f417, f418, f419⟩ := q416) | (obtain ⟨q416, f417, f418, f419⟩ := ti_subc (c := 1) (n := 1) rfl (q_I r369.2 1 14 a0))
                  refine ok_bind (k_X1_valueAt L hN (a0 := a0) (x1 := ((q_I r369.2 1 14 a0) - (1 : Int32))) k_a0 hnu knu (show 0 ≤ (((q_I r369.2 1 14 a0) - (1 : Int32))).toInt by first | assumption | omega) (show (((q_I r369.2 1 14 a0) - (1 : Int32))).toInt < (q_I r369.2 3 1 nu).toInt by first | assumption | omega) i371) (fun r413 hr414 => ?_)
                  have i420 := hr414
                  try rw [i420]
                  have f421 := ti_b r413.1
                  refine ok_ite (fun h422 => ?_) (fun h422 => ?_)
                  · have c423 : r413.1.toInt = (q_I δ 1 8 a0).toInt := o_eq h422
                    refine ok_bind (k_X1_enterList L hN (a0 := a0) (x1 := (q_I δ 1 8 a0)) k_a0 i371) (fun r424 hr425 => ?_)
                    obtain ⟨i426, ⟨u429, u430, u431⟩, p427, p428⟩ := hr425
                    have u432 := kp_t u380 u429
                    have v433 : q_V r424 = q_V δ := (u430).trans v381
                    have v434 : q_R r424 = q_R δ := (u431).trans v382
                    have f435 := ti_b (q_I r424 1 3 a0)
                    have f436 := ti_b (q_I r369.2 1 11 a0)
                    have f437 : (q_I r369.2 1 11 a0).toInt = (q_I δ 1 11 a0).toInt := congrArg Int32.toInt (u377 1 11 a0 (by decide))
                    have f438 := ti_b (q_I r424 1 4 a0)
                    have f439 := ti_b (q_I r369.2 1 12 a0)
                    have f440 : (q_I r369.2 1 12 a0).toInt = (q_I δ 1 12 a0).toInt := congrArg Int32.toInt (u377 1 12 a0 (by decide))
                    exact ok_some (show CI ad h.1 δ0 r424 ∧ (kp [(1, 3), (1, 4), (1, 5), (1, 6), (1, 8), (1, 13), (1, 14), (1, 15)] δ r424 ∧ q_V r424 = q_V δ ∧ q_R r424 = q_R δ) ∧ 0 ≤ (q_I r424 1 3 a0).toInt ∧ (q_I r424 1 4 a0).toInt ≤ (q_I δ 3 1 nu).toInt from ⟨i426, ⟨kp_w (by decide) u432, v433, v434⟩, by first | assumption | omega, by first | assumption | omega⟩)
                  · have c441 : r413.1.toInt ≠ (q_I δ 1 8 a0).toInt := o_ne h422
                    unfold J_X1_goOnDropping_172
                    refine ok_bind (k_X1_enterRoom L hN (a0 := a0) (x1 := (q_I δ 1 8 a0)) k_a0 i371) (fun r442 hr443 => ?_)
                    obtain ⟨i444, ⟨u447, u448, u449⟩, p445, p446⟩ := hr443
                    have u450 := kp_t u380 u447
                    have v451 : q_V r442 = q_V δ := (u448).trans v381
                    have v452 : q_R r442 = q_R δ := (u449).trans v382
                    have f453 := ti_b (q_I r442 1 3 a0)
                    have f454 := ti_b (q_I r442 1 4 a0)
                    exact ok_some (show CI ad h.1 δ0 r442 ∧ (kp [(1, 3), (1, 4), (1, 5), (1, 6), (1, 8), (1, 13), (1, 14), (1, 15)] δ r442 ∧ q_V r442 = q_V δ ∧ q_R r442 = q_R δ) ∧ 0 ≤ (q_I r442 1 3 a0).toInt ∧ (q_I r442 1 4 a0).toInt ≤ (q_I δ 3 1 nu).toInt from ⟨i444, ⟨kp_w (by decide) u450, v451, v452⟩, by first | assumption | omega, by first | assumption | omega⟩)
                · have c455 : r405.1.toInt ≠ (q_I δ 1 8 a0).toInt := o_ne h411
                  unfold J_X1_goOnDropping_172
                  refine ok_bind (k_X1_enterRoom L hN (a0 := a0) (x1 := (q_I δ 1 8 a0)) k_a0 i371) (fun r456 hr457 => ?_)
                  obtain ⟨i458, ⟨u461, u462, u463⟩, p459, p460⟩ := hr457
                  have u464 := kp_t u380 u461
                  have v465 : q_V r456 = q_V δ := (u462).trans v381
                  have v466 : q_R r456 = q_R δ := (u463).trans v382
                  have f467 := ti_b (q_I r456 1 3 a0)
                  have f468 := ti_b (q_I r456 1 4 a0)
                  exact ok_some (show CI ad h.1 δ0 r456 ∧ (kp [(1, 3), (1, 4), (1, 5), (1, 6), (1, 8), (1, 13), (1, 14), (1, 15)] δ r456 ∧ q_V r456 = q_V δ ∧ q_R r456 = q_R δ) ∧ 0 ≤ (q_I r456 1 3 a0).toInt ∧ (q_I r456 1 4 a0).toInt ≤ (q_I δ 3 1 nu).toInt from ⟨i458, ⟨kp_w (by decide) u464, v465, v466⟩, by first | assumption | omega, by first | assumption | omega⟩)
            · have c469 : (1 : Int) ≠ (0 : Int) := o_ne h367
              refine ok_ite (fun h470 => ?_) (fun h470 => ?_)
              · have c471 : (q_I δ 1 8 a0).toInt = (q_I δ 1 9 a0).toInt := o_eq h470
                unfold J_X1_goOnDropping_118
                refine ok_bind (k_X1_valueAt L hN (a0 := a0) (x1 := (q_I δ 1 11 a0)) k_a0 hnu knu (show 0 ≤ ((q_I δ 1 11 a0)).toInt by first | assumption | omega) (show ((q_I δ 1 11 a0)).toInt < (q_I δ 3 1 nu).toInt by first | assumption | omega) I) (fun r472 hr473 => ?_)
                have i474 := hr473
                try rw [i474]
                have f475 := ti_b r472.1
                unfold J_X1_goOnDropping_121
                refine ok_bind (k_X1_findRoom L hN (a0 := a0) (x1 := r472.1) k_a0 hnu knu (show 0 ≤ (q_I δ 1 11 a0).toInt by first | assumption | omega) (show (q_I δ 1 11 a0).toInt ≤ (q_I δ 1 12 a0).toInt by first | assumption | omega) (show (q_I δ 1 12 a0).toInt ≤ (q_I δ 3 1 nu).toInt by first | assumption | omega) I) (fun r476 hr477 => ?_)
                obtain ⟨i478, ⟨u484, u485, u486⟩, p479, p480, p481, p482, p483⟩ := hr477
                have u487 := kp_t kp_r u484
                have v488 : q_V r476.2 = q_V δ := (u485).trans rfl
                have v489 : q_R r476.2 = q_R δ := (u486).trans rfl
                have f490 := bo_t p479
                have f491 := ti_b (q_I r476.2 1 13 a0)
                have f492 := ti_b (q_I r476.2 1 14 a0)
                have f493 := ti_b r476.1
                have f494 := ti_b r476.1
                refine ok_ite (fun h495 => ?_) (fun h495 => ?_)
                · have c496 : r476.1.toInt = (0 : Int) := o_eq h495
                  refine ok_bdv (fun d497 e498 => ?_)
                  have i499 : CI ad h.1 δ0 d497 := by rw [e498]; exact cs_1_15 L i478 k_a0 (show 0 ≤ (1 : Int) by omega) (show (1 : Int) ≤ 1 by omega)
                  have u500 := kp_I u487 e498
                  have v501 : q_V d497 = q_V δ := ((show q_V d497 = q_V r476.2 by rw [e498]; rfl)).trans v488
                  have v502 : q_R d497 = q_R δ := ((show q_R d497 = q_R r476.2 by rw [e498]; rfl)).trans v489
                  have f503 := ti_b (q_I d497 1 3 a0)
                  have f504 : (q_I d497 1 3 a0).toInt = (q_I r476.2 1 3 a0).toInt := congrArg Int32.toInt (by rw [e498]; exact rI_o (by decide))
                  have f505 := ti_b (q_I r476.2 1 3 a0)
                  have f506 : (q_I r476.2 1 3 a0).toInt = (q_I δ 1 3 a0).toInt := congrArg Int32.toInt (u484 1 3 a0 (by decide))
                  have f507 := ti_b (q_I d497 1 4 a0)
                  have f508 : (q_I d497 1 4 a0).toInt = (q_I r476.2 1 4 a0).toInt := congrArg Int32.toInt (by rw [e498]; exact rI_o (by decide))
                  have f509 := ti_b (q_I r476.2 1 4 a0)
                  have f510 : (q_I r476.2 1 4 a0).toInt = (q_I δ 1 4 a0).toInt := congrArg Int32.toInt (u484 1 4 a0 (by decide))
                  exact ok_some (show CI ad h.1 δ0 d497 ∧ (kp [(1, 3), (1, 4), (1, 5), (1, 6), (1, 8), (1, 13), (1, 14), (1, 15)] δ d497 ∧ q_V d497 = q_V δ ∧ q_R d497 = q_R δ) ∧ 0 ≤ (q_I d497 1 3 a0).toInt ∧ (q_I d497 1 4 a0).toInt ≤ (q_I δ 3 1 nu).toInt from ⟨i499, ⟨kp_w (by decide) u500, v501, v502⟩, by first | assumption | omega, by first | assumption | omega⟩)
                · have c511 : r476.1.toInt ≠ (0 : Int) := o_ne h495
                  have f514 := cb_3_1 i478 knu o4
                  have f515 : (q_I r476.2 3 1 nu).toInt = (q_I δ 3 1 nu).toInt := congrArg Int32.toInt (u484 3 1 nu (by decide))
                  refine ok_bind (k_X1_valueAt L hN (a0 := a0) (x1 := (q_I r476.2 1 13 a0)) k_a0 hnu knu (show 0 ≤ ((q_I r476.2 1 13 a0)).toInt by first | assumption | omega) (show ((q_I r476.2 1 13 a0)).toInt < (q_I r476.2 3 1 nu).toInt by first | assumption | omega) i478) (fun r512 hr513 => ?_)
                  have i516 := hr513
                  try rw [i516]
                  have f517 := ti_b r512.1
                  refine ok_ite (fun h518 => ?_) (fun h518 => ?_)
                  · have c519 : r512.1.toInt = r472.1.toInt := o_eq h518
                    first | (have q523 := te_subc (c := 1) (n := 1) rfl (q_I r476.2 1 14 a0) (by omega) (by omega); obtain ⟨f524, f525, f526⟩ := q523) | (obtain ⟨q523, f524, f525, f526⟩ := ti_subc (c := 1) (n := 1) rfl (q_I r476.2 1 14 a0))
                    refine ok_bind (k_X1_valueAt L hN (a0 := a0) (x1 := ((q_I r476.2 1 14 a0) - (1 : Int32))) k_a0 hnu knu (show 0 ≤ (((q_I r476.2 1 14 a0) - (1 : Int32))).toInt by first | assumption | omega) (show (((q_I r476.2 1 14 a0) - (1 : Int32))).toInt < (q_I r476.2 3 1 nu).toInt by first | assumption | omega) i478) (fun r520 hr521 => ?_)
                    have i527 := hr521
                    try rw [i527]
                    have f528 := ti_b r520.1
                    refine ok_ite (fun h529 => ?_) (fun h529 => ?_)
                    · have c530 : r520.1.toInt = r472.1.toInt := o_eq h529
                      refine ok_bind (k_X1_enterList L hN (a0 := a0) (x1 := r472.1) k_a0 i478) (fun r531 hr532 => ?_)
                      obtain ⟨i533, ⟨u536, u537, u538⟩, p534, p535⟩ := hr532
                      have u539 := kp_t u487 u536
                      have v540 : q_V r531 = q_V δ := (u537).trans v488
                      have v541 : q_R r531 = q_R δ := (u538).trans v489
                      have f542 := ti_b (q_I r531 1 3 a0)
                      have f543 := ti_b (q_I r476.2 1 11 a0)
                      have f544 : (q_I r476.2 1 11 a0).toInt = (q_I δ 1 11 a0).toInt := congrArg Int32.toInt (u484 1 11 a0 (by decide))
                      have f545 := ti_b (q_I r531 1 4 a0)
                      have f546 := ti_b (q_I r476.2 1 12 a0)
                      have f547 : (q_I r476.2 1 12 a0).toInt = (q_I δ 1 12 a0).toInt := congrArg Int32.toInt (u484 1 12 a0 (by decide))
                      exact ok_some (show CI ad h.1 δ0 r531 ∧ (kp [(1, 3), (1, 4), (1, 5), (1, 6), (1, 8), (1, 13), (1, 14), (1, 15)] δ r531 ∧ q_V r531 = q_V δ ∧ q_R r531 = q_R δ) ∧ 0 ≤ (q_I r531 1 3 a0).toInt ∧ (q_I r531 1 4 a0).toInt ≤ (q_I δ 3 1 nu).toInt from ⟨i533, ⟨kp_w (by decide) u539, v540, v541⟩, by first | assumption | omega, by first | assumption | omega⟩)
                    · have c548 : r520.1.toInt ≠ r472.1.toInt := o_ne h529
                      unfold J_X1_goOnDropping_172
                      refine ok_bind (k_X1_enterRoom L hN (a0 := a0) (x1 := r472.1) k_a0 i478) (fun r549 hr550 => ?_)
                      obtain ⟨i551, ⟨u554, u555, u556⟩, p552, p553⟩ := hr550
                      have u557 := kp_t u487 u554
                      have v558 : q_V r549 = q_V δ := (u555).trans v488
                      have v559 : q_R r549 = q_R δ := (u556).trans v489
                      have f560 := ti_b (q_I r549 1 3 a0)
                      have f561 := ti_b (q_I r549 1 4 a0)
                      exact ok_some (show CI ad h.1 δ0 r549 ∧ (kp [(1, 3), (1, 4), (1, 5), (1, 6), (1, 8), (1, 13), (1, 14), (1, 15)] δ r549 ∧ q_V r549 = q_V δ ∧ q_R r549 = q_R δ) ∧ 0 ≤ (q_I r549 1 3 a0).toInt ∧ (q_I r549 1 4 a0).toInt ≤ (q_I δ 3 1 nu).toInt from ⟨i551, ⟨kp_w (by decide) u557, v558, v559⟩, by first | assumption | omega, by first | assumption | omega⟩)
                  · have c562 : r512.1.toInt ≠ r472.1.toInt := o_ne h518
                    unfold J_X1_goOnDropping_172
                    refine ok_bind (k_X1_enterRoom L hN (a0 := a0) (x1 := r472.1) k_a0 i478) (fun r563 hr564 => ?_)
                    obtain ⟨i565, ⟨u568, u569, u570⟩, p566, p567⟩ := hr564
                    have u571 := kp_t u487 u568
                    have v572 : q_V r563 = q_V δ := (u569).trans v488
                    have v573 : q_R r563 = q_R δ := (u570).trans v489
                    have f574 := ti_b (q_I r563 1 3 a0)
                    have f575 := ti_b (q_I r563 1 4 a0)
                    exact ok_some (show CI ad h.1 δ0 r563 ∧ (kp [(1, 3), (1, 4), (1, 5), (1, 6), (1, 8), (1, 13), (1, 14), (1, 15)] δ r563 ∧ q_V r563 = q_V δ ∧ q_R r563 = q_R δ) ∧ 0 ≤ (q_I r563 1 3 a0).toInt ∧ (q_I r563 1 4 a0).toInt ≤ (q_I δ 3 1 nu).toInt from ⟨i565, ⟨kp_w (by decide) u571, v572, v573⟩, by first | assumption | omega, by first | assumption | omega⟩)
              · have c576 : (q_I δ 1 8 a0).toInt ≠ (q_I δ 1 9 a0).toInt := o_ne h470
                unfold J_X1_goOnDropping_118
                first | (have q580 := te_subc (c := 1) (n := 1) rfl (q_I δ 1 12 a0) (by omega) (by omega); obtain ⟨f581, f582, f583⟩ := q580) | (obtain ⟨q580, f581, f582, f583⟩ := ti_subc (c := 1) (n := 1) rfl (q_I δ 1 12 a0))
                refine ok_bind (k_X1_valueAt L hN (a0 := a0) (x1 := ((q_I δ 1 12 a0) - (1 : Int32))) k_a0 hnu knu (show 0 ≤ (((q_I δ 1 12 a0) - (1 : Int32))).toInt by first | assumption | omega) (show (((q_I δ 1 12 a0) - (1 : Int32))).toInt < (q_I δ 3 1 nu).toInt by first | assumption | omega) I) (fun r577 hr578 => ?_)
                have i584 := hr578
                try rw [i584]
                have f585 := ti_b r577.1
                unfold J_X1_goOnDropping_121
                refine ok_bind (k_X1_findRoom L hN (a0 := a0) (x1 := r577.1) k_a0 hnu knu (show 0 ≤ (q_I δ 1 11 a0).toInt by first | assumption | omega) (show (q_I δ 1 11 a0).toInt ≤ (q_I δ 1 12 a0).toInt by first | assumption | omega) (show (q_I δ 1 12 a0).toInt ≤ (q_I δ 3 1 nu).toInt by first | assumption | omega) I) (fun r586 hr587 => ?_)
                obtain ⟨i588, ⟨u594, u595, u596⟩, p589, p590, p591, p592, p593⟩ := hr587
                have u597 := kp_t kp_r u594
                have v598 : q_V r586.2 = q_V δ := (u595).trans rfl
                have v599 : q_R r586.2 = q_R δ := (u596).trans rfl
                have f600 := bo_t p589
                have f601 := ti_b (q_I r586.2 1 13 a0)
                have f602 := ti_b (q_I r586.2 1 14 a0)
                have f603 := ti_b r586.1
                have f604 := ti_b r586.1
                refine ok_ite (fun h605 => ?_) (fun h605 => ?_)
                · have c606 : r586.1.toInt = (0 : Int) := o_eq h605
                  refine ok_bdv (fun d607 e608 => ?_)
                  have i609 : CI ad h.1 δ0 d607 := by rw [e608]; exact cs_1_15 L i588 k_a0 (show 0 ≤ (1 : Int) by omega) (show (1 : Int) ≤ 1 by omega)
                  have u610 := kp_I u597 e608
                  have v611 : q_V d607 = q_V δ := ((show q_V d607 = q_V r586.2 by rw [e608]; rfl)).trans v598
                  have v612 : q_R d607 = q_R δ := ((show q_R d607 = q_R r586.2 by rw [e608]; rfl)).trans v599
                  have f613 := ti_b (q_I d607 1 3 a0)
                  have f614 : (q_I d607 1 3 a0).toInt = (q_I r586.2 1 3 a0).toInt := congrArg Int32.toInt (by rw [e608]; exact rI_o (by decide))
                  have f615 := ti_b (q_I r586.2 1 3 a0)
                  have f616 : (q_I r586.2 1 3 a0).toInt = (q_I δ 1 3 a0).toInt := congrArg Int32.toInt (u594 1 3 a0 (by decide))
                  have f617 := ti_b (q_I d607 1 4 a0)
                  have f618 : (q_I d607 1 4 a0).toInt = (q_I r586.2 1 4 a0).toInt := congrArg Int32.toInt (by rw [e608]; exact rI_o (by decide))
                  have f619 := ti_b (q_I r586.2 1 4 a0)
                  have f620 : (q_I r586.2 1 4 a0).toInt = (q_I δ 1 4 a0).toInt := congrArg Int32.toInt (u594 1 4 a0 (by decide))
                  exact ok_some (show CI ad h.1 δ0 d607 ∧ (kp [(1, 3), (1, 4), (1, 5), (1, 6), (1, 8), (1, 13), (1, 14), (1, 15)] δ d607 ∧ q_V d607 = q_V δ ∧ q_R d607 = q_R δ) ∧ 0 ≤ (q_I d607 1 3 a0).toInt ∧ (q_I d607 1 4 a0).toInt ≤ (q_I δ 3 1 nu).toInt from ⟨i609, ⟨kp_w (by decide) u610, v611, v612⟩, by first | assumption | omega, by first | assumption | omega⟩)
                · have c621 : r586.1.toInt ≠ (0 : Int) := o_ne h605
                  have f624 := cb_3_1 i588 knu o4
                  have f625 : (q_I r586.2 3 1 nu).toInt = (q_I δ 3 1 nu).toInt := congrArg Int32.toInt (u594 3 1 nu (by decide))
                  refine ok_bind (k_X1_valueAt L hN (a0 := a0) (x1 := (q_I r586.2 1 13 a0)) k_a0 hnu knu (show 0 ≤ ((q_I r586.2 1 13 a0)).toInt by first | assumption | omega) (show ((q_I r586.2 1 13 a0)).toInt < (q_I r586.2 3 1 nu).toInt by first | assumption | omega) i588) (fun r622 hr623 => ?_)
                  have i626 := hr623
                  try rw [i626]
                  have f627 := ti_b r622.1
                  refine ok_ite (fun h628 => ?_) (fun h628 => ?_)
                  · have c629 : r622.1.toInt = r577.1.toInt := o_eq h628
                    first | (have q633 := te_subc (c := 1) (n := 1) rfl (q_I r586.2 1 14 a0) (by omega) (by omega); obtain ⟨f634, f635, f636⟩ := q633) | (obtain ⟨q633, f634, f635, f636⟩ := ti_subc (c := 1) (n := 1) rfl (q_I r586.2 1 14 a0))
                    refine ok_bind (k_X1_valueAt L hN (a0 := a0) (x1 := ((q_I r586.2 1 14 a0) - (1 : Int32))) k_a0 hnu knu (show 0 ≤ (((q_I r586.2 1 14 a0) - (1 : Int32))).toInt by first | assumption | omega) (show (((q_I r586.2 1 14 a0) - (1 : Int32))).toInt < (q_I r586.2 3 1 nu).toInt by first | assumption | omega) i588) (fun r630 hr631 => ?_)
                    have i637 := hr631
                    try rw [i637]
                    have f638 := ti_b r630.1
                    refine ok_ite (fun h639 => ?_) (fun h639 => ?_)
                    · have c640 : r630.1.toInt = r577.1.toInt := o_eq h639
                      refine ok_bind (k_X1_enterList L hN (a0 := a0) (x1 := r577.1) k_a0 i588) (fun r641 hr642 => ?_)
                      obtain ⟨i643, ⟨u646, u647, u648⟩, p644, p645⟩ := hr642
                      have u649 := kp_t u597 u646
                      have v650 : q_V r641 = q_V δ := (u647).trans v598
                      have v651 : q_R r641 = q_R δ := (u648).trans v599
                      have f652 := ti_b (q_I r641 1 3 a0)
                      have f653 := ti_b (q_I r586.2 1 11 a0)
                      have f654 : (q_I r586.2 1 11 a0).toInt = (q_I δ 1 11 a0).toInt := congrArg Int32.toInt (u594 1 11 a0 (by decide))
                      have f655 := ti_b (q_I r641 1 4 a0)
                      have f656 := ti_b (q_I r586.2 1 12 a0)
                      have f657 : (q_I r586.2 1 12 a0).toInt = (q_I δ 1 12 a0).toInt := congrArg Int32.toInt (u594 1 12 a0 (by decide))
                      exact ok_some (show CI ad h.1 δ0 r641 ∧ (kp [(1, 3), (1, 4), (1, 5), (1, 6), (1, 8), (1, 13), (1, 14), (1, 15)] δ r641 ∧ q_V r641 = q_V δ ∧ q_R r641 = q_R δ) ∧ 0 ≤ (q_I r641 1 3 a0).toInt ∧ (q_I r641 1 4 a0).toInt ≤ (q_I δ 3 1 nu).toInt from ⟨i643, ⟨kp_w (by decide) u649, v650, v651⟩, by first | assumption | omega, by first | assumption | omega⟩)
                    · have c658 : r630.1.toInt ≠ r577.1.toInt := o_ne h639
                      unfold J_X1_goOnDropping_172
                      refine ok_bind (k_X1_enterRoom L hN (a0 := a0) (x1 := r577.1) k_a0 i588) (fun r659 hr660 => ?_)
                      obtain ⟨i661, ⟨u664, u665, u666⟩, p662, p663⟩ := hr660
                      have u667 := kp_t u597 u664
                      have v668 : q_V r659 = q_V δ := (u665).trans v598
                      have v669 : q_R r659 = q_R δ := (u666).trans v599
                      have f670 := ti_b (q_I r659 1 3 a0)
                      have f671 := ti_b (q_I r659 1 4 a0)
                      exact ok_some (show CI ad h.1 δ0 r659 ∧ (kp [(1, 3), (1, 4), (1, 5), (1, 6), (1, 8), (1, 13), (1, 14), (1, 15)] δ r659 ∧ q_V r659 = q_V δ ∧ q_R r659 = q_R δ) ∧ 0 ≤ (q_I r659 1 3 a0).toInt ∧ (q_I r659 1 4 a0).toInt ≤ (q_I δ 3 1 nu).toInt from ⟨i661, ⟨kp_w (by decide) u667, v668, v669⟩, by first | assumption | omega, by first | assumption | omega⟩)
                  · have c672 : r622.1.toInt ≠ r577.1.toInt := o_ne h628
                    unfold J_X1_goOnDropping_172
                    refine ok_bind (k_X1_enterRoom L hN (a0 := a0) (x1 := r577.1) k_a0 i588) (fun r673 hr674 => ?_)
                    obtain ⟨i675, ⟨u678, u679, u680⟩, p676, p677⟩ := hr674
                    have u681 := kp_t u597 u678
                    have v682 : q_V r673 = q_V δ := (u679).trans v598
                    have v683 : q_R r673 = q_R δ := (u680).trans v599
                    have f684 := ti_b (q_I r673 1 3 a0)
                    have f685 := ti_b (q_I r673 1 4 a0)
                    exact ok_some (show CI ad h.1 δ0 r673 ∧ (kp [(1, 3), (1, 4), (1, 5), (1, 6), (1, 8), (1, 13), (1, 14), (1, 15)] δ r673 ∧ q_V r673 = q_V δ ∧ q_R r673 = q_R δ) ∧ 0 ≤ (q_I r673 1 3 a0).toInt ∧ (q_I r673 1 4 a0).toInt ≤ (q_I δ 3 1 nu).toInt from ⟨i675, ⟨kp_w (by decide) u681, v682, v683⟩, by first | assumption | omega, by first | assumption | omega⟩)
        · have c686 : (1 : Int) ≠ (0 : Int) := o_ne h43
          refine ok_ite (fun h687 => ?_) (fun h687 => ?_)
          · have c688 : (q_I δ 1 11 a0).toInt < (q_I δ 1 12 a0).toInt := o_lt h687
            unfold J_X1_goOnDropping_72
            refine ok_ite (fun h689 => ?_) (fun h689 => ?_)
            · have c690 : (1 : Int) = (0 : Int) := o_eq h689
              unfold J_X1_goOnDropping_81
              refine ok_ite (fun h691 => ?_) (fun h691 => ?_)
              · have c692 : (1 : Int) = (0 : Int) := o_eq h691
                unfold J_X1_goOnDropping_121
                refine ok_bind (k_X1_findRoom L hN (a0 := a0) (x1 := (q_I δ 1 8 a0)) k_a0 hnu knu (show 0 ≤ (q_I δ 1 11 a0).toInt by first | assumption | omega) (show (q_I δ 1 11 a0).toInt ≤ (q_I δ 1 12 a0).toInt by first | assumption | omega) (show (q_I δ 1 12 a0).toInt ≤ (q_I δ 3 1 nu).toInt by first | assumption | omega) I) (fun r693 hr694 => ?_)
                obtain ⟨i695, ⟨u701, u702, u703⟩, p696, p697, p698, p699, p700⟩ := hr694
                have u704 := kp_t kp_r u701
                have v705 : q_V r693.2 = q_V δ := (u702).trans rfl
                have v706 : q_R r693.2 = q_R δ := (u703).trans rfl
                have f707 := bo_t p696
                have f708 := ti_b (q_I r693.2 1 13 a0)
                have f709 := ti_b (q_I r693.2 1 14 a0)
                have f710 := ti_b r693.1
                have f711 := ti_b r693.1
                refine ok_ite (fun h712 => ?_) (fun h712 => ?_)
                · have c713 : r693.1.toInt = (0 : Int) := o_eq h712
                  refine ok_bdv (fun d714 e715 => ?_)
                  have i716 : CI ad h.1 δ0 d714 := by rw [e715]; exact cs_1_15 L i695 k_a0 (show 0 ≤ (1 : Int) by omega) (show (1 : Int) ≤ 1 by omega)
                  have u717 := kp_I u704 e715
                  have v718 : q_V d714 = q_V δ := ((show q_V d714 = q_V r693.2 by rw [e715]; rfl)).trans v705
                  have v719 : q_R d714 = q_R δ := ((show q_R d714 = q_R r693.2 by rw [e715]; rfl)).trans v706
                  have f720 := ti_b (q_I d714 1 3 a0)
                  have f721 : (q_I d714 1 3 a0).toInt = (q_I r693.2 1 3 a0).toInt := congrArg Int32.toInt (by rw [e715]; exact rI_o (by decide))
                  have f722 := ti_b (q_I r693.2 1 3 a0)
                  have f723 : (q_I r693.2 1 3 a0).toInt = (q_I δ 1 3 a0).toInt := congrArg Int32.toInt (u701 1 3 a0 (by decide))
                  have f724 := ti_b (q_I d714 1 4 a0)
                  have f725 : (q_I d714 1 4 a0).toInt = (q_I r693.2 1 4 a0).toInt := congrArg Int32.toInt (by rw [e715]; exact rI_o (by decide))
                  have f726 := ti_b (q_I r693.2 1 4 a0)
                  have f727 : (q_I r693.2 1 4 a0).toInt = (q_I δ 1 4 a0).toInt := congrArg Int32.toInt (u701 1 4 a0 (by decide))
                  exact ok_some (show CI ad h.1 δ0 d714 ∧ (kp [(1, 3), (1, 4), (1, 5), (1, 6), (1, 8), (1, 13), (1, 14), (1, 15)] δ d714 ∧ q_V d714 = q_V δ ∧ q_R d714 = q_R δ) ∧ 0 ≤ (q_I d714 1 3 a0).toInt ∧ (q_I d714 1 4 a0).toInt ≤ (q_I δ 3 1 nu).toInt from ⟨i716, ⟨kp_w (by decide) u717, v718, v719⟩, by first | assumption | omega, by first | assumption | omega⟩)
                · have c728 : r693.1.toInt ≠ (0 : Int) := o_ne h712
                  have f731 := cb_3_1 i695 knu o4
                  have f732 : (q_I r693.2 3 1 nu).toInt = (q_I δ 3 1 nu).toInt := congrArg Int32.toInt (u701 3 1 nu (by decide))
                  refine ok_bind (k_X1_valueAt L hN (a0 := a0) (x1 := (q_I r693.2 1 13 a0)) k_a0 hnu knu (show 0 ≤ ((q_I r693.2 1 13 a0)).toInt by first | assumption | omega) (show ((q_I r693.2 1 13 a0)).toInt < (q_I r693.2 3 1 nu).toInt by first | assumption | omega) i695) (fun r729 hr730 => ?_)
                  have i733 := hr730
                  try rw [i733]
                  have f734 := ti_b r729.1
                  refine ok_ite (fun h735 => ?_) (fun h735 => ?_)
                  · have c736 : r729.1.toInt = (q_I δ 1 8 a0).toInt := o_eq h735
                    first | (have q740 := te_subc (c := 1) (n := 1) rfl (q_I r693.2 1 14 a0) (by omega) (by omega); obtain ⟨f741, f742, f743⟩ := q740) | (obtain ⟨q740, f741, f742, f743⟩ := ti_subc (c := 1) (n := 1) rfl (q_I r693.2 1 14 a0))
                    refine ok_bind (k_X1_valueAt L hN (a0 := a0) (x1 := ((q_I r693.2 1 14 a0) - (1 : Int32))) k_a0 hnu knu (show 0 ≤ (((q_I r693.2 1 14 a0) - (1 : Int32))).toInt by first | assumption | omega) (show (((q_I r693.2 1 14 a0) - (1 : Int32))).toInt < (q_I r693.2 3 1 nu).toInt by first | assumption | omega) i695) (fun r737 hr738 => ?_)
                    have i744 := hr738
                    try rw [i744]
                    have f745 := ti_b r737.1
                    refine ok_ite (fun h746 => ?_) (fun h746 => ?_)
                    · have c747 : r737.1.toInt = (q_I δ 1 8 a0).toInt := o_eq h746
                      refine ok_bind (k_X1_enterList L hN (a0 := a0) (x1 := (q_I δ 1 8 a0)) k_a0 i695) (fun r748 hr749 => ?_)
                      obtain ⟨i750, ⟨u753, u754, u755⟩, p751, p752⟩ := hr749
                      have u756 := kp_t u704 u753
                      have v757 : q_V r748 = q_V δ := (u754).trans v705
                      have v758 : q_R r748 = q_R δ := (u755).trans v706
                      have f759 := ti_b (q_I r748 1 3 a0)
                      have f760 := ti_b (q_I r693.2 1 11 a0)
                      have f761 : (q_I r693.2 1 11 a0).toInt = (q_I δ 1 11 a0).toInt := congrArg Int32.toInt (u701 1 11 a0 (by decide))
                      have f762 := ti_b (q_I r748 1 4 a0)
                      have f763 := ti_b (q_I r693.2 1 12 a0)
                      have f764 : (q_I r693.2 1 12 a0).toInt = (q_I δ 1 12 a0).toInt := congrArg Int32.toInt (u701 1 12 a0 (by decide))
                      exact ok_some (show CI ad h.1 δ0 r748 ∧ (kp [(1, 3), (1, 4), (1, 5), (1, 6), (1, 8), (1, 13), (1, 14), (1, 15)] δ r748 ∧ q_V r748 = q_V δ ∧ q_R r748 = q_R δ) ∧ 0 ≤ (q_I r748 1 3 a0).toInt ∧ (q_I r748 1 4 a0).toInt ≤ (q_I δ 3 1 nu).toInt from ⟨i750, ⟨kp_w (by decide) u756, v757, v758⟩, by first | assumption | omega, by first | assumption | omega⟩)
                    · have c765 : r737.1.toInt ≠ (q_I δ 1 8 a0).toInt := o_ne h746
                      unfold J_X1_goOnDropping_172
                      refine ok_bind (k_X1_enterRoom L hN (a0 := a0) (x1 := (q_I δ 1 8 a0)) k_a0 i695) (fun r766 hr767 => ?_)
                      obtain ⟨i768, ⟨u771, u772, u773⟩, p769, p770⟩ := hr767
                      have u774 := kp_t u704 u771
                      have v775 : q_V r766 = q_V δ := (u772).trans v705
                      have v776 : q_R r766 = q_R δ := (u773).trans v706
                      have f777 := ti_b (q_I r766 1 3 a0)
                      have f778 := ti_b (q_I r766 1 4 a0)
                      exact ok_some (show CI ad h.1 δ0 r766 ∧ (kp [(1, 3), (1, 4), (1, 5), (1, 6), (1, 8), (1, 13), (1, 14), (1, 15)] δ r766 ∧ q_V r766 = q_V δ ∧ q_R r766 = q_R δ) ∧ 0 ≤ (q_I r766 1 3 a0).toInt ∧ (q_I r766 1 4 a0).toInt ≤ (q_I δ 3 1 nu).toInt from ⟨i768, ⟨kp_w (by decide) u774, v775, v776⟩, by first | assumption | omega, by first | assumption | omega⟩)
                  · have c779 : r729.1.toInt ≠ (q_I δ 1 8 a0).toInt := o_ne h735
                    unfold J_X1_goOnDropping_172
                    refine ok_bind (k_X1_enterRoom L hN (a0 := a0) (x1 := (q_I δ 1 8 a0)) k_a0 i695) (fun r780 hr781 => ?_)
                    obtain ⟨i782, ⟨u785, u786, u787⟩, p783, p784⟩ := hr781
                    have u788 := kp_t u704 u785
                    have v789 : q_V r780 = q_V δ := (u786).trans v705
                    have v790 : q_R r780 = q_R δ := (u787).trans v706
                    have f791 := ti_b (q_I r780 1 3 a0)
                    have f792 := ti_b (q_I r780 1 4 a0)
                    exact ok_some (show CI ad h.1 δ0 r780 ∧ (kp [(1, 3), (1, 4), (1, 5), (1, 6), (1, 8), (1, 13), (1, 14), (1, 15)] δ r780 ∧ q_V r780 = q_V δ ∧ q_R r780 = q_R δ) ∧ 0 ≤ (q_I r780 1 3 a0).toInt ∧ (q_I r780 1 4 a0).toInt ≤ (q_I δ 3 1 nu).toInt from ⟨i782, ⟨kp_w (by decide) u788, v789, v790⟩, by first | assumption | omega, by first | assumption | omega⟩)
              · have c793 : (1 : Int) ≠ (0 : Int) := o_ne h691
                refine ok_ite (fun h794 => ?_) (fun h794 => ?_)
                · have c795 : (q_I δ 1 8 a0).toInt = (q_I δ 1 9 a0).toInt := o_eq h794
                  unfold J_X1_goOnDropping_118
                  refine ok_bind (k_X1_valueAt L hN (a0 := a0) (x1 := (q_I δ 1 11 a0)) k_a0 hnu knu (show 0 ≤ ((q_I δ 1 11 a0)).toInt by first | assumption | omega) (show ((q_I δ 1 11 a0)).toInt < (q_I δ 3 1 nu).toInt by first | assumption | omega) I) (fun r796 hr797 => ?_)
                  have i798 := hr797
                  try rw [i798]
                  have f799 := ti_b r796.1
                  unfold J_X1_goOnDropping_121
                  refine ok_bind (k_X1_findRoom L hN (a0 := a0) (x1 := r796.1) k_a0 hnu knu (show 0 ≤ (q_I δ 1 11 a0).toInt by first | assumption | omega) (show (q_I δ 1 11 a0).toInt ≤ (q_I δ 1 12 a0).toInt by first | assumption | omega) (show (q_I δ 1 12 a0).toInt ≤ (q_I δ 3 1 nu).toInt by first | assumption | omega) I) (fun r800 hr801 => ?_)
                  obtain ⟨i802, ⟨u808, u809, u810⟩, p803, p804, p805, p806, p807⟩ := hr801
                  have u811 := kp_t kp_r u808
                  have v812 : q_V r800.2 = q_V δ := (u809).trans rfl
                  have v813 : q_R r800.2 = q_R δ := (u810).trans rfl
                  have f814 := bo_t p803
                  have f815 := ti_b (q_I r800.2 1 13 a0)
                  have f816 := ti_b (q_I r800.2 1 14 a0)
                  have f817 := ti_b r800.1
                  have f818 := ti_b r800.1
                  refine ok_ite (fun h819 => ?_) (fun h819 => ?_)
                  · have c820 : r800.1.toInt = (0 : Int) := o_eq h819
                    refine ok_bdv (fun d821 e822 => ?_)
                    have i823 : CI ad h.1 δ0 d821 := by rw [e822]; exact cs_1_15 L i802 k_a0 (show 0 ≤ (1 : Int) by omega) (show (1 : Int) ≤ 1 by omega)
                    have u824 := kp_I u811 e822
                    have v825 : q_V d821 = q_V δ := ((show q_V d821 = q_V r800.2 by rw [e822]; rfl)).trans v812
                    have v826 : q_R d821 = q_R δ := ((show q_R d821 = q_R r800.2 by rw [e822]; rfl)).trans v813
                    have f827 := ti_b (q_I d821 1 3 a0)
                    have f828 : (q_I d821 1 3 a0).toInt = (q_I r800.2 1 3 a0).toInt := congrArg Int32.toInt (by rw [e822]; exact rI_o (by decide))
                    have f829 := ti_b (q_I r800.2 1 3 a0)
                    have f830 : (q_I r800.2 1 3 a0).toInt = (q_I δ 1 3 a0).toInt := congrArg Int32.toInt (u808 1 3 a0 (by decide))
                    have f831 := ti_b (q_I d821 1 4 a0)
                    have f832 : (q_I d821 1 4 a0).toInt = (q_I r800.2 1 4 a0).toInt := congrArg Int32.toInt (by rw [e822]; exact rI_o (by decide))
                    have f833 := ti_b (q_I r800.2 1 4 a0)
                    have f834 : (q_I r800.2 1 4 a0).toInt = (q_I δ 1 4 a0).toInt := congrArg Int32.toInt (u808 1 4 a0 (by decide))
                    exact ok_some (show CI ad h.1 δ0 d821 ∧ (kp [(1, 3), (1, 4), (1, 5), (1, 6), (1, 8), (1, 13), (1, 14), (1, 15)] δ d821 ∧ q_V d821 = q_V δ ∧ q_R d821 = q_R δ) ∧ 0 ≤ (q_I d821 1 3 a0).toInt ∧ (q_I d821 1 4 a0).toInt ≤ (q_I δ 3 1 nu).toInt from ⟨i823, ⟨kp_w (by decide) u824, v825, v826⟩, by first | assumption | omega, by first | assumption | omega⟩)
                  · have c835 : r800.1.toInt ≠ (0 : Int) := o_ne h819
                    have f838 := cb_3_1 i802 knu o4
                    have f839 : (q_I r800.2 3 1 nu).toInt = (q_I δ 3 1 nu).toInt := congrArg Int32.toInt (u808 3 1 nu (by decide))
                    refine ok_bind (k_X1_valueAt L hN (a0 := a0) (x1 := (q_I r800.2 1 13 a0)) k_a0 hnu knu (show 0 ≤ ((q_I r800.2 1 13 a0)).toInt by first | assumption | omega) (show ((q_I r800.2 1 13 a0)).toInt < (q_I r800.2 3 1 nu).toInt by first | assumption | omega) i802) (fun r836 hr837 => ?_)
                    have i840 := hr837
                    try rw [i840]
                    have f841 := ti_b r836.1
                    refine ok_ite (fun h842 => ?_) (fun h842 => ?_)
                    · have c843 : r836.1.toInt = r796.1.toInt := o_eq h842
                      first | (have q847 := te_subc (c := 1) (n := 1) rfl (q_I r800.2 1 14 a0) (by omega) (by omega); obtain ⟨f848, f849, f850⟩ := q847) | (obtain ⟨q847, f848, f849, f850⟩ := ti_subc (c := 1) (n := 1) rfl (q_I r800.2 1 14 a0))
                      refine ok_bind (k_X1_valueAt L hN (a0 := a0) (x1 := ((q_I r800.2 1 14 a0) - (1 : Int32))) k_a0 hnu knu (show 0 ≤ (((q_I r800.2 1 14 a0) - (1 : Int32))).toInt by first | assumption | omega) (show (((q_I r800.2 1 14 a0) - (1 : Int32))).toInt < (q_I r800.2 3 1 nu).toInt by first | assumption | omega) i802) (fun r844 hr845 => ?_)
                      have i851 := hr845
                      try rw [i851]
                      have f852 := ti_b r844.1
                      refine ok_ite (fun h853 => ?_) (fun h853 => ?_)
                      · have c854 : r844.1.toInt = r796.1.toInt := o_eq h853
                        refine ok_bind (k_X1_enterList L hN (a0 := a0) (x1 := r796.1) k_a0 i802) (fun r855 hr856 => ?_)
                        obtain ⟨i857, ⟨u860, u861, u862⟩, p858, p859⟩ := hr856
                        have u863 := kp_t u811 u860
                        have v864 : q_V r855 = q_V δ := (u861).trans v812
                        have v865 : q_R r855 = q_R δ := (u862).trans v813
                        have f866 := ti_b (q_I r855 1 3 a0)
                        have f867 := ti_b (q_I r800.2 1 11 a0)
                        have f868 : (q_I r800.2 1 11 a0).toInt = (q_I δ 1 11 a0).toInt := congrArg Int32.toInt (u808 1 11 a0 (by decide))
                        have f869 := ti_b (q_I r855 1 4 a0)
                        have f870 := ti_b (q_I r800.2 1 12 a0)
                        have f871 : (q_I r800.2 1 12 a0).toInt = (q_I δ 1 12 a0).toInt := congrArg Int32.toInt (u808 1 12 a0 (by decide))
                        exact ok_some (show CI ad h.1 δ0 r855 ∧ (kp [(1, 3), (1, 4), (1, 5), (1, 6), (1, 8), (1, 13), (1, 14), (1, 15)] δ r855 ∧ q_V r855 = q_V δ ∧ q_R r855 = q_R δ) ∧ 0 ≤ (q_I r855 1 3 a0).toInt ∧ (q_I r855 1 4 a0).toInt ≤ (q_I δ 3 1 nu).toInt from ⟨i857, ⟨kp_w (by decide) u863, v864, v865⟩, by first | assumption | omega, by first | assumption | omega⟩)
                      · have c872 : r844.1.toInt ≠ r796.1.toInt := o_ne h853
                        unfold J_X1_goOnDropping_172
                        refine ok_bind (k_X1_enterRoom L hN (a0 := a0) (x1 := r796.1) k_a0 i802) (fun r873 hr874 => ?_)
                        obtain ⟨i875, ⟨u878, u879, u880⟩, p876, p877⟩ := hr874
                        have u881 := kp_t u811 u878
                        have v882 : q_V r873 = q_V δ := (u879).trans v812
                        have v883 : q_R r873 = q_R δ := (u880).trans v813
                        have f884 := ti_b (q_I r873 1 3 a0)
                        have f885 := ti_b (q_I r873 1 4 a0)
                        exact ok_some (show CI ad h.1 δ0 r873 ∧ (kp [(1, 3), (1, 4), (1, 5), (1, 6), (1, 8), (1, 13), (1, 14), (1, 15)] δ r873 ∧ q_V r873 = q_V δ ∧ q_R r873 = q_R δ) ∧ 0 ≤ (q_I r873 1 3 a0).toInt ∧ (q_I r873 1 4 a0).toInt ≤ (q_I δ 3 1 nu).toInt from ⟨i875, ⟨kp_w (by decide) u881, v882, v883⟩, by first | assumption | omega, by first | assumption | omega⟩)
                    · have c886 : r836.1.toInt ≠ r796.1.toInt := o_ne h842
                      unfold J_X1_goOnDropping_172
                      refine ok_bind (k_X1_enterRoom L hN (a0 := a0) (x1 := r796.1) k_a0 i802) (fun r887 hr888 => ?_)
                      obtain ⟨i889, ⟨u892, u893, u894⟩, p890, p891⟩ := hr888
                      have u895 := kp_t u811 u892
                      have v896 : q_V r887 = q_V δ := (u893).trans v812
                      have v897 : q_R r887 = q_R δ := (u894).trans v813
                      have f898 := ti_b (q_I r887 1 3 a0)
                      have f899 := ti_b (q_I r887 1 4 a0)
                      exact ok_some (show CI ad h.1 δ0 r887 ∧ (kp [(1, 3), (1, 4), (1, 5), (1, 6), (1, 8), (1, 13), (1, 14), (1, 15)] δ r887 ∧ q_V r887 = q_V δ ∧ q_R r887 = q_R δ) ∧ 0 ≤ (q_I r887 1 3 a0).toInt ∧ (q_I r887 1 4 a0).toInt ≤ (q_I δ 3 1 nu).toInt from ⟨i889, ⟨kp_w (by decide) u895, v896, v897⟩, by first | assumption | omega, by first | assumption | omega⟩)
                · have c900 : (q_I δ 1 8 a0).toInt ≠ (q_I δ 1 9 a0).toInt := o_ne h794
                  unfold J_X1_goOnDropping_118
                  first | (have q904 := te_subc (c := 1) (n := 1) rfl (q_I δ 1 12 a0) (by omega) (by omega); obtain ⟨f905, f906, f907⟩ := q904) | (obtain ⟨q904, f905, f906, f907⟩ := ti_subc (c := 1) (n := 1) rfl (q_I δ 1 12 a0))
                  refine ok_bind (k_X1_valueAt L hN (a0 := a0) (x1 := ((q_I δ 1 12 a0) - (1 : Int32))) k_a0 hnu knu (show 0 ≤ (((q_I δ 1 12 a0) - (1 : Int32))).toInt by first | assumption | omega) (show (((q_I δ 1 12 a0) - (1 : Int32))).toInt < (q_I δ 3 1 nu).toInt by first | assumption | omega) I) (fun r901 hr902 => ?_)
                  have i908 := hr902
                  try rw [i908]
                  have f909 := ti_b r901.1
                  unfold J_X1_goOnDropping_121
                  refine ok_bind (k_X1_findRoom L hN (a0 := a0) (x1 := r901.1) k_a0 hnu knu (show 0 ≤ (q_I δ 1 11 a0).toInt by first | assumption | omega) (show (q_I δ 1 11 a0).toInt ≤ (q_I δ 1 12 a0).toInt by first | assumption | omega) (show (q_I δ 1 12 a0).toInt ≤ (q_I δ 3 1 nu).toInt by first | assumption | omega) I) (fun r910 hr911 => ?_)
                  obtain ⟨i912, ⟨u918, u919, u920⟩, p913, p914, p915, p916, p917⟩ := hr911
                  have u921 := kp_t kp_r u918
                  have v922 : q_V r910.2 = q_V δ := (u919).trans rfl
                  have v923 : q_R r910.2 = q_R δ := (u920).trans rfl
                  have f924 := bo_t p913
                  have f925 := ti_b (q_I r910.2 1 13 a0)
                  have f926 := ti_b (q_I r910.2 1 14 a0)
                  have f927 := ti_b r910.1
                  have f928 := ti_b r910.1
                  refine ok_ite (fun h929 => ?_) (fun h929 => ?_)
                  · have c930 : r910.1.toInt = (0 : Int) := o_eq h929
                    refine ok_bdv (fun d931 e932 => ?_)
                    have i933 : CI ad h.1 δ0 d931 := by rw [e932]; exact cs_1_15 L i912 k_a0 (show 0 ≤ (1 : Int) by omega) (show (1 : Int) ≤ 1 by omega)
                    have u934 := kp_I u921 e932
                    have v935 : q_V d931 = q_V δ := ((show q_V d931 = q_V r910.2 by rw [e932]; rfl)).trans v922
                    have v936 : q_R d931 = q_R δ := ((show q_R d931 = q_R r910.2 by rw [e932]; rfl)).trans v923
                    have f937 := ti_b (q_I d931 1 3 a0)
                    have f938 : (q_I d931 1 3 a0).toInt = (q_I r910.2 1 3 a0).toInt := congrArg Int32.toInt (by rw [e932]; exact rI_o (by decide))
                    have f939 := ti_b (q_I r910.2 1 3 a0)
                    have f940 : (q_I r910.2 1 3 a0).toInt = (q_I δ 1 3 a0).toInt := congrArg Int32.toInt (u918 1 3 a0 (by decide))
                    have f941 := ti_b (q_I d931 1 4 a0)
                    have f942 : (q_I d931 1 4 a0).toInt = (q_I r910.2 1 4 a0).toInt := congrArg Int32.toInt (by rw [e932]; exact rI_o (by decide))
                    have f943 := ti_b (q_I r910.2 1 4 a0)
                    have f944 : (q_I r910.2 1 4 a0).toInt = (q_I δ 1 4 a0).toInt := congrArg Int32.toInt (u918 1 4 a0 (by decide))
                    exact ok_some (show CI ad h.1 δ0 d931 ∧ (kp [(1, 3), (1, 4), (1, 5), (1, 6), (1, 8), (1, 13), (1, 14), (1, 15)] δ d931 ∧ q_V d931 = q_V δ ∧ q_R d931 = q_R δ) ∧ 0 ≤ (q_I d931 1 3 a0).toInt ∧ (q_I d931 1 4 a0).toInt ≤ (q_I δ 3 1 nu).toInt from ⟨i933, ⟨kp_w (by decide) u934, v935, v936⟩, by first | assumption | omega, by first | assumption | omega⟩)
                  · have c945 : r910.1.toInt ≠ (0 : Int) := o_ne h929
                    have f948 := cb_3_1 i912 knu o4
                    have f949 : (q_I r910.2 3 1 nu).toInt = (q_I δ 3 1 nu).toInt := congrArg Int32.toInt (u918 3 1 nu (by decide))
                    refine ok_bind (k_X1_valueAt L hN (a0 := a0) (x1 := (q_I r910.2 1 13 a0)) k_a0 hnu knu (show 0 ≤ ((q_I r910.2 1 13 a0)).toInt by first | assumption | omega) (show ((q_I r910.2 1 13 a0)).toInt < (q_I r910.2 3 1 nu).toInt by first | assumption | omega) i912) (fun r946 hr947 => ?_)
                    have i950 := hr947
                    try rw [i950]
                    have f951 := ti_b r946.1
                    refine ok_ite (fun h952 => ?_) (fun h952 => ?_)
                    · have c953 : r946.1.toInt = r901.1.toInt := o_eq h952
                      first | (have q957 := te_subc (c := 1) (n := 1) rfl (q_I r910.2 1 14 a0) (by omega) (by omega); obtain ⟨f958, f959, f960⟩ := q957) | (obtain ⟨q957, f958, f959, f960⟩ := ti_subc (c := 1) (n := 1) rfl (q_I r910.2 1 14 a0))
                      refine ok_bind (k_X1_valueAt L hN (a0 := a0) (x1 := ((q_I r910.2 1 14 a0) - (1 : Int32))) k_a0 hnu knu (show 0 ≤ (((q_I r910.2 1 14 a0) - (1 : Int32))).toInt by first | assumption | omega) (show (((q_I r910.2 1 14 a0) - (1 : Int32))).toInt < (q_I r910.2 3 1 nu).toInt by first | assumption | omega) i912) (fun r954 hr955 => ?_)
                      have i961 := hr955
                      try rw [i961]
                      have f962 := ti_b r954.1
                      refine ok_ite (fun h963 => ?_) (fun h963 => ?_)
                      · have c964 : r954.1.toInt = r901.1.toInt := o_eq h963
                        refine ok_bind (k_X1_enterList L hN (a0 := a0) (x1 := r901.1) k_a0 i912) (fun r965 hr966 => ?_)
                        obtain ⟨i967, ⟨u970, u971, u972⟩, p968, p969⟩ := hr966
                        have u973 := kp_t u921 u970
                        have v974 : q_V r965 = q_V δ := (u971).trans v922
                        have v975 : q_R r965 = q_R δ := (u972).trans v923
                        have f976 := ti_b (q_I r965 1 3 a0)
                        have f977 := ti_b (q_I r910.2 1 11 a0)
                        have f978 : (q_I r910.2 1 11 a0).toInt = (q_I δ 1 11 a0).toInt := congrArg Int32.toInt (u918 1 11 a0 (by decide))
                        have f979 := ti_b (q_I r965 1 4 a0)
                        have f980 := ti_b (q_I r910.2 1 12 a0)
                        have f981 : (q_I r910.2 1 12 a0).toInt = (q_I δ 1 12 a0).toInt := congrArg Int32.toInt (u918 1 12 a0 (by decide))
                        exact ok_some (show CI ad h.1 δ0 r965 ∧ (kp [(1, 3), (1, 4), (1, 5), (1, 6), (1, 8), (1, 13), (1, 14), (1, 15)] δ r965 ∧ q_V r965 = q_V δ ∧ q_R r965 = q_R δ) ∧ 0 ≤ (q_I r965 1 3 a0).toInt ∧ (q_I r965 1 4 a0).toInt ≤ (q_I δ 3 1 nu).toInt from ⟨i967, ⟨kp_w (by decide) u973, v974, v975⟩, by first | assumption | omega, by first | assumption | omega⟩)
                      · have c982 : r954.1.toInt ≠ r901.1.toInt := o_ne h963
                        unfold J_X1_goOnDropping_172
                        refine ok_bind (k_X1_enterRoom L hN (a0 := a0) (x1 := r901.1) k_a0 i912) (fun r983 hr984 => ?_)
                        obtain ⟨i985, ⟨u988, u989, u990⟩, p986, p987⟩ := hr984
                        have u991 := kp_t u921 u988
                        have v992 : q_V r983 = q_V δ := (u989).trans v922
                        have v993 : q_R r983 = q_R δ := (u990).trans v923
                        have f994 := ti_b (q_I r983 1 3 a0)
                        have f995 := ti_b (q_I r983 1 4 a0)
                        exact ok_some (show CI ad h.1 δ0 r983 ∧ (kp [(1, 3), (1, 4), (1, 5), (1, 6), (1, 8), (1, 13), (1, 14), (1, 15)] δ r983 ∧ q_V r983 = q_V δ ∧ q_R r983 = q_R δ) ∧ 0 ≤ (q_I r983 1 3 a0).toInt ∧ (q_I r983 1 4 a0).toInt ≤ (q_I δ 3 1 nu).toInt from ⟨i985, ⟨kp_w (by decide) u991, v992, v993⟩, by first | assumption | omega, by first | assumption | omega⟩)
                    · have c996 : r946.1.toInt ≠ r901.1.toInt := o_ne h952
                      unfold J_X1_goOnDropping_172
                      refine ok_bind (k_X1_enterRoom L hN (a0 := a0) (x1 := r901.1) k_a0 i912) (fun r997 hr998 => ?_)
                      obtain ⟨i999, ⟨u1002, u1003, u1004⟩, p1000, p1001⟩ := hr998
                      have u1005 := kp_t u921 u1002
                      have v1006 : q_V r997 = q_V δ := (u1003).trans v922
                      have v1007 : q_R r997 = q_R δ := (u1004).trans v923
                      have f1008 := ti_b (q_I r997 1 3 a0)
                      have f1009 := ti_b (q_I r997 1 4 a0)
                      exact ok_some (show CI ad h.1 δ0 r997 ∧ (kp [(1, 3), (1, 4), (1, 5), (1, 6), (1, 8), (1, 13), (1, 14), (1, 15)] δ r997 ∧ q_V r997 = q_V δ ∧ q_R r997 = q_R δ) ∧ 0 ≤ (q_I r997 1 3 a0).toInt ∧ (q_I r997 1 4 a0).toInt ≤ (q_I δ 3 1 nu).toInt from ⟨i999, ⟨kp_w (by decide) u1005, v1006, v1007⟩, by first | assumption | omega, by first | assumption | omega⟩)
            · have c1010 : (1 : Int) ≠ (0 : Int) := o_ne h689
              unfold J_X1_goOnDropping_81
              refine ok_ite (fun h1011 => ?_) (fun h1011 => ?_)
              · have c1012 : (1 : Int) = (0 : Int) := o_eq h1011
                unfold J_X1_goOnDropping_121
                refine ok_bind (k_X1_findRoom L hN (a0 := a0) (x1 := (q_I δ 1 8 a0)) k_a0 hnu knu (show 0 ≤ (q_I δ 1 11 a0).toInt by first | assumption | omega) (show (q_I δ 1 11 a0).toInt ≤ (q_I δ 1 12 a0).toInt by first | assumption | omega) (show (q_I δ 1 12 a0).toInt ≤ (q_I δ 3 1 nu).toInt by first | assumption | omega) I) (fun r1013 hr1014 => ?_)
                obtain ⟨i1015, ⟨u1021, u1022, u1023⟩, p1016, p1017, p1018, p1019, p1020⟩ := hr1014
                have u1024 := kp_t kp_r u1021
                have v1025 : q_V r1013.2 = q_V δ := (u1022).trans rfl
                have v1026 : q_R r1013.2 = q_R δ := (u1023).trans rfl
                have f1027 := bo_t p1016
                have f1028 := ti_b (q_I r1013.2 1 13 a0)
                have f1029 := ti_b (q_I r1013.2 1 14 a0)
                have f1030 := ti_b r1013.1
                have f1031 := ti_b r1013.1
                refine ok_ite (fun h1032 => ?_) (fun h1032 => ?_)
                · have c1033 : r1013.1.toInt = (0 : Int) := o_eq h1032
                  refine ok_bdv (fun d1034 e1035 => ?_)
                  have i1036 : CI ad h.1 δ0 d1034 := by rw [e1035]; exact cs_1_15 L i1015 k_a0 (show 0 ≤ (1 : Int) by omega) (show (1 : Int) ≤ 1 by omega)
                  have u1037 := kp_I u1024 e1035
                  have v1038 : q_V d1034 = q_V δ := ((show q_V d1034 = q_V r1013.2 by rw [e1035]; rfl)).trans v1025
                  have v1039 : q_R d1034 = q_R δ := ((show q_R d1034 = q_R r1013.2 by rw [e1035]; rfl)).trans v1026
                  have f1040 := ti_b (q_I d1034 1 3 a0)
                  have f1041 : (q_I d1034 1 3 a0).toInt = (q_I r1013.2 1 3 a0).toInt := congrArg Int32.toInt (by rw [e1035]; exact rI_o (by decide))
                  have f1042 := ti_b (q_I r1013.2 1 3 a0)
                  have f1043 : (q_I r1013.2 1 3 a0).toInt = (q_I δ 1 3 a0).toInt := congrArg Int32.toInt (u1021 1 3 a0 (by decide))
                  have f1044 := ti_b (q_I d1034 1 4 a0)
                  have f1045 : (q_I d1034 1 4 a0).toInt = (q_I r1013.2 1 4 a0).toInt := congrArg Int32.toInt (by rw [e1035]; exact rI_o (by decide))
                  have f1046 := ti_b (q_I r1013.2 1 4 a0)
                  have f1047 : (q_I r1013.2 1 4 a0).toInt = (q_I δ 1 4 a0).toInt := congrArg Int32.toInt (u1021 1 4 a0 (by decide))
                  exact ok_some (show CI ad h.1 δ0 d1034 ∧ (kp [(1, 3), (1, 4), (1, 5), (1, 6), (1, 8), (1, 13), (1, 14), (1, 15)] δ d1034 ∧ q_V d1034 = q_V δ ∧ q_R d1034 = q_R δ) ∧ 0 ≤ (q_I d1034 1 3 a0).toInt ∧ (q_I d1034 1 4 a0).toInt ≤ (q_I δ 3 1 nu).toInt from ⟨i1036, ⟨kp_w (by decide) u1037, v1038, v1039⟩, by first | assumption | omega, by first | assumption | omega⟩)
                · have c1048 : r1013.1.toInt ≠ (0 : Int) := o_ne h1032
                  have f1051 := cb_3_1 i1015 knu o4
                  have f1052 : (q_I r1013.2 3 1 nu).toInt = (q_I δ 3 1 nu).toInt := congrArg Int32.toInt (u1021 3 1 nu (by decide))
                  refine ok_bind (k_X1_valueAt L hN (a0 := a0) (x1 := (q_I r1013.2 1 13 a0)) k_a0 hnu knu (show 0 ≤ ((q_I r1013.2 1 13 a0)).toInt by first | assumption | omega) (show ((q_I r1013.2 1 13 a0)).toInt < (q_I r1013.2 3 1 nu).toInt by first | assumption | omega) i1015) (fun r1049 hr1050 => ?_)
                  have i1053 := hr1050
                  try rw [i1053]
                  have f1054 := ti_b r1049.1
                  refine ok_ite (fun h1055 => ?_) (fun h1055 => ?_)
                  · have c1056 : r1049.1.toInt = (q_I δ 1 8 a0).toInt := o_eq h1055
                    first | (have q1060 := te_subc (c := 1) (n := 1) rfl (q_I r1013.2 1 14 a0) (by omega) (by omega); obtain ⟨f1061, f1062, f1063⟩ := q1060) | (obtain ⟨q1060, f1061, f1062, f1063⟩ := ti_subc (c := 1) (n := 1) rfl (q_I r1013.2 1 14 a0))
                    refine ok_bind (k_X1_valueAt L hN (a0 := a0) (x1 := ((q_I r1013.2 1 14 a0) - (1 : Int32))) k_a0 hnu knu (show 0 ≤ (((q_I r1013.2 1 14 a0) - (1 : Int32))).toInt by first | assumption | omega) (show (((q_I r1013.2 1 14 a0) - (1 : Int32))).toInt < (q_I r1013.2 3 1 nu).toInt by first | assumption | omega) i1015) (fun r1057 hr1058 => ?_)
                    have i1064 := hr1058
                    try rw [i1064]
                    have f1065 := ti_b r1057.1
                    refine ok_ite (fun h1066 => ?_) (fun h1066 => ?_)
                    · have c1067 : r1057.1.toInt = (q_I δ 1 8 a0).toInt := o_eq h1066
                      refine ok_bind (k_X1_enterList L hN (a0 := a0) (x1 := (q_I δ 1 8 a0)) k_a0 i1015) (fun r1068 hr1069 => ?_)
                      obtain ⟨i1070, ⟨u1073, u1074, u1075⟩, p1071, p1072⟩ := hr1069
                      have u1076 := kp_t u1024 u1073
                      have v1077 : q_V r1068 = q_V δ := (u1074).trans v1025
                      have v1078 : q_R r1068 = q_R δ := (u1075).trans v1026
                      have f1079 := ti_b (q_I r1068 1 3 a0)
                      have f1080 := ti_b (q_I r1013.2 1 11 a0)
                      have f1081 : (q_I r1013.2 1 11 a0).toInt = (q_I δ 1 11 a0).toInt := congrArg Int32.toInt (u1021 1 11 a0 (by decide))
                      have f1082 := ti_b (q_I r1068 1 4 a0)
                      have f1083 := ti_b (q_I r1013.2 1 12 a0)
                      have f1084 : (q_I r1013.2 1 12 a0).toInt = (q_I δ 1 12 a0).toInt := congrArg Int32.toInt (u1021 1 12 a0 (by decide))
                      exact ok_some (show CI ad h.1 δ0 r1068 ∧ (kp [(1, 3), (1, 4), (1, 5), (1, 6), (1, 8), (1, 13), (1, 14), (1, 15)] δ r1068 ∧ q_V r1068 = q_V δ ∧ q_R r1068 = q_R δ) ∧ 0 ≤ (q_I r1068 1 3 a0).toInt ∧ (q_I r1068 1 4 a0).toInt ≤ (q_I δ 3 1 nu).toInt from ⟨i1070, ⟨kp_w (by decide) u1076, v1077, v1078⟩, by first | assumption | omega, by first | assumption | omega⟩)
                    · have c1085 : r1057.1.toInt ≠ (q_I δ 1 8 a0).toInt := o_ne h1066
                      unfold J_X1_goOnDropping_172
                      refine ok_bind (k_X1_enterRoom L hN (a0 := a0) (x1 := (q_I δ 1 8 a0)) k_a0 i1015) (fun r1086 hr1087 => ?_)
                      obtain ⟨i1088, ⟨u1091, u1092, u1093⟩, p1089, p1090⟩ := hr1087
                      have u1094 := kp_t u1024 u1091
                      have v1095 : q_V r1086 = q_V δ := (u1092).trans v1025
                      have v1096 : q_R r1086 = q_R δ := (u1093).trans v1026
                      have f1097 := ti_b (q_I r1086 1 3 a0)
                      have f1098 := ti_b (q_I r1086 1 4 a0)
                      exact ok_some (show CI ad h.1 δ0 r1086 ∧ (kp [(1, 3), (1, 4), (1, 5), (1, 6), (1, 8), (1, 13), (1, 14), (1, 15)] δ r1086 ∧ q_V r1086 = q_V δ ∧ q_R r1086 = q_R δ) ∧ 0 ≤ (q_I r1086 1 3 a0).toInt ∧ (q_I r1086 1 4 a0).toInt ≤ (q_I δ 3 1 nu).toInt from ⟨i1088, ⟨kp_w (by decide) u1094, v1095, v1096⟩, by first | assumption | omega, by first | assumption | omega⟩)
                  · have c1099 : r1049.1.toInt ≠ (q_I δ 1 8 a0).toInt := o_ne h1055
                    unfold J_X1_goOnDropping_172
                    refine ok_bind (k_X1_enterRoom L hN (a0 := a0) (x1 := (q_I δ 1 8 a0)) k_a0 i1015) (fun r1100 hr1101 => ?_)
                    obtain ⟨i1102, ⟨u1105, u1106, u1107⟩, p1103, p1104⟩ := hr1101
                    have u1108 := kp_t u1024 u1105
                    have v1109 : q_V r1100 = q_V δ := (u1106).trans v1025
                    have v1110 : q_R r1100 = q_R δ := (u1107).trans v1026
                    have f1111 := ti_b (q_I r1100 1 3 a0)
                    have f1112 := ti_b (q_I r1100 1 4 a0)
                    exact ok_some (show CI ad h.1 δ0 r1100 ∧ (kp [(1, 3), (1, 4), (1, 5), (1, 6), (1, 8), (1, 13), (1, 14), (1, 15)] δ r1100 ∧ q_V r1100 = q_V δ ∧ q_R r1100 = q_R δ) ∧ 0 ≤ (q_I r1100 1 3 a0).toInt ∧ (q_I r1100 1 4 a0).toInt ≤ (q_I δ 3 1 nu).toInt from ⟨i1102, ⟨kp_w (by decide) u1108, v1109, v1110⟩, by first | assumption | omega, by first | assumption | omega⟩)
              · have c1113 : (1 : Int) ≠ (0 : Int) := o_ne h1011
                refine ok_ite (fun h1114 => ?_) (fun h1114 => ?_)
                · have c1115 : (q_I δ 1 8 a0).toInt = (q_I δ 1 9 a0).toInt := o_eq h1114
                  unfold J_X1_goOnDropping_118
                  refine ok_bind (k_X1_valueAt L hN (a0 := a0) (x1 := (q_I δ 1 11 a0)) k_a0 hnu knu (show 0 ≤ ((q_I δ 1 11 a0)).toInt by first | assumption | omega) (show ((q_I δ 1 11 a0)).toInt < (q_I δ 3 1 nu).toInt by first | assumption | omega) I) (fun r1116 hr1117 => ?_)
                  have i1118 := hr1117
                  try rw [i1118]
                  have f1119 := ti_b r1116.1
                  unfold J_X1_goOnDropping_121
                  refine ok_bind (k_X1_findRoom L hN (a0 := a0) (x1 := r1116.1) k_a0 hnu knu (show 0 ≤ (q_I δ 1 11 a0).toInt by first | assumption | omega) (show (q_I δ 1 11 a0).toInt ≤ (q_I δ 1 12 a0).toInt by first | assumption | omega) (show (q_I δ 1 12 a0).toInt ≤ (q_I δ 3 1 nu).toInt by first | assumption | omega) I) (fun r1120 hr1121 => ?_)
                  obtain ⟨i1122, ⟨u1128, u1129, u1130⟩, p1123, p1124, p1125, p1126, p1127⟩ := hr1121
                  have u1131 := kp_t kp_r u1128
                  have v1132 : q_V r1120.2 = q_V δ := (u1129).trans rfl
                  have v1133 : q_R r1120.2 = q_R δ := (u1130).trans rfl
                  have f1134 := bo_t p1123
                  have f1135 := ti_b (q_I r1120.2 1 13 a0)
                  have f1136 := ti_b (q_I r1120.2 1 14 a0)
                  have f1137 := ti_b r1120.1
                  have f1138 := ti_b r1120.1
                  refine ok_ite (fun h1139 => ?_) (fun h1139 => ?_)
                  · have c1140 : r1120.1.toInt = (0 : Int) := o_eq h1139
                    refine ok_bdv (fun d1141 e1142 => ?_)
                    have i1143 : CI ad h.1 δ0 d1141 := by rw [e1142]; exact cs_1_15 L i1122 k_a0 (show 0 ≤ (1 : Int) by omega) (show (1 : Int) ≤ 1 by omega)
                    have u1144 := kp_I u1131 e1142
                    have v1145 : q_V d1141 = q_V δ := ((show q_V d1141 = q_V r1120.2 by rw [e1142]; rfl)).trans v1132
                    have v1146 : q_R d1141 = q_R δ := ((show q_R d1141 = q_R r1120.2 by rw [e1142]; rfl)).trans v1133
                    have f1147 := ti_b (q_I d1141 1 3 a0)
                    have f1148 : (q_I d1141 1 3 a0).toInt = (q_I r1120.2 1 3 a0).toInt := congrArg Int32.toInt (by rw [e1142]; exact rI_o (by decide))
                    have f1149 := ti_b (q_I r1120.2 1 3 a0)
                    have f1150 : (q_I r1120.2 1 3 a0).toInt = (q_I δ 1 3 a0).toInt := congrArg Int32.toInt (u1128 1 3 a0 (by decide))
                    have f1151 := ti_b (q_I d1141 1 4 a0)
                    have f1152 : (q_I d1141 1 4 a0).toInt = (q_I r1120.2 1 4 a0).toInt := congrArg Int32.toInt (by rw [e1142]; exact rI_o (by decide))
                    have f1153 := ti_b (q_I r1120.2 1 4 a0)
                    have f1154 : (q_I r1120.2 1 4 a0).toInt = (q_I δ 1 4 a0).toInt := congrArg Int32.toInt (u1128 1 4 a0 (by decide))
                    exact ok_some (show CI ad h.1 δ0 d1141 ∧ (kp [(1, 3), (1, 4), (1, 5), (1, 6), (1, 8), (1, 13), (1, 14), (1, 15)] δ d1141 ∧ q_V d1141 = q_V δ ∧ q_R d1141 = q_R δ) ∧ 0 ≤ (q_I d1141 1 3 a0).toInt ∧ (q_I d1141 1 4 a0).toInt ≤ (q_I δ 3 1 nu).toInt from ⟨i1143, ⟨kp_w (by decide) u1144, v1145, v1146⟩, by first | assumption | omega, by first | assumption | omega⟩)
                  · have c1155 : r1120.1.toInt ≠ (0 : Int) := o_ne h1139
                    have f1158 := cb_3_1 i1122 knu o4
                    have f1159 : (q_I r1120.2 3 1 nu).toInt = (q_I δ 3 1 nu).toInt := congrArg Int32.toInt (u1128 3 1 nu (by decide))
                    refine ok_bind (k_X1_valueAt L hN (a0 := a0) (x1 := (q_I r1120.2 1 13 a0)) k_a0 hnu knu (show 0 ≤ ((q_I r1120.2 1 13 a0)).toInt by first | assumption | omega) (show ((q_I r1120.2 1 13 a0)).toInt < (q_I r1120.2 3 1 nu).toInt by first | assumption | omega) i1122) (fun r1156 hr1157 => ?_)
                    have i1160 := hr1157
                    try rw [i1160]
                    have f1161 := ti_b r1156.1
                    refine ok_ite (fun h1162 => ?_) (fun h1162 => ?_)
                    · have c1163 : r1156.1.toInt = r1116.1.toInt := o_eq h1162
                      first | (have q1167 := te_subc (c := 1) (n := 1) rfl (q_I r1120.2 1 14 a0) (by omega) (by omega); obtain ⟨f1168, f1169, f1170⟩ := q1167) | (obtain ⟨q1167, f1168, f1169, f1170⟩ := ti_subc (c := 1) (n := 1) rfl (q_I r1120.2 1 14 a0))
                      refine ok_bind (k_X1_valueAt L hN (a0 := a0) (x1 := ((q_I r1120.2 1 14 a0) - (1 : Int32))) k_a0 hnu knu (show 0 ≤ (((q_I r1120.2 1 14 a0) - (1 : Int32))).toInt by first | assumption | omega) (show (((q_I r1120.2 1 14 a0) - (1 : Int32))).toInt < (q_I r1120.2 3 1 nu).toInt by first | assumption | omega) i1122) (fun r1164 hr1165 => ?_)
                      have i1171 := hr1165
                      try rw [i1171]
                      have f1172 := ti_b r1164.1
                      refine ok_ite (fun h1173 => ?_) (fun h1173 => ?_)
                      · have c1174 : r1164.1.toInt = r1116.1.toInt := o_eq h1173
                        refine ok_bind (k_X1_enterList L hN (a0 := a0) (x1 := r1116.1) k_a0 i1122) (fun r1175 hr1176 => ?_)
                        obtain ⟨i1177, ⟨u1180, u1181, u1182⟩, p1178, p1179⟩ := hr1176
                        have u1183 := kp_t u1131 u1180
                        have v1184 : q_V r1175 = q_V δ := (u1181).trans v1132
                        have v1185 : q_R r1175 = q_R δ := (u1182).trans v1133
                        have f1186 := ti_b (q_I r1175 1 3 a0)
                        have f1187 := ti_b (q_I r1120.2 1 11 a0)
                        have f1188 : (q_I r1120.2 1 11 a0).toInt = (q_I δ 1 11 a0).toInt := congrArg Int32.toInt (u1128 1 11 a0 (by decide))
                        have f1189 := ti_b (q_I r1175 1 4 a0)
                        have f1190 := ti_b (q_I r1120.2 1 12 a0)
                        have f1191 : (q_I r1120.2 1 12 a0).toInt = (q_I δ 1 12 a0).toInt := congrArg Int32.toInt (u1128 1 12 a0 (by decide))
                        exact ok_some (show CI ad h.1 δ0 r1175 ∧ (kp [(1, 3), (1, 4), (1, 5), (1, 6), (1, 8), (1, 13), (1, 14), (1, 15)] δ r1175 ∧ q_V r1175 = q_V δ ∧ q_R r1175 = q_R δ) ∧ 0 ≤ (q_I r1175 1 3 a0).toInt ∧ (q_I r1175 1 4 a0).toInt ≤ (q_I δ 3 1 nu).toInt from ⟨i1177, ⟨kp_w (by decide) u1183, v1184, v1185⟩, by first | assumption | omega, by first | assumption | omega⟩)
                      · have c1192 : r1164.1.toInt ≠ r1116.1.toInt := o_ne h1173
                        unfold J_X1_goOnDropping_172
                        refine ok_bind (k_X1_enterRoom L hN (a0 := a0) (x1 := r1116.1) k_a0 i1122) (fun r1193 hr1194 => ?_)
                        obtain ⟨i1195, ⟨u1198, u1199, u1200⟩, p1196, p1197⟩ := hr1194
                        have u1201 := kp_t u1131 u1198
                        have v1202 : q_V r1193 = q_V δ := (u1199).trans v1132
                        have v1203 : q_R r1193 = q_R δ := (u1200).trans v1133
                        have f1204 := ti_b (q_I r1193 1 3 a0)
                        have f1205 := ti_b (q_I r1193 1 4 a0)
                        exact ok_some (show CI ad h.1 δ0 r1193 ∧ (kp [(1, 3), (1, 4), (1, 5), (1, 6), (1, 8), (1, 13), (1, 14), (1, 15)] δ r1193 ∧ q_V r1193 = q_V δ ∧ q_R r1193 = q_R δ) ∧ 0 ≤ (q_I r1193 1 3 a0).toInt ∧ (q_I r1193 1 4 a0).toInt ≤ (q_I δ 3 1 nu).toInt from ⟨i1195, ⟨kp_w (by decide) u1201, v1202, v1203⟩, by first | assumption | omega, by first | assumption | omega⟩)
                    · have c1206 : r1156.1.toInt ≠ r1116.1.toInt := o_ne h1162
                      unfold J_X1_goOnDropping_172
                      refine ok_bind (k_X1_enterRoom L hN (a0 := a0) (x1 := r1116.1) k_a0 i1122) (fun r1207 hr1208 => ?_)
                      obtain ⟨i1209, ⟨u1212, u1213, u1214⟩, p1210, p1211⟩ := hr1208
                      have u1215 := kp_t u1131 u1212
                      have v1216 : q_V r1207 = q_V δ := (u1213).trans v1132
                      have v1217 : q_R r1207 = q_R δ := (u1214).trans v1133
                      have f1218 := ti_b (q_I r1207 1 3 a0)
                      have f1219 := ti_b (q_I r1207 1 4 a0)
                      exact ok_some (show CI ad h.1 δ0 r1207 ∧ (kp [(1, 3), (1, 4), (1, 5), (1, 6), (1, 8), (1, 13), (1, 14), (1, 15)] δ r1207 ∧ q_V r1207 = q_V δ ∧ q_R r1207 = q_R δ) ∧ 0 ≤ (q_I r1207 1 3 a0).toInt ∧ (q_I r1207 1 4 a0).toInt ≤ (q_I δ 3 1 nu).toInt from ⟨i1209, ⟨kp_w (by decide) u1215, v1216, v1217⟩, by first | assumption | omega, by first | assumption | omega⟩)
                · have c1220 : (q_I δ 1 8 a0).toInt ≠ (q_I δ 1 9 a0).toInt := o_ne h1114
                  unfold J_X1_goOnDropping_118
                  first | (have q1224 := te_subc (c := 1) (n := 1) rfl (q_I δ 1 12 a0) (by omega) (by omega); obtain ⟨f1225, f1226, f1227⟩ := q1224) | (obtain ⟨q1224, f1225, f1226, f1227⟩ := ti_subc (c := 1) (n := 1) rfl (q_I δ 1 12 a0))
                  refine ok_bind (k_X1_valueAt L hN (a0 := a0) (x1 := ((q_I δ 1 12 a0) - (1 : Int32))) k_a0 hnu knu (show 0 ≤ (((q_I δ 1 12 a0) - (1 : Int32))).toInt by first | assumption | omega) (show (((q_I δ 1 12 a0) - (1 : Int32))).toInt < (q_I δ 3 1 nu).toInt by first | assumption | omega) I) (fun r1221 hr1222 => ?_)
                  have i1228 := hr1222
                  try rw [i1228]
                  have f1229 := ti_b r1221.1
                  unfold J_X1_goOnDropping_121
                  refine ok_bind (k_X1_findRoom L hN (a0 := a0) (x1 := r1221.1) k_a0 hnu knu (show 0 ≤ (q_I δ 1 11 a0).toInt by first | assumption | omega) (show (q_I δ 1 11 a0).toInt ≤ (q_I δ 1 12 a0).toInt by first | assumption | omega) (show (q_I δ 1 12 a0).toInt ≤ (q_I δ 3 1 nu).toInt by first | assumption | omega) I) (fun r1230 hr1231 => ?_)
                  obtain ⟨i1232, ⟨u1238, u1239, u1240⟩, p1233, p1234, p1235, p1236, p1237⟩ := hr1231
                  have u1241 := kp_t kp_r u1238
                  have v1242 : q_V r1230.2 = q_V δ := (u1239).trans rfl
                  have v1243 : q_R r1230.2 = q_R δ := (u1240).trans rfl
                  have f1244 := bo_t p1233
                  have f1245 := ti_b (q_I r1230.2 1 13 a0)
                  have f1246 := ti_b (q_I r1230.2 1 14 a0)
                  have f1247 := ti_b r1230.1
                  have f1248 := ti_b r1230.1
                  refine ok_ite (fun h1249 => ?_) (fun h1249 => ?_)
                  · have c1250 : r1230.1.toInt = (0 : Int) := o_eq h1249
                    refine ok_bdv (fun d1251 e1252 => ?_)
                    have i1253 : CI ad h.1 δ0 d1251 := by rw [e1252]; exact cs_1_15 L i1232 k_a0 (show 0 ≤ (1 : Int) by omega) (show (1 : Int) ≤ 1 by omega)
                    have u1254 := kp_I u1241 e1252
                    have v1255 : q_V d1251 = q_V δ := ((show q_V d1251 = q_V r1230.2 by rw [e1252]; rfl)).trans v1242
                    have v1256 : q_R d1251 = q_R δ := ((show q_R d1251 = q_R r1230.2 by rw [e1252]; rfl)).trans v1243
                    have f1257 := ti_b (q_I d1251 1 3 a0)
                    have f1258 : (q_I d1251 1 3 a0).toInt = (q_I r1230.2 1 3 a0).toInt := congrArg Int32.toInt (by rw [e1252]; exact rI_o (by decide))
                    have f1259 := ti_b (q_I r1230.2 1 3 a0)
                    have f1260 : (q_I r1230.2 1 3 a0).toInt = (q_I δ 1 3 a0).toInt := congrArg Int32.toInt (u1238 1 3 a0 (by decide))
                    have f1261 := ti_b (q_I d1251 1 4 a0)
                    have f1262 : (q_I d1251 1 4 a0).toInt = (q_I r1230.2 1 4 a0).toInt := congrArg Int32.toInt (by rw [e1252]; exact rI_o (by decide))
                    have f1263 := ti_b (q_I r1230.2 1 4 a0)
                    have f1264 : (q_I r1230.2 1 4 a0).toInt = (q_I δ 1 4 a0).toInt := congrArg Int32.toInt (u1238 1 4 a0 (by decide))
                    exact ok_some (show CI ad h.1 δ0 d1251 ∧ (kp [(1, 3), (1, 4), (1, 5), (1, 6), (1, 8), (1, 13), (1, 14), (1, 15)] δ d1251 ∧ q_V d1251 = q_V δ ∧ q_R d1251 = q_R δ) ∧ 0 ≤ (q_I d1251 1 3 a0).toInt ∧ (q_I d1251 1 4 a0).toInt ≤ (q_I δ 3 1 nu).toInt from ⟨i1253, ⟨kp_w (by decide) u1254, v1255, v1256⟩, by first | assumption | omega, by first | assumption | omega⟩)
                  · have c1265 : r1230.1.toInt ≠ (0 : Int) := o_ne h1249
                    have f1268 := cb_3_1 i1232 knu o4
                    have f1269 : (q_I r1230.2 3 1 nu).toInt = (q_I δ 3 1 nu).toInt := congrArg Int32.toInt (u1238 3 1 nu (by decide))
                    refine ok_bind (k_X1_valueAt L hN (a0 := a0) (x1 := (q_I r1230.2 1 13 a0)) k_a0 hnu knu (show 0 ≤ ((q_I r1230.2 1 13 a0)).toInt by first | assumption | omega) (show ((q_I r1230.2 1 13 a0)).toInt < (q_I r1230.2 3 1 nu).toInt by first | assumption | omega) i1232) (fun r1266 hr1267 => ?_)
                    have i1270 := hr1267
                    try rw [i1270]
                    have f1271 := ti_b r1266.1
                    refine ok_ite (fun h1272 => ?_) (fun h1272 => ?_)
                    · have c1273 : r1266.1.toInt = r1221.1.toInt := o_eq h1272
                      first | (have q1277 := te_subc (c := 1) (n := 1) rfl (q_I r1230.2 1 14 a0) (by omega) (by omega); obtain ⟨f1278, f1279, f1280⟩ := q1277) | (obtain ⟨q1277, f1278, f1279, f1280⟩ := ti_subc (c := 1) (n := 1) rfl (q_I r1230.2 1 14 a0))
                      refine ok_bind (k_X1_valueAt L hN (a0 := a0) (x1 := ((q_I r1230.2 1 14 a0) - (1 : Int32))) k_a0 hnu knu (show 0 ≤ (((q_I r1230.2 1 14 a0) - (1 : Int32))).toInt by first | assumption | omega) (show (((q_I r1230.2 1 14 a0) - (1 : Int32))).toInt < (q_I r1230.2 3 1 nu).toInt by first | assumption | omega) i1232) (fun r1274 hr1275 => ?_)
                      have i1281 := hr1275
                      try rw [i1281]
                      have f1282 := ti_b r1274.1
                      refine ok_ite (fun h1283 => ?_) (fun h1283 => ?_)
                      · have c1284 : r1274.1.toInt = r1221.1.toInt := o_eq h1283
                        refine ok_bind (k_X1_enterList L hN (a0 := a0) (x1 := r1221.1) k_a0 i1232) (fun r1285 hr1286 => ?_)
                        obtain ⟨i1287, ⟨u1290, u1291, u1292⟩, p1288, p1289⟩ := hr1286
                        have u1293 := kp_t u1241 u1290
                        have v1294 : q_V r1285 = q_V δ := (u1291).trans v1242
                        have v1295 : q_R r1285 = q_R δ := (u1292).trans v1243
                        have f1296 := ti_b (q_I r1285 1 3 a0)
                        have f1297 := ti_b (q_I r1230.2 1 11 a0)
                        have f1298 : (q_I r1230.2 1 11 a0).toInt = (q_I δ 1 11 a0).toInt := congrArg Int32.toInt (u1238 1 11 a0 (by decide))
                        have f1299 := ti_b (q_I r1285 1 4 a0)
                        have f1300 := ti_b (q_I r1230.2 1 12 a0)
                        have f1301 : (q_I r1230.2 1 12 a0).toInt = (q_I δ 1 12 a0).toInt := congrArg Int32.toInt (u1238 1 12 a0 (by decide))
                        exact ok_some (show CI ad h.1 δ0 r1285 ∧ (kp [(1, 3), (1, 4), (1, 5), (1, 6), (1, 8), (1, 13), (1, 14), (1, 15)] δ r1285 ∧ q_V r1285 = q_V δ ∧ q_R r1285 = q_R δ) ∧ 0 ≤ (q_I r1285 1 3 a0).toInt ∧ (q_I r1285 1 4 a0).toInt ≤ (q_I δ 3 1 nu).toInt from ⟨i1287, ⟨kp_w (by decide) u1293, v1294, v1295⟩, by first | assumption | omega, by first | assumption | omega⟩)
                      · have c1302 : r1274.1.toInt ≠ r1221.1.toInt := o_ne h1283
                        unfold J_X1_goOnDropping_172
                        refine ok_bind (k_X1_enterRoom L hN (a0 := a0) (x1 := r1221.1) k_a0 i1232) (fun r1303 hr1304 => ?_)
                        obtain ⟨i1305, ⟨u1308, u1309, u1310⟩, p1306, p1307⟩ := hr1304
                        have u1311 := kp_t u1241 u1308
                        have v1312 : q_V r1303 = q_V δ := (u1309).trans v1242
                        have v1313 : q_R r1303 = q_R δ := (u1310).trans v1243
                        have f1314 := ti_b (q_I r1303 1 3 a0)
                        have f1315 := ti_b (q_I r1303 1 4 a0)
                        exact ok_some (show CI ad h.1 δ0 r1303 ∧ (kp [(1, 3), (1, 4), (1, 5), (1, 6), (1, 8), (1, 13), (1, 14), (1, 15)] δ r1303 ∧ q_V r1303 = q_V δ ∧ q_R r1303 = q_R δ) ∧ 0 ≤ (q_I r1303 1 3 a0).toInt ∧ (q_I r1303 1 4 a0).toInt ≤ (q_I δ 3 1 nu).toInt from ⟨i1305, ⟨kp_w (by decide) u1311, v1312, v1313⟩, by first | assumption | omega, by first | assumption | omega⟩)
                    · have c1316 : r1266.1.toInt ≠ r1221.1.toInt := o_ne h1272
                      unfold J_X1_goOnDropping_172
                      refine ok_bind (k_X1_enterRoom L hN (a0 := a0) (x1 := r1221.1) k_a0 i1232) (fun r1317 hr1318 => ?_)
                      obtain ⟨i1319, ⟨u1322, u1323, u1324⟩, p1320, p1321⟩ := hr1318
                      have u1325 := kp_t u1241 u1322
                      have v1326 : q_V r1317 = q_V δ := (u1323).trans v1242
                      have v1327 : q_R r1317 = q_R δ := (u1324).trans v1243
                      have f1328 := ti_b (q_I r1317 1 3 a0)
                      have f1329 := ti_b (q_I r1317 1 4 a0)
                      exact ok_some (show CI ad h.1 δ0 r1317 ∧ (kp [(1, 3), (1, 4), (1, 5), (1, 6), (1, 8), (1, 13), (1, 14), (1, 15)] δ r1317 ∧ q_V r1317 = q_V δ ∧ q_R r1317 = q_R δ) ∧ 0 ≤ (q_I r1317 1 3 a0).toInt ∧ (q_I r1317 1 4 a0).toInt ≤ (q_I δ 3 1 nu).toInt from ⟨i1319, ⟨kp_w (by decide) u1325, v1326, v1327⟩, by first | assumption | omega, by first | assumption | omega⟩)
          · have c1330 : (q_I δ 1 12 a0).toInt ≤ (q_I δ 1 11 a0).toInt := o_nlt h687
            unfold J_X1_goOnDropping_65
            refine ok_bdv (fun d1331 e1332 => ?_)
            have i1333 : CI ad h.1 δ0 d1331 := by rw [e1332]; exact cs_1_15 L I k_a0 (show 0 ≤ (1 : Int) by omega) (show (1 : Int) ≤ 1 by omega)
            have u1334 := kp_I kp_r e1332
            have v1335 : q_V d1331 = q_V δ := ((show q_V d1331 = q_V δ by rw [e1332]; rfl)).trans rfl
            have v1336 : q_R d1331 = q_R δ := ((show q_R d1331 = q_R δ by rw [e1332]; rfl)).trans rfl
            have f1337 := ti_b (q_I d1331 1 3 a0)
            have f1338 : (q_I d1331 1 3 a0).toInt = (q_I δ 1 3 a0).toInt := congrArg Int32.toInt (by rw [e1332]; exact rI_o (by decide))
            have f1339 := ti_b (q_I d1331 1 4 a0)
            have f1340 : (q_I d1331 1 4 a0).toInt = (q_I δ 1 4 a0).toInt := congrArg Int32.toInt (by rw [e1332]; exact rI_o (by decide))
            exact ok_some (show CI ad h.1 δ0 d1331 ∧ (kp [(1, 3), (1, 4), (1, 5), (1, 6), (1, 8), (1, 13), (1, 14), (1, 15)] δ d1331 ∧ q_V d1331 = q_V δ ∧ q_R d1331 = q_R δ) ∧ 0 ≤ (q_I d1331 1 3 a0).toInt ∧ (q_I d1331 1 4 a0).toInt ≤ (q_I δ 3 1 nu).toInt from ⟨i1333, ⟨kp_w (by decide) u1334, v1335, v1336⟩, by first | assumption | omega, by first | assumption | omega⟩)
  · have c1341 : (q_I δ 1 8 a0).toInt ≠ (q_I δ 1 9 a0).toInt := o_ne h14
    have f1342 := ti_b (q_I δ 1 10 a0)
    refine ok_ite (fun h1343 => ?_) (fun h1343 => ?_)
    · have c1344 : (q_I δ 1 8 a0).toInt = (q_I δ 1 10 a0).toInt := o_eq h1343
      unfold J_X1_goOnDropping_22
      unfold J_X1_goOnDropping_27
      refine ok_ite (fun h1345 => ?_) (fun h1345 => ?_)
      · have c1346 : (q_I δ 1 8 a0).toInt < (q_I δ 1 9 a0).toInt := o_lt h1345
        unfold J_X1_goOnDropping_65
        refine ok_bdv (fun d1347 e1348 => ?_)
        have i1349 : CI ad h.1 δ0 d1347 := by rw [e1348]; exact cs_1_15 L I k_a0 (show 0 ≤ (1 : Int) by omega) (show (1 : Int) ≤ 1 by omega)
        have u1350 := kp_I kp_r e1348
        have v1351 : q_V d1347 = q_V δ := ((show q_V d1347 = q_V δ by rw [e1348]; rfl)).trans rfl
        have v1352 : q_R d1347 = q_R δ := ((show q_R d1347 = q_R δ by rw [e1348]; rfl)).trans rfl
        have f1353 := ti_b (q_I d1347 1 3 a0)
        have f1354 : (q_I d1347 1 3 a0).toInt = (q_I δ 1 3 a0).toInt := congrArg Int32.toInt (by rw [e1348]; exact rI_o (by decide))
        have f1355 := ti_b (q_I d1347 1 4 a0)
        have f1356 : (q_I d1347 1 4 a0).toInt = (q_I δ 1 4 a0).toInt := congrArg Int32.toInt (by rw [e1348]; exact rI_o (by decide))
        exact ok_some (show CI ad h.1 δ0 d1347 ∧ (kp [(1, 3), (1, 4), (1, 5), (1, 6), (1, 8), (1, 13), (1, 14), (1, 15)] δ d1347 ∧ q_V d1347 = q_V δ ∧ q_R d1347 = q_R δ) ∧ 0 ≤ (q_I d1347 1 3 a0).toInt ∧ (q_I d1347 1 4 a0).toInt ≤ (q_I δ 3 1 nu).toInt from ⟨i1349, ⟨kp_w (by decide) u1350, v1351, v1352⟩, by first | assumption | omega, by first | assumption | omega⟩)
      · have c1357 : (q_I δ 1 9 a0).toInt ≤ (q_I δ 1 8 a0).toInt := o_nlt h1345
        refine ok_ite (fun h1358 => ?_) (fun h1358 => ?_)
        · have c1359 : (q_I δ 1 10 a0).toInt < (q_I δ 1 8 a0).toInt := o_lt h1358
          unfold J_X1_goOnDropping_65
          refine ok_bdv (fun d1360 e1361 => ?_)
          have i1362 : CI ad h.1 δ0 d1360 := by rw [e1361]; exact cs_1_15 L I k_a0 (show 0 ≤ (1 : Int) by omega) (show (1 : Int) ≤ 1 by omega)
          have u1363 := kp_I kp_r e1361
          have v1364 : q_V d1360 = q_V δ := ((show q_V d1360 = q_V δ by rw [e1361]; rfl)).trans rfl
          have v1365 : q_R d1360 = q_R δ := ((show q_R d1360 = q_R δ by rw [e1361]; rfl)).trans rfl
          have f1366 := ti_b (q_I d1360 1 3 a0)
          have f1367 : (q_I d1360 1 3 a0).toInt = (q_I δ 1 3 a0).toInt := congrArg Int32.toInt (by rw [e1361]; exact rI_o (by decide))
          have f1368 := ti_b (q_I d1360 1 4 a0)
          have f1369 : (q_I d1360 1 4 a0).toInt = (q_I δ 1 4 a0).toInt := congrArg Int32.toInt (by rw [e1361]; exact rI_o (by decide))
          exact ok_some (show CI ad h.1 δ0 d1360 ∧ (kp [(1, 3), (1, 4), (1, 5), (1, 6), (1, 8), (1, 13), (1, 14), (1, 15)] δ d1360 ∧ q_V d1360 = q_V δ ∧ q_R d1360 = q_R δ) ∧ 0 ≤ (q_I d1360 1 3 a0).toInt ∧ (q_I d1360 1 4 a0).toInt ≤ (q_I δ 3 1 nu).toInt from ⟨i1362, ⟨kp_w (by decide) u1363, v1364, v1365⟩, by first | assumption | omega, by first | assumption | omega⟩)
        · have c1370 : (q_I δ 1 8 a0).toInt ≤ (q_I δ 1 10 a0).toInt := o_nlt h1358
          refine ok_ite (fun h1371 => ?_) (fun h1371 => ?_)
          · have c1372 : (1 : Int) = (0 : Int) := o_eq h1371
            unfold J_X1_goOnDropping_72
            refine ok_ite (fun h1373 => ?_) (fun h1373 => ?_)
            · have c1374 : (1 : Int) = (0 : Int) := o_eq h1373
              unfold J_X1_goOnDropping_81
              refine ok_ite (fun h1375 => ?_) (fun h1375 => ?_)
              · have c1376 : (1 : Int) = (0 : Int) := o_eq h1375
                unfold J_X1_goOnDropping_121
                refine ok_bind (k_X1_findRoom L hN (a0 := a0) (x1 := (q_I δ 1 8 a0)) k_a0 hnu knu (show 0 ≤ (q_I δ 1 11 a0).toInt by first | assumption | omega) (show (q_I δ 1 11 a0).toInt ≤ (q_I δ 1 12 a0).toInt by first | assumption | omega) (show (q_I δ 1 12 a0).toInt ≤ (q_I δ 3 1 nu).toInt by first | assumption | omega) I) (fun r1377 hr1378 => ?_)
                obtain ⟨i1379, ⟨u1385, u1386, u1387⟩, p1380, p1381, p1382, p1383, p1384⟩ := hr1378
                have u1388 := kp_t kp_r u1385
                have v1389 : q_V r1377.2 = q_V δ := (u1386).trans rfl
                have v1390 : q_R r1377.2 = q_R δ := (u1387).trans rfl
                have f1391 := bo_t p1380
                have f1392 := ti_b (q_I r1377.2 1 13 a0)
                have f1393 := ti_b (q_I r1377.2 1 14 a0)
                have f1394 := ti_b r1377.1
                have f1395 := ti_b r1377.1
                refine ok_ite (fun h1396 => ?_) (fun h1396 => ?_)
                · have c1397 : r1377.1.toInt = (0 : Int) := o_eq h1396
                  refine ok_bdv (fun d1398 e1399 => ?_)
                  have i1400 : CI ad h.1 δ0 d1398 := by rw [e1399]; exact cs_1_15 L i1379 k_a0 (show 0 ≤ (1 : Int) by omega) (show (1 : Int) ≤ 1 by omega)
                  have u1401 := kp_I u1388 e1399
                  have v1402 : q_V d1398 = q_V δ := ((show q_V d1398 = q_V r1377.2 by rw [e1399]; rfl)).trans v1389
                  have v1403 : q_R d1398 = q_R δ := ((show q_R d1398 = q_R r1377.2 by rw [e1399]; rfl)).trans v1390
                  have f1404 := ti_b (q_I d1398 1 3 a0)
                  have f1405 : (q_I d1398 1 3 a0).toInt = (q_I r1377.2 1 3 a0).toInt := congrArg Int32.toInt (by rw [e1399]; exact rI_o (by decide))
                  have f1406 := ti_b (q_I r1377.2 1 3 a0)
                  have f1407 : (q_I r1377.2 1 3 a0).toInt = (q_I δ 1 3 a0).toInt := congrArg Int32.toInt (u1385 1 3 a0 (by decide))
                  have f1408 := ti_b (q_I d1398 1 4 a0)
                  have f1409 : (q_I d1398 1 4 a0).toInt = (q_I r1377.2 1 4 a0).toInt := congrArg Int32.toInt (by rw [e1399]; exact rI_o (by decide))
                  have f1410 := ti_b (q_I r1377.2 1 4 a0)
                  have f1411 : (q_I r1377.2 1 4 a0).toInt = (q_I δ 1 4 a0).toInt := congrArg Int32.toInt (u1385 1 4 a0 (by decide))
                  exact ok_some (show CI ad h.1 δ0 d1398 ∧ (kp [(1, 3), (1, 4), (1, 5), (1, 6), (1, 8), (1, 13), (1, 14), (1, 15)] δ d1398 ∧ q_V d1398 = q_V δ ∧ q_R d1398 = q_R δ) ∧ 0 ≤ (q_I d1398 1 3 a0).toInt ∧ (q_I d1398 1 4 a0).toInt ≤ (q_I δ 3 1 nu).toInt from ⟨i1400, ⟨kp_w (by decide) u1401, v1402, v1403⟩, by first | assumption | omega, by first | assumption | omega⟩)
                · have c1412 : r1377.1.toInt ≠ (0 : Int) := o_ne h1396
                  have f1415 := cb_3_1 i1379 knu o4
                  have f1416 : (q_I r1377.2 3 1 nu).toInt = (q_I δ 3 1 nu).toInt := congrArg Int32.toInt (u1385 3 1 nu (by decide))
                  refine ok_bind (k_X1_valueAt L hN (a0 := a0) (x1 := (q_I r1377.2 1 13 a0)) k_a0 hnu knu (show 0 ≤ ((q_I r1377.2 1 13 a0)).toInt by first | assumption | omega) (show ((q_I r1377.2 1 13 a0)).toInt < (q_I r1377.2 3 1 nu).toInt by first | assumption | omega) i1379) (fun r1413 hr1414 => ?_)
                  have i1417 := hr1414
                  try rw [i1417]
                  have f1418 := ti_b r1413.1
                  refine ok_ite (fun h1419 => ?_) (fun h1419 => ?_)
                  · have c1420 : r1413.1.toInt = (q_I δ 1 8 a0).toInt := o_eq h1419
                    first | (have q1424 := te_subc (c := 1) (n := 1) rfl (q_I r1377.2 1 14 a0) (by omega) (by omega); obtain ⟨f1425, f1426, f1427⟩ := q1424) | (obtain ⟨q1424, f1425, f1426, f1427⟩ := ti_subc (c := 1) (n := 1) rfl (q_I r1377.2 1 14 a0))
                    refine ok_bind (k_X1_valueAt L hN (a0 := a0) (x1 := ((q_I r1377.2 1 14 a0) - (1 : Int32))) k_a0 hnu knu (show 0 ≤ (((q_I r1377.2 1 14 a0) - (1 : Int32))).toInt by first | assumption | omega) (show (((q_I r1377.2 1 14 a0) - (1 : Int32))).toInt < (q_I r1377.2 3 1 nu).toInt by first | assumption | omega) i1379) (fun r1421 hr1422 => ?_)
                    have i1428 := hr1422
                    try rw [i1428]
                    have f1429 := ti_b r1421.1
                    refine ok_ite (fun h1430 => ?_) (fun h1430 => ?_)
                    · have c1431 : r1421.1.toInt = (q_I δ 1 8 a0).toInt := o_eq h1430
                      refine ok_bind (k_X1_enterList L hN (a0 := a0) (x1 := (q_I δ 1 8 a0)) k_a0 i1379) (fun r1432 hr1433 => ?_)
                      obtain ⟨i1434, ⟨u1437, u1438, u1439⟩, p1435, p1436⟩ := hr1433
                      have u1440 := kp_t u1388 u1437
                      have v1441 : q_V r1432 = q_V δ := (u1438).trans v1389
                      have v1442 : q_R r1432 = q_R δ := (u1439).trans v1390
                      have f1443 := ti_b (q_I r1432 1 3 a0)
                      have f1444 := ti_b (q_I r1377.2 1 11 a0)
                      have f1445 : (q_I r1377.2 1 11 a0).toInt = (q_I δ 1 11 a0).toInt := congrArg Int32.toInt (u1385 1 11 a0 (by decide))
                      have f1446 := ti_b (q_I r1432 1 4 a0)
                      have f1447 := ti_b (q_I r1377.2 1 12 a0)
                      have f1448 : (q_I r1377.2 1 12 a0).toInt = (q_I δ 1 12 a0).toInt := congrArg Int32.toInt (u1385 1 12 a0 (by decide))
                      exact ok_some (show CI ad h.1 δ0 r1432 ∧ (kp [(1, 3), (1, 4), (1, 5), (1, 6), (1, 8), (1, 13), (1, 14), (1, 15)] δ r1432 ∧ q_V r1432 = q_V δ ∧ q_R r1432 = q_R δ) ∧ 0 ≤ (q_I r1432 1 3 a0).toInt ∧ (q_I r1432 1 4 a0).toInt ≤ (q_I δ 3 1 nu).toInt from ⟨i1434, ⟨kp_w (by decide) u1440, v1441, v1442⟩, by first | assumption | omega, by first | assumption | omega⟩)
                    · have c1449 : r1421.1.toInt ≠ (q_I δ 1 8 a0).toInt := o_ne h1430
                      unfold J_X1_goOnDropping_172
                      refine ok_bind (k_X1_enterRoom L hN (a0 := a0) (x1 := (q_I δ 1 8 a0)) k_a0 i1379) (fun r1450 hr1451 => ?_)
                      obtain ⟨i1452, ⟨u1455, u1456, u1457⟩, p1453, p1454⟩ := hr1451
                      have u1458 := kp_t u1388 u1455
                      have v1459 : q_V r1450 = q_V δ := (u1456).trans v1389
                      have v1460 : q_R r1450 = q_R δ := (u1457).trans v1390
                      have f1461 := ti_b (q_I r1450 1 3 a0)
                      have f1462 := ti_b (q_I r1450 1 4 a0)
                      exact ok_some (show CI ad h.1 δ0 r1450 ∧ (kp [(1, 3), (1, 4), (1, 5), (1, 6), (1, 8), (1, 13), (1, 14), (1, 15)] δ r1450 ∧ q_V r1450 = q_V δ ∧ q_R r1450 = q_R δ) ∧ 0 ≤ (q_I r1450 1 3 a0).toInt ∧ (q_I r1450 1 4 a0).toInt ≤ (q_I δ 3 1 nu).toInt from ⟨i1452, ⟨kp_w (by decide) u1458, v1459, v1460⟩, by first | assumption | omega, by first | assumption | omega⟩)
                  · have c1463 : r1413.1.toInt ≠ (q_I δ 1 8 a0).toInt := o_ne h1419
                    unfold J_X1_goOnDropping_172
                    refine ok_bind (k_X1_enterRoom L hN (a0 := a0) (x1 := (q_I δ 1 8 a0)) k_a0 i1379) (fun r1464 hr1465 => ?_)
                    obtain ⟨i1466, ⟨u1469, u1470, u1471⟩, p1467, p1468⟩ := hr1465
                    have u1472 := kp_t u1388 u1469
                    have v1473 : q_V r1464 = q_V δ := (u1470).trans v1389
                    have v1474 : q_R r1464 = q_R δ := (u1471).trans v1390
                    have f1475 := ti_b (q_I r1464 1 3 a0)
                    have f1476 := ti_b (q_I r1464 1 4 a0)
                    exact ok_some (show CI ad h.1 δ0 r1464 ∧ (kp [(1, 3), (1, 4), (1, 5), (1, 6), (1, 8), (1, 13), (1, 14), (1, 15)] δ r1464 ∧ q_V r1464 = q_V δ ∧ q_R r1464 = q_R δ) ∧ 0 ≤ (q_I r1464 1 3 a0).toInt ∧ (q_I r1464 1 4 a0).toInt ≤ (q_I δ 3 1 nu).toInt from ⟨i1466, ⟨kp_w (by decide) u1472, v1473, v1474⟩, by first | assumption | omega, by first | assumption | omega⟩)
              · have c1477 : (1 : Int) ≠ (0 : Int) := o_ne h1375
                refine ok_ite (fun h1478 => ?_) (fun h1478 => ?_)
                · have c1479 : (q_I δ 1 8 a0).toInt = (q_I δ 1 9 a0).toInt := o_eq h1478
                  unfold J_X1_goOnDropping_118
                  refine ok_bind (k_X1_valueAt L hN (a0 := a0) (x1 := (q_I δ 1 11 a0)) k_a0 hnu knu (show 0 ≤ ((q_I δ 1 11 a0)).toInt by first | assumption | omega) (show ((q_I δ 1 11 a0)).toInt < (q_I δ 3 1 nu).toInt by first | assumption | omega) I) (fun r1480 hr1481 => ?_)
                  have i1482 := hr1481
                  try rw [i1482]
                  have f1483 := ti_b r1480.1
                  unfold J_X1_goOnDropping_121
                  refine ok_bind (k_X1_findRoom L hN (a0 := a0) (x1 := r1480.1) k_a0 hnu knu (show 0 ≤ (q_I δ 1 11 a0).toInt by first | assumption | omega) (show (q_I δ 1 11 a0).toInt ≤ (q_I δ 1 12 a0).toInt by first | assumption | omega) (show (q_I δ 1 12 a0).toInt ≤ (q_I δ 3 1 nu).toInt by first | assumption | omega) I) (fun r1484 hr1485 => ?_)
                  obtain ⟨i1486, ⟨u1492, u1493, u1494⟩, p1487, p1488, p1489, p1490, p1491⟩ := hr1485
                  have u1495 := kp_t kp_r u1492
                  have v1496 : q_V r1484.2 = q_V δ := (u1493).trans rfl
                  have v1497 : q_R r1484.2 = q_R δ := (u1494).trans rfl
                  have f1498 := bo_t p1487
                  have f1499 := ti_b (q_I r1484.2 1 13 a0)
                  have f1500 := ti_b (q_I r1484.2 1 14 a0)
                  have f1501 := ti_b r1484.1
                  have f1502 := ti_b r1484.1
                  refine ok_ite (fun h1503 => ?_) (fun h1503 => ?_)
                  · have c1504 : r1484.1.toInt = (0 : Int) := o_eq h1503
                    refine ok_bdv (fun d1505 e1506 => ?_)
                    have i1507 : CI ad h.1 δ0 d1505 := by rw [e1506]; exact cs_1_15 L i1486 k_a0 (show 0 ≤ (1 : Int) by omega) (show (1 : Int) ≤ 1 by omega)
                    have u1508 := kp_I u1495 e1506
                    have v1509 : q_V d1505 = q_V δ := ((show q_V d1505 = q_V r1484.2 by rw [e1506]; rfl)).trans v1496
                    have v1510 : q_R d1505 = q_R δ := ((show q_R d1505 = q_R r1484.2 by rw [e1506]; rfl)).trans v1497
                    have f1511 := ti_b (q_I d1505 1 3 a0)
                    have f1512 : (q_I d1505 1 3 a0).toInt = (q_I r1484.2 1 3 a0).toInt := congrArg Int32.toInt (by rw [e1506]; exact rI_o (by decide))
                    have f1513 := ti_b (q_I r1484.2 1 3 a0)
                    have f1514 : (q_I r1484.2 1 3 a0).toInt = (q_I δ 1 3 a0).toInt := congrArg Int32.toInt (u1492 1 3 a0 (by decide))
                    have f1515 := ti_b (q_I d1505 1 4 a0)
                    have f1516 : (q_I d1505 1 4 a0).toInt = (q_I r1484.2 1 4 a0).toInt := congrArg Int32.toInt (by rw [e1506]; exact rI_o (by decide))
                    have f1517 := ti_b (q_I r1484.2 1 4 a0)
                    have f1518 : (q_I r1484.2 1 4 a0).toInt = (q_I δ 1 4 a0).toInt := congrArg Int32.toInt (u1492 1 4 a0 (by decide))
                    exact ok_some (show CI ad h.1 δ0 d1505 ∧ (kp [(1, 3), (1, 4), (1, 5), (1, 6), (1, 8), (1, 13), (1, 14), (1, 15)] δ d1505 ∧ q_V d1505 = q_V δ ∧ q_R d1505 = q_R δ) ∧ 0 ≤ (q_I d1505 1 3 a0).toInt ∧ (q_I d1505 1 4 a0).toInt ≤ (q_I δ 3 1 nu).toInt from ⟨i1507, ⟨kp_w (by decide) u1508, v1509, v1510⟩, by first | assumption | omega, by first | assumption | omega⟩)
                  · have c1519 : r1484.1.toInt ≠ (0 : Int) := o_ne h1503
                    have f1522 := cb_3_1 i1486 knu o4
                    have f1523 : (q_I r1484.2 3 1 nu).toInt = (q_I δ 3 1 nu).toInt := congrArg Int32.toInt (u1492 3 1 nu (by decide))
                    refine ok_bind (k_X1_valueAt L hN (a0 := a0) (x1 := (q_I r1484.2 1 13 a0)) k_a0 hnu knu (show 0 ≤ ((q_I r1484.2 1 13 a0)).toInt by first | assumption | omega) (show ((q_I r1484.2 1 13 a0)).toInt < (q_I r1484.2 3 1 nu).toInt by first | assumption | omega) i1486) (fun r1520 hr1521 => ?_)
                    have i1524 := hr1521
                    try rw [i1524]
                    have f1525 := ti_b r1520.1
                    refine ok_ite (fun h1526 => ?_) (fun h1526 => ?_)
                    · have c1527 : r1520.1.toInt = r1480.1.toInt := o_eq h1526
                      first | (have q1531 := te_subc (c := 1) (n := 1) rfl (q_I r1484.2 1 14 a0) (by omega) (by omega); obtain ⟨f1532, f1533, f1534⟩ := q1531) | (obtain ⟨q1531, f1532, f1533, f1534⟩ := ti_subc (c := 1) (n := 1) rfl (q_I r1484.2 1 14 a0))
                      refine ok_bind (k_X1_valueAt L hN (a0 := a0) (x1 := ((q_I r1484.2 1 14 a0) - (1 : Int32))) k_a0 hnu knu (show 0 ≤ (((q_I r1484.2 1 14 a0) - (1 : Int32))).toInt by first | assumption | omega) (show (((q_I r1484.2 1 14 a0) - (1 : Int32))).toInt < (q_I r1484.2 3 1 nu).toInt by first | assumption | omega) i1486) (fun r1528 hr1529 => ?_)
                      have i1535 := hr1529
                      try rw [i1535]
                      have f1536 := ti_b r1528.1
                      refine ok_ite (fun h1537 => ?_) (fun h1537 => ?_)
                      · have c1538 : r1528.1.toInt = r1480.1.toInt := o_eq h1537
                        refine ok_bind (k_X1_enterList L hN (a0 := a0) (x1 := r1480.1) k_a0 i1486) (fun r1539 hr1540 => ?_)
                        obtain ⟨i1541, ⟨u1544, u1545, u1546⟩, p1542, p1543⟩ := hr1540
                        have u1547 := kp_t u1495 u1544
                        have v1548 : q_V r1539 = q_V δ := (u1545).trans v1496
                        have v1549 : q_R r1539 = q_R δ := (u1546).trans v1497
                        have f1550 := ti_b (q_I r1539 1 3 a0)
                        have f1551 := ti_b (q_I r1484.2 1 11 a0)
                        have f1552 : (q_I r1484.2 1 11 a0).toInt = (q_I δ 1 11 a0).toInt := congrArg Int32.toInt (u1492 1 11 a0 (by decide))
                        have f1553 := ti_b (q_I r1539 1 4 a0)
                        have f1554 := ti_b (q_I r1484.2 1 12 a0)
                        have f1555 : (q_I r1484.2 1 12 a0).toInt = (q_I δ 1 12 a0).toInt := congrArg Int32.toInt (u1492 1 12 a0 (by decide))
                        exact ok_some (show CI ad h.1 δ0 r1539 ∧ (kp [(1, 3), (1, 4), (1, 5), (1, 6), (1, 8), (1, 13), (1, 14), (1, 15)] δ r1539 ∧ q_V r1539 = q_V δ ∧ q_R r1539 = q_R δ) ∧ 0 ≤ (q_I r1539 1 3 a0).toInt ∧ (q_I r1539 1 4 a0).toInt ≤ (q_I δ 3 1 nu).toInt from ⟨i1541, ⟨kp_w (by decide) u1547, v1548, v1549⟩, by first | assumption | omega, by first | assumption | omega⟩)
                      · have c1556 : r1528.1.toInt ≠ r1480.1.toInt := o_ne h1537
                        unfold J_X1_goOnDropping_172
                        refine ok_bind (k_X1_enterRoom L hN (a0 := a0) (x1 := r1480.1) k_a0 i1486) (fun r1557 hr1558 => ?_)
                        obtain ⟨i1559, ⟨u1562, u1563, u1564⟩, p1560, p1561⟩ := hr1558
                        have u1565 := kp_t u1495 u1562
                        have v1566 : q_V r1557 = q_V δ := (u1563).trans v1496
                        have v1567 : q_R r1557 = q_R δ := (u1564).trans v1497
                        have f1568 := ti_b (q_I r1557 1 3 a0)
                        have f1569 := ti_b (q_I r1557 1 4 a0)
                        exact ok_some (show CI ad h.1 δ0 r1557 ∧ (kp [(1, 3), (1, 4), (1, 5), (1, 6), (1, 8), (1, 13), (1, 14), (1, 15)] δ r1557 ∧ q_V r1557 = q_V δ ∧ q_R r1557 = q_R δ) ∧ 0 ≤ (q_I r1557 1 3 a0).toInt ∧ (q_I r1557 1 4 a0).toInt ≤ (q_I δ 3 1 nu).toInt from ⟨i1559, ⟨kp_w (by decide) u1565, v1566, v1567⟩, by first | assumption | omega, by first | assumption | omega⟩)
                    · have c1570 : r1520.1.toInt ≠ r1480.1.toInt := o_ne h1526
                      unfold J_X1_goOnDropping_172
                      refine ok_bind (k_X1_enterRoom L hN (a0 := a0) (x1 := r1480.1) k_a0 i1486) (fun r1571 hr1572 => ?_)
                      obtain ⟨i1573, ⟨u1576, u1577, u1578⟩, p1574, p1575⟩ := hr1572
                      have u1579 := kp_t u1495 u1576
                      have v1580 : q_V r1571 = q_V δ := (u1577).trans v1496
                      have v1581 : q_R r1571 = q_R δ := (u1578).trans v1497
                      have f1582 := ti_b (q_I r1571 1 3 a0)
                      have f1583 := ti_b (q_I r1571 1 4 a0)
                      exact ok_some (show CI ad h.1 δ0 r1571 ∧ (kp [(1, 3), (1, 4), (1, 5), (1, 6), (1, 8), (1, 13), (1, 14), (1, 15)] δ r1571 ∧ q_V r1571 = q_V δ ∧ q_R r1571 = q_R δ) ∧ 0 ≤ (q_I r1571 1 3 a0).toInt ∧ (q_I r1571 1 4 a0).toInt ≤ (q_I δ 3 1 nu).toInt from ⟨i1573, ⟨kp_w (by decide) u1579, v1580, v1581⟩, by first | assumption | omega, by first | assumption | omega⟩)
                · have c1584 : (q_I δ 1 8 a0).toInt ≠ (q_I δ 1 9 a0).toInt := o_ne h1478
                  unfold J_X1_goOnDropping_118
                  first | (have q1588 := te_subc (c := 1) (n := 1) rfl (q_I δ 1 12 a0) (by omega) (by omega); obtain ⟨f1589, f1590, f1591⟩ := q1588) | (obtain ⟨q1588, f1589, f1590, f1591⟩ := ti_subc (c := 1) (n := 1) rfl (q_I δ 1 12 a0))
                  refine ok_bind (k_X1_valueAt L hN (a0 := a0) (x1 := ((q_I δ 1 12 a0) - (1 : Int32))) k_a0 hnu knu (show 0 ≤ (((q_I δ 1 12 a0) - (1 : Int32))).toInt by first | assumption | omega) (show (((q_I δ 1 12 a0) - (1 : Int32))).toInt < (q_I δ 3 1 nu).toInt by first | assumption | omega) I) (fun r1585 hr1586 => ?_)
                  have i1592 := hr1586
                  try rw [i1592]
                  have f1593 := ti_b r1585.1
                  unfold J_X1_goOnDropping_121
                  refine ok_bind (k_X1_findRoom L hN (a0 := a0) (x1 := r1585.1) k_a0 hnu knu (show 0 ≤ (q_I δ 1 11 a0).toInt by first | assumption | omega) (show (q_I δ 1 11 a0).toInt ≤ (q_I δ 1 12 a0).toInt by first | assumption | omega) (show (q_I δ 1 12 a0).toInt ≤ (q_I δ 3 1 nu).toInt by first | assumption | omega) I) (fun r1594 hr1595 => ?_)
                  obtain ⟨i1596, ⟨u1602, u1603, u1604⟩, p1597, p1598, p1599, p1600, p1601⟩ := hr1595
                  have u1605 := kp_t kp_r u1602
                  have v1606 : q_V r1594.2 = q_V δ := (u1603).trans rfl
                  have v1607 : q_R r1594.2 = q_R δ := (u1604).trans rfl
                  have f1608 := bo_t p1597
                  have f1609 := ti_b (q_I r1594.2 1 13 a0)
                  have f1610 := ti_b (q_I r1594.2 1 14 a0)
                  have f1611 := ti_b r1594.1
                  have f1612 := ti_b r1594.1
                  refine ok_ite (fun h1613 => ?_) (fun h1613 => ?_)
                  · have c1614 : r1594.1.toInt = (0 : Int) := o_eq h1613
                    refine ok_bdv (fun d1615 e1616 => ?_)
                    have i1617 : CI ad h.1 δ0 d1615 := by rw [e1616]; exact cs_1_15 L i1596 k_a0 (show 0 ≤ (1 : Int) by omega) (show (1 : Int) ≤ 1 by omega)
                    have u1618 := kp_I u1605 e1616
                    have v1619 : q_V d1615 = q_V δ := ((show q_V d1615 = q_V r1594.2 by rw [e1616]; rfl)).trans v1606
                    have v1620 : q_R d1615 = q_R δ := ((show q_R d1615 = q_R r1594.2 by rw [e1616]; rfl)).trans v1607
                    have f1621 := ti_b (q_I d1615 1 3 a0)
                    have f1622 : (q_I d1615 1 3 a0).toInt = (q_I r1594.2 1 3 a0).toInt := congrArg Int32.toInt (by rw [e1616]; exact rI_o (by decide))
                    have f1623 := ti_b (q_I r1594.2 1 3 a0)
                    have f1624 : (q_I r1594.2 1 3 a0).toInt = (q_I δ 1 3 a0).toInt := congrArg Int32.toInt (u1602 1 3 a0 (by decide))
                    have f1625 := ti_b (q_I d1615 1 4 a0)
                    have f1626 : (q_I d1615 1 4 a0).toInt = (q_I r1594.2 1 4 a0).toInt := congrArg Int32.toInt (by rw [e1616]; exact rI_o (by decide))
                    have f1627 := ti_b (q_I r1594.2 1 4 a0)
                    have f1628 : (q_I r1594.2 1 4 a0).toInt = (q_I δ 1 4 a0).toInt := congrArg Int32.toInt (u1602 1 4 a0 (by decide))
                    exact ok_some (show CI ad h.1 δ0 d1615 ∧ (kp [(1, 3), (1, 4), (1, 5), (1, 6), (1, 8), (1, 13), (1, 14), (1, 15)] δ d1615 ∧ q_V d1615 = q_V δ ∧ q_R d1615 = q_R δ) ∧ 0 ≤ (q_I d1615 1 3 a0).toInt ∧ (q_I d1615 1 4 a0).toInt ≤ (q_I δ 3 1 nu).toInt from ⟨i1617, ⟨kp_w (by decide) u1618, v1619, v1620⟩, by first | assumption | omega, by first | assumption | omega⟩)
                  · have c1629 : r1594.1.toInt ≠ (0 : Int) := o_ne h1613
                    have f1632 := cb_3_1 i1596 knu o4
                    have f1633 : (q_I r1594.2 3 1 nu).toInt = (q_I δ 3 1 nu).toInt := congrArg Int32.toInt (u1602 3 1 nu (by decide))
                    refine ok_bind (k_X1_valueAt L hN (a0 := a0) (x1 := (q_I r1594.2 1 13 a0)) k_a0 hnu knu (show 0 ≤ ((q_I r1594.2 1 13 a0)).toInt by first | assumption | omega) (show ((q_I r1594.2 1 13 a0)).toInt < (q_I r1594.2 3 1 nu).toInt by first | assumption | omega) i1596) (fun r1630 hr1631 => ?_)
                    have i1634 := hr1631
                    try rw [i1634]
                    have f1635 := ti_b r1630.1
                    refine ok_ite (fun h1636 => ?_) (fun h1636 => ?_)
                    · have c1637 : r1630.1.toInt = r1585.1.toInt := o_eq h1636
                      first | (have q1641 := te_subc (c := 1) (n := 1) rfl (q_I r1594.2 1 14 a0) (by omega) (by omega); obtain ⟨f1642, f1643, f1644⟩ := q1641) | (obtain ⟨q1641, f1642, f1643, f1644⟩ := ti_subc (c := 1) (n := 1) rfl (q_I r1594.2 1 14 a0))
                      refine ok_bind (k_X1_valueAt L hN (a0 := a0) (x1 := ((q_I r1594.2 1 14 a0) - (1 : Int32))) k_a0 hnu knu (show 0 ≤ (((q_I r1594.2 1 14 a0) - (1 : Int32))).toInt by first | assumption | omega) (show (((q_I r1594.2 1 14 a0) - (1 : Int32))).toInt < (q_I r1594.2 3 1 nu).toInt by first | assumption | omega) i1596) (fun r1638 hr1639 => ?_)
                      have i1645 := hr1639
                      try rw [i1645]
                      have f1646 := ti_b r1638.1
                      refine ok_ite (fun h1647 => ?_) (fun h1647 => ?_)
                      · have c1648 : r1638.1.toInt = r1585.1.toInt := o_eq h1647
                        refine ok_bind (k_X1_enterList L hN (a0 := a0) (x1 := r1585.1) k_a0 i1596) (fun r1649 hr1650 => ?_)
                        obtain ⟨i1651, ⟨u1654, u1655, u1656⟩, p1652, p1653⟩ := hr1650
                        have u1657 := kp_t u1605 u1654
                        have v1658 : q_V r1649 = q_V δ := (u1655).trans v1606
                        have v1659 : q_R r1649 = q_R δ := (u1656).trans v1607
                        have f1660 := ti_b (q_I r1649 1 3 a0)
                        have f1661 := ti_b (q_I r1594.2 1 11 a0)
                        have f1662 : (q_I r1594.2 1 11 a0).toInt = (q_I δ 1 11 a0).toInt := congrArg Int32.toInt (u1602 1 11 a0 (by decide))
                        have f1663 := ti_b (q_I r1649 1 4 a0)
                        have f1664 := ti_b (q_I r1594.2 1 12 a0)
                        have f1665 : (q_I r1594.2 1 12 a0).toInt = (q_I δ 1 12 a0).toInt := congrArg Int32.toInt (u1602 1 12 a0 (by decide))
                        exact ok_some (show CI ad h.1 δ0 r1649 ∧ (kp [(1, 3), (1, 4), (1, 5), (1, 6), (1, 8), (1, 13), (1, 14), (1, 15)] δ r1649 ∧ q_V r1649 = q_V δ ∧ q_R r1649 = q_R δ) ∧ 0 ≤ (q_I r1649 1 3 a0).toInt ∧ (q_I r1649 1 4 a0).toInt ≤ (q_I δ 3 1 nu).toInt from ⟨i1651, ⟨kp_w (by decide) u1657, v1658, v1659⟩, by first | assumption | omega, by first | assumption | omega⟩)
                      · have c1666 : r1638.1.toInt ≠ r1585.1.toInt := o_ne h1647
                        unfold J_X1_goOnDropping_172
                        refine ok_bind (k_X1_enterRoom L hN (a0 := a0) (x1 := r1585.1) k_a0 i1596) (fun r1667 hr1668 => ?_)
                        obtain ⟨i1669, ⟨u1672, u1673, u1674⟩, p1670, p1671⟩ := hr1668
                        have u1675 := kp_t u1605 u1672
                        have v1676 : q_V r1667 = q_V δ := (u1673).trans v1606
                        have v1677 : q_R r1667 = q_R δ := (u1674).trans v1607
                        have f1678 := ti_b (q_I r1667 1 3 a0)
                        have f1679 := ti_b (q_I r1667 1 4 a0)
                        exact ok_some (show CI ad h.1 δ0 r1667 ∧ (kp [(1, 3), (1, 4), (1, 5), (1, 6), (1, 8), (1, 13), (1, 14), (1, 15)] δ r1667 ∧ q_V r1667 = q_V δ ∧ q_R r1667 = q_R δ) ∧ 0 ≤ (q_I r1667 1 3 a0).toInt ∧ (q_I r1667 1 4 a0).toInt ≤ (q_I δ 3 1 nu).toInt from ⟨i1669, ⟨kp_w (by decide) u1675, v1676, v1677⟩, by first | assumption | omega, by first | assumption | omega⟩)
                    · have c1680 : r1630.1.toInt ≠ r1585.1.toInt := o_ne h1636
                      unfold J_X1_goOnDropping_172
                      refine ok_bind (k_X1_enterRoom L hN (a0 := a0) (x1 := r1585.1) k_a0 i1596) (fun r1681 hr1682 => ?_)
                      obtain ⟨i1683, ⟨u1686, u1687, u1688⟩, p1684, p1685⟩ := hr1682
                      have u1689 := kp_t u1605 u1686
                      have v1690 : q_V r1681 = q_V δ := (u1687).trans v1606
                      have v1691 : q_R r1681 = q_R δ := (u1688).trans v1607
                      have f1692 := ti_b (q_I r1681 1 3 a0)
                      have f1693 := ti_b (q_I r1681 1 4 a0)
                      exact ok_some (show CI ad h.1 δ0 r1681 ∧ (kp [(1, 3), (1, 4), (1, 5), (1, 6), (1, 8), (1, 13), (1, 14), (1, 15)] δ r1681 ∧ q_V r1681 = q_V δ ∧ q_R r1681 = q_R δ) ∧ 0 ≤ (q_I r1681 1 3 a0).toInt ∧ (q_I r1681 1 4 a0).toInt ≤ (q_I δ 3 1 nu).toInt from ⟨i1683, ⟨kp_w (by decide) u1689, v1690, v1691⟩, by first | assumption | omega, by first | assumption | omega⟩)
            · have c1694 : (1 : Int) ≠ (0 : Int) := o_ne h1373
              unfold J_X1_goOnDropping_81
              refine ok_ite (fun h1695 => ?_) (fun h1695 => ?_)
              · have c1696 : (1 : Int) = (0 : Int) := o_eq h1695
                unfold J_X1_goOnDropping_121
                refine ok_bind (k_X1_findRoom L hN (a0 := a0) (x1 := (q_I δ 1 8 a0)) k_a0 hnu knu (show 0 ≤ (q_I δ 1 11 a0).toInt by first | assumption | omega) (show (q_I δ 1 11 a0).toInt ≤ (q_I δ 1 12 a0).toInt by first | assumption | omega) (show (q_I δ 1 12 a0).toInt ≤ (q_I δ 3 1 nu).toInt by first | assumption | omega) I) (fun r1697 hr1698 => ?_)
                obtain ⟨i1699, ⟨u1705, u1706, u1707⟩, p1700, p1701, p1702, p1703, p1704⟩ := hr1698
                have u1708 := kp_t kp_r u1705
                have v1709 : q_V r1697.2 = q_V δ := (u1706).trans rfl
                have v1710 : q_R r1697.2 = q_R δ := (u1707).trans rfl
                have f1711 := bo_t p1700
                have f1712 := ti_b (q_I r1697.2 1 13 a0)
                have f1713 := ti_b (q_I r1697.2 1 14 a0)
                have f1714 := ti_b r1697.1
                have f1715 := ti_b r1697.1
                refine ok_ite (fun h1716 => ?_) (fun h1716 => ?_)
                · have c1717 : r1697.1.toInt = (0 : Int) := o_eq h1716
                  refine ok_bdv (fun d1718 e1719 => ?_)
                  have i1720 : CI ad h.1 δ0 d1718 := by rw [e1719]; exact cs_1_15 L i1699 k_a0 (show 0 ≤ (1 : Int) by omega) (show (1 : Int) ≤ 1 by omega)
                  have u1721 := kp_I u1708 e1719
                  have v1722 : q_V d1718 = q_V δ := ((show q_V d1718 = q_V r1697.2 by rw [e1719]; rfl)).trans v1709
                  have v1723 : q_R d1718 = q_R δ := ((show q_R d1718 = q_R r1697.2 by rw [e1719]; rfl)).trans v1710
                  have f1724 := ti_b (q_I d1718 1 3 a0)
                  have f1725 : (q_I d1718 1 3 a0).toInt = (q_I r1697.2 1 3 a0).toInt := congrArg Int32.toInt (by rw [e1719]; exact rI_o (by decide))
                  have f1726 := ti_b (q_I r1697.2 1 3 a0)
                  have f1727 : (q_I r1697.2 1 3 a0).toInt = (q_I δ 1 3 a0).toInt := congrArg Int32.toInt (u1705 1 3 a0 (by decide))
                  have f1728 := ti_b (q_I d1718 1 4 a0)
                  have f1729 : (q_I d1718 1 4 a0).toInt = (q_I r1697.2 1 4 a0).toInt := congrArg Int32.toInt (by rw [e1719]; exact rI_o (by decide))
                  have f1730 := ti_b (q_I r1697.2 1 4 a0)
                  have f1731 : (q_I r1697.2 1 4 a0).toInt = (q_I δ 1 4 a0).toInt := congrArg Int32.toInt (u1705 1 4 a0 (by decide))
                  exact ok_some (show CI ad h.1 δ0 d1718 ∧ (kp [(1, 3), (1, 4), (1, 5), (1, 6), (1, 8), (1, 13), (1, 14), (1, 15)] δ d1718 ∧ q_V d1718 = q_V δ ∧ q_R d1718 = q_R δ) ∧ 0 ≤ (q_I d1718 1 3 a0).toInt ∧ (q_I d1718 1 4 a0).toInt ≤ (q_I δ 3 1 nu).toInt from ⟨i1720, ⟨kp_w (by decide) u1721, v1722, v1723⟩, by first | assumption | omega, by first | assumption | omega⟩)
                · have c1732 : r1697.1.toInt ≠ (0 : Int) := o_ne h1716
                  have f1735 := cb_3_1 i1699 knu o4
                  have f1736 : (q_I r1697.2 3 1 nu).toInt = (q_I δ 3 1 nu).toInt := congrArg Int32.toInt (u1705 3 1 nu (by decide))
                  refine ok_bind (k_X1_valueAt L hN (a0 := a0) (x1 := (q_I r1697.2 1 13 a0)) k_a0 hnu knu (show 0 ≤ ((q_I r1697.2 1 13 a0)).toInt by first | assumption | omega) (show ((q_I r1697.2 1 13 a0)).toInt < (q_I r1697.2 3 1 nu).toInt by first | assumption | omega) i1699) (fun r1733 hr1734 => ?_)
                  have i1737 := hr1734
                  try rw [i1737]
                  have f1738 := ti_b r1733.1
                  refine ok_ite (fun h1739 => ?_) (fun h1739 => ?_)
                  · have c1740 : r1733.1.toInt = (q_I δ 1 8 a0).toInt := o_eq h1739
                    first | (have q1744 := te_subc (c := 1) (n := 1) rfl (q_I r1697.2 1 14 a0) (by omega) (by omega); obtain ⟨f1745, f1746, f1747⟩ := q1744) | (obtain ⟨q1744, f1745, f1746, f1747⟩ := ti_subc (c := 1) (n := 1) rfl (q_I r1697.2 1 14 a0))
                    refine ok_bind (k_X1_valueAt L hN (a0 := a0) (x1 := ((q_I r1697.2 1 14 a0) - (1 : Int32))) k_a0 hnu knu (show 0 ≤ (((q_I r1697.2 1 14 a0) - (1 : Int32))).toInt by first | assumption | omega) (show (((q_I r1697.2 1 14 a0) - (1 : Int32))).toInt < (q_I r1697.2 3 1 nu).toInt by first | assumption | omega) i1699) (fun r1741 hr1742 => ?_)
                    have i1748 := hr1742
                    try rw [i1748]
                    have f1749 := ti_b r1741.1
                    refine ok_ite (fun h1750 => ?_) (fun h1750 => ?_)
                    · have c1751 : r1741.1.toInt = (q_I δ 1 8 a0).toInt := o_eq h1750
                      refine ok_bind (k_X1_enterList L hN (a0 := a0) (x1 := (q_I δ 1 8 a0)) k_a0 i1699) (fun r1752 hr1753 => ?_)
                      obtain ⟨i1754, ⟨u1757, u1758, u1759⟩, p1755, p1756⟩ := hr1753
                      have u1760 := kp_t u1708 u1757
                      have v1761 : q_V r1752 = q_V δ := (u1758).trans v1709
                      have v1762 : q_R r1752 = q_R δ := (u1759).trans v1710
                      have f1763 := ti_b (q_I r1752 1 3 a0)
                      have f1764 := ti_b (q_I r1697.2 1 11 a0)
                      have f1765 : (q_I r1697.2 1 11 a0).toInt = (q_I δ 1 11 a0).toInt := congrArg Int32.toInt (u1705 1 11 a0 (by decide))
                      have f1766 := ti_b (q_I r1752 1 4 a0)
                      have f1767 := ti_b (q_I r1697.2 1 12 a0)
                      have f1768 : (q_I r1697.2 1 12 a0).toInt = (q_I δ 1 12 a0).toInt := congrArg Int32.toInt (u1705 1 12 a0 (by decide))
                      exact ok_some (show CI ad h.1 δ0 r1752 ∧ (kp [(1, 3), (1, 4), (1, 5), (1, 6), (1, 8), (1, 13), (1, 14), (1, 15)] δ r1752 ∧ q_V r1752 = q_V δ ∧ q_R r1752 = q_R δ) ∧ 0 ≤ (q_I r1752 1 3 a0).toInt ∧ (q_I r1752 1 4 a0).toInt ≤ (q_I δ 3 1 nu).toInt from ⟨i1754, ⟨kp_w (by decide) u1760, v1761, v1762⟩, by first | assumption | omega, by first | assumption | omega⟩)
                    · have c1769 : r1741.1.toInt ≠ (q_I δ 1 8 a0).toInt := o_ne h1750
                      unfold J_X1_goOnDropping_172
                      refine ok_bind (k_X1_enterRoom L hN (a0 := a0) (x1 := (q_I δ 1 8 a0)) k_a0 i1699) (fun r1770 hr1771 => ?_)
                      obtain ⟨i1772, ⟨u1775, u1776, u1777⟩, p1773, p1774⟩ := hr1771
                      have u1778 := kp_t u1708 u1775
                      have v1779 : q_V r1770 = q_V δ := (u1776).trans v1709
                      have v1780 : q_R r1770 = q_R δ := (u1777).trans v1710
                      have f1781 := ti_b (q_I r1770 1 3 a0)
                      have f1782 := ti_b (q_I r1770 1 4 a0)
                      exact ok_some (show CI ad h.1 δ0 r1770 ∧ (kp [(1, 3), (1, 4), (1, 5), (1, 6), (1, 8), (1, 13), (1, 14), (1, 15)] δ r1770 ∧ q_V r1770 = q_V δ ∧ q_R r1770 = q_R δ) ∧ 0 ≤ (q_I r1770 1 3 a0).toInt ∧ (q_I r1770 1 4 a0).toInt ≤ (q_I δ 3 1 nu).toInt from ⟨i1772, ⟨kp_w (by decide) u1778, v1779, v1780⟩, by first | assumption | omega, by first | assumption | omega⟩)
                  · have c1783 : r1733.1.toInt ≠ (q_I δ 1 8 a0).toInt := o_ne h1739
                    unfold J_X1_goOnDropping_172
                    refine ok_bind (k_X1_enterRoom L hN (a0 := a0) (x1 := (q_I δ 1 8 a0)) k_a0 i1699) (fun r1784 hr1785 => ?_)
                    obtain ⟨i1786, ⟨u1789, u1790, u1791⟩, p1787, p1788⟩ := hr1785
                    have u1792 := kp_t u1708 u1789
                    have v1793 : q_V r1784 = q_V δ := (u1790).trans v1709
                    have v1794 : q_R r1784 = q_R δ := (u1791).trans v1710
                    have f1795 := ti_b (q_I r1784 1 3 a0)
                    have f1796 := ti_b (q_I r1784 1 4 a0)
                    exact ok_some (show CI ad h.1 δ0 r1784 ∧ (kp [(1, 3), (1, 4), (1, 5), (1, 6), (1, 8), (1, 13), (1, 14), (1, 15)] δ r1784 ∧ q_V r1784 = q_V δ ∧ q_R r1784 = q_R δ) ∧ 0 ≤ (q_I r1784 1 3 a0).toInt ∧ (q_I r1784 1 4 a0).toInt ≤ (q_I δ 3 1 nu).toInt from ⟨i1786, ⟨kp_w (by decide) u1792, v1793, v1794⟩, by first | assumption | omega, by first | assumption | omega⟩)
              · have c1797 : (1 : Int) ≠ (0 : Int) := o_ne h1695
                refine ok_ite (fun h1798 => ?_) (fun h1798 => ?_)
                · have c1799 : (q_I δ 1 8 a0).toInt = (q_I δ 1 9 a0).toInt := o_eq h1798
                  unfold J_X1_goOnDropping_118
                  refine ok_bind (k_X1_valueAt L hN (a0 := a0) (x1 := (q_I δ 1 11 a0)) k_a0 hnu knu (show 0 ≤ ((q_I δ 1 11 a0)).toInt by first | assumption | omega) (show ((q_I δ 1 11 a0)).toInt < (q_I δ 3 1 nu).toInt by first | assumption | omega) I) (fun r1800 hr1801 => ?_)
                  have i1802 := hr1801
                  try rw [i1802]
                  have f1803 := ti_b r1800.1
                  unfold J_X1_goOnDropping_121
                  refine ok_bind (k_X1_findRoom L hN (a0 := a0) (x1 := r1800.1) k_a0 hnu knu (show 0 ≤ (q_I δ 1 11 a0).toInt by first | assumption | omega) (show (q_I δ 1 11 a0).toInt ≤ (q_I δ 1 12 a0).toInt by first | assumption | omega) (show (q_I δ 1 12 a0).toInt ≤ (q_I δ 3 1 nu).toInt by first | assumption | omega) I) (fun r1804 hr1805 => ?_)
                  obtain ⟨i1806, ⟨u1812, u1813, u1814⟩, p1807, p1808, p1809, p1810, p1811⟩ := hr1805
                  have u1815 := kp_t kp_r u1812
                  have v1816 : q_V r1804.2 = q_V δ := (u1813).trans rfl
                  have v1817 : q_R r1804.2 = q_R δ := (u1814).trans rfl
                  have f1818 := bo_t p1807
                  have f1819 := ti_b (q_I r1804.2 1 13 a0)
                  have f1820 := ti_b (q_I r1804.2 1 14 a0)
                  have f1821 := ti_b r1804.1
                  have f1822 := ti_b r1804.1
                  refine ok_ite (fun h1823 => ?_) (fun h1823 => ?_)
                  · have c1824 : r1804.1.toInt = (0 : Int) := o_eq h1823
                    refine ok_bdv (fun d1825 e1826 => ?_)
                    have i1827 : CI ad h.1 δ0 d1825 := by rw [e1826]; exact cs_1_15 L i1806 k_a0 (show 0 ≤ (1 : Int) by omega) (show (1 : Int) ≤ 1 by omega)
                    have u1828 := kp_I u1815 e1826
                    have v1829 : q_V d1825 = q_V δ := ((show q_V d1825 = q_V r1804.2 by rw [e1826]; rfl)).trans v1816
                    have v1830 : q_R d1825 = q_R δ := ((show q_R d1825 = q_R r1804.2 by rw [e1826]; rfl)).trans v1817
                    have f1831 := ti_b (q_I d1825 1 3 a0)
                    have f1832 : (q_I d1825 1 3 a0).toInt = (q_I r1804.2 1 3 a0).toInt := congrArg Int32.toInt (by rw [e1826]; exact rI_o (by decide))
                    have f1833 := ti_b (q_I r1804.2 1 3 a0)
                    have f1834 : (q_I r1804.2 1 3 a0).toInt = (q_I δ 1 3 a0).toInt := congrArg Int32.toInt (u1812 1 3 a0 (by decide))
                    have f1835 := ti_b (q_I d1825 1 4 a0)
                    have f1836 : (q_I d1825 1 4 a0).toInt = (q_I r1804.2 1 4 a0).toInt := congrArg Int32.toInt (by rw [e1826]; exact rI_o (by decide))
                    have f1837 := ti_b (q_I r1804.2 1 4 a0)
                    have f1838 : (q_I r1804.2 1 4 a0).toInt = (q_I δ 1 4 a0).toInt := congrArg Int32.toInt (u1812 1 4 a0 (by decide))
                    exact ok_some (show CI ad h.1 δ0 d1825 ∧ (kp [(1, 3), (1, 4), (1, 5), (1, 6), (1, 8), (1, 13), (1, 14), (1, 15)] δ d1825 ∧ q_V d1825 = q_V δ ∧ q_R d1825 = q_R δ) ∧ 0 ≤ (q_I d1825 1 3 a0).toInt ∧ (q_I d1825 1 4 a0).toInt ≤ (q_I δ 3 1 nu).toInt from ⟨i1827, ⟨kp_w (by decide) u1828, v1829, v1830⟩, by first | assumption | omega, by first | assumption | omega⟩)
                  · have c1839 : r1804.1.toInt ≠ (0 : Int) := o_ne h1823
                    have f1842 := cb_3_1 i1806 knu o4
                    have f1843 : (q_I r1804.2 3 1 nu).toInt = (q_I δ 3 1 nu).toInt := congrArg Int32.toInt (u1812 3 1 nu (by decide))
                    refine ok_bind (k_X1_valueAt L hN (a0 := a0) (x1 := (q_I r1804.2 1 13 a0)) k_a0 hnu knu (show 0 ≤ ((q_I r1804.2 1 13 a0)).toInt by first | assumption | omega) (show ((q_I r1804.2 1 13 a0)).toInt < (q_I r1804.2 3 1 nu).toInt by first | assumption | omega) i1806) (fun r1840 hr1841 => ?_)
                    have i1844 := hr1841
                    try rw [i1844]
                    have f1845 := ti_b r1840.1
                    refine ok_ite (fun h1846 => ?_) (fun h1846 => ?_)
                    · have c1847 : r1840.1.toInt = r1800.1.toInt := o_eq h1846
                      first | (have q1851 := te_subc (c := 1) (n := 1) rfl (q_I r1804.2 1 14 a0) (by omega) (by omega); obtain ⟨f1852, f1853, f1854⟩ := q1851) | (obtain ⟨q1851, f1852, f1853, f1854⟩ := ti_subc (c := 1) (n := 1) rfl (q_I r1804.2 1 14 a0))
                      refine ok_bind (k_X1_valueAt L hN (a0 := a0) (x1 := ((q_I r1804.2 1 14 a0) - (1 : Int32))) k_a0 hnu knu (show 0 ≤ (((q_I r1804.2 1 14 a0) - (1 : Int32))).toInt by first | assumption | omega) (show (((q_I r1804.2 1 14 a0) - (1 : Int32))).toInt < (q_I r1804.2 3 1 nu).toInt by first | assumption | omega) i1806) (fun r1848 hr1849 => ?_)
                      have i1855 := hr1849
                      try rw [i1855]
                      have f1856 := ti_b r1848.1
                      refine ok_ite (fun h1857 => ?_) (fun h1857 => ?_)
                      · have c1858 : r1848.1.toInt = r1800.1.toInt := o_eq h1857
                        refine ok_bind (k_X1_enterList L hN (a0 := a0) (x1 := r1800.1) k_a0 i1806) (fun r1859 hr1860 => ?_)
                        obtain ⟨i1861, ⟨u1864, u1865, u1866⟩, p1862, p1863⟩ := hr1860
                        have u1867 := kp_t u1815 u1864
                        have v1868 : q_V r1859 = q_V δ := (u1865).trans v1816
                        have v1869 : q_R r1859 = q_R δ := (u1866).trans v1817
                        have f1870 := ti_b (q_I r1859 1 3 a0)
                        have f1871 := ti_b (q_I r1804.2 1 11 a0)
                        have f1872 : (q_I r1804.2 1 11 a0).toInt = (q_I δ 1 11 a0).toInt := congrArg Int32.toInt (u1812 1 11 a0 (by decide))
                        have f1873 := ti_b (q_I r1859 1 4 a0)
                        have f1874 := ti_b (q_I r1804.2 1 12 a0)
                        have f1875 : (q_I r1804.2 1 12 a0).toInt = (q_I δ 1 12 a0).toInt := congrArg Int32.toInt (u1812 1 12 a0 (by decide))
                        exact ok_some (show CI ad h.1 δ0 r1859 ∧ (kp [(1, 3), (1, 4), (1, 5), (1, 6), (1, 8), (1, 13), (1, 14), (1, 15)] δ r1859 ∧ q_V r1859 = q_V δ ∧ q_R r1859 = q_R δ) ∧ 0 ≤ (q_I r1859 1 3 a0).toInt ∧ (q_I r1859 1 4 a0).toInt ≤ (q_I δ 3 1 nu).toInt from ⟨i1861, ⟨kp_w (by decide) u1867, v1868, v1869⟩, by first | assumption | omega, by first | assumption | omega⟩)
                      · have c1876 : r1848.1.toInt ≠ r1800.1.toInt := o_ne h1857
                        unfold J_X1_goOnDropping_172
                        refine ok_bind (k_X1_enterRoom L hN (a0 := a0) (x1 := r1800.1) k_a0 i1806) (fun r1877 hr1878 => ?_)
                        obtain ⟨i1879, ⟨u1882, u1883, u1884⟩, p1880, p1881⟩ := hr1878
                        have u1885 := kp_t u1815 u1882
                        have v1886 : q_V r1877 = q_V δ := (u1883).trans v1816
                        have v1887 : q_R r1877 = q_R δ := (u1884).trans v1817
                        have f1888 := ti_b (q_I r1877 1 3 a0)
                        have f1889 := ti_b (q_I r1877 1 4 a0)
                        exact ok_some (show CI ad h.1 δ0 r1877 ∧ (kp [(1, 3), (1, 4), (1, 5), (1, 6), (1, 8), (1, 13), (1, 14), (1, 15)] δ r1877 ∧ q_V r1877 = q_V δ ∧ q_R r1877 = q_R δ) ∧ 0 ≤ (q_I r1877 1 3 a0).toInt ∧ (q_I r1877 1 4 a0).toInt ≤ (q_I δ 3 1 nu).toInt from ⟨i1879, ⟨kp_w (by decide) u1885, v1886, v1887⟩, by first | assumption | omega, by first | assumption | omega⟩)
                    · have c1890 : r1840.1.toInt ≠ r1800.1.toInt := o_ne h1846
                      unfold J_X1_goOnDropping_172
                      refine ok_bind (k_X1_enterRoom L hN (a0 := a0) (x1 := r1800.1) k_a0 i1806) (fun r1891 hr1892 => ?_)
                      obtain ⟨i1893, ⟨u1896, u1897, u1898⟩, p1894, p1895⟩ := hr1892
                      have u1899 := kp_t u1815 u1896
                      have v1900 : q_V r1891 = q_V δ := (u1897).trans v1816
                      have v1901 : q_R r1891 = q_R δ := (u1898).trans v1817
                      have f1902 := ti_b (q_I r1891 1 3 a0)
                      have f1903 := ti_b (q_I r1891 1 4 a0)
                      exact ok_some (show CI ad h.1 δ0 r1891 ∧ (kp [(1, 3), (1, 4), (1, 5), (1, 6), (1, 8), (1, 13), (1, 14), (1, 15)] δ r1891 ∧ q_V r1891 = q_V δ ∧ q_R r1891 = q_R δ) ∧ 0 ≤ (q_I r1891 1 3 a0).toInt ∧ (q_I r1891 1 4 a0).toInt ≤ (q_I δ 3 1 nu).toInt from ⟨i1893, ⟨kp_w (by decide) u1899, v1900, v1901⟩, by first | assumption | omega, by first | assumption | omega⟩)
                · have c1904 : (q_I δ 1 8 a0).toInt ≠ (q_I δ 1 9 a0).toInt := o_ne h1798
                  unfold J_X1_goOnDropping_118
                  first | (have q1908 := te_subc (c := 1) (n := 1) rfl (q_I δ 1 12 a0) (by omega) (by omega); obtain ⟨f1909, f1910, f1911⟩ := q1908) | (obtain ⟨q1908, f1909, f1910, f1911⟩ := ti_subc (c := 1) (n := 1) rfl (q_I δ 1 12 a0))
                  refine ok_bind (k_X1_valueAt L hN (a0 := a0) (x1 := ((q_I δ 1 12 a0) - (1 : Int32))) k_a0 hnu knu (show 0 ≤ (((q_I δ 1 12 a0) - (1 : Int32))).toInt by first | assumption | omega) (show (((q_I δ 1 12 a0) - (1 : Int32))).toInt < (q_I δ 3 1 nu).toInt by first | assumption | omega) I) (fun r1905 hr1906 => ?_)
                  have i1912 := hr1906
                  try rw [i1912]
                  have f1913 := ti_b r1905.1
                  unfold J_X1_goOnDropping_121
                  refine ok_bind (k_X1_findRoom L hN (a0 := a0) (x1 := r1905.1) k_a0 hnu knu (show 0 ≤ (q_I δ 1 11 a0).toInt by first | assumption | omega) (show (q_I δ 1 11 a0).toInt ≤ (q_I δ 1 12 a0).toInt by first | assumption | omega) (show (q_I δ 1 12 a0).toInt ≤ (q_I δ 3 1 nu).toInt by first | assumption | omega) I) (fun r1914 hr1915 => ?_)
                  obtain ⟨i1916, ⟨u1922, u1923, u1924⟩, p1917, p1918, p1919, p1920, p1921⟩ := hr1915
                  have u1925 := kp_t kp_r u1922
                  have v1926 : q_V r1914.2 = q_V δ := (u1923).trans rfl
                  have v1927 : q_R r1914.2 = q_R δ := (u1924).trans rfl
                  have f1928 := bo_t p1917
                  have f1929 := ti_b (q_I r1914.2 1 13 a0)
                  have f1930 := ti_b (q_I r1914.2 1 14 a0)
                  have f1931 := ti_b r1914.1
                  have f1932 := ti_b r1914.1
                  refine ok_ite (fun h1933 => ?_) (fun h1933 => ?_)
                  · have c1934 : r1914.1.toInt = (0 : Int) := o_eq h1933
                    refine ok_bdv (fun d1935 e1936 => ?_)
                    have i1937 : CI ad h.1 δ0 d1935 := by rw [e1936]; exact cs_1_15 L i1916 k_a0 (show 0 ≤ (1 : Int) by omega) (show (1 : Int) ≤ 1 by omega)
                    have u1938 := kp_I u1925 e1936
                    have v1939 : q_V d1935 = q_V δ := ((show q_V d1935 = q_V r1914.2 by rw [e1936]; rfl)).trans v1926
                    have v1940 : q_R d1935 = q_R δ := ((show q_R d1935 = q_R r1914.2 by rw [e1936]; rfl)).trans v1927
                    have f1941 := ti_b (q_I d1935 1 3 a0)
                    have f1942 : (q_I d1935 1 3 a0).toInt = (q_I r1914.2 1 3 a0).toInt := congrArg Int32.toInt (by rw [e1936]; exact rI_o (by decide))
                    have f1943 := ti_b (q_I r1914.2 1 3 a0)
                    have f1944 : (q_I r1914.2 1 3 a0).toInt = (q_I δ 1 3 a0).toInt := congrArg Int32.toInt (u1922 1 3 a0 (by decide))
                    have f1945 := ti_b (q_I d1935 1 4 a0)
                    have f1946 : (q_I d1935 1 4 a0).toInt = (q_I r1914.2 1 4 a0).toInt := congrArg Int32.toInt (by rw [e1936]; exact rI_o (by decide))
                    have f1947 := ti_b (q_I r1914.2 1 4 a0)
                    have f1948 : (q_I r1914.2 1 4 a0).toInt = (q_I δ 1 4 a0).toInt := congrArg Int32.toInt (u1922 1 4 a0 (by decide))
                    exact ok_some (show CI ad h.1 δ0 d1935 ∧ (kp [(1, 3), (1, 4), (1, 5), (1, 6), (1, 8), (1, 13), (1, 14), (1, 15)] δ d1935 ∧ q_V d1935 = q_V δ ∧ q_R d1935 = q_R δ) ∧ 0 ≤ (q_I d1935 1 3 a0).toInt ∧ (q_I d1935 1 4 a0).toInt ≤ (q_I δ 3 1 nu).toInt from ⟨i1937, ⟨kp_w (by decide) u1938, v1939, v1940⟩, by first | assumption | omega, by first | assumption | omega⟩)
                  · have c1949 : r1914.1.toInt ≠ (0 : Int) := o_ne h1933
                    have f1952 := cb_3_1 i1916 knu o4
                    have f1953 : (q_I r1914.2 3 1 nu).toInt = (q_I δ 3 1 nu).toInt := congrArg Int32.toInt (u1922 3 1 nu (by decide))
                    refine ok_bind (k_X1_valueAt L hN (a0 := a0) (x1 := (q_I r1914.2 1 13 a0)) k_a0 hnu knu (show 0 ≤ ((q_I r1914.2 1 13 a0)).toInt by first | assumption | omega) (show ((q_I r1914.2 1 13 a0)).toInt < (q_I r1914.2 3 1 nu).toInt by first | assumption | omega) i1916) (fun r1950 hr1951 => ?_)
                    have i1954 := hr1951
                    try rw [i1954]
                    have f1955 := ti_b r1950.1
                    refine ok_ite (fun h1956 => ?_) (fun h1956 => ?_)
                    · have c1957 : r1950.1.toInt = r1905.1.toInt := o_eq h1956
                      first | (have q1961 := te_subc (c := 1) (n := 1) rfl (q_I r1914.2 1 14 a0) (by omega) (by omega); obtain ⟨f1962, f1963, f1964⟩ := q1961) | (obtain ⟨q1961, f1962, f1963, f1964⟩ := ti_subc (c := 1) (n := 1) rfl (q_I r1914.2 1 14 a0))
                      refine ok_bind (k_X1_valueAt L hN (a0 := a0) (x1 := ((q_I r1914.2 1 14 a0) - (1 : Int32))) k_a0 hnu knu (show 0 ≤ (((q_I r1914.2 1 14 a0) - (1 : Int32))).toInt by first | assumption | omega) (show (((q_I r1914.2 1 14 a0) - (1 : Int32))).toInt < (q_I r1914.2 3 1 nu).toInt by first | assumption | omega) i1916) (fun r1958 hr1959 => ?_)
                      have i1965 := hr1959
                      try rw [i1965]
                      have f1966 := ti_b r1958.1
                      refine ok_ite (fun h1967 => ?_) (fun h1967 => ?_)
                      · have c1968 : r1958.1.toInt = r1905.1.toInt := o_eq h1967
                        refine ok_bind (k_X1_enterList L hN (a0 := a0) (x1 := r1905.1) k_a0 i1916) (fun r1969 hr1970 => ?_)
                        obtain ⟨i1971, ⟨u1974, u1975, u1976⟩, p1972, p1973⟩ := hr1970
                        have u1977 := kp_t u1925 u1974
                        have v1978 : q_V r1969 = q_V δ := (u1975).trans v1926
                        have v1979 : q_R r1969 = q_R δ := (u1976).trans v1927
                        have f1980 := ti_b (q_I r1969 1 3 a0)
                        have f1981 := ti_b (q_I r1914.2 1 11 a0)
                        have f1982 : (q_I r1914.2 1 11 a0).toInt = (q_I δ 1 11 a0).toInt := congrArg Int32.toInt (u1922 1 11 a0 (by decide))
                        have f1983 := ti_b (q_I r1969 1 4 a0)
                        have f1984 := ti_b (q_I r1914.2 1 12 a0)
                        have f1985 : (q_I r1914.2 1 12 a0).toInt = (q_I δ 1 12 a0).toInt := congrArg Int32.toInt (u1922 1 12 a0 (by decide))
                        exact ok_some (show CI ad h.1 δ0 r1969 ∧ (kp [(1, 3), (1, 4), (1, 5), (1, 6), (1, 8), (1, 13), (1, 14), (1, 15)] δ r1969 ∧ q_V r1969 = q_V δ ∧ q_R r1969 = q_R δ) ∧ 0 ≤ (q_I r1969 1 3 a0).toInt ∧ (q_I r1969 1 4 a0).toInt ≤ (q_I δ 3 1 nu).toInt from ⟨i1971, ⟨kp_w (by decide) u1977, v1978, v1979⟩, by first | assumption | omega, by first | assumption | omega⟩)
                      · have c1986 : r1958.1.toInt ≠ r1905.1.toInt := o_ne h1967
                        unfold J_X1_goOnDropping_172
                        refine ok_bind (k_X1_enterRoom L hN (a0 := a0) (x1 := r1905.1) k_a0 i1916) (fun r1987 hr1988 => ?_)
                        obtain ⟨i1989, ⟨u1992, u1993, u1994⟩, p1990, p1991⟩ := hr1988
                        have u1995 := kp_t u1925 u1992
                        have v1996 : q_V r1987 = q_V δ := (u1993).trans v1926
                        have v1997 : q_R r1987 = q_R δ := (u1994).trans v1927
                        have f1998 := ti_b (q_I r1987 1 3 a0)
                        have f1999 := ti_b (q_I r1987 1 4 a0)
                        exact ok_some (show CI ad h.1 δ0 r1987 ∧ (kp [(1, 3), (1, 4), (1, 5), (1, 6), (1, 8), (1, 13), (1, 14), (1, 15)] δ r1987 ∧ q_V r1987 = q_V δ ∧ q_R r1987 = q_R δ) ∧ 0 ≤ (q_I r1987 1 3 a0).toInt ∧ (q_I r1987 1 4 a0).toInt ≤ (q_I δ 3 1 nu).toInt from ⟨i1989, ⟨kp_w (by decide) u1995, v1996, v1997⟩, by first | assumption | omega, by first | assumption | omega⟩)
                    · have c2000 : r1950.1.toInt ≠ r1905.1.toInt := o_ne h1956
                      unfold J_X1_goOnDropping_172
                      refine ok_bind (k_X1_enterRoom L hN (a0 := a0) (x1 := r1905.1) k_a0 i1916) (fun r2001 hr2002 => ?_)
                      obtain ⟨i2003, ⟨u2006, u2007, u2008⟩, p2004, p2005⟩ := hr2002
                      have u2009 := kp_t u1925 u2006
                      have v2010 : q_V r2001 = q_V δ := (u2007).trans v1926
                      have v2011 : q_R r2001 = q_R δ := (u2008).trans v1927
                      have f2012 := ti_b (q_I r2001 1 3 a0)
                      have f2013 := ti_b (q_I r2001 1 4 a0)
                      exact ok_some (show CI ad h.1 δ0 r2001 ∧ (kp [(1, 3), (1, 4), (1, 5), (1, 6), (1, 8), (1, 13), (1, 14), (1, 15)] δ r2001 ∧ q_V r2001 = q_V δ ∧ q_R r2001 = q_R δ) ∧ 0 ≤ (q_I r2001 1 3 a0).toInt ∧ (q_I r2001 1 4 a0).toInt ≤ (q_I δ 3 1 nu).toInt from ⟨i2003, ⟨kp_w (by decide) u2009, v2010, v2011⟩, by first | assumption | omega, by first | assumption | omega⟩)
          · have c2014 : (1 : Int) ≠ (0 : Int) := o_ne h1371
            refine ok_ite (fun h2015 => ?_) (fun h2015 => ?_)
            · have c2016 : (q_I δ 1 11 a0).toInt < (q_I δ 1 12 a0).toInt := o_lt h2015
              unfold J_X1_goOnDropping_72
              refine ok_ite (fun h2017 => ?_) (fun h2017 => ?_)
              · have c2018 : (1 : Int) = (0 : Int) := o_eq h2017
                unfold J_X1_goOnDropping_81
                refine ok_ite (fun h2019 => ?_) (fun h2019 => ?_)
                · have c2020 : (1 : Int) = (0 : Int) := o_eq h2019
                  unfold J_X1_goOnDropping_121
                  refine ok_bind (k_X1_findRoom L hN (a0 := a0) (x1 := (q_I δ 1 8 a0)) k_a0 hnu knu (show 0 ≤ (q_I δ 1 11 a0).toInt by first | assumption | omega) (show (q_I δ 1 11 a0).toInt ≤ (q_I δ 1 12 a0).toInt by first | assumption | omega) (show (q_I δ 1 12 a0).toInt ≤ (q_I δ 3 1 nu).toInt by first | assumption | omega) I) (fun r2021 hr2022 => ?_)
                  obtain ⟨i2023, ⟨u2029, u2030, u2031⟩, p2024, p2025, p2026, p2027, p2028⟩ := hr2022
                  have u2032 := kp_t kp_r u2029
                  have v2033 : q_V r2021.2 = q_V δ := (u2030).trans rfl
                  have v2034 : q_R r2021.2 = q_R δ := (u2031).trans rfl
                  have f2035 := bo_t p2024
                  have f2036 := ti_b (q_I r2021.2 1 13 a0)
                  have f2037 := ti_b (q_I r2021.2 1 14 a0)
                  have f2038 := ti_b r2021.1
                  have f2039 := ti_b r2021.1
                  refine ok_ite (fun h2040 => ?_) (fun h2040 => ?_)
                  · have c2041 : r2021.1.toInt = (0 : Int) := o_eq h2040
                    refine ok_bdv (fun d2042 e2043 => ?_)
                    have i2044 : CI ad h.1 δ0 d2042 := by rw [e2043]; exact cs_1_15 L i2023 k_a0 (show 0 ≤ (1 : Int) by omega) (show (1 : Int) ≤ 1 by omega)
                    have u2045 := kp_I u2032 e2043
                    have v2046 : q_V d2042 = q_V δ := ((show q_V d2042 = q_V r2021.2 by rw [e2043]; rfl)).trans v2033
                    have v2047 : q_R d2042 = q_R δ := ((show q_R d2042 = q_R r2021.2 by rw [e2043]; rfl)).trans v2034
                    have f2048 := ti_b (q_I d2042 1 3 a0)
                    have f2049 : (q_I d2042 1 3 a0).toInt = (q_I r2021.2 1 3 a0).toInt := congrArg Int32.toInt (by rw [e2043]; exact rI_o (by decide))
                    have f2050 := ti_b (q_I r2021.2 1 3 a0)
                    have f2051 : (q_I r2021.2 1 3 a0).toInt = (q_I δ 1 3 a0).toInt := congrArg Int32.toInt (u2029 1 3 a0 (by decide))
                    have f2052 := ti_b (q_I d2042 1 4 a0)
                    have f2053 : (q_I d2042 1 4 a0).toInt = (q_I r2021.2 1 4 a0).toInt := congrArg Int32.toInt (by rw [e2043]; exact rI_o (by decide))
                    have f2054 := ti_b (q_I r2021.2 1 4 a0)
                    have f2055 : (q_I r2021.2 1 4 a0).toInt = (q_I δ 1 4 a0).toInt := congrArg Int32.toInt (u2029 1 4 a0 (by decide))
                    exact ok_some (show CI ad h.1 δ0 d2042 ∧ (kp [(1, 3), (1, 4), (1, 5), (1, 6), (1, 8), (1, 13), (1, 14), (1, 15)] δ d2042 ∧ q_V d2042 = q_V δ ∧ q_R d2042 = q_R δ) ∧ 0 ≤ (q_I d2042 1 3 a0).toInt ∧ (q_I d2042 1 4 a0).toInt ≤ (q_I δ 3 1 nu).toInt from ⟨i2044, ⟨kp_w (by decide) u2045, v2046, v2047⟩, by first | assumption | omega, by first | assumption | omega⟩)
                  · have c2056 : r2021.1.toInt ≠ (0 : Int) := o_ne h2040
                    have f2059 := cb_3_1 i2023 knu o4
                    have f2060 : (q_I r2021.2 3 1 nu).toInt = (q_I δ 3 1 nu).toInt := congrArg Int32.toInt (u2029 3 1 nu (by decide))
                    refine ok_bind (k_X1_valueAt L hN (a0 := a0) (x1 := (q_I r2021.2 1 13 a0)) k_a0 hnu knu (show 0 ≤ ((q_I r2021.2 1 13 a0)).toInt by first | assumption | omega) (show ((q_I r2021.2 1 13 a0)).toInt < (q_I r2021.2 3 1 nu).toInt by first | assumption | omega) i2023) (fun r2057 hr2058 => ?_)
                    have i2061 := hr2058
                    try rw [i2061]
                    have f2062 := ti_b r2057.1
                    refine ok_ite (fun h2063 => ?_) (fun h2063 => ?_)
                    · have c2064 : r2057.1.toInt = (q_I δ 1 8 a0).toInt := o_eq h2063
                      first | (have q2068 := te_subc (c := 1) (n := 1) rfl (q_I r2021.2 1 14 a0) (by omega) (by omega); obtain ⟨f2069, f2070, f2071⟩ := q2068) | (obtain ⟨q2068, f2069, f2070, f2071⟩ := ti_subc (c := 1) (n := 1) rfl (q_I r2021.2 1 14 a0))
                      refine ok_bind (k_X1_valueAt L hN (a0 := a0) (x1 := ((q_I r2021.2 1 14 a0) - (1 : Int32))) k_a0 hnu knu (show 0 ≤ (((q_I r2021.2 1 14 a0) - (1 : Int32))).toInt by first | assumption | omega) (show (((q_I r2021.2 1 14 a0) - (1 : Int32))).toInt < (q_I r2021.2 3 1 nu).toInt by first | assumption | omega) i2023) (fun r2065 hr2066 => ?_)
                      have i2072 := hr2066
                      try rw [i2072]
                      have f2073 := ti_b r2065.1
                      refine ok_ite (fun h2074 => ?_) (fun h2074 => ?_)
                      · have c2075 : r2065.1.toInt = (q_I δ 1 8 a0).toInt := o_eq h2074
                        refine ok_bind (k_X1_enterList L hN (a0 := a0) (x1 := (q_I δ 1 8 a0)) k_a0 i2023) (fun r2076 hr2077 => ?_)
                        obtain ⟨i2078, ⟨u2081, u2082, u2083⟩, p2079, p2080⟩ := hr2077
                        have u2084 := kp_t u2032 u2081
                        have v2085 : q_V r2076 = q_V δ := (u2082).trans v2033
                        have v2086 : q_R r2076 = q_R δ := (u2083).trans v2034
                        have f2087 := ti_b (q_I r2076 1 3 a0)
                        have f2088 := ti_b (q_I r2021.2 1 11 a0)
                        have f2089 : (q_I r2021.2 1 11 a0).toInt = (q_I δ 1 11 a0).toInt := congrArg Int32.toInt (u2029 1 11 a0 (by decide))
                        have f2090 := ti_b (q_I r2076 1 4 a0)
                        have f2091 := ti_b (q_I r2021.2 1 12 a0)
                        have f2092 : (q_I r2021.2 1 12 a0).toInt = (q_I δ 1 12 a0).toInt := congrArg Int32.toInt (u2029 1 12 a0 (by decide))
                        exact ok_some (show CI ad h.1 δ0 r2076 ∧ (kp [(1, 3), (1, 4), (1, 5), (1, 6), (1, 8), (1, 13), (1, 14), (1, 15)] δ r2076 ∧ q_V r2076 = q_V δ ∧ q_R r2076 = q_R δ) ∧ 0 ≤ (q_I r2076 1 3 a0).toInt ∧ (q_I r2076 1 4 a0).toInt ≤ (q_I δ 3 1 nu).toInt from ⟨i2078, ⟨kp_w (by decide) u2084, v2085, v2086⟩, by first | assumption | omega, by first | assumption | omega⟩)
                      · have c2093 : r2065.1.toInt ≠ (q_I δ 1 8 a0).toInt := o_ne h2074
                        unfold J_X1_goOnDropping_172
                        refine ok_bind (k_X1_enterRoom L hN (a0 := a0) (x1 := (q_I δ 1 8 a0)) k_a0 i2023) (fun r2094 hr2095 => ?_)
                        obtain ⟨i2096, ⟨u2099, u2100, u2101⟩, p2097, p2098⟩ := hr2095
                        have u2102 := kp_t u2032 u2099
                        have v2103 : q_V r2094 = q_V δ := (u2100).trans v2033
                        have v2104 : q_R r2094 = q_R δ := (u2101).trans v2034
                        have f2105 := ti_b (q_I r2094 1 3 a0)
                        have f2106 := ti_b (q_I r2094 1 4 a0)
                        exact ok_some (show CI ad h.1 δ0 r2094 ∧ (kp [(1, 3), (1, 4), (1, 5), (1, 6), (1, 8), (1, 13), (1, 14), (1, 15)] δ r2094 ∧ q_V r2094 = q_V δ ∧ q_R r2094 = q_R δ) ∧ 0 ≤ (q_I r2094 1 3 a0).toInt ∧ (q_I r2094 1 4 a0).toInt ≤ (q_I δ 3 1 nu).toInt from ⟨i2096, ⟨kp_w (by decide) u2102, v2103, v2104⟩, by first | assumption | omega, by first | assumption | omega⟩)
                    · have c2107 : r2057.1.toInt ≠ (q_I δ 1 8 a0).toInt := o_ne h2063
                      unfold J_X1_goOnDropping_172
                      refine ok_bind (k_X1_enterRoom L hN (a0 := a0) (x1 := (q_I δ 1 8 a0)) k_a0 i2023) (fun r2108 hr2109 => ?_)
                      obtain ⟨i2110, ⟨u2113, u2114, u2115⟩, p2111, p2112⟩ := hr2109
                      have u2116 := kp_t u2032 u2113
                      have v2117 : q_V r2108 = q_V δ := (u2114).trans v2033
                      have v2118 : q_R r2108 = q_R δ := (u2115).trans v2034
                      have f2119 := ti_b (q_I r2108 1 3 a0)
                      have f2120 := ti_b (q_I r2108 1 4 a0)
                      exact ok_some (show CI ad h.1 δ0 r2108 ∧ (kp [(1, 3), (1, 4), (1, 5), (1, 6), (1, 8), (1, 13), (1, 14), (1, 15)] δ r2108 ∧ q_V r2108 = q_V δ ∧ q_R r2108 = q_R δ) ∧ 0 ≤ (q_I r2108 1 3 a0).toInt ∧ (q_I r2108 1 4 a0).toInt ≤ (q_I δ 3 1 nu).toInt from ⟨i2110, ⟨kp_w (by decide) u2116, v2117, v2118⟩, by first | assumption | omega, by first | assumption | omega⟩)
                · have c2121 : (1 : Int) ≠ (0 : Int) := o_ne h2019
                  refine ok_ite (fun h2122 => ?_) (fun h2122 => ?_)
                  · have c2123 : (q_I δ 1 8 a0).toInt = (q_I δ 1 9 a0).toInt := o_eq h2122
                    unfold J_X1_goOnDropping_118
                    refine ok_bind (k_X1_valueAt L hN (a0 := a0) (x1 := (q_I δ 1 11 a0)) k_a0 hnu knu (show 0 ≤ ((q_I δ 1 11 a0)).toInt by first | assumption | omega) (show ((q_I δ 1 11 a0)).toInt < (q_I δ 3 1 nu).toInt by first | assumption | omega) I) (fun r2124 hr2125 => ?_)
                    have i2126 := hr2125
                    try rw [i2126]
                    have f2127 := ti_b r2124.1
                    unfold J_X1_goOnDropping_121
                    refine ok_bind (k_X1_findRoom L hN (a0 := a0) (x1 := r2124.1) k_a0 hnu knu (show 0 ≤ (q_I δ 1 11 a0).toInt by first | assumption | omega) (show (q_I δ 1 11 a0).toInt ≤ (q_I δ 1 12 a0).toInt by first | assumption | omega) (show (q_I δ 1 12 a0).toInt ≤ (q_I δ 3 1 nu).toInt by first | assumption | omega) I) (fun r2128 hr2129 => ?_)
                    obtain ⟨i2130, ⟨u2136, u2137, u2138⟩, p2131, p2132, p2133, p2134, p2135⟩ := hr2129
                    have u2139 := kp_t kp_r u2136
                    have v2140 : q_V r2128.2 = q_V δ := (u2137).trans rfl
                    have v2141 : q_R r2128.2 = q_R δ := (u2138).trans rfl
                    have f2142 := bo_t p2131
                    have f2143 := ti_b (q_I r2128.2 1 13 a0)
                    have f2144 := ti_b (q_I r2128.2 1 14 a0)
                    have f2145 := ti_b r2128.1
                    have f2146 := ti_b r2128.1
                    refine ok_ite (fun h2147 => ?_) (fun h2147 => ?_)
                    · have c2148 : r2128.1.toInt = (0 : Int) := o_eq h2147
                      refine ok_bdv (fun d2149 e2150 => ?_)
                      have i2151 : CI ad h.1 δ0 d2149 := by rw [e2150]; exact cs_1_15 L i2130 k_a0 (show 0 ≤ (1 : Int) by omega) (show (1 : Int) ≤ 1 by omega)
                      have u2152 := kp_I u2139 e2150
                      have v2153 : q_V d2149 = q_V δ := ((show q_V d2149 = q_V r2128.2 by rw [e2150]; rfl)).trans v2140
                      have v2154 : q_R d2149 = q_R δ := ((show q_R d2149 = q_R r2128.2 by rw [e2150]; rfl)).trans v2141
                      have f2155 := ti_b (q_I d2149 1 3 a0)
                      have f2156 : (q_I d2149 1 3 a0).toInt = (q_I r2128.2 1 3 a0).toInt := congrArg Int32.toInt (by rw [e2150]; exact rI_o (by decide))
                      have f2157 := ti_b (q_I r2128.2 1 3 a0)
                      have f2158 : (q_I r2128.2 1 3 a0).toInt = (q_I δ 1 3 a0).toInt := congrArg Int32.toInt (u2136 1 3 a0 (by decide))
                      have f2159 := ti_b (q_I d2149 1 4 a0)
                      have f2160 : (q_I d2149 1 4 a0).toInt = (q_I r2128.2 1 4 a0).toInt := congrArg Int32.toInt (by rw [e2150]; exact rI_o (by decide))
                      have f2161 := ti_b (q_I r2128.2 1 4 a0)
                      have f2162 : (q_I r2128.2 1 4 a0).toInt = (q_I δ 1 4 a0).toInt := congrArg Int32.toInt (u2136 1 4 a0 (by decide))
                      exact ok_some (show CI ad h.1 δ0 d2149 ∧ (kp [(1, 3), (1, 4), (1, 5), (1, 6), (1, 8), (1, 13), (1, 14), (1, 15)] δ d2149 ∧ q_V d2149 = q_V δ ∧ q_R d2149 = q_R δ) ∧ 0 ≤ (q_I d2149 1 3 a0).toInt ∧ (q_I d2149 1 4 a0).toInt ≤ (q_I δ 3 1 nu).toInt from ⟨i2151, ⟨kp_w (by decide) u2152, v2153, v2154⟩, by first | assumption | omega, by first | assumption | omega⟩)
                    · have c2163 : r2128.1.toInt ≠ (0 : Int) := o_ne h2147
                      have f2166 := cb_3_1 i2130 knu o4
                      have f2167 : (q_I r2128.2 3 1 nu).toInt = (q_I δ 3 1 nu).toInt := congrArg Int32.toInt (u2136 3 1 nu (by decide))
                      refine ok_bind (k_X1_valueAt L hN (a0 := a0) (x1 := (q_I r2128.2 1 13 a0)) k_a0 hnu knu (show 0 ≤ ((q_I r2128.2 1 13 a0)).toInt by first | assumption | omega) (show ((q_I r2128.2 1 13 a0)).toInt < (q_I r2128.2 3 1 nu).toInt by first | assumption | omega) i2130) (fun r2164 hr2165 => ?_)
                      have i2168 := hr2165
                      try rw [i2168]
                      have f2169 := ti_b r2164.1
                      refine ok_ite (fun h2170 => ?_) (fun h2170 => ?_)
                      · have c2171 : r2164.1.toInt = r2124.1.toInt := o_eq h2170
                        first | (have q2175 := te_subc (c := 1) (n := 1) rfl (q_I r2128.2 1 14 a0) (by omega) (by omega); obtain ⟨f2176, f2177, f2178⟩ := q2175) | (obtain ⟨q2175, f2176, f2177, f2178⟩ := ti_subc (c := 1) (n := 1) rfl (q_I r2128.2 1 14 a0))
                        refine ok_bind (k_X1_valueAt L hN (a0 := a0) (x1 := ((q_I r2128.2 1 14 a0) - (1 : Int32))) k_a0 hnu knu (show 0 ≤ (((q_I r2128.2 1 14 a0) - (1 : Int32))).toInt by first | assumption | omega) (show (((q_I r2128.2 1 14 a0) - (1 : Int32))).toInt < (q_I r2128.2 3 1 nu).toInt by first | assumption | omega) i2130) (fun r2172 hr2173 => ?_)
                        have i2179 := hr2173
                        try rw [i2179]
                        have f2180 := ti_b r2172.1
                        refine ok_ite (fun h2181 => ?_) (fun h2181 => ?_)
                        · have c2182 : r2172.1.toInt = r2124.1.toInt := o_eq h2181
                          refine ok_bind (k_X1_enterList L hN (a0 := a0) (x1 := r2124.1) k_a0 i2130) (fun r2183 hr2184 => ?_)
                          obtain ⟨i2185, ⟨u2188, u2189, u2190⟩, p2186, p2187⟩ := hr2184
                          have u2191 := kp_t u2139 u2188
                          have v2192 : q_V r2183 = q_V δ := (u2189).trans v2140
                          have v2193 : q_R r2183 = q_R δ := (u2190).trans v2141
                          have f2194 := ti_b (q_I r2183 1 3 a0)
                          have f2195 := ti_b (q_I r2128.2 1 11 a0)
                          have f2196 : (q_I r2128.2 1 11 a0).toInt = (q_I δ 1 11 a0).toInt := congrArg Int32.toInt (u2136 1 11 a0 (by decide))
                          have f2197 := ti_b (q_I r2183 1 4 a0)
                          have f2198 := ti_b (q_I r2128.2 1 12 a0)
                          have f2199 : (q_I r2128.2 1 12 a0).toInt = (q_I δ 1 12 a0).toInt := congrArg Int32.toInt (u2136 1 12 a0 (by decide))
                          exact ok_some (show CI ad h.1 δ0 r2183 ∧ (kp [(1, 3), (1, 4), (1, 5), (1, 6), (1, 8), (1, 13), (1, 14), (1, 15)] δ r2183 ∧ q_V r2183 = q_V δ ∧ q_R r2183 = q_R δ) ∧ 0 ≤ (q_I r2183 1 3 a0).toInt ∧ (q_I r2183 1 4 a0).toInt ≤ (q_I δ 3 1 nu).toInt from ⟨i2185, ⟨kp_w (by decide) u2191, v2192, v2193⟩, by first | assumption | omega, by first | assumption | omega⟩)
                        · have c2200 : r2172.1.toInt ≠ r2124.1.toInt := o_ne h2181
                          unfold J_X1_goOnDropping_172
                          refine ok_bind (k_X1_enterRoom L hN (a0 := a0) (x1 := r2124.1) k_a0 i2130) (fun r2201 hr2202 => ?_)
                          obtain ⟨i2203, ⟨u2206, u2207, u2208⟩, p2204, p2205⟩ := hr2202
                          have u2209 := kp_t u2139 u2206
                          have v2210 : q_V r2201 = q_V δ := (u2207).trans v2140
                          have v2211 : q_R r2201 = q_R δ := (u2208).trans v2141
                          have f2212 := ti_b (q_I r2201 1 3 a0)
                          have f2213 := ti_b (q_I r2201 1 4 a0)
                          exact ok_some (show CI ad h.1 δ0 r2201 ∧ (kp [(1, 3), (1, 4), (1, 5), (1, 6), (1, 8), (1, 13), (1, 14), (1, 15)] δ r2201 ∧ q_V r2201 = q_V δ ∧ q_R r2201 = q_R δ) ∧ 0 ≤ (q_I r2201 1 3 a0).toInt ∧ (q_I r2201 1 4 a0).toInt ≤ (q_I δ 3 1 nu).toInt from ⟨i2203, ⟨kp_w (by decide) u2209, v2210, v2211⟩, by first | assumption | omega, by first | assumption | omega⟩)
                      · have c2214 : r2164.1.toInt ≠ r2124.1.toInt := o_ne h2170
                        unfold J_X1_goOnDropping_172
                        refine ok_bind (k_X1_enterRoom L hN (a0 := a0) (x1 := r2124.1) k_a0 i2130) (fun r2215 hr2216 => ?_)
                        obtain ⟨i2217, ⟨u2220, u2221, u2222⟩, p2218, p2219⟩ := hr2216
                        have u2223 := kp_t u2139 u2220
                        have v2224 : q_V r2215 = q_V δ := (u2221).trans v2140
                        have v2225 : q_R r2215 = q_R δ := (u2222).trans v2141
                        have f2226 := ti_b (q_I r2215 1 3 a0)
                        have f2227 := ti_b (q_I r2215 1 4 a0)
                        exact ok_some (show CI ad h.1 δ0 r2215 ∧ (kp [(1, 3), (1, 4), (1, 5), (1, 6), (1, 8), (1, 13), (1, 14), (1, 15)] δ r2215 ∧ q_V r2215 = q_V δ ∧ q_R r2215 = q_R δ) ∧ 0 ≤ (q_I r2215 1 3 a0).toInt ∧ (q_I r2215 1 4 a0).toInt ≤ (q_I δ 3 1 nu).toInt from ⟨i2217, ⟨kp_w (by decide) u2223, v2224, v2225⟩, by first | assumption | omega, by first | assumption | omega⟩)
                  · have c2228 : (q_I δ 1 8 a0).toInt ≠ (q_I δ 1 9 a0).toInt := o_ne h2122
                    unfold J_X1_goOnDropping_118
                    first | (have q2232 := te_subc (c := 1) (n := 1) rfl (q_I δ 1 12 a0) (by omega) (by omega); obtain ⟨f2233, f2234, f2235⟩ := q2232) | (obtain ⟨q2232, f2233, f2234, f2235⟩ := ti_subc (c := 1) (n := 1) rfl (q_I δ 1 12 a0))
                    refine ok_bind (k_X1_valueAt L hN (a0 := a0) (x1 := ((q_I δ 1 12 a0) - (1 : Int32))) k_a0 hnu knu (show 0 ≤ (((q_I δ 1 12 a0) - (1 : Int32))).toInt by first | assumption | omega) (show (((q_I δ 1 12 a0) - (1 : Int32))).toInt < (q_I δ 3 1 nu).toInt by first | assumption | omega) I) (fun r2229 hr2230 => ?_)
                    have i2236 := hr2230
                    try rw [i2236]
                    have f2237 := ti_b r2229.1
                    unfold J_X1_goOnDropping_121
                    refine ok_bind (k_X1_findRoom L hN (a0 := a0) (x1 := r2229.1) k_a0 hnu knu (show 0 ≤ (q_I δ 1 11 a0).toInt by first | assumption | omega) (show (q_I δ 1 11 a0).toInt ≤ (q_I δ 1 12 a0).toInt by first | assumption | omega) (show (q_I δ 1 12 a0).toInt ≤ (q_I δ 3 1 nu).toInt by first | assumption | omega) I) (fun r2238 hr2239 => ?_)
                    obtain ⟨i2240, ⟨u2246, u2247, u2248⟩, p2241, p2242, p2243, p2244, p2245⟩ := hr2239
                    have u2249 := kp_t kp_r u2246
                    have v2250 : q_V r2238.2 = q_V δ := (u2247).trans rfl
                    have v2251 : q_R r2238.2 = q_R δ := (u2248).trans rfl
                    have f2252 := bo_t p2241
                    have f2253 := ti_b (q_I r2238.2 1 13 a0)
                    have f2254 := ti_b (q_I r2238.2 1 14 a0)
                    have f2255 := ti_b r2238.1
                    have f2256 := ti_b r2238.1
                    refine ok_ite (fun h2257 => ?_) (fun h2257 => ?_)
                    · have c2258 : r2238.1.toInt = (0 : Int) := o_eq h2257
                      refine ok_bdv (fun d2259 e2260 => ?_)
                      have i2261 : CI ad h.1 δ0 d2259 := by rw [e2260]; exact cs_1_15 L i2240 k_a0 (show 0 ≤ (1 : Int) by omega) (show (1 : Int) ≤ 1 by omega)
                      have u2262 := kp_I u2249 e2260
                      have v2263 : q_V d2259 = q_V δ := ((show q_V d2259 = q_V r2238.2 by rw [e2260]; rfl)).trans v2250
                      have v2264 : q_R d2259 = q_R δ := ((show q_R d2259 = q_R r2238.2 by rw [e2260]; rfl)).trans v2251
                      have f2265 := ti_b (q_I d2259 1 3 a0)
                      have f2266 : (q_I d2259 1 3 a0).toInt = (q_I r2238.2 1 3 a0).toInt := congrArg Int32.toInt (by rw [e2260]; exact rI_o (by decide))
                      have f2267 := ti_b (q_I r2238.2 1 3 a0)
                      have f2268 : (q_I r2238.2 1 3 a0).toInt = (q_I δ 1 3 a0).toInt := congrArg Int32.toInt (u2246 1 3 a0 (by decide))
                      have f2269 := ti_b (q_I d2259 1 4 a0)
                      have f2270 : (q_I d2259 1 4 a0).toInt = (q_I r2238.2 1 4 a0).toInt := congrArg Int32.toInt (by rw [e2260]; exact rI_o (by decide))
                      have f2271 := ti_b (q_I r2238.2 1 4 a0)
                      have f2272 : (q_I r2238.2 1 4 a0).toInt = (q_I δ 1 4 a0).toInt := congrArg Int32.toInt (u2246 1 4 a0 (by decide))
                      exact ok_some (show CI ad h.1 δ0 d2259 ∧ (kp [(1, 3), (1, 4), (1, 5), (1, 6), (1, 8), (1, 13), (1, 14), (1, 15)] δ d2259 ∧ q_V d2259 = q_V δ ∧ q_R d2259 = q_R δ) ∧ 0 ≤ (q_I d2259 1 3 a0).toInt ∧ (q_I d2259 1 4 a0).toInt ≤ (q_I δ 3 1 nu).toInt from ⟨i2261, ⟨kp_w (by decide) u2262, v2263, v2264⟩, by first | assumption | omega, by first | assumption | omega⟩)
                    · have c2273 : r2238.1.toInt ≠ (0 : Int) := o_ne h2257
                      have f2276 := cb_3_1 i2240 knu o4
                      have f2277 : (q_I r2238.2 3 1 nu).toInt = (q_I δ 3 1 nu).toInt := congrArg Int32.toInt (u2246 3 1 nu (by decide))
                      refine ok_bind (k_X1_valueAt L hN (a0 := a0) (x1 := (q_I r2238.2 1 13 a0)) k_a0 hnu knu (show 0 ≤ ((q_I r2238.2 1 13 a0)).toInt by first | assumption | omega) (show ((q_I r2238.2 1 13 a0)).toInt < (q_I r2238.2 3 1 nu).toInt by first | assumption | omega) i2240) (fun r2274 hr2275 => ?_)
                      have i2278 := hr2275
                      try rw [i2278]
                      have f2279 := ti_b r2274.1
                      refine ok_ite (fun h2280 => ?_) (fun h2280 => ?_)
                      · have c2281 : r2274.1.toInt = r2229.1.toInt := o_eq h2280
                        first | (have q2285 := te_subc (c := 1) (n := 1) rfl (q_I r2238.2 1 14 a0) (by omega) (by omega); obtain ⟨f2286, f2287, f2288⟩ := q2285) | (obtain ⟨q2285, f2286, f2287, f2288⟩ := ti_subc (c := 1) (n := 1) rfl (q_I r2238.2 1 14 a0))
                        refine ok_bind (k_X1_valueAt L hN (a0 := a0) (x1 := ((q_I r2238.2 1 14 a0) - (1 : Int32))) k_a0 hnu knu (show 0 ≤ (((q_I r2238.2 1 14 a0) - (1 : Int32))).toInt by first | assumption | omega) (show (((q_I r2238.2 1 14 a0) - (1 : Int32))).toInt < (q_I r2238.2 3 1 nu).toInt by first | assumption | omega) i2240) (fun r2282 hr2283 => ?_)
                        have i2289 := hr2283
                        try rw [i2289]
                        have f2290 := ti_b r2282.1
                        refine ok_ite (fun h2291 => ?_) (fun h2291 => ?_)
                        · have c2292 : r2282.1.toInt = r2229.1.toInt := o_eq h2291
                          refine ok_bind (k_X1_enterList L hN (a0 := a0) (x1 := r2229.1) k_a0 i2240) (fun r2293 hr2294 => ?_)
                          obtain ⟨i2295, ⟨u2298, u2299, u2300⟩, p2296, p2297⟩ := hr2294
                          have u2301 := kp_t u2249 u2298
                          have v2302 : q_V r2293 = q_V δ := (u2299).trans v2250
                          have v2303 : q_R r2293 = q_R δ := (u2300).trans v2251
                          have f2304 := ti_b (q_I r2293 1 3 a0)
                          have f2305 := ti_b (q_I r2238.2 1 11 a0)
                          have f2306 : (q_I r2238.2 1 11 a0).toInt = (q_I δ 1 11 a0).toInt := congrArg Int32.toInt (u2246 1 11 a0 (by decide))
                          have f2307 := ti_b (q_I r2293 1 4 a0)
                          have f2308 := ti_b (q_I r2238.2 1 12 a0)
                          have f2309 : (q_I r2238.2 1 12 a0).toInt = (q_I δ 1 12 a0).toInt := congrArg Int32.toInt (u2246 1 12 a0 (by decide))
                          exact ok_some (show CI ad h.1 δ0 r2293 ∧ (kp [(1, 3), (1, 4), (1, 5), (1, 6), (1, 8), (1, 13), (1, 14), (1, 15)] δ r2293 ∧ q_V r2293 = q_V δ ∧ q_R r2293 = q_R δ) ∧ 0 ≤ (q_I r2293 1 3 a0).toInt ∧ (q_I r2293 1 4 a0).toInt ≤ (q_I δ 3 1 nu).toInt from ⟨i2295, ⟨kp_w (by decide) u2301, v2302, v2303⟩, by first | assumption | omega, by first | assumption | omega⟩)
                        · have c2310 : r2282.1.toInt ≠ r2229.1.toInt := o_ne h2291
                          unfold J_X1_goOnDropping_172
                          refine ok_bind (k_X1_enterRoom L hN (a0 := a0) (x1 := r2229.1) k_a0 i2240) (fun r2311 hr2312 => ?_)
                          obtain ⟨i2313, ⟨u2316, u2317, u2318⟩, p2314, p2315⟩ := hr2312
                          have u2319 := kp_t u2249 u2316
                          have v2320 : q_V r2311 = q_V δ := (u2317).trans v2250
                          have v2321 : q_R r2311 = q_R δ := (u2318).trans v2251
                          have f2322 := ti_b (q_I r2311 1 3 a0)
                          have f2323 := ti_b (q_I r2311 1 4 a0)
                          exact ok_some (show CI ad h.1 δ0 r2311 ∧ (kp [(1, 3), (1, 4), (1, 5), (1, 6), (1, 8), (1, 13), (1, 14), (1, 15)] δ r2311 ∧ q_V r2311 = q_V δ ∧ q_R r2311 = q_R δ) ∧ 0 ≤ (q_I r2311 1 3 a0).toInt ∧ (q_I r2311 1 4 a0).toInt ≤ (q_I δ 3 1 nu).toInt from ⟨i2313, ⟨kp_w (by decide) u2319, v2320, v2321⟩, by first | assumption | omega, by first | assumption | omega⟩)
                      · have c2324 : r2274.1.toInt ≠ r2229.1.toInt := o_ne h2280
                        unfold J_X1_goOnDropping_172
                        refine ok_bind (k_X1_enterRoom L hN (a0 := a0) (x1 := r2229.1) k_a0 i2240) (fun r2325 hr2326 => ?_)
                        obtain ⟨i2327, ⟨u2330, u2331, u2332⟩, p2328, p2329⟩ := hr2326
                        have u2333 := kp_t u2249 u2330
                        have v2334 : q_V r2325 = q_V δ := (u2331).trans v2250
                        have v2335 : q_R r2325 = q_R δ := (u2332).trans v2251
                        have f2336 := ti_b (q_I r2325 1 3 a0)
                        have f2337 := ti_b (q_I r2325 1 4 a0)
                        exact ok_some (show CI ad h.1 δ0 r2325 ∧ (kp [(1, 3), (1, 4), (1, 5), (1, 6), (1, 8), (1, 13), (1, 14), (1, 15)] δ r2325 ∧ q_V r2325 = q_V δ ∧ q_R r2325 = q_R δ) ∧ 0 ≤ (q_I r2325 1 3 a0).toInt ∧ (q_I r2325 1 4 a0).toInt ≤ (q_I δ 3 1 nu).toInt from ⟨i2327, ⟨kp_w (by decide) u2333, v2334, v2335⟩, by first | assumption | omega, by first | assumption | omega⟩)
              · have c2338 : (1 : Int) ≠ (0 : Int) := o_ne h2017
                unfold J_X1_goOnDropping_81
                refine ok_ite (fun h2339 => ?_) (fun h2339 => ?_)
                · have c2340 : (1 : Int) = (0 : Int) := o_eq h2339
                  unfold J_X1_goOnDropping_121
                  refine ok_bind (k_X1_findRoom L hN (a0 := a0) (x1 := (q_I δ 1 8 a0)) k_a0 hnu knu (show 0 ≤ (q_I δ 1 11 a0).toInt by first | assumption | omega) (show (q_I δ 1 11 a0).toInt ≤ (q_I δ 1 12 a0).toInt by first | assumption | omega) (show (q_I δ 1 12 a0).toInt ≤ (q_I δ 3 1 nu).toInt by first | assumption | omega) I) (fun r2341 hr2342 => ?_)
                  obtain ⟨i2343, ⟨u2349, u2350, u2351⟩, p2344, p2345, p2346, p2347, p2348⟩ := hr2342
                  have u2352 := kp_t kp_r u2349
                  have v2353 : q_V r2341.2 = q_V δ := (u2350).trans rfl
                  have v2354 : q_R r2341.2 = q_R δ := (u2351).trans rfl
                  have f2355 := bo_t p2344
                  have f2356 := ti_b (q_I r2341.2 1 13 a0)
                  have f2357 := ti_b (q_I r2341.2 1 14 a0)
                  have f2358 := ti_b r2341.1
                  have f2359 := ti_b r2341.1
                  refine ok_ite (fun h2360 => ?_) (fun h2360 => ?_)
                  · have c2361 : r2341.1.toInt = (0 : Int) := o_eq h2360
                    refine ok_bdv (fun d2362 e2363 => ?_)
                    have i2364 : CI ad h.1 δ0 d2362 := by rw [e2363]; exact cs_1_15 L i2343 k_a0 (show 0 ≤ (1 : Int) by omega) (show (1 : Int) ≤ 1 by omega)
                    have u2365 := kp_I u2352 e2363
                    have v2366 : q_V d2362 = q_V δ := ((show q_V d2362 = q_V r2341.2 by rw [e2363]; rfl)).trans v2353
                    have v2367 : q_R d2362 = q_R δ := ((show q_R d2362 = q_R r2341.2 by rw [e2363]; rfl)).trans v2354
                    have f2368 := ti_b (q_I d2362 1 3 a0)
                    have f2369 : (q_I d2362 1 3 a0).toInt = (q_I r2341.2 1 3 a0).toInt := congrArg Int32.toInt (by rw [e2363]; exact rI_o (by decide))
                    have f2370 := ti_b (q_I r2341.2 1 3 a0)
                    have f2371 : (q_I r2341.2 1 3 a0).toInt = (q_I δ 1 3 a0).toInt := congrArg Int32.toInt (u2349 1 3 a0 (by decide))
                    have f2372 := ti_b (q_I d2362 1 4 a0)
                    have f2373 : (q_I d2362 1 4 a0).toInt = (q_I r2341.2 1 4 a0).toInt := congrArg Int32.toInt (by rw [e2363]; exact rI_o (by decide))
                    have f2374 := ti_b (q_I r2341.2 1 4 a0)
                    have f2375 : (q_I r2341.2 1 4 a0).toInt = (q_I δ 1 4 a0).toInt := congrArg Int32.toInt (u2349 1 4 a0 (by decide))
                    exact ok_some (show CI ad h.1 δ0 d2362 ∧ (kp [(1, 3), (1, 4), (1, 5), (1, 6), (1, 8), (1, 13), (1, 14), (1, 15)] δ d2362 ∧ q_V d2362 = q_V δ ∧ q_R d2362 = q_R δ) ∧ 0 ≤ (q_I d2362 1 3 a0).toInt ∧ (q_I d2362 1 4 a0).toInt ≤ (q_I δ 3 1 nu).toInt from ⟨i2364, ⟨kp_w (by decide) u2365, v2366, v2367⟩, by first | assumption | omega, by first | assumption | omega⟩)
                  · have c2376 : r2341.1.toInt ≠ (0 : Int) := o_ne h2360
                    have f2379 := cb_3_1 i2343 knu o4
                    have f2380 : (q_I r2341.2 3 1 nu).toInt = (q_I δ 3 1 nu).toInt := congrArg Int32.toInt (u2349 3 1 nu (by decide))
                    refine ok_bind (k_X1_valueAt L hN (a0 := a0) (x1 := (q_I r2341.2 1 13 a0)) k_a0 hnu knu (show 0 ≤ ((q_I r2341.2 1 13 a0)).toInt by first | assumption | omega) (show ((q_I r2341.2 1 13 a0)).toInt < (q_I r2341.2 3 1 nu).toInt by first | assumption | omega) i2343) (fun r2377 hr2378 => ?_)
                    have i2381 := hr2378
                    try rw [i2381]
                    have f2382 := ti_b r2377.1
                    refine ok_ite (fun h2383 => ?_) (fun h2383 => ?_)
                    · have c2384 : r2377.1.toInt = (q_I δ 1 8 a0).toInt := o_eq h2383
                      first | (have q2388 := te_subc (c := 1) (n := 1) rfl (q_I r2341.2 1 14 a0) (by omega) (by omega); obtain ⟨f2389, f2390, f2391⟩ := q2388) | (obtain ⟨q2388, f2389, f2390, f2391⟩ := ti_subc (c := 1) (n := 1) rfl (q_I r2341.2 1 14 a0))
                      refine ok_bind (k_X1_valueAt L hN (a0 := a0) (x1 := ((q_I r2341.2 1 14 a0) - (1 : Int32))) k_a0 hnu knu (show 0 ≤ (((q_I r2341.2 1 14 a0) - (1 : Int32))).toInt by first | assumption | omega) (show (((q_I r2341.2 1 14 a0) - (1 : Int32))).toInt < (q_I r2341.2 3 1 nu).toInt by first | assumption | omega) i2343) (fun r2385 hr2386 => ?_)
                      have i2392 := hr2386
                      try rw [i2392]
                      have f2393 := ti_b r2385.1
                      refine ok_ite (fun h2394 => ?_) (fun h2394 => ?_)
                      · have c2395 : r2385.1.toInt = (q_I δ 1 8 a0).toInt := o_eq h2394
                        refine ok_bind (k_X1_enterList L hN (a0 := a0) (x1 := (q_I δ 1 8 a0)) k_a0 i2343) (fun r2396 hr2397 => ?_)
                        obtain ⟨i2398, ⟨u2401, u2402, u2403⟩, p2399, p2400⟩ := hr2397
                        have u2404 := kp_t u2352 u2401
                        have v2405 : q_V r2396 = q_V δ := (u2402).trans v2353
                        have v2406 : q_R r2396 = q_R δ := (u2403).trans v2354
                        have f2407 := ti_b (q_I r2396 1 3 a0)
                        have f2408 := ti_b (q_I r2341.2 1 11 a0)
                        have f2409 : (q_I r2341.2 1 11 a0).toInt = (q_I δ 1 11 a0).toInt := congrArg Int32.toInt (u2349 1 11 a0 (by decide))
                        have f2410 := ti_b (q_I r2396 1 4 a0)
                        have f2411 := ti_b (q_I r2341.2 1 12 a0)
                        have f2412 : (q_I r2341.2 1 12 a0).toInt = (q_I δ 1 12 a0).toInt := congrArg Int32.toInt (u2349 1 12 a0 (by decide))
                        exact ok_some (show CI ad h.1 δ0 r2396 ∧ (kp [(1, 3), (1, 4), (1, 5), (1, 6), (1, 8), (1, 13), (1, 14), (1, 15)] δ r2396 ∧ q_V r2396 = q_V δ ∧ q_R r2396 = q_R δ) ∧ 0 ≤ (q_I r2396 1 3 a0).toInt ∧ (q_I r2396 1 4 a0).toInt ≤ (q_I δ 3 1 nu).toInt from ⟨i2398, ⟨kp_w (by decide) u2404, v2405, v2406⟩, by first | assumption | omega, by first | assumption | omega⟩)
                      · have c2413 : r2385.1.toInt ≠ (q_I δ 1 8 a0).toInt := o_ne h2394
                        unfold J_X1_goOnDropping_172
                        refine ok_bind (k_X1_enterRoom L hN (a0 := a0) (x1 := (q_I δ 1 8 a0)) k_a0 i2343) (fun r2414 hr2415 => ?_)
                        obtain ⟨i2416, ⟨u2419, u2420, u2421⟩, p2417, p2418⟩ := hr2415
                        have u2422 := kp_t u2352 u2419
                        have v2423 : q_V r2414 = q_V δ := (u2420).trans v2353
                        have v2424 : q_R r2414 = q_R δ := (u2421).trans v2354
                        have f2425 := ti_b (q_I r2414 1 3 a0)
                        have f2426 := ti_b (q_I r2414 1 4 a0)
                        exact ok_some (show CI ad h.1 δ0 r2414 ∧ (kp [(1, 3), (1, 4), (1, 5), (1, 6), (1, 8), (1, 13), (1, 14), (1, 15)] δ r2414 ∧ q_V r2414 = q_V δ ∧ q_R r2414 = q_R δ) ∧ 0 ≤ (q_I r2414 1 3 a0).toInt ∧ (q_I r2414 1 4 a0).toInt ≤ (q_I δ 3 1 nu).toInt from ⟨i2416, ⟨kp_w (by decide) u2422, v2423, v2424⟩, by first | assumption | omega, by first | assumption | omega⟩)
                    · have c2427 : r2377.1.toInt ≠ (q_I δ 1 8 a0).toInt := o_ne h2383
                      unfold J_X1_goOnDropping_172
                      refine ok_bind (k_X1_enterRoom L hN (a0 := a0) (x1 := (q_I δ 1 8 a0)) k_a0 i2343) (fun r2428 hr2429 => ?_)
                      obtain ⟨i2430, ⟨u2433, u2434, u2435⟩, p2431, p2432⟩ := hr2429
                      have u2436 := kp_t u2352 u2433
                      have v2437 : q_V r2428 = q_V δ := (u2434).trans v2353
                      have v2438 : q_R r2428 = q_R δ := (u2435).trans v2354
                      have f2439 := ti_b (q_I r2428 1 3 a0)
                      have f2440 := ti_b (q_I r2428 1 4 a0)
                      exact ok_some (show CI ad h.1 δ0 r2428 ∧ (kp [(1, 3), (1, 4), (1, 5), (1, 6), (1, 8), (1, 13), (1, 14), (1, 15)] δ r2428 ∧ q_V r2428 = q_V δ ∧ q_R r2428 = q_R δ) ∧ 0 ≤ (q_I r2428 1 3 a0).toInt ∧ (q_I r2428 1 4 a0).toInt ≤ (q_I δ 3 1 nu).toInt from ⟨i2430, ⟨kp_w (by decide) u2436, v2437, v2438⟩, by first | assumption | omega, by first | assumption | omega⟩)
                · have c2441 : (1 : Int) ≠ (0 : Int) := o_ne h2339
                  refine ok_ite (fun h2442 => ?_) (fun h2442 => ?_)
                  · have c2443 : (q_I δ 1 8 a0).toInt = (q_I δ 1 9 a0).toInt := o_eq h2442
                    unfold J_X1_goOnDropping_118
                    refine ok_bind (k_X1_valueAt L hN (a0 := a0) (x1 := (q_I δ 1 11 a0)) k_a0 hnu knu (show 0 ≤ ((q_I δ 1 11 a0)).toInt by first | assumption | omega) (show ((q_I δ 1 11 a0)).toInt < (q_I δ 3 1 nu).toInt by first | assumption | omega) I) (fun r2444 hr2445 => ?_)
                    have i2446 := hr2445
                    try rw [i2446]
                    have f2447 := ti_b r2444.1
                    unfold J_X1_goOnDropping_121
                    refine ok_bind (k_X1_findRoom L hN (a0 := a0) (x1 := r2444.1) k_a0 hnu knu (show 0 ≤ (q_I δ 1 11 a0).toInt by first | assumption | omega) (show (q_I δ 1 11 a0).toInt ≤ (q_I δ 1 12 a0).toInt by first | assumption | omega) (show (q_I δ 1 12 a0).toInt ≤ (q_I δ 3 1 nu).toInt by first | assumption | omega) I) (fun r2448 hr2449 => ?_)
                    obtain ⟨i2450, ⟨u2456, u2457, u2458⟩, p2451, p2452, p2453, p2454, p2455⟩ := hr2449
                    have u2459 := kp_t kp_r u2456
                    have v2460 : q_V r2448.2 = q_V δ := (u2457).trans rfl
                    have v2461 : q_R r2448.2 = q_R δ := (u2458).trans rfl
                    have f2462 := bo_t p2451
                    have f2463 := ti_b (q_I r2448.2 1 13 a0)
                    have f2464 := ti_b (q_I r2448.2 1 14 a0)
                    have f2465 := ti_b r2448.1
                    have f2466 := ti_b r2448.1
                    refine ok_ite (fun h2467 => ?_) (fun h2467 => ?_)
                    · have c2468 : r2448.1.toInt = (0 : Int) := o_eq h2467
                      refine ok_bdv (fun d2469 e2470 => ?_)
                      have i2471 : CI ad h.1 δ0 d2469 := by rw [e2470]; exact cs_1_15 L i2450 k_a0 (show 0 ≤ (1 : Int) by omega) (show (1 : Int) ≤ 1 by omega)
                      have u2472 := kp_I u2459 e2470
                      have v2473 : q_V d2469 = q_V δ := ((show q_V d2469 = q_V r2448.2 by rw [e2470]; rfl)).trans v2460
                      have v2474 : q_R d2469 = q_R δ := ((show q_R d2469 = q_R r2448.2 by rw [e2470]; rfl)).trans v2461
                      have f2475 := ti_b (q_I d2469 1 3 a0)
                      have f2476 : (q_I d2469 1 3 a0).toInt = (q_I r2448.2 1 3 a0).toInt := congrArg Int32.toInt (by rw [e2470]; exact rI_o (by decide))
                      have f2477 := ti_b (q_I r2448.2 1 3 a0)
                      have f2478 : (q_I r2448.2 1 3 a0).toInt = (q_I δ 1 3 a0).toInt := congrArg Int32.toInt (u2456 1 3 a0 (by decide))
                      have f2479 := ti_b (q_I d2469 1 4 a0)
                      have f2480 : (q_I d2469 1 4 a0).toInt = (q_I r2448.2 1 4 a0).toInt := congrArg Int32.toInt (by rw [e2470]; exact rI_o (by decide))
                      have f2481 := ti_b (q_I r2448.2 1 4 a0)
                      have f2482 : (q_I r2448.2 1 4 a0).toInt = (q_I δ 1 4 a0).toInt := congrArg Int32.toInt (u2456 1 4 a0 (by decide))
                      exact ok_some (show CI ad h.1 δ0 d2469 ∧ (kp [(1, 3), (1, 4), (1, 5), (1, 6), (1, 8), (1, 13), (1, 14), (1, 15)] δ d2469 ∧ q_V d2469 = q_V δ ∧ q_R d2469 = q_R δ) ∧ 0 ≤ (q_I d2469 1 3 a0).toInt ∧ (q_I d2469 1 4 a0).toInt ≤ (q_I δ 3 1 nu).toInt from ⟨i2471, ⟨kp_w (by decide) u2472, v2473, v2474⟩, by first | assumption | omega, by first | assumption | omega⟩)
                    · have c2483 : r2448.1.toInt ≠ (0 : Int) := o_ne h2467
                      have f2486 := cb_3_1 i2450 knu o4
                      have f2487 : (q_I r2448.2 3 1 nu).toInt = (q_I δ 3 1 nu).toInt := congrArg Int32.toInt (u2456 3 1 nu (by decide))
                      refine ok_bind (k_X1_valueAt L hN (a0 := a0) (x1 := (q_I r2448.2 1 13 a0)) k_a0 hnu knu (show 0 ≤ ((q_I r2448.2 1 13 a0)).toInt by first | assumption | omega) (show ((q_I r2448.2 1 13 a0)).toInt < (q_I r2448.2 3 1 nu).toInt by first | assumption | omega) i2450) (fun r2484 hr2485 => ?_)
                      have i2488 := hr2485
                      try rw [i2488]
                      have f2489 := ti_b r2484.1
                      refine ok_ite (fun h2490 => ?_) (fun h2490 => ?_)
                      · have c2491 : r2484.1.toInt = r2444.1.toInt := o_eq h2490
                        first | (have q2495 := te_subc (c := 1) (n := 1) rfl (q_I r2448.2 1 14 a0) (by omega) (by omega); obtain ⟨f2496, f2497, f2498⟩ := q2495) | (obtain ⟨q2495, f2496, f2497, f2498⟩ := ti_subc (c := 1) (n := 1) rfl (q_I r2448.2 1 14 a0))
                        refine ok_bind (k_X1_valueAt L hN (a0 := a0) (x1 := ((q_I r2448.2 1 14 a0) - (1 : Int32))) k_a0 hnu knu (show 0 ≤ (((q_I r2448.2 1 14 a0) - (1 : Int32))).toInt by first | assumption | omega) (show (((q_I r2448.2 1 14 a0) - (1 : Int32))).toInt < (q_I r2448.2 3 1 nu).toInt by first | assumption | omega) i2450) (fun r2492 hr2493 => ?_)
                        have i2499 := hr2493
                        try rw [i2499]
                        have f2500 := ti_b r2492.1
                        refine ok_ite (fun h2501 => ?_) (fun h2501 => ?_)
                        · have c2502 : r2492.1.toInt = r2444.1.toInt := o_eq h2501
                          refine ok_bind (k_X1_enterList L hN (a0 := a0) (x1 := r2444.1) k_a0 i2450) (fun r2503 hr2504 => ?_)
                          obtain ⟨i2505, ⟨u2508, u2509, u2510⟩, p2506, p2507⟩ := hr2504
                          have u2511 := kp_t u2459 u2508
                          have v2512 : q_V r2503 = q_V δ := (u2509).trans v2460
                          have v2513 : q_R r2503 = q_R δ := (u2510).trans v2461
                          have f2514 := ti_b (q_I r2503 1 3 a0)
                          have f2515 := ti_b (q_I r2448.2 1 11 a0)
                          have f2516 : (q_I r2448.2 1 11 a0).toInt = (q_I δ 1 11 a0).toInt := congrArg Int32.toInt (u2456 1 11 a0 (by decide))
                          have f2517 := ti_b (q_I r2503 1 4 a0)
                          have f2518 := ti_b (q_I r2448.2 1 12 a0)
                          have f2519 : (q_I r2448.2 1 12 a0).toInt = (q_I δ 1 12 a0).toInt := congrArg Int32.toInt (u2456 1 12 a0 (by decide))
                          exact ok_some (show CI ad h.1 δ0 r2503 ∧ (kp [(1, 3), (1, 4), (1, 5), (1, 6), (1, 8), (1, 13), (1, 14), (1, 15)] δ r2503 ∧ q_V r2503 = q_V δ ∧ q_R r2503 = q_R δ) ∧ 0 ≤ (q_I r2503 1 3 a0).toInt ∧ (q_I r2503 1 4 a0).toInt ≤ (q_I δ 3 1 nu).toInt from ⟨i2505, ⟨kp_w (by decide) u2511, v2512, v2513⟩, by first | assumption | omega, by first | assumption | omega⟩)
                        · have c2520 : r2492.1.toInt ≠ r2444.1.toInt := o_ne h2501
                          unfold J_X1_goOnDropping_172
                          refine ok_bind (k_X1_enterRoom L hN (a0 := a0) (x1 := r2444.1) k_a0 i2450) (fun r2521 hr2522 => ?_)
                          obtain ⟨i2523, ⟨u2526, u2527, u2528⟩, p2524, p2525⟩ := hr2522
                          have u2529 := kp_t u2459 u2526
                          have v2530 : q_V r2521 = q_V δ := (u2527).trans v2460
                          have v2531 : q_R r2521 = q_R δ := (u2528).trans v2461
                          have f2532 := ti_b (q_I r2521 1 3 a0)
                          have f2533 := ti_b (q_I r2521 1 4 a0)
                          exact ok_some (show CI ad h.1 δ0 r2521 ∧ (kp [(1, 3), (1, 4), (1, 5), (1, 6), (1, 8), (1, 13), (1, 14), (1, 15)] δ r2521 ∧ q_V r2521 = q_V δ ∧ q_R r2521 = q_R δ) ∧ 0 ≤ (q_I r2521 1 3 a0).toInt ∧ (q_I r2521 1 4 a0).toInt ≤ (q_I δ 3 1 nu).toInt from ⟨i2523, ⟨kp_w (by decide) u2529, v2530, v2531⟩, by first | assumption | omega, by first | assumption | omega⟩)
                      · have c2534 : r2484.1.toInt ≠ r2444.1.toInt := o_ne h2490
                        unfold J_X1_goOnDropping_172
                        refine ok_bind (k_X1_enterRoom L hN (a0 := a0) (x1 := r2444.1) k_a0 i2450) (fun r2535 hr2536 => ?_)
                        obtain ⟨i2537, ⟨u2540, u2541, u2542⟩, p2538, p2539⟩ := hr2536
                        have u2543 := kp_t u2459 u2540
                        have v2544 : q_V r2535 = q_V δ := (u2541).trans v2460
                        have v2545 : q_R r2535 = q_R δ := (u2542).trans v2461
                        have f2546 := ti_b (q_I r2535 1 3 a0)
                        have f2547 := ti_b (q_I r2535 1 4 a0)
                        exact ok_some (show CI ad h.1 δ0 r2535 ∧ (kp [(1, 3), (1, 4), (1, 5), (1, 6), (1, 8), (1, 13), (1, 14), (1, 15)] δ r2535 ∧ q_V r2535 = q_V δ ∧ q_R r2535 = q_R δ) ∧ 0 ≤ (q_I r2535 1 3 a0).toInt ∧ (q_I r2535 1 4 a0).toInt ≤ (q_I δ 3 1 nu).toInt from ⟨i2537, ⟨kp_w (by decide) u2543, v2544, v2545⟩, by first | assumption | omega, by first | assumption | omega⟩)
                  · have c2548 : (q_I δ 1 8 a0).toInt ≠ (q_I δ 1 9 a0).toInt := o_ne h2442
                    unfold J_X1_goOnDropping_118
                    first | (have q2552 := te_subc (c := 1) (n := 1) rfl (q_I δ 1 12 a0) (by omega) (by omega); obtain ⟨f2553, f2554, f2555⟩ := q2552) | (obtain ⟨q2552, f2553, f2554, f2555⟩ := ti_subc (c := 1) (n := 1) rfl (q_I δ 1 12 a0))
                    refine ok_bind (k_X1_valueAt L hN (a0 := a0) (x1 := ((q_I δ 1 12 a0) - (1 : Int32))) k_a0 hnu knu (show 0 ≤ (((q_I δ 1 12 a0) - (1 : Int32))).toInt by first | assumption | omega) (show (((q_I δ 1 12 a0) - (1 : Int32))).toInt < (q_I δ 3 1 nu).toInt by first | assumption | omega) I) (fun r2549 hr2550 => ?_)
                    have i2556 := hr2550
                    try rw [i2556]
                    have f2557 := ti_b r2549.1
                    unfold J_X1_goOnDropping_121
                    refine ok_bind (k_X1_findRoom L hN (a0 := a0) (x1 := r2549.1) k_a0 hnu knu (show 0 ≤ (q_I δ 1 11 a0).toInt by first | assumption | omega) (show (q_I δ 1 11 a0).toInt ≤ (q_I δ 1 12 a0).toInt by first | assumption | omega) (show (q_I δ 1 12 a0).toInt ≤ (q_I δ 3 1 nu).toInt by first | assumption | omega) I) (fun r2558 hr2559 => ?_)
                    obtain ⟨i2560, ⟨u2566, u2567, u2568⟩, p2561, p2562, p2563, p2564, p2565⟩ := hr2559
                    have u2569 := kp_t kp_r u2566
                    have v2570 : q_V r2558.2 = q_V δ := (u2567).trans rfl
                    have v2571 : q_R r2558.2 = q_R δ := (u2568).trans rfl
                    have f2572 := bo_t p2561
                    have f2573 := ti_b (q_I r2558.2 1 13 a0)
                    have f2574 := ti_b (q_I r2558.2 1 14 a0)
                    have f2575 := ti_b r2558.1
                    have f2576 := ti_b r2558.1
                    refine ok_ite (fun h2577 => ?_) (fun h2577 => ?_)
                    · have c2578 : r2558.1.toInt = (0 : Int) := o_eq h2577
                      refine ok_bdv (fun d2579 e2580 => ?_)
                      have i2581 : CI ad h.1 δ0 d2579 := by rw [e2580]; exact cs_1_15 L i2560 k_a0 (show 0 ≤ (1 : Int) by omega) (show (1 : Int) ≤ 1 by omega)
                      have u2582 := kp_I u2569 e2580
                      have v2583 : q_V d2579 = q_V δ := ((show q_V d2579 = q_V r2558.2 by rw [e2580]; rfl)).trans v2570
                      have v2584 : q_R d2579 = q_R δ := ((show q_R d2579 = q_R r2558.2 by rw [e2580]; rfl)).trans v2571
                      have f2585 := ti_b (q_I d2579 1 3 a0)
                      have f2586 : (q_I d2579 1 3 a0).toInt = (q_I r2558.2 1 3 a0).toInt := congrArg Int32.toInt (by rw [e2580]; exact rI_o (by decide))
                      have f2587 := ti_b (q_I r2558.2 1 3 a0)
                      have f2588 : (q_I r2558.2 1 3 a0).toInt = (q_I δ 1 3 a0).toInt := congrArg Int32.toInt (u2566 1 3 a0 (by decide))
                      have f2589 := ti_b (q_I d2579 1 4 a0)
                      have f2590 : (q_I d2579 1 4 a0).toInt = (q_I r2558.2 1 4 a0).toInt := congrArg Int32.toInt (by rw [e2580]; exact rI_o (by decide))
                      have f2591 := ti_b (q_I r2558.2 1 4 a0)
                      have f2592 : (q_I r2558.2 1 4 a0).toInt = (q_I δ 1 4 a0).toInt := congrArg Int32.toInt (u2566 1 4 a0 (by decide))
                      exact ok_some (show CI ad h.1 δ0 d2579 ∧ (kp [(1, 3), (1, 4), (1, 5), (1, 6), (1, 8), (1, 13), (1, 14), (1, 15)] δ d2579 ∧ q_V d2579 = q_V δ ∧ q_R d2579 = q_R δ) ∧ 0 ≤ (q_I d2579 1 3 a0).toInt ∧ (q_I d2579 1 4 a0).toInt ≤ (q_I δ 3 1 nu).toInt from ⟨i2581, ⟨kp_w (by decide) u2582, v2583, v2584⟩, by first | assumption | omega, by first | assumption | omega⟩)
                    · have c2593 : r2558.1.toInt ≠ (0 : Int) := o_ne h2577
                      have f2596 := cb_3_1 i2560 knu o4
                      have f2597 : (q_I r2558.2 3 1 nu).toInt = (q_I δ 3 1 nu).toInt := congrArg Int32.toInt (u2566 3 1 nu (by decide))
                      refine ok_bind (k_X1_valueAt L hN (a0 := a0) (x1 := (q_I r2558.2 1 13 a0)) k_a0 hnu knu (show 0 ≤ ((q_I r2558.2 1 13 a0)).toInt by first | assumption | omega) (show ((q_I r2558.2 1 13 a0)).toInt < (q_I r2558.2 3 1 nu).toInt by first | assumption | omega) i2560) (fun r2594 hr2595 => ?_)
                      have i2598 := hr2595
                      try rw [i2598]
                      have f2599 := ti_b r2594.1
                      refine ok_ite (fun h2600 => ?_) (fun h2600 => ?_)
                      · have c2601 : r2594.1.toInt = r2549.1.toInt := o_eq h2600
                        first | (have q2605 := te_subc (c := 1) (n := 1) rfl (q_I r2558.2 1 14 a0) (by omega) (by omega); obtain ⟨f2606, f2607, f2608⟩ := q2605) | (obtain ⟨q2605, f2606, f2607, f2608⟩ := ti_subc (c := 1) (n := 1) rfl (q_I r2558.2 1 14 a0))
                        refine ok_bind (k_X1_valueAt L hN (a0 := a0) (x1 := ((q_I r2558.2 1 14 a0) - (1 : Int32))) k_a0 hnu knu (show 0 ≤ (((q_I r2558.2 1 14 a0) - (1 : Int32))).toInt by first | assumption | omega) (show (((q_I r2558.2 1 14 a0) - (1 : Int32))).toInt < (q_I r2558.2 3 1 nu).toInt by first | assumption | omega) i2560) (fun r2602 hr2603 => ?_)
                        have i2609 := hr2603
                        try rw [i2609]
                        have f2610 := ti_b r2602.1
                        refine ok_ite (fun h2611 => ?_) (fun h2611 => ?_)
                        · have c2612 : r2602.1.toInt = r2549.1.toInt := o_eq h2611
                          refine ok_bind (k_X1_enterList L hN (a0 := a0) (x1 := r2549.1) k_a0 i2560) (fun r2613 hr2614 => ?_)
                          obtain ⟨i2615, ⟨u2618, u2619, u2620⟩, p2616, p2617⟩ := hr2614
                          have u2621 := kp_t u2569 u2618
                          have v2622 : q_V r2613 = q_V δ := (u2619).trans v2570
                          have v2623 : q_R r2613 = q_R δ := (u2620).trans v2571
                          have f2624 := ti_b (q_I r2613 1 3 a0)
                          have f2625 := ti_b (q_I r2558.2 1 11 a0)
                          have f2626 : (q_I r2558.2 1 11 a0).toInt = (q_I δ 1 11 a0).toInt := congrArg Int32.toInt (u2566 1 11 a0 (by decide))
                          have f2627 := ti_b (q_I r2613 1 4 a0)
                          have f2628 := ti_b (q_I r2558.2 1 12 a0)
                          have f2629 : (q_I r2558.2 1 12 a0).toInt = (q_I δ 1 12 a0).toInt := congrArg Int32.toInt (u2566 1 12 a0 (by decide))
                          exact ok_some (show CI ad h.1 δ0 r2613 ∧ (kp [(1, 3), (1, 4), (1, 5), (1, 6), (1, 8), (1, 13), (1, 14), (1, 15)] δ r2613 ∧ q_V r2613 = q_V δ ∧ q_R r2613 = q_R δ) ∧ 0 ≤ (q_I r2613 1 3 a0).toInt ∧ (q_I r2613 1 4 a0).toInt ≤ (q_I δ 3 1 nu).toInt from ⟨i2615, ⟨kp_w (by decide) u2621, v2622, v2623⟩, by first | assumption | omega, by first | assumption | omega⟩)
                        · have c2630 : r2602.1.toInt ≠ r2549.1.toInt := o_ne h2611
                          unfold J_X1_goOnDropping_172
                          refine ok_bind (k_X1_enterRoom L hN (a0 := a0) (x1 := r2549.1) k_a0 i2560) (fun r2631 hr2632 => ?_)
                          obtain ⟨i2633, ⟨u2636, u2637, u2638⟩, p2634, p2635⟩ := hr2632
                          have u2639 := kp_t u2569 u2636
                          have v2640 : q_V r2631 = q_V δ := (u2637).trans v2570
                          have v2641 : q_R r2631 = q_R δ := (u2638).trans v2571
                          have f2642 := ti_b (q_I r2631 1 3 a0)
                          have f2643 := ti_b (q_I r2631 1 4 a0)
                          exact ok_some (show CI ad h.1 δ0 r2631 ∧ (kp [(1, 3), (1, 4), (1, 5), (1, 6), (1, 8), (1, 13), (1, 14), (1, 15)] δ r2631 ∧ q_V r2631 = q_V δ ∧ q_R r2631 = q_R δ) ∧ 0 ≤ (q_I r2631 1 3 a0).toInt ∧ (q_I r2631 1 4 a0).toInt ≤ (q_I δ 3 1 nu).toInt from ⟨i2633, ⟨kp_w (by decide) u2639, v2640, v2641⟩, by first | assumption | omega, by first | assumption | omega⟩)
                      · have c2644 : r2594.1.toInt ≠ r2549.1.toInt := o_ne h2600
                        unfold J_X1_goOnDropping_172
                        refine ok_bind (k_X1_enterRoom L hN (a0 := a0) (x1 := r2549.1) k_a0 i2560) (fun r2645 hr2646 => ?_)
                        obtain ⟨i2647, ⟨u2650, u2651, u2652⟩, p2648, p2649⟩ := hr2646
                        have u2653 := kp_t u2569 u2650
                        have v2654 : q_V r2645 = q_V δ := (u2651).trans v2570
                        have v2655 : q_R r2645 = q_R δ := (u2652).trans v2571
                        have f2656 := ti_b (q_I r2645 1 3 a0)
                        have f2657 := ti_b (q_I r2645 1 4 a0)
                        exact ok_some (show CI ad h.1 δ0 r2645 ∧ (kp [(1, 3), (1, 4), (1, 5), (1, 6), (1, 8), (1, 13), (1, 14), (1, 15)] δ r2645 ∧ q_V r2645 = q_V δ ∧ q_R r2645 = q_R δ) ∧ 0 ≤ (q_I r2645 1 3 a0).toInt ∧ (q_I r2645 1 4 a0).toInt ≤ (q_I δ 3 1 nu).toInt from ⟨i2647, ⟨kp_w (by decide) u2653, v2654, v2655⟩, by first | assumption | omega, by first | assumption | omega⟩)
            · have c2658 : (q_I δ 1 12 a0).toInt ≤ (q_I δ 1 11 a0).toInt := o_nlt h2015
              unfold J_X1_goOnDropping_65
              refine ok_bdv (fun d2659 e2660 => ?_)
              have i2661 : CI ad h.1 δ0 d2659 := by rw [e2660]; exact cs_1_15 L I k_a0 (show 0 ≤ (1 : Int) by omega) (show (1 : Int) ≤ 1 by omega)
              have u2662 := kp_I kp_r e2660
              have v2663 : q_V d2659 = q_V δ := ((show q_V d2659 = q_V δ by rw [e2660]; rfl)).trans rfl
              have v2664 : q_R d2659 = q_R δ := ((show q_R d2659 = q_R δ by rw [e2660]; rfl)).trans rfl
              have f2665 := ti_b (q_I d2659 1 3 a0)
              have f2666 : (q_I d2659 1 3 a0).toInt = (q_I δ 1 3 a0).toInt := congrArg Int32.toInt (by rw [e2660]; exact rI_o (by decide))
              have f2667 := ti_b (q_I d2659 1 4 a0)
              have f2668 : (q_I d2659 1 4 a0).toInt = (q_I δ 1 4 a0).toInt := congrArg Int32.toInt (by rw [e2660]; exact rI_o (by decide))
              exact ok_some (show CI ad h.1 δ0 d2659 ∧ (kp [(1, 3), (1, 4), (1, 5), (1, 6), (1, 8), (1, 13), (1, 14), (1, 15)] δ d2659 ∧ q_V d2659 = q_V δ ∧ q_R d2659 = q_R δ) ∧ 0 ≤ (q_I d2659 1 3 a0).toInt ∧ (q_I d2659 1 4 a0).toInt ≤ (q_I δ 3 1 nu).toInt from ⟨i2661, ⟨kp_w (by decide) u2662, v2663, v2664⟩, by first | assumption | omega, by first | assumption | omega⟩)
    · have c2669 : (q_I δ 1 8 a0).toInt ≠ (q_I δ 1 10 a0).toInt := o_ne h1343
      unfold J_X1_goOnDropping_27
      refine ok_ite (fun h2670 => ?_) (fun h2670 => ?_)
      · have c2671 : (q_I δ 1 8 a0).toInt < (q_I δ 1 9 a0).toInt := o_lt h2670
        unfold J_X1_goOnDropping_65
        refine ok_bdv (fun d2672 e2673 => ?_)
        have i2674 : CI ad h.1 δ0 d2672 := by rw [e2673]; exact cs_1_15 L I k_a0 (show 0 ≤ (1 : Int) by omega) (show (1 : Int) ≤ 1 by omega)
        have u2675 := kp_I kp_r e2673
        have v2676 : q_V d2672 = q_V δ := ((show q_V d2672 = q_V δ by rw [e2673]; rfl)).trans rfl
        have v2677 : q_R d2672 = q_R δ := ((show q_R d2672 = q_R δ by rw [e2673]; rfl)).trans rfl
        have f2678 := ti_b (q_I d2672 1 3 a0)
        have f2679 : (q_I d2672 1 3 a0).toInt = (q_I δ 1 3 a0).toInt := congrArg Int32.toInt (by rw [e2673]; exact rI_o (by decide))
        have f2680 := ti_b (q_I d2672 1 4 a0)
        have f2681 : (q_I d2672 1 4 a0).toInt = (q_I δ 1 4 a0).toInt := congrArg Int32.toInt (by rw [e2673]; exact rI_o (by decide))
        exact ok_some (show CI ad h.1 δ0 d2672 ∧ (kp [(1, 3), (1, 4), (1, 5), (1, 6), (1, 8), (1, 13), (1, 14), (1, 15)] δ d2672 ∧ q_V d2672 = q_V δ ∧ q_R d2672 = q_R δ) ∧ 0 ≤ (q_I d2672 1 3 a0).toInt ∧ (q_I d2672 1 4 a0).toInt ≤ (q_I δ 3 1 nu).toInt from ⟨i2674, ⟨kp_w (by decide) u2675, v2676, v2677⟩, by first | assumption | omega, by first | assumption | omega⟩)
      · have c2682 : (q_I δ 1 9 a0).toInt ≤ (q_I δ 1 8 a0).toInt := o_nlt h2670
        refine ok_ite (fun h2683 => ?_) (fun h2683 => ?_)
        · have c2684 : (q_I δ 1 10 a0).toInt < (q_I δ 1 8 a0).toInt := o_lt h2683
          unfold J_X1_goOnDropping_65
          refine ok_bdv (fun d2685 e2686 => ?_)
          have i2687 : CI ad h.1 δ0 d2685 := by rw [e2686]; exact cs_1_15 L I k_a0 (show 0 ≤ (1 : Int) by omega) (show (1 : Int) ≤ 1 by omega)
          have u2688 := kp_I kp_r e2686
          have v2689 : q_V d2685 = q_V δ := ((show q_V d2685 = q_V δ by rw [e2686]; rfl)).trans rfl
          have v2690 : q_R d2685 = q_R δ := ((show q_R d2685 = q_R δ by rw [e2686]; rfl)).trans rfl
          have f2691 := ti_b (q_I d2685 1 3 a0)
          have f2692 : (q_I d2685 1 3 a0).toInt = (q_I δ 1 3 a0).toInt := congrArg Int32.toInt (by rw [e2686]; exact rI_o (by decide))
          have f2693 := ti_b (q_I d2685 1 4 a0)
          have f2694 : (q_I d2685 1 4 a0).toInt = (q_I δ 1 4 a0).toInt := congrArg Int32.toInt (by rw [e2686]; exact rI_o (by decide))
          exact ok_some (show CI ad h.1 δ0 d2685 ∧ (kp [(1, 3), (1, 4), (1, 5), (1, 6), (1, 8), (1, 13), (1, 14), (1, 15)] δ d2685 ∧ q_V d2685 = q_V δ ∧ q_R d2685 = q_R δ) ∧ 0 ≤ (q_I d2685 1 3 a0).toInt ∧ (q_I d2685 1 4 a0).toInt ≤ (q_I δ 3 1 nu).toInt from ⟨i2687, ⟨kp_w (by decide) u2688, v2689, v2690⟩, by first | assumption | omega, by first | assumption | omega⟩)
        · have c2695 : (q_I δ 1 8 a0).toInt ≤ (q_I δ 1 10 a0).toInt := o_nlt h2683
          refine ok_ite (fun h2696 => ?_) (fun h2696 => ?_)
          · have c2697 : (0 : Int) = (0 : Int) := o_eq h2696
            unfold J_X1_goOnDropping_72
            refine ok_ite (fun h2698 => ?_) (fun h2698 => ?_)
            · have c2699 : (0 : Int) = (0 : Int) := o_eq h2698
              unfold J_X1_goOnDropping_81
              refine ok_ite (fun h2700 => ?_) (fun h2700 => ?_)
              · have c2701 : (0 : Int) = (0 : Int) := o_eq h2700
                unfold J_X1_goOnDropping_121
                refine ok_bind (k_X1_findRoom L hN (a0 := a0) (x1 := (q_I δ 1 8 a0)) k_a0 hnu knu (show 0 ≤ (q_I δ 1 11 a0).toInt by first | assumption | omega) (show (q_I δ 1 11 a0).toInt ≤ (q_I δ 1 12 a0).toInt by first | assumption | omega) (show (q_I δ 1 12 a0).toInt ≤ (q_I δ 3 1 nu).toInt by first | assumption | omega) I) (fun r2702 hr2703 => ?_)
                obtain ⟨i2704, ⟨u2710, u2711, u2712⟩, p2705, p2706, p2707, p2708, p2709⟩ := hr2703
                have u2713 := kp_t kp_r u2710
                have v2714 : q_V r2702.2 = q_V δ := (u2711).trans rfl
                have v2715 : q_R r2702.2 = q_R δ := (u2712).trans rfl
                have f2716 := bo_t p2705
                have f2717 := ti_b (q_I r2702.2 1 13 a0)
                have f2718 := ti_b (q_I r2702.2 1 14 a0)
                have f2719 := ti_b r2702.1
                have f2720 := ti_b r2702.1
                refine ok_ite (fun h2721 => ?_) (fun h2721 => ?_)
                · have c2722 : r2702.1.toInt = (0 : Int) := o_eq h2721
                  refine ok_bdv (fun d2723 e2724 => ?_)
                  have i2725 : CI ad h.1 δ0 d2723 := by rw [e2724]; exact cs_1_15 L i2704 k_a0 (show 0 ≤ (1 : Int) by omega) (show (1 : Int) ≤ 1 by omega)
                  have u2726 := kp_I u2713 e2724
                  have v2727 : q_V d2723 = q_V δ := ((show q_V d2723 = q_V r2702.2 by rw [e2724]; rfl)).trans v2714
                  have v2728 : q_R d2723 = q_R δ := ((show q_R d2723 = q_R r2702.2 by rw [e2724]; rfl)).trans v2715
                  have f2729 := ti_b (q_I d2723 1 3 a0)
                  have f2730 : (q_I d2723 1 3 a0).toInt = (q_I r2702.2 1 3 a0).toInt := congrArg Int32.toInt (by rw [e2724]; exact rI_o (by decide))
                  have f2731 := ti_b (q_I r2702.2 1 3 a0)
                  have f2732 : (q_I r2702.2 1 3 a0).toInt = (q_I δ 1 3 a0).toInt := congrArg Int32.toInt (u2710 1 3 a0 (by decide))
                  have f2733 := ti_b (q_I d2723 1 4 a0)
                  have f2734 : (q_I d2723 1 4 a0).toInt = (q_I r2702.2 1 4 a0).toInt := congrArg Int32.toInt (by rw [e2724]; exact rI_o (by decide))
                  have f2735 := ti_b (q_I r2702.2 1 4 a0)
                  have f2736 : (q_I r2702.2 1 4 a0).toInt = (q_I δ 1 4 a0).toInt := congrArg Int32.toInt (u2710 1 4 a0 (by decide))
                  exact ok_some (show CI ad h.1 δ0 d2723 ∧ (kp [(1, 3), (1, 4), (1, 5), (1, 6), (1, 8), (1, 13), (1, 14), (1, 15)] δ d2723 ∧ q_V d2723 = q_V δ ∧ q_R d2723 = q_R δ) ∧ 0 ≤ (q_I d2723 1 3 a0).toInt ∧ (q_I d2723 1 4 a0).toInt ≤ (q_I δ 3 1 nu).toInt from ⟨i2725, ⟨kp_w (by decide) u2726, v2727, v2728⟩, by first | assumption | omega, by first | assumption | omega⟩)
                · have c2737 : r2702.1.toInt ≠ (0 : Int) := o_ne h2721
                  have f2740 := cb_3_1 i2704 knu o4
                  have f2741 : (q_I r2702.2 3 1 nu).toInt = (q_I δ 3 1 nu).toInt := congrArg Int32.toInt (u2710 3 1 nu (by decide))
                  refine ok_bind (k_X1_valueAt L hN (a0 := a0) (x1 := (q_I r2702.2 1 13 a0)) k_a0 hnu knu (show 0 ≤ ((q_I r2702.2 1 13 a0)).toInt by first | assumption | omega) (show ((q_I r2702.2 1 13 a0)).toInt < (q_I r2702.2 3 1 nu).toInt by first | assumption | omega) i2704) (fun r2738 hr2739 => ?_)
                  have i2742 := hr2739
                  try rw [i2742]
                  have f2743 := ti_b r2738.1
                  refine ok_ite (fun h2744 => ?_) (fun h2744 => ?_)
                  · have c2745 : r2738.1.toInt = (q_I δ 1 8 a0).toInt := o_eq h2744
                    first | (have q2749 := te_subc (c := 1) (n := 1) rfl (q_I r2702.2 1 14 a0) (by omega) (by omega); obtain ⟨f2750, f2751, f2752⟩ := q2749) | (obtain ⟨q2749, f2750, f2751, f2752⟩ := ti_subc (c := 1) (n := 1) rfl (q_I r2702.2 1 14 a0))
                    refine ok_bind (k_X1_valueAt L hN (a0 := a0) (x1 := ((q_I r2702.2 1 14 a0) - (1 : Int32))) k_a0 hnu knu (show 0 ≤ (((q_I r2702.2 1 14 a0) - (1 : Int32))).toInt by first | assumption | omega) (show (((q_I r2702.2 1 14 a0) - (1 : Int32))).toInt < (q_I r2702.2 3 1 nu).toInt by first | assumption | omega) i2704) (fun r2746 hr2747 => ?_)
                    have i2753 := hr2747
                    try rw [i2753]
                    have f2754 := ti_b r2746.1
                    refine ok_ite (fun h2755 => ?_) (fun h2755 => ?_)
                    · have c2756 : r2746.1.toInt = (q_I δ 1 8 a0).toInt := o_eq h2755
                      refine ok_bind (k_X1_enterList L hN (a0 := a0) (x1 := (q_I δ 1 8 a0)) k_a0 i2704) (fun r2757 hr2758 => ?_)
                      obtain ⟨i2759, ⟨u2762, u2763, u2764⟩, p2760, p2761⟩ := hr2758
                      have u2765 := kp_t u2713 u2762
                      have v2766 : q_V r2757 = q_V δ := (u2763).trans v2714
                      have v2767 : q_R r2757 = q_R δ := (u2764).trans v2715
                      have f2768 := ti_b (q_I r2757 1 3 a0)
                      have f2769 := ti_b (q_I r2702.2 1 11 a0)
                      have f2770 : (q_I r2702.2 1 11 a0).toInt = (q_I δ 1 11 a0).toInt := congrArg Int32.toInt (u2710 1 11 a0 (by decide))
                      have f2771 := ti_b (q_I r2757 1 4 a0)
                      have f2772 := ti_b (q_I r2702.2 1 12 a0)
                      have f2773 : (q_I r2702.2 1 12 a0).toInt = (q_I δ 1 12 a0).toInt := congrArg Int32.toInt (u2710 1 12 a0 (by decide))
                      exact ok_some (show CI ad h.1 δ0 r2757 ∧ (kp [(1, 3), (1, 4), (1, 5), (1, 6), (1, 8), (1, 13), (1, 14), (1, 15)] δ r2757 ∧ q_V r2757 = q_V δ ∧ q_R r2757 = q_R δ) ∧ 0 ≤ (q_I r2757 1 3 a0).toInt ∧ (q_I r2757 1 4 a0).toInt ≤ (q_I δ 3 1 nu).toInt from ⟨i2759, ⟨kp_w (by decide) u2765, v2766, v2767⟩, by first | assumption | omega, by first | assumption | omega⟩)
                    · have c2774 : r2746.1.toInt ≠ (q_I δ 1 8 a0).toInt := o_ne h2755
                      unfold J_X1_goOnDropping_172
                      refine ok_bind (k_X1_enterRoom L hN (a0 := a0) (x1 := (q_I δ 1 8 a0)) k_a0 i2704) (fun r2775 hr2776 => ?_)
                      obtain ⟨i2777, ⟨u2780, u2781, u2782⟩, p2778, p2779⟩ := hr2776
                      have u2783 := kp_t u2713 u2780
                      have v2784 : q_V r2775 = q_V δ := (u2781).trans v2714
                      have v2785 : q_R r2775 = q_R δ := (u2782).trans v2715
                      have f2786 := ti_b (q_I r2775 1 3 a0)
                      have f2787 := ti_b (q_I r2775 1 4 a0)
                      exact ok_some (show CI ad h.1 δ0 r2775 ∧ (kp [(1, 3), (1, 4), (1, 5), (1, 6), (1, 8), (1, 13), (1, 14), (1, 15)] δ r2775 ∧ q_V r2775 = q_V δ ∧ q_R r2775 = q_R δ) ∧ 0 ≤ (q_I r2775 1 3 a0).toInt ∧ (q_I r2775 1 4 a0).toInt ≤ (q_I δ 3 1 nu).toInt from ⟨i2777, ⟨kp_w (by decide) u2783, v2784, v2785⟩, by first | assumption | omega, by first | assumption | omega⟩)
                  · have c2788 : r2738.1.toInt ≠ (q_I δ 1 8 a0).toInt := o_ne h2744
                    unfold J_X1_goOnDropping_172
                    refine ok_bind (k_X1_enterRoom L hN (a0 := a0) (x1 := (q_I δ 1 8 a0)) k_a0 i2704) (fun r2789 hr2790 => ?_)
                    obtain ⟨i2791, ⟨u2794, u2795, u2796⟩, p2792, p2793⟩ := hr2790
                    have u2797 := kp_t u2713 u2794
                    have v2798 : q_V r2789 = q_V δ := (u2795).trans v2714
                    have v2799 : q_R r2789 = q_R δ := (u2796).trans v2715
                    have f2800 := ti_b (q_I r2789 1 3 a0)
                    have f2801 := ti_b (q_I r2789 1 4 a0)
                    exact ok_some (show CI ad h.1 δ0 r2789 ∧ (kp [(1, 3), (1, 4), (1, 5), (1, 6), (1, 8), (1, 13), (1, 14), (1, 15)] δ r2789 ∧ q_V r2789 = q_V δ ∧ q_R r2789 = q_R δ) ∧ 0 ≤ (q_I r2789 1 3 a0).toInt ∧ (q_I r2789 1 4 a0).toInt ≤ (q_I δ 3 1 nu).toInt from ⟨i2791, ⟨kp_w (by decide) u2797, v2798, v2799⟩, by first | assumption | omega, by first | assumption | omega⟩)
              · have c2802 : (0 : Int) ≠ (0 : Int) := o_ne h2700
                refine ok_ite (fun h2803 => ?_) (fun h2803 => ?_)
                · have c2804 : (q_I δ 1 8 a0).toInt = (q_I δ 1 9 a0).toInt := o_eq h2803
                  unfold J_X1_goOnDropping_118
                  refine ok_bind (k_X1_valueAt L hN (a0 := a0) (x1 := (q_I δ 1 11 a0)) k_a0 hnu knu (show 0 ≤ ((q_I δ 1 11 a0)).toInt by first | assumption | omega) (show ((q_I δ 1 11 a0)).toInt < (q_I δ 3 1 nu).toInt by first | assumption | omega) I) (fun r2805 hr2806 => ?_)
                  have i2807 := hr2806
                  try rw [i2807]
                  have f2808 := ti_b r2805.1
                  unfold J_X1_goOnDropping_121
                  refine ok_bind (k_X1_findRoom L hN (a0 := a0) (x1 := r2805.1) k_a0 hnu knu (show 0 ≤ (q_I δ 1 11 a0).toInt by first | assumption | omega) (show (q_I δ 1 11 a0).toInt ≤ (q_I δ 1 12 a0).toInt by first | assumption | omega) (show (q_I δ 1 12 a0).toInt ≤ (q_I δ 3 1 nu).toInt by first | assumption | omega) I) (fun r2809 hr2810 => ?_)
                  obtain ⟨i2811, ⟨u2817, u2818, u2819⟩, p2812, p2813, p2814, p2815, p2816⟩ := hr2810
                  have u2820 := kp_t kp_r u2817
                  have v2821 : q_V r2809.2 = q_V δ := (u2818).trans rfl
                  have v2822 : q_R r2809.2 = q_R δ := (u2819).trans rfl
                  have f2823 := bo_t p2812
                  have f2824 := ti_b (q_I r2809.2 1 13 a0)
                  have f2825 := ti_b (q_I r2809.2 1 14 a0)
                  have f2826 := ti_b r2809.1
                  have f2827 := ti_b r2809.1
                  refine ok_ite (fun h2828 => ?_) (fun h2828 => ?_)
                  · have c2829 : r2809.1.toInt = (0 : Int) := o_eq h2828
                    refine ok_bdv (fun d2830 e2831 => ?_)
                    have i2832 : CI ad h.1 δ0 d2830 := by rw [e2831]; exact cs_1_15 L i2811 k_a0 (show 0 ≤ (1 : Int) by omega) (show (1 : Int) ≤ 1 by omega)
                    have u2833 := kp_I u2820 e2831
                    have v2834 : q_V d2830 = q_V δ := ((show q_V d2830 = q_V r2809.2 by rw [e2831]; rfl)).trans v2821
                    have v2835 : q_R d2830 = q_R δ := ((show q_R d2830 = q_R r2809.2 by rw [e2831]; rfl)).trans v2822
                    have f2836 := ti_b (q_I d2830 1 3 a0)
                    have f2837 : (q_I d2830 1 3 a0).toInt = (q_I r2809.2 1 3 a0).toInt := congrArg Int32.toInt (by rw [e2831]; exact rI_o (by decide))
                    have f2838 := ti_b (q_I r2809.2 1 3 a0)
                    have f2839 : (q_I r2809.2 1 3 a0).toInt = (q_I δ 1 3 a0).toInt := congrArg Int32.toInt (u2817 1 3 a0 (by decide))
                    have f2840 := ti_b (q_I d2830 1 4 a0)
                    have f2841 : (q_I d2830 1 4 a0).toInt = (q_I r2809.2 1 4 a0).toInt := congrArg Int32.toInt (by rw [e2831]; exact rI_o (by decide))
                    have f2842 := ti_b (q_I r2809.2 1 4 a0)
                    have f2843 : (q_I r2809.2 1 4 a0).toInt = (q_I δ 1 4 a0).toInt := congrArg Int32.toInt (u2817 1 4 a0 (by decide))
                    exact ok_some (show CI ad h.1 δ0 d2830 ∧ (kp [(1, 3), (1, 4), (1, 5), (1, 6), (1, 8), (1, 13), (1, 14), (1, 15)] δ d2830 ∧ q_V d2830 = q_V δ ∧ q_R d2830 = q_R δ) ∧ 0 ≤ (q_I d2830 1 3 a0).toInt ∧ (q_I d2830 1 4 a0).toInt ≤ (q_I δ 3 1 nu).toInt from ⟨i2832, ⟨kp_w (by decide) u2833, v2834, v2835⟩, by first | assumption | omega, by first | assumption | omega⟩)
                  · have c2844 : r2809.1.toInt ≠ (0 : Int) := o_ne h2828
                    have f2847 := cb_3_1 i2811 knu o4
                    have f2848 : (q_I r2809.2 3 1 nu).toInt = (q_I δ 3 1 nu).toInt := congrArg Int32.toInt (u2817 3 1 nu (by decide))
                    refine ok_bind (k_X1_valueAt L hN (a0 := a0) (x1 := (q_I r2809.2 1 13 a0)) k_a0 hnu knu (show 0 ≤ ((q_I r2809.2 1 13 a0)).toInt by first | assumption | omega) (show ((q_I r2809.2 1 13 a0)).toInt < (q_I r2809.2 3 1 nu).toInt by first | assumption | omega) i2811) (fun r2845 hr2846 => ?_)
                    have i2849 := hr2846
                    try rw [i2849]
                    have f2850 := ti_b r2845.1
                    refine ok_ite (fun h2851 => ?_) (fun h2851 => ?_)
                    · have c2852 : r2845.1.toInt = r2805.1.toInt := o_eq h2851
                      first | (have q2856 := te_subc (c := 1) (n := 1) rfl (q_I r2809.2 1 14 a0) (by omega) (by omega); obtain ⟨f2857, f2858, f2859⟩ := q2856) | (obtain ⟨q2856, f2857, f2858, f2859⟩ := ti_subc (c := 1) (n := 1) rfl (q_I r2809.2 1 14 a0))
                      refine ok_bind (k_X1_valueAt L hN (a0 := a0) (x1 := ((q_I r2809.2 1 14 a0) - (1 : Int32))) k_a0 hnu knu (show 0 ≤ (((q_I r2809.2 1 14 a0) - (1 : Int32))).toInt by first | assumption | omega) (show (((q_I r2809.2 1 14 a0) - (1 : Int32))).toInt < (q_I r2809.2 3 1 nu).toInt by first | assumption | omega) i2811) (fun r2853 hr2854 => ?_)
                      have i2860 := hr2854
                      try rw [i2860]
                      have f2861 := ti_b r2853.1
                      refine ok_ite (fun h2862 => ?_) (fun h2862 => ?_)
                      · have c2863 : r2853.1.toInt = r2805.1.toInt := o_eq h2862
                        refine ok_bind (k_X1_enterList L hN (a0 := a0) (x1 := r2805.1) k_a0 i2811) (fun r2864 hr2865 => ?_)
                        obtain ⟨i2866, ⟨u2869, u2870, u2871⟩, p2867, p2868⟩ := hr2865
                        have u2872 := kp_t u2820 u2869
                        have v2873 : q_V r2864 = q_V δ := (u2870).trans v2821
                        have v2874 : q_R r2864 = q_R δ := (u2871).trans v2822
                        have f2875 := ti_b (q_I r2864 1 3 a0)
                        have f2876 := ti_b (q_I r2809.2 1 11 a0)
                        have f2877 : (q_I r2809.2 1 11 a0).toInt = (q_I δ 1 11 a0).toInt := congrArg Int32.toInt (u2817 1 11 a0 (by decide))
                        have f2878 := ti_b (q_I r2864 1 4 a0)
                        have f2879 := ti_b (q_I r2809.2 1 12 a0)
                        have f2880 : (q_I r2809.2 1 12 a0).toInt = (q_I δ 1 12 a0).toInt := congrArg Int32.toInt (u2817 1 12 a0 (by decide))
                        exact ok_some (show CI ad h.1 δ0 r2864 ∧ (kp [(1, 3), (1, 4), (1, 5), (1, 6), (1, 8), (1, 13), (1, 14), (1, 15)] δ r2864 ∧ q_V r2864 = q_V δ ∧ q_R r2864 = q_R δ) ∧ 0 ≤ (q_I r2864 1 3 a0).toInt ∧ (q_I r2864 1 4 a0).toInt ≤ (q_I δ 3 1 nu).toInt from ⟨i2866, ⟨kp_w (by decide) u2872, v2873, v2874⟩, by first | assumption | omega, by first | assumption | omega⟩)
                      · have c2881 : r2853.1.toInt ≠ r2805.1.toInt := o_ne h2862
                        unfold J_X1_goOnDropping_172
                        refine ok_bind (k_X1_enterRoom L hN (a0 := a0) (x1 := r2805.1) k_a0 i2811) (fun r2882 hr2883 => ?_)
                        obtain ⟨i2884, ⟨u2887, u2888, u2889⟩, p2885, p2886⟩ := hr2883
                        have u2890 := kp_t u2820 u2887
                        have v2891 : q_V r2882 = q_V δ := (u2888).trans v2821
                        have v2892 : q_R r2882 = q_R δ := (u2889).trans v2822
                        have f2893 := ti_b (q_I r2882 1 3 a0)
                        have f2894 := ti_b (q_I r2882 1 4 a0)
                        exact ok_some (show CI ad h.1 δ0 r2882 ∧ (kp [(1, 3), (1, 4), (1, 5), (1, 6), (1, 8), (1, 13), (1, 14), (1, 15)] δ r2882 ∧ q_V r2882 = q_V δ ∧ q_R r2882 = q_R δ) ∧ 0 ≤ (q_I r2882 1 3 a0).toInt ∧ (q_I r2882 1 4 a0).toInt ≤ (q_I δ 3 1 nu).toInt from ⟨i2884, ⟨kp_w (by decide) u2890, v2891, v2892⟩, by first | assumption | omega, by first | assumption | omega⟩)
                    · have c2895 : r2845.1.toInt ≠ r2805.1.toInt := o_ne h2851
                      unfold J_X1_goOnDropping_172
                      refine ok_bind (k_X1_enterRoom L hN (a0 := a0) (x1 := r2805.1) k_a0 i2811) (fun r2896 hr2897 => ?_)
                      obtain ⟨i2898, ⟨u2901, u2902, u2903⟩, p2899, p2900⟩ := hr2897
                      have u2904 := kp_t u2820 u2901
                      have v2905 : q_V r2896 = q_V δ := (u2902).trans v2821
                      have v2906 : q_R r2896 = q_R δ := (u2903).trans v2822
                      have f2907 := ti_b (q_I r2896 1 3 a0)
                      have f2908 := ti_b (q_I r2896 1 4 a0)
                      exact ok_some (show CI ad h.1 δ0 r2896 ∧ (kp [(1, 3), (1, 4), (1, 5), (1, 6), (1, 8), (1, 13), (1, 14), (1, 15)] δ r2896 ∧ q_V r2896 = q_V δ ∧ q_R r2896 = q_R δ) ∧ 0 ≤ (q_I r2896 1 3 a0).toInt ∧ (q_I r2896 1 4 a0).toInt ≤ (q_I δ 3 1 nu).toInt from ⟨i2898, ⟨kp_w (by decide) u2904, v2905, v2906⟩, by first | assumption | omega, by first | assumption | omega⟩)
                · have c2909 : (q_I δ 1 8 a0).toInt ≠ (q_I δ 1 9 a0).toInt := o_ne h2803
                  unfold J_X1_goOnDropping_118
                  first | (have q2913 := te_subc (c := 1) (n := 1) rfl (q_I δ 1 12 a0) (by omega) (by omega); obtain ⟨f2914, f2915, f2916⟩ := q2913) | (obtain ⟨q2913, f2914, f2915, f2916⟩ := ti_subc (c := 1) (n := 1) rfl (q_I δ 1 12 a0))
                  refine ok_bind (k_X1_valueAt L hN (a0 := a0) (x1 := ((q_I δ 1 12 a0) - (1 : Int32))) k_a0 hnu knu (show 0 ≤ (((q_I δ 1 12 a0) - (1 : Int32))).toInt by first | assumption | omega) (show (((q_I δ 1 12 a0) - (1 : Int32))).toInt < (q_I δ 3 1 nu).toInt by first | assumption | omega) I) (fun r2910 hr2911 => ?_)
                  have i2917 := hr2911
                  try rw [i2917]
                  have f2918 := ti_b r2910.1
                  unfold J_X1_goOnDropping_121
                  refine ok_bind (k_X1_findRoom L hN (a0 := a0) (x1 := r2910.1) k_a0 hnu knu (show 0 ≤ (q_I δ 1 11 a0).toInt by first | assumption | omega) (show (q_I δ 1 11 a0).toInt ≤ (q_I δ 1 12 a0).toInt by first | assumption | omega) (show (q_I δ 1 12 a0).toInt ≤ (q_I δ 3 1 nu).toInt by first | assumption | omega) I) (fun r2919 hr2920 => ?_)
                  obtain ⟨i2921, ⟨u2927, u2928, u2929⟩, p2922, p2923, p2924, p2925, p2926⟩ := hr2920
                  have u2930 := kp_t kp_r u2927
                  have v2931 : q_V r2919.2 = q_V δ := (u2928).trans rfl
                  have v2932 : q_R r2919.2 = q_R δ := (u2929).trans rfl
                  have f2933 := bo_t p2922
                  have f2934 := ti_b (q_I r2919.2 1 13 a0)
                  have f2935 := ti_b (q_I r2919.2 1 14 a0)
                  have f2936 := ti_b r2919.1
                  have f2937 := ti_b r2919.1
                  refine ok_ite (fun h2938 => ?_) (fun h2938 => ?_)
                  · have c2939 : r2919.1.toInt = (0 : Int) := o_eq h2938
                    refine ok_bdv (fun d2940 e2941 => ?_)
                    have i2942 : CI ad h.1 δ0 d2940 := by rw [e2941]; exact cs_1_15 L i2921 k_a0 (show 0 ≤ (1 : Int) by omega) (show (1 : Int) ≤ 1 by omega)
                    have u2943 := kp_I u2930 e2941
                    have v2944 : q_V d2940 = q_V δ := ((show q_V d2940 = q_V r2919.2 by rw [e2941]; rfl)).trans v2931
                    have v2945 : q_R d2940 = q_R δ := ((show q_R d2940 = q_R r2919.2 by rw [e2941]; rfl)).trans v2932
                    have f2946 := ti_b (q_I d2940 1 3 a0)
                    have f2947 : (q_I d2940 1 3 a0).toInt = (q_I r2919.2 1 3 a0).toInt := congrArg Int32.toInt (by rw [e2941]; exact rI_o (by decide))
                    have f2948 := ti_b (q_I r2919.2 1 3 a0)
                    have f2949 : (q_I r2919.2 1 3 a0).toInt = (q_I δ 1 3 a0).toInt := congrArg Int32.toInt (u2927 1 3 a0 (by decide))
                    have f2950 := ti_b (q_I d2940 1 4 a0)
                    have f2951 : (q_I d2940 1 4 a0).toInt = (q_I r2919.2 1 4 a0).toInt := congrArg Int32.toInt (by rw [e2941]; exact rI_o (by decide))
                    have f2952 := ti_b (q_I r2919.2 1 4 a0)
                    have f2953 : (q_I r2919.2 1 4 a0).toInt = (q_I δ 1 4 a0).toInt := congrArg Int32.toInt (u2927 1 4 a0 (by decide))
                    exact ok_some (show CI ad h.1 δ0 d2940 ∧ (kp [(1, 3), (1, 4), (1, 5), (1, 6), (1, 8), (1, 13), (1, 14), (1, 15)] δ d2940 ∧ q_V d2940 = q_V δ ∧ q_R d2940 = q_R δ) ∧ 0 ≤ (q_I d2940 1 3 a0).toInt ∧ (q_I d2940 1 4 a0).toInt ≤ (q_I δ 3 1 nu).toInt from ⟨i2942, ⟨kp_w (by decide) u2943, v2944, v2945⟩, by first | assumption | omega, by first | assumption | omega⟩)
                  · have c2954 : r2919.1.toInt ≠ (0 : Int) := o_ne h2938
                    have f2957 := cb_3_1 i2921 knu o4
                    have f2958 : (q_I r2919.2 3 1 nu).toInt = (q_I δ 3 1 nu).toInt := congrArg Int32.toInt (u2927 3 1 nu (by decide))
                    refine ok_bind (k_X1_valueAt L hN (a0 := a0) (x1 := (q_I r2919.2 1 13 a0)) k_a0 hnu knu (show 0 ≤ ((q_I r2919.2 1 13 a0)).toInt by first | assumption | omega) (show ((q_I r2919.2 1 13 a0)).toInt < (q_I r2919.2 3 1 nu).toInt by first | assumption | omega) i2921) (fun r2955 hr2956 => ?_)
                    have i2959 := hr2956
                    try rw [i2959]
                    have f2960 := ti_b r2955.1
                    refine ok_ite (fun h2961 => ?_) (fun h2961 => ?_)
                    · have c2962 : r2955.1.toInt = r2910.1.toInt := o_eq h2961
                      first | (have q2966 := te_subc (c := 1) (n := 1) rfl (q_I r2919.2 1 14 a0) (by omega) (by omega); obtain ⟨f2967, f2968, f2969⟩ := q2966) | (obtain ⟨q2966, f2967, f2968, f2969⟩ := ti_subc (c := 1) (n := 1) rfl (q_I r2919.2 1 14 a0))
                      refine ok_bind (k_X1_valueAt L hN (a0 := a0) (x1 := ((q_I r2919.2 1 14 a0) - (1 : Int32))) k_a0 hnu knu (show 0 ≤ (((q_I r2919.2 1 14 a0) - (1 : Int32))).toInt by first | assumption | omega) (show (((q_I r2919.2 1 14 a0) - (1 : Int32))).toInt < (q_I r2919.2 3 1 nu).toInt by first | assumption | omega) i2921) (fun r2963 hr2964 => ?_)
                      have i2970 := hr2964
                      try rw [i2970]
                      have f2971 := ti_b r2963.1
                      refine ok_ite (fun h2972 => ?_) (fun h2972 => ?_)
                      · have c2973 : r2963.1.toInt = r2910.1.toInt := o_eq h2972
                        refine ok_bind (k_X1_enterList L hN (a0 := a0) (x1 := r2910.1) k_a0 i2921) (fun r2974 hr2975 => ?_)
                        obtain ⟨i2976, ⟨u2979, u2980, u2981⟩, p2977, p2978⟩ := hr2975
                        have u2982 := kp_t u2930 u2979
                        have v2983 : q_V r2974 = q_V δ := (u2980).trans v2931
                        have v2984 : q_R r2974 = q_R δ := (u2981).trans v2932
                        have f2985 := ti_b (q_I r2974 1 3 a0)
                        have f2986 := ti_b (q_I r2919.2 1 11 a0)
                        have f2987 : (q_I r2919.2 1 11 a0).toInt = (q_I δ 1 11 a0).toInt := congrArg Int32.toInt (u2927 1 11 a0 (by decide))
                        have f2988 := ti_b (q_I r2974 1 4 a0)
                        have f2989 := ti_b (q_I r2919.2 1 12 a0)
                        have f2990 : (q_I r2919.2 1 12 a0).toInt = (q_I δ 1 12 a0).toInt := congrArg Int32.toInt (u2927 1 12 a0 (by decide))
                        exact ok_some (show CI ad h.1 δ0 r2974 ∧ (kp [(1, 3), (1, 4), (1, 5), (1, 6), (1, 8), (1, 13), (1, 14), (1, 15)] δ r2974 ∧ q_V r2974 = q_V δ ∧ q_R r2974 = q_R δ) ∧ 0 ≤ (q_I r2974 1 3 a0).toInt ∧ (q_I r2974 1 4 a0).toInt ≤ (q_I δ 3 1 nu).toInt from ⟨i2976, ⟨kp_w (by decide) u2982, v2983, v2984⟩, by first | assumption | omega, by first | assumption | omega⟩)
                      · have c2991 : r2963.1.toInt ≠ r2910.1.toInt := o_ne h2972
                        unfold J_X1_goOnDropping_172
                        refine ok_bind (k_X1_enterRoom L hN (a0 := a0) (x1 := r2910.1) k_a0 i2921) (fun r2992 hr2993 => ?_)
                        obtain ⟨i2994, ⟨u2997, u2998, u2999⟩, p2995, p2996⟩ := hr2993
                        have u3000 := kp_t u2930 u2997
                        have v3001 : q_V r2992 = q_V δ := (u2998).trans v2931
                        have v3002 : q_R r2992 = q_R δ := (u2999).trans v2932
                        have f3003 := ti_b (q_I r2992 1 3 a0)
                        have f3004 := ti_b (q_I r2992 1 4 a0)
                        exact ok_some (show CI ad h.1 δ0 r2992 ∧ (kp [(1, 3), (1, 4), (1, 5), (1, 6), (1, 8), (1, 13), (1, 14), (1, 15)] δ r2992 ∧ q_V r2992 = q_V δ ∧ q_R r2992 = q_R δ) ∧ 0 ≤ (q_I r2992 1 3 a0).toInt ∧ (q_I r2992 1 4 a0).toInt ≤ (q_I δ 3 1 nu).toInt from ⟨i2994, ⟨kp_w (by decide) u3000, v3001, v3002⟩, by first | assumption | omega, by first | assumption | omega⟩)
                    · have c3005 : r2955.1.toInt ≠ r2910.1.toInt := o_ne h2961
                      unfold J_X1_goOnDropping_172
                      refine ok_bind (k_X1_enterRoom L hN (a0 := a0) (x1 := r2910.1) k_a0 i2921) (fun r3006 hr3007 => ?_)
                      obtain ⟨i3008, ⟨u3011, u3012, u3013⟩, p3009, p3010⟩ := hr3007
                      have u3014 := kp_t u2930 u3011
                      have v3015 : q_V r3006 = q_V δ := (u3012).trans v2931
                      have v3016 : q_R r3006 = q_R δ := (u3013).trans v2932
                      have f3017 := ti_b (q_I r3006 1 3 a0)
                      have f3018 := ti_b (q_I r3006 1 4 a0)
                      exact ok_some (show CI ad h.1 δ0 r3006 ∧ (kp [(1, 3), (1, 4), (1, 5), (1, 6), (1, 8), (1, 13), (1, 14), (1, 15)] δ r3006 ∧ q_V r3006 = q_V δ ∧ q_R r3006 = q_R δ) ∧ 0 ≤ (q_I r3006 1 3 a0).toInt ∧ (q_I r3006 1 4 a0).toInt ≤ (q_I δ 3 1 nu).toInt from ⟨i3008, ⟨kp_w (by decide) u3014, v3015, v3016⟩, by first | assumption | omega, by first | assumption | omega⟩)
            · have c3019 : (0 : Int) ≠ (0 : Int) := o_ne h2698
              unfold J_X1_goOnDropping_81
              refine ok_ite (fun h3020 => ?_) (fun h3020 => ?_)
              · have c3021 : (0 : Int) = (0 : Int) := o_eq h3020
                unfold J_X1_goOnDropping_121
                refine ok_bind (k_X1_findRoom L hN (a0 := a0) (x1 := (q_I δ 1 8 a0)) k_a0 hnu knu (show 0 ≤ (q_I δ 1 11 a0).toInt by first | assumption | omega) (show (q_I δ 1 11 a0).toInt ≤ (q_I δ 1 12 a0).toInt by first | assumption | omega) (show (q_I δ 1 12 a0).toInt ≤ (q_I δ 3 1 nu).toInt by first | assumption | omega) I) (fun r3022 hr3023 => ?_)
                obtain ⟨i3024, ⟨u3030, u3031, u3032⟩, p3025, p3026, p3027, p3028, p3029⟩ := hr3023
                have u3033 := kp_t kp_r u3030
                have v3034 : q_V r3022.2 = q_V δ := (u3031).trans rfl
                have v3035 : q_R r3022.2 = q_R δ := (u3032).trans rfl
                have f3036 := bo_t p3025
                have f3037 := ti_b (q_I r3022.2 1 13 a0)
                have f3038 := ti_b (q_I r3022.2 1 14 a0)
                have f3039 := ti_b r3022.1
                have f3040 := ti_b r3022.1
                refine ok_ite (fun h3041 => ?_) (fun h3041 => ?_)
                · have c3042 : r3022.1.toInt = (0 : Int) := o_eq h3041
                  refine ok_bdv (fun d3043 e3044 => ?_)
                  have i3045 : CI ad h.1 δ0 d3043 := by rw [e3044]; exact cs_1_15 L i3024 k_a0 (show 0 ≤ (1 : Int) by omega) (show (1 : Int) ≤ 1 by omega)
                  have u3046 := kp_I u3033 e3044
                  have v3047 : q_V d3043 = q_V δ := ((show q_V d3043 = q_V r3022.2 by rw [e3044]; rfl)).trans v3034
                  have v3048 : q_R d3043 = q_R δ := ((show q_R d3043 = q_R r3022.2 by rw [e3044]; rfl)).trans v3035
                  have f3049 := ti_b (q_I d3043 1 3 a0)
                  have f3050 : (q_I d3043 1 3 a0).toInt = (q_I r3022.2 1 3 a0).toInt := congrArg Int32.toInt (by rw [e3044]; exact rI_o (by decide))
                  have f3051 := ti_b (q_I r3022.2 1 3 a0)
                  have f3052 : (q_I r3022.2 1 3 a0).toInt = (q_I δ 1 3 a0).toInt := congrArg Int32.toInt (u3030 1 3 a0 (by decide))
                  have f3053 := ti_b (q_I d3043 1 4 a0)
                  have f3054 : (q_I d3043 1 4 a0).toInt = (q_I r3022.2 1 4 a0).toInt := congrArg Int32.toInt (by rw [e3044]; exact rI_o (by decide))
                  have f3055 := ti_b (q_I r3022.2 1 4 a0)
                  have f3056 : (q_I r3022.2 1 4 a0).toInt = (q_I δ 1 4 a0).toInt := congrArg Int32.toInt (u3030 1 4 a0 (by decide))
                  exact ok_some (show CI ad h.1 δ0 d3043 ∧ (kp [(1, 3), (1, 4), (1, 5), (1, 6), (1, 8), (1, 13), (1, 14), (1, 15)] δ d3043 ∧ q_V d3043 = q_V δ ∧ q_R d3043 = q_R δ) ∧ 0 ≤ (q_I d3043 1 3 a0).toInt ∧ (q_I d3043 1 4 a0).toInt ≤ (q_I δ 3 1 nu).toInt from ⟨i3045, ⟨kp_w (by decide) u3046, v3047, v3048⟩, by first | assumption | omega, by first | assumption | omega⟩)
                · have c3057 : r3022.1.toInt ≠ (0 : Int) := o_ne h3041
                  have f3060 := cb_3_1 i3024 knu o4
                  have f3061 : (q_I r3022.2 3 1 nu).toInt = (q_I δ 3 1 nu).toInt := congrArg Int32.toInt (u3030 3 1 nu (by decide))
                  refine ok_bind (k_X1_valueAt L hN (a0 := a0) (x1 := (q_I r3022.2 1 13 a0)) k_a0 hnu knu (show 0 ≤ ((q_I r3022.2 1 13 a0)).toInt by first | assumption | omega) (show ((q_I r3022.2 1 13 a0)).toInt < (q_I r3022.2 3 1 nu).toInt by first | assumption | omega) i3024) (fun r3058 hr3059 => ?_)
                  have i3062 := hr3059
                  try rw [i3062]
                  have f3063 := ti_b r3058.1
                  refine ok_ite (fun h3064 => ?_) (fun h3064 => ?_)
                  · have c3065 : r3058.1.toInt = (q_I δ 1 8 a0).toInt := o_eq h3064
                    first | (have q3069 := te_subc (c := 1) (n := 1) rfl (q_I r3022.2 1 14 a0) (by omega) (by omega); obtain ⟨f3070, f3071, f3072⟩ := q3069) | (obtain ⟨q3069, f3070, f3071, f3072⟩ := ti_subc (c := 1) (n := 1) rfl (q_I r3022.2 1 14 a0))
                    refine ok_bind (k_X1_valueAt L hN (a0 := a0) (x1 := ((q_I r3022.2 1 14 a0) - (1 : Int32))) k_a0 hnu knu (show 0 ≤ (((q_I r3022.2 1 14 a0) - (1 : Int32))).toInt by first | assumption | omega) (show (((q_I r3022.2 1 14 a0) - (1 : Int32))).toInt < (q_I r3022.2 3 1 nu).toInt by first | assumption | omega) i3024) (fun r3066 hr3067 => ?_)
                    have i3073 := hr3067
                    try rw [i3073]
                    have f3074 := ti_b r3066.1
                    refine ok_ite (fun h3075 => ?_) (fun h3075 => ?_)
                    · have c3076 : r3066.1.toInt = (q_I δ 1 8 a0).toInt := o_eq h3075
                      refine ok_bind (k_X1_enterList L hN (a0 := a0) (x1 := (q_I δ 1 8 a0)) k_a0 i3024) (fun r3077 hr3078 => ?_)
                      obtain ⟨i3079, ⟨u3082, u3083, u3084⟩, p3080, p3081⟩ := hr3078
                      have u3085 := kp_t u3033 u3082
                      have v3086 : q_V r3077 = q_V δ := (u3083).trans v3034
                      have v3087 : q_R r3077 = q_R δ := (u3084).trans v3035
                      have f3088 := ti_b (q_I r3077 1 3 a0)
                      have f3089 := ti_b (q_I r3022.2 1 11 a0)
                      have f3090 : (q_I r3022.2 1 11 a0).toInt = (q_I δ 1 11 a0).toInt := congrArg Int32.toInt (u3030 1 11 a0 (by decide))
                      have f3091 := ti_b (q_I r3077 1 4 a0)
                      have f3092 := ti_b (q_I r3022.2 1 12 a0)
                      have f3093 : (q_I r3022.2 1 12 a0).toInt = (q_I δ 1 12 a0).toInt := congrArg Int32.toInt (u3030 1 12 a0 (by decide))
                      exact ok_some (show CI ad h.1 δ0 r3077 ∧ (kp [(1, 3), (1, 4), (1, 5), (1, 6), (1, 8), (1, 13), (1, 14), (1, 15)] δ r3077 ∧ q_V r3077 = q_V δ ∧ q_R r3077 = q_R δ) ∧ 0 ≤ (q_I r3077 1 3 a0).toInt ∧ (q_I r3077 1 4 a0).toInt ≤ (q_I δ 3 1 nu).toInt from ⟨i3079, ⟨kp_w (by decide) u3085, v3086, v3087⟩, by first | assumption | omega, by first | assumption | omega⟩)
                    · have c3094 : r3066.1.toInt ≠ (q_I δ 1 8 a0).toInt := o_ne h3075
                      unfold J_X1_goOnDropping_172
                      refine ok_bind (k_X1_enterRoom L hN (a0 := a0) (x1 := (q_I δ 1 8 a0)) k_a0 i3024) (fun r3095 hr3096 => ?_)
                      obtain ⟨i3097, ⟨u3100, u3101, u3102⟩, p3098, p3099⟩ := hr3096
                      have u3103 := kp_t u3033 u3100
                      have v3104 : q_V r3095 = q_V δ := (u3101).trans v3034
                      have v3105 : q_R r3095 = q_R δ := (u3102).trans v3035
                      have f3106 := ti_b (q_I r3095 1 3 a0)
                      have f3107 := ti_b (q_I r3095 1 4 a0)
                      exact ok_some (show CI ad h.1 δ0 r3095 ∧ (kp [(1, 3), (1, 4), (1, 5), (1, 6), (1, 8), (1, 13), (1, 14), (1, 15)] δ r3095 ∧ q_V r3095 = q_V δ ∧ q_R r3095 = q_R δ) ∧ 0 ≤ (q_I r3095 1 3 a0).toInt ∧ (q_I r3095 1 4 a0).toInt ≤ (q_I δ 3 1 nu).toInt from ⟨i3097, ⟨kp_w (by decide) u3103, v3104, v3105⟩, by first | assumption | omega, by first | assumption | omega⟩)
                  · have c3108 : r3058.1.toInt ≠ (q_I δ 1 8 a0).toInt := o_ne h3064
                    unfold J_X1_goOnDropping_172
                    refine ok_bind (k_X1_enterRoom L hN (a0 := a0) (x1 := (q_I δ 1 8 a0)) k_a0 i3024) (fun r3109 hr3110 => ?_)
                    obtain ⟨i3111, ⟨u3114, u3115, u3116⟩, p3112, p3113⟩ := hr3110
                    have u3117 := kp_t u3033 u3114
                    have v3118 : q_V r3109 = q_V δ := (u3115).trans v3034
                    have v3119 : q_R r3109 = q_R δ := (u3116).trans v3035
                    have f3120 := ti_b (q_I r3109 1 3 a0)
                    have f3121 := ti_b (q_I r3109 1 4 a0)
                    exact ok_some (show CI ad h.1 δ0 r3109 ∧ (kp [(1, 3), (1, 4), (1, 5), (1, 6), (1, 8), (1, 13), (1, 14), (1, 15)] δ r3109 ∧ q_V r3109 = q_V δ ∧ q_R r3109 = q_R δ) ∧ 0 ≤ (q_I r3109 1 3 a0).toInt ∧ (q_I r3109 1 4 a0).toInt ≤ (q_I δ 3 1 nu).toInt from ⟨i3111, ⟨kp_w (by decide) u3117, v3118, v3119⟩, by first | assumption | omega, by first | assumption | omega⟩)
              · have c3122 : (0 : Int) ≠ (0 : Int) := o_ne h3020
                refine ok_ite (fun h3123 => ?_) (fun h3123 => ?_)
                · have c3124 : (q_I δ 1 8 a0).toInt = (q_I δ 1 9 a0).toInt := o_eq h3123
                  unfold J_X1_goOnDropping_118
                  refine ok_bind (k_X1_valueAt L hN (a0 := a0) (x1 := (q_I δ 1 11 a0)) k_a0 hnu knu (show 0 ≤ ((q_I δ 1 11 a0)).toInt by first | assumption | omega) (show ((q_I δ 1 11 a0)).toInt < (q_I δ 3 1 nu).toInt by first | assumption | omega) I) (fun r3125 hr3126 => ?_)
                  have i3127 := hr3126
                  try rw [i3127]
                  have f3128 := ti_b r3125.1
                  unfold J_X1_goOnDropping_121
                  refine ok_bind (k_X1_findRoom L hN (a0 := a0) (x1 := r3125.1) k_a0 hnu knu (show 0 ≤ (q_I δ 1 11 a0).toInt by first | assumption | omega) (show (q_I δ 1 11 a0).toInt ≤ (q_I δ 1 12 a0).toInt by first | assumption | omega) (show (q_I δ 1 12 a0).toInt ≤ (q_I δ 3 1 nu).toInt by first | assumption | omega) I) (fun r3129 hr3130 => ?_)
                  obtain ⟨i3131, ⟨u3137, u3138, u3139⟩, p3132, p3133, p3134, p3135, p3136⟩ := hr3130
                  have u3140 := kp_t kp_r u3137
                  have v3141 : q_V r3129.2 = q_V δ := (u3138).trans rfl
                  have v3142 : q_R r3129.2 = q_R δ := (u3139).trans rfl
                  have f3143 := bo_t p3132
                  have f3144 := ti_b (q_I r3129.2 1 13 a0)
                  have f3145 := ti_b (q_I r3129.2 1 14 a0)
                  have f3146 := ti_b r3129.1
                  have f3147 := ti_b r3129.1
                  refine ok_ite (fun h3148 => ?_) (fun h3148 => ?_)
                  · have c3149 : r3129.1.toInt = (0 : Int) := o_eq h3148
                    refine ok_bdv (fun d3150 e3151 => ?_)
                    have i3152 : CI ad h.1 δ0 d3150 := by rw [e3151]; exact cs_1_15 L i3131 k_a0 (show 0 ≤ (1 : Int) by omega) (show (1 : Int) ≤ 1 by omega)
                    have u3153 := kp_I u3140 e3151
                    have v3154 : q_V d3150 = q_V δ := ((show q_V d3150 = q_V r3129.2 by rw [e3151]; rfl)).trans v3141
                    have v3155 : q_R d3150 = q_R δ := ((show q_R d3150 = q_R r3129.2 by rw [e3151]; rfl)).trans v3142
                    have f3156 := ti_b (q_I d3150 1 3 a0)
                    have f3157 : (q_I d3150 1 3 a0).toInt = (q_I r3129.2 1 3 a0).toInt := congrArg Int32.toInt (by rw [e3151]; exact rI_o (by decide))
                    have f3158 := ti_b (q_I r3129.2 1 3 a0)
                    have f3159 : (q_I r3129.2 1 3 a0).toInt = (q_I δ 1 3 a0).toInt := congrArg Int32.toInt (u3137 1 3 a0 (by decide))
                    have f3160 := ti_b (q_I d3150 1 4 a0)
                    have f3161 : (q_I d3150 1 4 a0).toInt = (q_I r3129.2 1 4 a0).toInt := congrArg Int32.toInt (by rw [e3151]; exact rI_o (by decide))
                    have f3162 := ti_b (q_I r3129.2 1 4 a0)
                    have f3163 : (q_I r3129.2 1 4 a0).toInt = (q_I δ 1 4 a0).toInt := congrArg Int32.toInt (u3137 1 4 a0 (by decide))
                    exact ok_some (show CI ad h.1 δ0 d3150 ∧ (kp [(1, 3), (1, 4), (1, 5), (1, 6), (1, 8), (1, 13), (1, 14), (1, 15)] δ d3150 ∧ q_V d3150 = q_V δ ∧ q_R d3150 = q_R δ) ∧ 0 ≤ (q_I d3150 1 3 a0).toInt ∧ (q_I d3150 1 4 a0).toInt ≤ (q_I δ 3 1 nu).toInt from ⟨i3152, ⟨kp_w (by decide) u3153, v3154, v3155⟩, by first | assumption | omega, by first | assumption | omega⟩)
                  · have c3164 : r3129.1.toInt ≠ (0 : Int) := o_ne h3148
                    have f3167 := cb_3_1 i3131 knu o4
                    have f3168 : (q_I r3129.2 3 1 nu).toInt = (q_I δ 3 1 nu).toInt := congrArg Int32.toInt (u3137 3 1 nu (by decide))
                    refine ok_bind (k_X1_valueAt L hN (a0 := a0) (x1 := (q_I r3129.2 1 13 a0)) k_a0 hnu knu (show 0 ≤ ((q_I r3129.2 1 13 a0)).toInt by first | assumption | omega) (show ((q_I r3129.2 1 13 a0)).toInt < (q_I r3129.2 3 1 nu).toInt by first | assumption | omega) i3131) (fun r3165 hr3166 => ?_)
                    have i3169 := hr3166
                    try rw [i3169]
                    have f3170 := ti_b r3165.1
                    refine ok_ite (fun h3171 => ?_) (fun h3171 => ?_)
                    · have c3172 : r3165.1.toInt = r3125.1.toInt := o_eq h3171
                      first | (have q3176 := te_subc (c := 1) (n := 1) rfl (q_I r3129.2 1 14 a0) (by omega) (by omega); obtain ⟨f3177, f3178, f3179⟩ := q3176) | (obtain ⟨q3176, f3177, f3178, f3179⟩ := ti_subc (c := 1) (n := 1) rfl (q_I r3129.2 1 14 a0))
                      refine ok_bind (k_X1_valueAt L hN (a0 := a0) (x1 := ((q_I r3129.2 1 14 a0) - (1 : Int32))) k_a0 hnu knu (show 0 ≤ (((q_I r3129.2 1 14 a0) - (1 : Int32))).toInt by first | assumption | omega) (show (((q_I r3129.2 1 14 a0) - (1 : Int32))).toInt < (q_I r3129.2 3 1 nu).toInt by first | assumption | omega) i3131) (fun r3173 hr3174 => ?_)
                      have i3180 := hr3174
                      try rw [i3180]
                      have f3181 := ti_b r3173.1
                      refine ok_ite (fun h3182 => ?_) (fun h3182 => ?_)
                      · have c3183 : r3173.1.toInt = r3125.1.toInt := o_eq h3182
                        refine ok_bind (k_X1_enterList L hN (a0 := a0) (x1 := r3125.1) k_a0 i3131) (fun r3184 hr3185 => ?_)
                        obtain ⟨i3186, ⟨u3189, u3190, u3191⟩, p3187, p3188⟩ := hr3185
                        have u3192 := kp_t u3140 u3189
                        have v3193 : q_V r3184 = q_V δ := (u3190).trans v3141
                        have v3194 : q_R r3184 = q_R δ := (u3191).trans v3142
                        have f3195 := ti_b (q_I r3184 1 3 a0)
                        have f3196 := ti_b (q_I r3129.2 1 11 a0)
                        have f3197 : (q_I r3129.2 1 11 a0).toInt = (q_I δ 1 11 a0).toInt := congrArg Int32.toInt (u3137 1 11 a0 (by decide))
                        have f3198 := ti_b (q_I r3184 1 4 a0)
                        have f3199 := ti_b (q_I r3129.2 1 12 a0)
                        have f3200 : (q_I r3129.2 1 12 a0).toInt = (q_I δ 1 12 a0).toInt := congrArg Int32.toInt (u3137 1 12 a0 (by decide))
                        exact ok_some (show CI ad h.1 δ0 r3184 ∧ (kp [(1, 3), (1, 4), (1, 5), (1, 6), (1, 8), (1, 13), (1, 14), (1, 15)] δ r3184 ∧ q_V r3184 = q_V δ ∧ q_R r3184 = q_R δ) ∧ 0 ≤ (q_I r3184 1 3 a0).toInt ∧ (q_I r3184 1 4 a0).toInt ≤ (q_I δ 3 1 nu).toInt from ⟨i3186, ⟨kp_w (by decide) u3192, v3193, v3194⟩, by first | assumption | omega, by first | assumption | omega⟩)
                      · have c3201 : r3173.1.toInt ≠ r3125.1.toInt := o_ne h3182
                        unfold J_X1_goOnDropping_172
                        refine ok_bind (k_X1_enterRoom L hN (a0 := a0) (x1 := r3125.1) k_a0 i3131) (fun r3202 hr3203 => ?_)
                        obtain ⟨i3204, ⟨u3207, u3208, u3209⟩, p3205, p3206⟩ := hr3203
                        have u3210 := kp_t u3140 u3207
                        have v3211 : q_V r3202 = q_V δ := (u3208).trans v3141
                        have v3212 : q_R r3202 = q_R δ := (u3209).trans v3142
                        have f3213 := ti_b (q_I r3202 1 3 a0)
                        have f3214 := ti_b (q_I r3202 1 4 a0)
                        exact ok_some (show CI ad h.1 δ0 r3202 ∧ (kp [(1, 3), (1, 4), (1, 5), (1, 6), (1, 8), (1, 13), (1, 14), (1, 15)] δ r3202 ∧ q_V r3202 = q_V δ ∧ q_R r3202 = q_R δ) ∧ 0 ≤ (q_I r3202 1 3 a0).toInt ∧ (q_I r3202 1 4 a0).toInt ≤ (q_I δ 3 1 nu).toInt from ⟨i3204, ⟨kp_w (by decide) u3210, v3211, v3212⟩, by first | assumption | omega, by first | assumption | omega⟩)
                    · have c3215 : r3165.1.toInt ≠ r3125.1.toInt := o_ne h3171
                      unfold J_X1_goOnDropping_172
                      refine ok_bind (k_X1_enterRoom L hN (a0 := a0) (x1 := r3125.1) k_a0 i3131) (fun r3216 hr3217 => ?_)
                      obtain ⟨i3218, ⟨u3221, u3222, u3223⟩, p3219, p3220⟩ := hr3217
                      have u3224 := kp_t u3140 u3221
                      have v3225 : q_V r3216 = q_V δ := (u3222).trans v3141
                      have v3226 : q_R r3216 = q_R δ := (u3223).trans v3142
                      have f3227 := ti_b (q_I r3216 1 3 a0)
                      have f3228 := ti_b (q_I r3216 1 4 a0)
                      exact ok_some (show CI ad h.1 δ0 r3216 ∧ (kp [(1, 3), (1, 4), (1, 5), (1, 6), (1, 8), (1, 13), (1, 14), (1, 15)] δ r3216 ∧ q_V r3216 = q_V δ ∧ q_R r3216 = q_R δ) ∧ 0 ≤ (q_I r3216 1 3 a0).toInt ∧ (q_I r3216 1 4 a0).toInt ≤ (q_I δ 3 1 nu).toInt from ⟨i3218, ⟨kp_w (by decide) u3224, v3225, v3226⟩, by first | assumption | omega, by first | assumption | omega⟩)
                · have c3229 : (q_I δ 1 8 a0).toInt ≠ (q_I δ 1 9 a0).toInt := o_ne h3123
                  unfold J_X1_goOnDropping_118
                  first | (have q3233 := te_subc (c := 1) (n := 1) rfl (q_I δ 1 12 a0) (by omega) (by omega); obtain ⟨f3234, f3235, f3236⟩ := q3233) | (obtain ⟨q3233, f3234, f3235, f3236⟩ := ti_subc (c := 1) (n := 1) rfl (q_I δ 1 12 a0))
                  refine ok_bind (k_X1_valueAt L hN (a0 := a0) (x1 := ((q_I δ 1 12 a0) - (1 : Int32))) k_a0 hnu knu (show 0 ≤ (((q_I δ 1 12 a0) - (1 : Int32))).toInt by first | assumption | omega) (show (((q_I δ 1 12 a0) - (1 : Int32))).toInt < (q_I δ 3 1 nu).toInt by first | assumption | omega) I) (fun r3230 hr3231 => ?_)
                  have i3237 := hr3231
                  try rw [i3237]
                  have f3238 := ti_b r3230.1
                  unfold J_X1_goOnDropping_121
                  refine ok_bind (k_X1_findRoom L hN (a0 := a0) (x1 := r3230.1) k_a0 hnu knu (show 0 ≤ (q_I δ 1 11 a0).toInt by first | assumption | omega) (show (q_I δ 1 11 a0).toInt ≤ (q_I δ 1 12 a0).toInt by first | assumption | omega) (show (q_I δ 1 12 a0).toInt ≤ (q_I δ 3 1 nu).toInt by first | assumption | omega) I) (fun r3239 hr3240 => ?_)
                  obtain ⟨i3241, ⟨u3247, u3248, u3249⟩, p3242, p3243, p3244, p3245, p3246⟩ := hr3240
                  have u3250 := kp_t kp_r u3247
                  have v3251 : q_V r3239.2 = q_V δ := (u3248).trans rfl
                  have v3252 : q_R r3239.2 = q_R δ := (u3249).trans rfl
                  have f3253 := bo_t p3242
                  have f3254 := ti_b (q_I r3239.2 1 13 a0)
                  have f3255 := ti_b (q_I r3239.2 1 14 a0)
                  have f3256 := ti_b r3239.1
                  have f3257 := ti_b r3239.1
                  refine ok_ite (fun h3258 => ?_) (fun h3258 => ?_)
                  · have c3259 : r3239.1.toInt = (0 : Int) := o_eq h3258
                    refine ok_bdv (fun d3260 e3261 => ?_)
                    have i3262 : CI ad h.1 δ0 d3260 := by rw [e3261]; exact cs_1_15 L i3241 k_a0 (show 0 ≤ (1 : Int) by omega) (show (1 : Int) ≤ 1 by omega)
                    have u3263 := kp_I u3250 e3261
                    have v3264 : q_V d3260 = q_V δ := ((show q_V d3260 = q_V r3239.2 by rw [e3261]; rfl)).trans v3251
                    have v3265 : q_R d3260 = q_R δ := ((show q_R d3260 = q_R r3239.2 by rw [e3261]; rfl)).trans v3252
                    have f3266 := ti_b (q_I d3260 1 3 a0)
                    have f3267 : (q_I d3260 1 3 a0).toInt = (q_I r3239.2 1 3 a0).toInt := congrArg Int32.toInt (by rw [e3261]; exact rI_o (by decide))
                    have f3268 := ti_b (q_I r3239.2 1 3 a0)
                    have f3269 : (q_I r3239.2 1 3 a0).toInt = (q_I δ 1 3 a0).toInt := congrArg Int32.toInt (u3247 1 3 a0 (by decide))
                    have f3270 := ti_b (q_I d3260 1 4 a0)
                    have f3271 : (q_I d3260 1 4 a0).toInt = (q_I r3239.2 1 4 a0).toInt := congrArg Int32.toInt (by rw [e3261]; exact rI_o (by decide))
                    have f3272 := ti_b (q_I r3239.2 1 4 a0)
                    have f3273 : (q_I r3239.2 1 4 a0).toInt = (q_I δ 1 4 a0).toInt := congrArg Int32.toInt (u3247 1 4 a0 (by decide))
                    exact ok_some (show CI ad h.1 δ0 d3260 ∧ (kp [(1, 3), (1, 4), (1, 5), (1, 6), (1, 8), (1, 13), (1, 14), (1, 15)] δ d3260 ∧ q_V d3260 = q_V δ ∧ q_R d3260 = q_R δ) ∧ 0 ≤ (q_I d3260 1 3 a0).toInt ∧ (q_I d3260 1 4 a0).toInt ≤ (q_I δ 3 1 nu).toInt from ⟨i3262, ⟨kp_w (by decide) u3263, v3264, v3265⟩, by first | assumption | omega, by first | assumption | omega⟩)
                  · have c3274 : r3239.1.toInt ≠ (0 : Int) := o_ne h3258
                    have f3277 := cb_3_1 i3241 knu o4
                    have f3278 : (q_I r3239.2 3 1 nu).toInt = (q_I δ 3 1 nu).toInt := congrArg Int32.toInt (u3247 3 1 nu (by decide))
                    refine ok_bind (k_X1_valueAt L hN (a0 := a0) (x1 := (q_I r3239.2 1 13 a0)) k_a0 hnu knu (show 0 ≤ ((q_I r3239.2 1 13 a0)).toInt by first | assumption | omega) (show ((q_I r3239.2 1 13 a0)).toInt < (q_I r3239.2 3 1 nu).toInt by first | assumption | omega) i3241) (fun r3275 hr3276 => ?_)
                    have i3279 := hr3276
                    try rw [i3279]
                    have f3280 := ti_b r3275.1
                    refine ok_ite (fun h3281 => ?_) (fun h3281 => ?_)
                    · have c3282 : r3275.1.toInt = r3230.1.toInt := o_eq h3281
                      first | (have q3286 := te_subc (c := 1) (n := 1) rfl (q_I r3239.2 1 14 a0) (by omega) (by omega); obtain ⟨f3287, f3288, f3289⟩ := q3286) | (obtain ⟨q3286, f3287, f3288, f3289⟩ := ti_subc (c := 1) (n := 1) rfl (q_I r3239.2 1 14 a0))
                      refine ok_bind (k_X1_valueAt L hN (a0 := a0) (x1 := ((q_I r3239.2 1 14 a0) - (1 : Int32))) k_a0 hnu knu (show 0 ≤ (((q_I r3239.2 1 14 a0) - (1 : Int32))).toInt by first | assumption | omega) (show (((q_I r3239.2 1 14 a0) - (1 : Int32))).toInt < (q_I r3239.2 3 1 nu).toInt by first | assumption | omega) i3241) (fun r3283 hr3284 => ?_)
                      have i3290 := hr3284
                      try rw [i3290]
                      have f3291 := ti_b r3283.1
                      refine ok_ite (fun h3292 => ?_) (fun h3292 => ?_)
                      · have c3293 : r3283.1.toInt = r3230.1.toInt := o_eq h3292
                        refine ok_bind (k_X1_enterList L hN (a0 := a0) (x1 := r3230.1) k_a0 i3241) (fun r3294 hr3295 => ?_)
                        obtain ⟨i3296, ⟨u3299, u3300, u3301⟩, p3297, p3298⟩ := hr3295
                        have u3302 := kp_t u3250 u3299
                        have v3303 : q_V r3294 = q_V δ := (u3300).trans v3251
                        have v3304 : q_R r3294 = q_R δ := (u3301).trans v3252
                        have f3305 := ti_b (q_I r3294 1 3 a0)
                        have f3306 := ti_b (q_I r3239.2 1 11 a0)
                        have f3307 : (q_I r3239.2 1 11 a0).toInt = (q_I δ 1 11 a0).toInt := congrArg Int32.toInt (u3247 1 11 a0 (by decide))
                        have f3308 := ti_b (q_I r3294 1 4 a0)
                        have f3309 := ti_b (q_I r3239.2 1 12 a0)
                        have f3310 : (q_I r3239.2 1 12 a0).toInt = (q_I δ 1 12 a0).toInt := congrArg Int32.toInt (u3247 1 12 a0 (by decide))
                        exact ok_some (show CI ad h.1 δ0 r3294 ∧ (kp [(1, 3), (1, 4), (1, 5), (1, 6), (1, 8), (1, 13), (1, 14), (1, 15)] δ r3294 ∧ q_V r3294 = q_V δ ∧ q_R r3294 = q_R δ) ∧ 0 ≤ (q_I r3294 1 3 a0).toInt ∧ (q_I r3294 1 4 a0).toInt ≤ (q_I δ 3 1 nu).toInt from ⟨i3296, ⟨kp_w (by decide) u3302, v3303, v3304⟩, by first | assumption | omega, by first | assumption | omega⟩)
                      · have c3311 : r3283.1.toInt ≠ r3230.1.toInt := o_ne h3292
                        unfold J_X1_goOnDropping_172
                        refine ok_bind (k_X1_enterRoom L hN (a0 := a0) (x1 := r3230.1) k_a0 i3241) (fun r3312 hr3313 => ?_)
                        obtain ⟨i3314, ⟨u3317, u3318, u3319⟩, p3315, p3316⟩ := hr3313
                        have u3320 := kp_t u3250 u3317
                        have v3321 : q_V r3312 = q_V δ := (u3318).trans v3251
                        have v3322 : q_R r3312 = q_R δ := (u3319).trans v3252
                        have f3323 := ti_b (q_I r3312 1 3 a0)
                        have f3324 := ti_b (q_I r3312 1 4 a0)
                        exact ok_some (show CI ad h.1 δ0 r3312 ∧ (kp [(1, 3), (1, 4), (1, 5), (1, 6), (1, 8), (1, 13), (1, 14), (1, 15)] δ r3312 ∧ q_V r3312 = q_V δ ∧ q_R r3312 = q_R δ) ∧ 0 ≤ (q_I r3312 1 3 a0).toInt ∧ (q_I r3312 1 4 a0).toInt ≤ (q_I δ 3 1 nu).toInt from ⟨i3314, ⟨kp_w (by decide) u3320, v3321, v3322⟩, by first | assumption | omega, by first | assumption | omega⟩)
                    · have c3325 : r3275.1.toInt ≠ r3230.1.toInt := o_ne h3281
                      unfold J_X1_goOnDropping_172
                      refine ok_bind (k_X1_enterRoom L hN (a0 := a0) (x1 := r3230.1) k_a0 i3241) (fun r3326 hr3327 => ?_)
                      obtain ⟨i3328, ⟨u3331, u3332, u3333⟩, p3329, p3330⟩ := hr3327
                      have u3334 := kp_t u3250 u3331
                      have v3335 : q_V r3326 = q_V δ := (u3332).trans v3251
                      have v3336 : q_R r3326 = q_R δ := (u3333).trans v3252
                      have f3337 := ti_b (q_I r3326 1 3 a0)
                      have f3338 := ti_b (q_I r3326 1 4 a0)
                      exact ok_some (show CI ad h.1 δ0 r3326 ∧ (kp [(1, 3), (1, 4), (1, 5), (1, 6), (1, 8), (1, 13), (1, 14), (1, 15)] δ r3326 ∧ q_V r3326 = q_V δ ∧ q_R r3326 = q_R δ) ∧ 0 ≤ (q_I r3326 1 3 a0).toInt ∧ (q_I r3326 1 4 a0).toInt ≤ (q_I δ 3 1 nu).toInt from ⟨i3328, ⟨kp_w (by decide) u3334, v3335, v3336⟩, by first | assumption | omega, by first | assumption | omega⟩)
          · have c3339 : (0 : Int) ≠ (0 : Int) := o_ne h2696
            refine ok_ite (fun h3340 => ?_) (fun h3340 => ?_)
            · have c3341 : (q_I δ 1 11 a0).toInt < (q_I δ 1 12 a0).toInt := o_lt h3340
              unfold J_X1_goOnDropping_72
              refine ok_ite (fun h3342 => ?_) (fun h3342 => ?_)
              · have c3343 : (0 : Int) = (0 : Int) := o_eq h3342
                unfold J_X1_goOnDropping_81
                refine ok_ite (fun h3344 => ?_) (fun h3344 => ?_)
                · have c3345 : (0 : Int) = (0 : Int) := o_eq h3344
                  unfold J_X1_goOnDropping_121
                  refine ok_bind (k_X1_findRoom L hN (a0 := a0) (x1 := (q_I δ 1 8 a0)) k_a0 hnu knu (show 0 ≤ (q_I δ 1 11 a0).toInt by first | assumption | omega) (show (q_I δ 1 11 a0).toInt ≤ (q_I δ 1 12 a0).toInt by first | assumption | omega) (show (q_I δ 1 12 a0).toInt ≤ (q_I δ 3 1 nu).toInt by first | assumption | omega) I) (fun r3346 hr3347 => ?_)
                  obtain ⟨i3348, ⟨u3354, u3355, u3356⟩, p3349, p3350, p3351, p3352, p3353⟩ := hr3347
                  have u3357 := kp_t kp_r u3354
                  have v3358 : q_V r3346.2 = q_V δ := (u3355).trans rfl
                  have v3359 : q_R r3346.2 = q_R δ := (u3356).trans rfl
                  have f3360 := bo_t p3349
                  have f3361 := ti_b (q_I r3346.2 1 13 a0)
                  have f3362 := ti_b (q_I r3346.2 1 14 a0)
                  have f3363 := ti_b r3346.1
                  have f3364 := ti_b r3346.1
                  refine ok_ite (fun h3365 => ?_) (fun h3365 => ?_)
                  · have c3366 : r3346.1.toInt = (0 : Int) := o_eq h3365
                    refine ok_bdv (fun d3367 e3368 => ?_)
                    have i3369 : CI ad h.1 δ0 d3367 := by rw [e3368]; exact cs_1_15 L i3348 k_a0 (show 0 ≤ (1 : Int) by omega) (show (1 : Int) ≤ 1 by omega)
                    have u3370 := kp_I u3357 e3368
                    have v3371 : q_V d3367 = q_V δ := ((show q_V d3367 = q_V r3346.2 by rw [e3368]; rfl)).trans v3358
                    have v3372 : q_R d3367 = q_R δ := ((show q_R d3367 = q_R r3346.2 by rw [e3368]; rfl)).trans v3359
                    have f3373 := ti_b (q_I d3367 1 3 a0)
                    have f3374 : (q_I d3367 1 3 a0).toInt = (q_I r3346.2 1 3 a0).toInt := congrArg Int32.toInt (by rw [e3368]; exact rI_o (by decide))
                    have f3375 := ti_b (q_I r3346.2 1 3 a0)
                    have f3376 : (q_I r3346.2 1 3 a0).toInt = (q_I δ 1 3 a0).toInt := congrArg Int32.toInt (u3354 1 3 a0 (by decide))
                    have f3377 := ti_b (q_I d3367 1 4 a0)
                    have f3378 : (q_I d3367 1 4 a0).toInt = (q_I r3346.2 1 4 a0).toInt := congrArg Int32.toInt (by rw [e3368]; exact rI_o (by decide))
                    have f3379 := ti_b (q_I r3346.2 1 4 a0)
                    have f3380 : (q_I r3346.2 1 4 a0).toInt = (q_I δ 1 4 a0).toInt := congrArg Int32.toInt (u3354 1 4 a0 (by decide))
                    exact ok_some (show CI ad h.1 δ0 d3367 ∧ (kp [(1, 3), (1, 4), (1, 5), (1, 6), (1, 8), (1, 13), (1, 14), (1, 15)] δ d3367 ∧ q_V d3367 = q_V δ ∧ q_R d3367 = q_R δ) ∧ 0 ≤ (q_I d3367 1 3 a0).toInt ∧ (q_I d3367 1 4 a0).toInt ≤ (q_I δ 3 1 nu).toInt from ⟨i3369, ⟨kp_w (by decide) u3370, v3371, v3372⟩, by first | assumption | omega, by first | assumption | omega⟩)
                  · have c3381 : r3346.1.toInt ≠ (0 : Int) := o_ne h3365
                    have f3384 := cb_3_1 i3348 knu o4
                    have f3385 : (q_I r3346.2 3 1 nu).toInt = (q_I δ 3 1 nu).toInt := congrArg Int32.toInt (u3354 3 1 nu (by decide))
                    refine ok_bind (k_X1_valueAt L hN (a0 := a0) (x1 := (q_I r3346.2 1 13 a0)) k_a0 hnu knu (show 0 ≤ ((q_I r3346.2 1 13 a0)).toInt by first | assumption | omega) (show ((q_I r3346.2 1 13 a0)).toInt < (q_I r3346.2 3 1 nu).toInt by first | assumption | omega) i3348) (fun r3382 hr3383 => ?_)
                    have i3386 := hr3383
                    try rw [i3386]
                    have f3387 := ti_b r3382.1
                    refine ok_ite (fun h3388 => ?_) (fun h3388 => ?_)
                    · have c3389 : r3382.1.toInt = (q_I δ 1 8 a0).toInt := o_eq h3388
                      first | (have q3393 := te_subc (c := 1) (n := 1) rfl (q_I r3346.2 1 14 a0) (by omega) (by omega); obtain ⟨f3394, f3395, f3396⟩ := q3393) | (obtain ⟨q3393, f3394, f3395, f3396⟩ := ti_subc (c := 1) (n := 1) rfl (q_I r3346.2 1 14 a0))
                      refine ok_bind (k_X1_valueAt L hN (a0 := a0) (x1 := ((q_I r3346.2 1 14 a0) - (1 : Int32))) k_a0 hnu knu (show 0 ≤ (((q_I r3346.2 1 14 a0) - (1 : Int32))).toInt by first | assumption | omega) (show (((q_I r3346.2 1 14 a0) - (1 : Int32))).toInt < (q_I r3346.2 3 1 nu).toInt by first | assumption | omega) i3348) (fun r3390 hr3391 => ?_)
                      have i3397 := hr3391
                      try rw [i3397]
                      have f3398 := ti_b r3390.1
                      refine ok_ite (fun h3399 => ?_) (fun h3399 => ?_)
                      · have c3400 : r3390.1.toInt = (q_I δ 1 8 a0).toInt := o_eq h3399
                        refine ok_bind (k_X1_enterList L hN (a0 := a0) (x1 := (q_I δ 1 8 a0)) k_a0 i3348) (fun r3401 hr3402 => ?_)
                        obtain ⟨i3403, ⟨u3406, u3407, u3408⟩, p3404, p3405⟩ := hr3402
                        have u3409 := kp_t u3357 u3406
                        have v3410 : q_V r3401 = q_V δ := (u3407).trans v3358
                        have v3411 : q_R r3401 = q_R δ := (u3408).trans v3359
                        have f3412 := ti_b (q_I r3401 1 3 a0)
                        have f3413 := ti_b (q_I r3346.2 1 11 a0)
                        have f3414 : (q_I r3346.2 1 11 a0).toInt = (q_I δ 1 11 a0).toInt := congrArg Int32.toInt (u3354 1 11 a0 (by decide))
                        have f3415 := ti_b (q_I r3401 1 4 a0)
                        have f3416 := ti_b (q_I r3346.2 1 12 a0)
                        have f3417 : (q_I r3346.2 1 12 a0).toInt = (q_I δ 1 12 a0).toInt := congrArg Int32.toInt (u3354 1 12 a0 (by decide))
                        exact ok_some (show CI ad h.1 δ0 r3401 ∧ (kp [(1, 3), (1, 4), (1, 5), (1, 6), (1, 8), (1, 13), (1, 14), (1, 15)] δ r3401 ∧ q_V r3401 = q_V δ ∧ q_R r3401 = q_R δ) ∧ 0 ≤ (q_I r3401 1 3 a0).toInt ∧ (q_I r3401 1 4 a0).toInt ≤ (q_I δ 3 1 nu).toInt from ⟨i3403, ⟨kp_w (by decide) u3409, v3410, v3411⟩, by first | assumption | omega, by first | assumption | omega⟩)
                      · have c3418 : r3390.1.toInt ≠ (q_I δ 1 8 a0).toInt := o_ne h3399
                        unfold J_X1_goOnDropping_172
                        refine ok_bind (k_X1_enterRoom L hN (a0 := a0) (x1 := (q_I δ 1 8 a0)) k_a0 i3348) (fun r3419 hr3420 => ?_)
                        obtain ⟨i3421, ⟨u3424, u3425, u3426⟩, p3422, p3423⟩ := hr3420
                        have u3427 := kp_t u3357 u3424
                        have v3428 : q_V r3419 = q_V δ := (u3425).trans v3358
                        have v3429 : q_R r3419 = q_R δ := (u3426).trans v3359
                        have f3430 := ti_b (q_I r3419 1 3 a0)
                        have f3431 := ti_b (q_I r3419 1 4 a0)
                        exact ok_some (show CI ad h.1 δ0 r3419 ∧ (kp [(1, 3), (1, 4), (1, 5), (1, 6), (1, 8), (1, 13), (1, 14), (1, 15)] δ r3419 ∧ q_V r3419 = q_V δ ∧ q_R r3419 = q_R δ) ∧ 0 ≤ (q_I r3419 1 3 a0).toInt ∧ (q_I r3419 1 4 a0).toInt ≤ (q_I δ 3 1 nu).toInt from ⟨i3421, ⟨kp_w (by decide) u3427, v3428, v3429⟩, by first | assumption | omega, by first | assumption | omega⟩)
                    · have c3432 : r3382.1.toInt ≠ (q_I δ 1 8 a0).toInt := o_ne h3388
                      unfold J_X1_goOnDropping_172
                      refine ok_bind (k_X1_enterRoom L hN (a0 := a0) (x1 := (q_I δ 1 8 a0)) k_a0 i3348) (fun r3433 hr3434 => ?_)
                      obtain ⟨i3435, ⟨u3438, u3439, u3440⟩, p3436, p3437⟩ := hr3434
                      have u3441 := kp_t u3357 u3438
                      have v3442 : q_V r3433 = q_V δ := (u3439).trans v3358
                      have v3443 : q_R r3433 = q_R δ := (u3440).trans v3359
                      have f3444 := ti_b (q_I r3433 1 3 a0)
                      have f3445 := ti_b (q_I r3433 1 4 a0)
                      exact ok_some (show CI ad h.1 δ0 r3433 ∧ (kp [(1, 3), (1, 4), (1, 5), (1, 6), (1, 8), (1, 13), (1, 14), (1, 15)] δ r3433 ∧ q_V r3433 = q_V δ ∧ q_R r3433 = q_R δ) ∧ 0 ≤ (q_I r3433 1 3 a0).toInt ∧ (q_I r3433 1 4 a0).toInt ≤ (q_I δ 3 1 nu).toInt from ⟨i3435, ⟨kp_w (by decide) u3441, v3442, v3443⟩, by first | assumption | omega, by first | assumption | omega⟩)
                · have c3446 : (0 : Int) ≠ (0 : Int) := o_ne h3344
                  refine ok_ite (fun h3447 => ?_) (fun h3447 => ?_)
                  · have c3448 : (q_I δ 1 8 a0).toInt = (q_I δ 1 9 a0).toInt := o_eq h3447
                    unfold J_X1_goOnDropping_118
                    refine ok_bind (k_X1_valueAt L hN (a0 := a0) (x1 := (q_I δ 1 11 a0)) k_a0 hnu knu (show 0 ≤ ((q_I δ 1 11 a0)).toInt by first | assumption | omega) (show ((q_I δ 1 11 a0)).toInt < (q_I δ 3 1 nu).toInt by first | assumption | omega) I) (fun r3449 hr3450 => ?_)
                    have i3451 := hr3450
                    try rw [i3451]
                    have f3452 := ti_b r3449.1
                    unfold J_X1_goOnDropping_121
                    refine ok_bind (k_X1_findRoom L hN (a0 := a0) (x1 := r3449.1) k_a0 hnu knu (show 0 ≤ (q_I δ 1 11 a0).toInt by first | assumption | omega) (show (q_I δ 1 11 a0).toInt ≤ (q_I δ 1 12 a0).toInt by first | assumption | omega) (show (q_I δ 1 12 a0).toInt ≤ (q_I δ 3 1 nu).toInt by first | assumption | omega) I) (fun r3453 hr3454 => ?_)
                    obtain ⟨i3455, ⟨u3461, u3462, u3463⟩, p3456, p3457, p3458, p3459, p3460⟩ := hr3454
                    have u3464 := kp_t kp_r u3461
                    have v3465 : q_V r3453.2 = q_V δ := (u3462).trans rfl
                    have v3466 : q_R r3453.2 = q_R δ := (u3463).trans rfl
                    have f3467 := bo_t p3456
                    have f3468 := ti_b (q_I r3453.2 1 13 a0)
                    have f3469 := ti_b (q_I r3453.2 1 14 a0)
                    have f3470 := ti_b r3453.1
                    have f3471 := ti_b r3453.1
                    refine ok_ite (fun h3472 => ?_) (fun h3472 => ?_)
                    · have c3473 : r3453.1.toInt = (0 : Int) := o_eq h3472
                      refine ok_bdv (fun d3474 e3475 => ?_)
                      have i3476 : CI ad h.1 δ0 d3474 := by rw [e3475]; exact cs_1_15 L i3455 k_a0 (show 0 ≤ (1 : Int) by omega) (show (1 : Int) ≤ 1 by omega)
                      have u3477 := kp_I u3464 e3475
                      have v3478 : q_V d3474 = q_V δ := ((show q_V d3474 = q_V r3453.2 by rw [e3475]; rfl)).trans v3465
                      have v3479 : q_R d3474 = q_R δ := ((show q_R d3474 = q_R r3453.2 by rw [e3475]; rfl)).trans v3466
                      have f3480 := ti_b (q_I d3474 1 3 a0)
                      have f3481 : (q_I d3474 1 3 a0).toInt = (q_I r3453.2 1 3 a0).toInt := congrArg Int32.toInt (by rw [e3475]; exact rI_o (by decide))
                      have f3482 := ti_b (q_I r3453.2 1 3 a0)
                      have f3483 : (q_I r3453.2 1 3 a0).toInt = (q_I δ 1 3 a0).toInt := congrArg Int32.toInt (u3461 1 3 a0 (by decide))
                      have f3484 := ti_b (q_I d3474 1 4 a0)
                      have f3485 : (q_I d3474 1 4 a0).toInt = (q_I r3453.2 1 4 a0).toInt := congrArg Int32.toInt (by rw [e3475]; exact rI_o (by decide))
                      have f3486 := ti_b (q_I r3453.2 1 4 a0)
                      have f3487 : (q_I r3453.2 1 4 a0).toInt = (q_I δ 1 4 a0).toInt := congrArg Int32.toInt (u3461 1 4 a0 (by decide))
                      exact ok_some (show CI ad h.1 δ0 d3474 ∧ (kp [(1, 3), (1, 4), (1, 5), (1, 6), (1, 8), (1, 13), (1, 14), (1, 15)] δ d3474 ∧ q_V d3474 = q_V δ ∧ q_R d3474 = q_R δ) ∧ 0 ≤ (q_I d3474 1 3 a0).toInt ∧ (q_I d3474 1 4 a0).toInt ≤ (q_I δ 3 1 nu).toInt from ⟨i3476, ⟨kp_w (by decide) u3477, v3478, v3479⟩, by first | assumption | omega, by first | assumption | omega⟩)
                    · have c3488 : r3453.1.toInt ≠ (0 : Int) := o_ne h3472
                      have f3491 := cb_3_1 i3455 knu o4
                      have f3492 : (q_I r3453.2 3 1 nu).toInt = (q_I δ 3 1 nu).toInt := congrArg Int32.toInt (u3461 3 1 nu (by decide))
                      refine ok_bind (k_X1_valueAt L hN (a0 := a0) (x1 := (q_I r3453.2 1 13 a0)) k_a0 hnu knu (show 0 ≤ ((q_I r3453.2 1 13 a0)).toInt by first | assumption | omega) (show ((q_I r3453.2 1 13 a0)).toInt < (q_I r3453.2 3 1 nu).toInt by first | assumption | omega) i3455) (fun r3489 hr3490 => ?_)
                      have i3493 := hr3490
                      try rw [i3493]
                      have f3494 := ti_b r3489.1
                      refine ok_ite (fun h3495 => ?_) (fun h3495 => ?_)
                      · have c3496 : r3489.1.toInt = r3449.1.toInt := o_eq h3495
                        first | (have q3500 := te_subc (c := 1) (n := 1) rfl (q_I r3453.2 1 14 a0) (by omega) (by omega); obtain ⟨f3501, f3502, f3503⟩ := q3500) | (obtain ⟨q3500, f3501, f3502, f3503⟩ := ti_subc (c := 1) (n := 1) rfl (q_I r3453.2 1 14 a0))
                        refine ok_bind (k_X1_valueAt L hN (a0 := a0) (x1 := ((q_I r3453.2 1 14 a0) - (1 : Int32))) k_a0 hnu knu (show 0 ≤ (((q_I r3453.2 1 14 a0) - (1 : Int32))).toInt by first | assumption | omega) (show (((q_I r3453.2 1 14 a0) - (1 : Int32))).toInt < (q_I r3453.2 3 1 nu).toInt by first | assumption | omega) i3455) (fun r3497 hr3498 => ?_)
                        have i3504 := hr3498
                        try rw [i3504]
                        have f3505 := ti_b r3497.1
                        refine ok_ite (fun h3506 => ?_) (fun h3506 => ?_)
                        · have c3507 : r3497.1.toInt = r3449.1.toInt := o_eq h3506
                          refine ok_bind (k_X1_enterList L hN (a0 := a0) (x1 := r3449.1) k_a0 i3455) (fun r3508 hr3509 => ?_)
                          obtain ⟨i3510, ⟨u3513, u3514, u3515⟩, p3511, p3512⟩ := hr3509
                          have u3516 := kp_t u3464 u3513
                          have v3517 : q_V r3508 = q_V δ := (u3514).trans v3465
                          have v3518 : q_R r3508 = q_R δ := (u3515).trans v3466
                          have f3519 := ti_b (q_I r3508 1 3 a0)
                          have f3520 := ti_b (q_I r3453.2 1 11 a0)
                          have f3521 : (q_I r3453.2 1 11 a0).toInt = (q_I δ 1 11 a0).toInt := congrArg Int32.toInt (u3461 1 11 a0 (by decide))
                          have f3522 := ti_b (q_I r3508 1 4 a0)
                          have f3523 := ti_b (q_I r3453.2 1 12 a0)
                          have f3524 : (q_I r3453.2 1 12 a0).toInt = (q_I δ 1 12 a0).toInt := congrArg Int32.toInt (u3461 1 12 a0 (by decide))
                          exact ok_some (show CI ad h.1 δ0 r3508 ∧ (kp [(1, 3), (1, 4), (1, 5), (1, 6), (1, 8), (1, 13), (1, 14), (1, 15)] δ r3508 ∧ q_V r3508 = q_V δ ∧ q_R r3508 = q_R δ) ∧ 0 ≤ (q_I r3508 1 3 a0).toInt ∧ (q_I r3508 1 4 a0).toInt ≤ (q_I δ 3 1 nu).toInt from ⟨i3510, ⟨kp_w (by decide) u3516, v3517, v3518⟩, by first | assumption | omega, by first | assumption | omega⟩)
                        · have c3525 : r3497.1.toInt ≠ r3449.1.toInt := o_ne h3506
                          unfold J_X1_goOnDropping_172
                          refine ok_bind (k_X1_enterRoom L hN (a0 := a0) (x1 := r3449.1) k_a0 i3455) (fun r3526 hr3527 => ?_)
                          obtain ⟨i3528, ⟨u3531, u3532, u3533⟩, p3529, p3530⟩ := hr3527
                          have u3534 := kp_t u3464 u3531
                          have v3535 : q_V r3526 = q_V δ := (u3532).trans v3465
                          have v3536 : q_R r3526 = q_R δ := (u3533).trans v3466
                          have f3537 := ti_b (q_I r3526 1 3 a0)
                          have f3538 := ti_b (q_I r3526 1 4 a0)
                          exact ok_some (show CI ad h.1 δ0 r3526 ∧ (kp [(1, 3), (1, 4), (1, 5), (1, 6), (1, 8), (1, 13), (1, 14), (1, 15)] δ r3526 ∧ q_V r3526 = q_V δ ∧ q_R r3526 = q_R δ) ∧ 0 ≤ (q_I r3526 1 3 a0).toInt ∧ (q_I r3526 1 4 a0).toInt ≤ (q_I δ 3 1 nu).toInt from ⟨i3528, ⟨kp_w (by decide) u3534, v3535, v3536⟩, by first | assumption | omega, by first | assumption | omega⟩)
                      · have c3539 : r3489.1.toInt ≠ r3449.1.toInt := o_ne h3495
                        unfold J_X1_goOnDropping_172
                        refine ok_bind (k_X1_enterRoom L hN (a0 := a0) (x1 := r3449.1) k_a0 i3455) (fun r3540 hr3541 => ?_)
                        obtain ⟨i3542, ⟨u3545, u3546, u3547⟩, p3543, p3544⟩ := hr3541
                        have u3548 := kp_t u3464 u3545
                        have v3549 : q_V r3540 = q_V δ := (u3546).trans v3465
                        have v3550 : q_R r3540 = q_R δ := (u3547).trans v3466
                        have f3551 := ti_b (q_I r3540 1 3 a0)
                        have f3552 := ti_b (q_I r3540 1 4 a0)
                        exact ok_some (show CI ad h.1 δ0 r3540 ∧ (kp [(1, 3), (1, 4), (1, 5), (1, 6), (1, 8), (1, 13), (1, 14), (1, 15)] δ r3540 ∧ q_V r3540 = q_V δ ∧ q_R r3540 = q_R δ) ∧ 0 ≤ (q_I r3540 1 3 a0).toInt ∧ (q_I r3540 1 4 a0).toInt ≤ (q_I δ 3 1 nu).toInt from ⟨i3542, ⟨kp_w (by decide) u3548, v3549, v3550⟩, by first | assumption | omega, by first | assumption | omega⟩)
                  · have c3553 : (q_I δ 1 8 a0).toInt ≠ (q_I δ 1 9 a0).toInt := o_ne h3447
                    unfold J_X1_goOnDropping_118
                    first | (have q3557 := te_subc (c := 1) (n := 1) rfl (q_I δ 1 12 a0) (by omega) (by omega); obtain ⟨f3558, f3559, f3560⟩ := q3557) | (obtain ⟨q3557, f3558, f3559, f3560⟩ := ti_subc (c := 1) (n := 1) rfl (q_I δ 1 12 a0))
                    refine ok_bind (k_X1_valueAt L hN (a0 := a0) (x1 := ((q_I δ 1 12 a0) - (1 : Int32))) k_a0 hnu knu (show 0 ≤ (((q_I δ 1 12 a0) - (1 : Int32))).toInt by first | assumption | omega) (show (((q_I δ 1 12 a0) - (1 : Int32))).toInt < (q_I δ 3 1 nu).toInt by first | assumption | omega) I) (fun r3554 hr3555 => ?_)
                    have i3561 := hr3555
                    try rw [i3561]
                    have f3562 := ti_b r3554.1
                    unfold J_X1_goOnDropping_121
                    refine ok_bind (k_X1_findRoom L hN (a0 := a0) (x1 := r3554.1) k_a0 hnu knu (show 0 ≤ (q_I δ 1 11 a0).toInt by first | assumption | omega) (show (q_I δ 1 11 a0).toInt ≤ (q_I δ 1 12 a0).toInt by first | assumption | omega) (show (q_I δ 1 12 a0).toInt ≤ (q_I δ 3 1 nu).toInt by first | assumption | omega) I) (fun r3563 hr3564 => ?_)
                    obtain ⟨i3565, ⟨u3571, u3572, u3573⟩, p3566, p3567, p3568, p3569, p3570⟩ := hr3564
                    have u3574 := kp_t kp_r u3571
                    have v3575 : q_V r3563.2 = q_V δ := (u3572).trans rfl
                    have v3576 : q_R r3563.2 = q_R δ := (u3573).trans rfl
                    have f3577 := bo_t p3566
                    have f3578 := ti_b (q_I r3563.2 1 13 a0)
                    have f3579 := ti_b (q_I r3563.2 1 14 a0)
                    have f3580 := ti_b r3563.1
                    have f3581 := ti_b r3563.1
                    refine ok_ite (fun h3582 => ?_) (fun h3582 => ?_)
                    · have c3583 : r3563.1.toInt = (0 : Int) := o_eq h3582
                      refine ok_bdv (fun d3584 e3585 => ?_)
                      have i3586 : CI ad h.1 δ0 d3584 := by rw [e3585]; exact cs_1_15 L i3565 k_a0 (show 0 ≤ (1 : Int) by omega) (show (1 : Int) ≤ 1 by omega)
                      have u3587 := kp_I u3574 e3585
                      have v3588 : q_V d3584 = q_V δ := ((show q_V d3584 = q_V r3563.2 by rw [e3585]; rfl)).trans v3575
                      have v3589 : q_R d3584 = q_R δ := ((show q_R d3584 = q_R r3563.2 by rw [e3585]; rfl)).trans v3576
                      have f3590 := ti_b (q_I d3584 1 3 a0)
                      have f3591 : (q_I d3584 1 3 a0).toInt = (q_I r3563.2 1 3 a0).toInt := congrArg Int32.toInt (by rw [e3585]; exact rI_o (by decide))
                      have f3592 := ti_b (q_I r3563.2 1 3 a0)
                      have f3593 : (q_I r3563.2 1 3 a0).toInt = (q_I δ 1 3 a0).toInt := congrArg Int32.toInt (u3571 1 3 a0 (by decide))
                      have f3594 := ti_b (q_I d3584 1 4 a0)
                      have f3595 : (q_I d3584 1 4 a0).toInt = (q_I r3563.2 1 4 a0).toInt := congrArg Int32.toInt (by rw [e3585]; exact rI_o (by decide))
                      have f3596 := ti_b (q_I r3563.2 1 4 a0)
                      have f3597 : (q_I r3563.2 1 4 a0).toInt = (q_I δ 1 4 a0).toInt := congrArg Int32.toInt (u3571 1 4 a0 (by decide))
                      exact ok_some (show CI ad h.1 δ0 d3584 ∧ (kp [(1, 3), (1, 4), (1, 5), (1, 6), (1, 8), (1, 13), (1, 14), (1, 15)] δ d3584 ∧ q_V d3584 = q_V δ ∧ q_R d3584 = q_R δ) ∧ 0 ≤ (q_I d3584 1 3 a0).toInt ∧ (q_I d3584 1 4 a0).toInt ≤ (q_I δ 3 1 nu).toInt from ⟨i3586, ⟨kp_w (by decide) u3587, v3588, v3589⟩, by first | assumption | omega, by first | assumption | omega⟩)
                    · have c3598 : r3563.1.toInt ≠ (0 : Int) := o_ne h3582
                      have f3601 := cb_3_1 i3565 knu o4
                      have f3602 : (q_I r3563.2 3 1 nu).toInt = (q_I δ 3 1 nu).toInt := congrArg Int32.toInt (u3571 3 1 nu (by decide))
                      refine ok_bind (k_X1_valueAt L hN (a0 := a0) (x1 := (q_I r3563.2 1 13 a0)) k_a0 hnu knu (show 0 ≤ ((q_I r3563.2 1 13 a0)).toInt by first | assumption | omega) (show ((q_I r3563.2 1 13 a0)).toInt < (q_I r3563.2 3 1 nu).toInt by first | assumption | omega) i3565) (fun r3599 hr3600 => ?_)
                      have i3603 := hr3600
                      try rw [i3603]
                      have f3604 := ti_b r3599.1
                      refine ok_ite (fun h3605 => ?_) (fun h3605 => ?_)
                      · have c3606 : r3599.1.toInt = r3554.1.toInt := o_eq h3605
                        first | (have q3610 := te_subc (c := 1) (n := 1) rfl (q_I r3563.2 1 14 a0) (by omega) (by omega); obtain ⟨f3611, f3612, f3613⟩ := q3610) | (obtain ⟨q3610, f3611, f3612, f3613⟩ := ti_subc (c := 1) (n := 1) rfl (q_I r3563.2 1 14 a0))
                        refine ok_bind (k_X1_valueAt L hN (a0 := a0) (x1 := ((q_I r3563.2 1 14 a0) - (1 : Int32))) k_a0 hnu knu (show 0 ≤ (((q_I r3563.2 1 14 a0) - (1 : Int32))).toInt by first | assumption | omega) (show (((q_I r3563.2 1 14 a0) - (1 : Int32))).toInt < (q_I r3563.2 3 1 nu).toInt by first | assumption | omega) i3565) (fun r3607 hr3608 => ?_)
                        have i3614 := hr3608
                        try rw [i3614]
                        have f3615 := ti_b r3607.1
                        refine ok_ite (fun h3616 => ?_) (fun h3616 => ?_)
                        · have c3617 : r3607.1.toInt = r3554.1.toInt := o_eq h3616
                          refine ok_bind (k_X1_enterList L hN (a0 := a0) (x1 := r3554.1) k_a0 i3565) (fun r3618 hr3619 => ?_)
                          obtain ⟨i3620, ⟨u3623, u3624, u3625⟩, p3621, p3622⟩ := hr3619
                          have u3626 := kp_t u3574 u3623
                          have v3627 : q_V r3618 = q_V δ := (u3624).trans v3575
                          have v3628 : q_R r3618 = q_R δ := (u3625).trans v3576
                          have f3629 := ti_b (q_I r3618 1 3 a0)
                          have f3630 := ti_b (q_I r3563.2 1 11 a0)
                          have f3631 : (q_I r3563.2 1 11 a0).toInt = (q_I δ 1 11 a0).toInt := congrArg Int32.toInt (u3571 1 11 a0 (by decide))
                          have f3632 := ti_b (q_I r3618 1 4 a0)
                          have f3633 := ti_b (q_I r3563.2 1 12 a0)
                          have f3634 : (q_I r3563.2 1 12 a0).toInt = (q_I δ 1 12 a0).toInt := congrArg Int32.toInt (u3571 1 12 a0 (by decide))
                          exact ok_some (show CI ad h.1 δ0 r3618 ∧ (kp [(1, 3), (1, 4), (1, 5), (1, 6), (1, 8), (1, 13), (1, 14), (1, 15)] δ r3618 ∧ q_V r3618 = q_V δ ∧ q_R r3618 = q_R δ) ∧ 0 ≤ (q_I r3618 1 3 a0).toInt ∧ (q_I r3618 1 4 a0).toInt ≤ (q_I δ 3 1 nu).toInt from ⟨i3620, ⟨kp_w (by decide) u3626, v3627, v3628⟩, by first | assumption | omega, by first | assumption | omega⟩)
                        · have c3635 : r3607.1.toInt ≠ r3554.1.toInt := o_ne h3616
                          unfold J_X1_goOnDropping_172
                          refine ok_bind (k_X1_enterRoom L hN (a0 := a0) (x1 := r3554.1) k_a0 i3565) (fun r3636 hr3637 => ?_)
                          obtain ⟨i3638, ⟨u3641, u3642, u3643⟩, p3639, p3640⟩ := hr3637
                          have u3644 := kp_t u3574 u3641
                          have v3645 : q_V r3636 = q_V δ := (u3642).trans v3575
                          have v3646 : q_R r3636 = q_R δ := (u3643).trans v3576
                          have f3647 := ti_b (q_I r3636 1 3 a0)
                          have f3648 := ti_b (q_I r3636 1 4 a0)
                          exact ok_some (show CI ad h.1 δ0 r3636 ∧ (kp [(1, 3), (1, 4), (1, 5), (1, 6), (1, 8), (1, 13), (1, 14), (1, 15)] δ r3636 ∧ q_V r3636 = q_V δ ∧ q_R r3636 = q_R δ) ∧ 0 ≤ (q_I r3636 1 3 a0).toInt ∧ (q_I r3636 1 4 a0).toInt ≤ (q_I δ 3 1 nu).toInt from ⟨i3638, ⟨kp_w (by decide) u3644, v3645, v3646⟩, by first | assumption | omega, by first | assumption | omega⟩)
                      · have c3649 : r3599.1.toInt ≠ r3554.1.toInt := o_ne h3605
                        unfold J_X1_goOnDropping_172
                        refine ok_bind (k_X1_enterRoom L hN (a0 := a0) (x1 := r3554.1) k_a0 i3565) (fun r3650 hr3651 => ?_)
                        obtain ⟨i3652, ⟨u3655, u3656, u3657⟩, p3653, p3654⟩ := hr3651
                        have u3658 := kp_t u3574 u3655
                        have v3659 : q_V r3650 = q_V δ := (u3656).trans v3575
                        have v3660 : q_R r3650 = q_R δ := (u3657).trans v3576
                        have f3661 := ti_b (q_I r3650 1 3 a0)
                        have f3662 := ti_b (q_I r3650 1 4 a0)
                        exact ok_some (show CI ad h.1 δ0 r3650 ∧ (kp [(1, 3), (1, 4), (1, 5), (1, 6), (1, 8), (1, 13), (1, 14), (1, 15)] δ r3650 ∧ q_V r3650 = q_V δ ∧ q_R r3650 = q_R δ) ∧ 0 ≤ (q_I r3650 1 3 a0).toInt ∧ (q_I r3650 1 4 a0).toInt ≤ (q_I δ 3 1 nu).toInt from ⟨i3652, ⟨kp_w (by decide) u3658, v3659, v3660⟩, by first | assumption | omega, by first | assumption | omega⟩)
              · have c3663 : (0 : Int) ≠ (0 : Int) := o_ne h3342
                unfold J_X1_goOnDropping_81
                refine ok_ite (fun h3664 => ?_) (fun h3664 => ?_)
                · have c3665 : (0 : Int) = (0 : Int) := o_eq h3664
                  unfold J_X1_goOnDropping_121
                  refine ok_bind (k_X1_findRoom L hN (a0 := a0) (x1 := (q_I δ 1 8 a0)) k_a0 hnu knu (show 0 ≤ (q_I δ 1 11 a0).toInt by first | assumption | omega) (show (q_I δ 1 11 a0).toInt ≤ (q_I δ 1 12 a0).toInt by first | assumption | omega) (show (q_I δ 1 12 a0).toInt ≤ (q_I δ 3 1 nu).toInt by first | assumption | omega) I) (fun r3666 hr3667 => ?_)
                  obtain ⟨i3668, ⟨u3674, u3675, u3676⟩, p3669, p3670, p3671, p3672, p3673⟩ := hr3667
                  have u3677 := kp_t kp_r u3674
                  have v3678 : q_V r3666.2 = q_V δ := (u3675).trans rfl
                  have v3679 : q_R r3666.2 = q_R δ := (u3676).trans rfl
                  have f3680 := bo_t p3669
                  have f3681 := ti_b (q_I r3666.2 1 13 a0)
                  have f3682 := ti_b (q_I r3666.2 1 14 a0)
                  have f3683 := ti_b r3666.1
                  have f3684 := ti_b r3666.1
                  refine ok_ite (fun h3685 => ?_) (fun h3685 => ?_)
                  · have c3686 : r3666.1.toInt = (0 : Int) := o_eq h3685
                    refine ok_bdv (fun d3687 e3688 => ?_)
                    have i3689 : CI ad h.1 δ0 d3687 := by rw [e3688]; exact cs_1_15 L i3668 k_a0 (show 0 ≤ (1 : Int) by omega) (show (1 : Int) ≤ 1 by omega)
                    have u3690 := kp_I u3677 e3688
                    have v3691 : q_V d3687 = q_V δ := ((show q_V d3687 = q_V r3666.2 by rw [e3688]; rfl)).trans v3678
                    have v3692 : q_R d3687 = q_R δ := ((show q_R d3687 = q_R r3666.2 by rw [e3688]; rfl)).trans v3679
                    have f3693 := ti_b (q_I d3687 1 3 a0)
                    have f3694 : (q_I d3687 1 3 a0).toInt = (q_I r3666.2 1 3 a0).toInt := congrArg Int32.toInt (by rw [e3688]; exact rI_o (by decide))
                    have f3695 := ti_b (q_I r3666.2 1 3 a0)
                    have f3696 : (q_I r3666.2 1 3 a0).toInt = (q_I δ 1 3 a0).toInt := congrArg Int32.toInt (u3674 1 3 a0 (by decide))
                    have f3697 := ti_b (q_I d3687 1 4 a0)
                    have f3698 : (q_I d3687 1 4 a0).toInt = (q_I r3666.2 1 4 a0).toInt := congrArg Int32.toInt (by rw [e3688]; exact rI_o (by decide))
                    have f3699 := ti_b (q_I r3666.2 1 4 a0)
                    have f3700 : (q_I r3666.2 1 4 a0).toInt = (q_I δ 1 4 a0).toInt := congrArg Int32.toInt (u3674 1 4 a0 (by decide))
                    exact ok_some (show CI ad h.1 δ0 d3687 ∧ (kp [(1, 3), (1, 4), (1, 5), (1, 6), (1, 8), (1, 13), (1, 14), (1, 15)] δ d3687 ∧ q_V d3687 = q_V δ ∧ q_R d3687 = q_R δ) ∧ 0 ≤ (q_I d3687 1 3 a0).toInt ∧ (q_I d3687 1 4 a0).toInt ≤ (q_I δ 3 1 nu).toInt from ⟨i3689, ⟨kp_w (by decide) u3690, v3691, v3692⟩, by first | assumption | omega, by first | assumption | omega⟩)
                  · have c3701 : r3666.1.toInt ≠ (0 : Int) := o_ne h3685
                    have f3704 := cb_3_1 i3668 knu o4
                    have f3705 : (q_I r3666.2 3 1 nu).toInt = (q_I δ 3 1 nu).toInt := congrArg Int32.toInt (u3674 3 1 nu (by decide))
                    refine ok_bind (k_X1_valueAt L hN (a0 := a0) (x1 := (q_I r3666.2 1 13 a0)) k_a0 hnu knu (show 0 ≤ ((q_I r3666.2 1 13 a0)).toInt by first | assumption | omega) (show ((q_I r3666.2 1 13 a0)).toInt < (q_I r3666.2 3 1 nu).toInt by first | assumption | omega) i3668) (fun r3702 hr3703 => ?_)
                    have i3706 := hr3703
                    try rw [i3706]
                    have f3707 := ti_b r3702.1
                    refine ok_ite (fun h3708 => ?_) (fun h3708 => ?_)
                    · have c3709 : r3702.1.toInt = (q_I δ 1 8 a0).toInt := o_eq h3708
                      first | (have q3713 := te_subc (c := 1) (n := 1) rfl (q_I r3666.2 1 14 a0) (by omega) (by omega); obtain ⟨f3714, f3715, f3716⟩ := q3713) | (obtain ⟨q3713, f3714, f3715, f3716⟩ := ti_subc (c := 1) (n := 1) rfl (q_I r3666.2 1 14 a0))
                      refine ok_bind (k_X1_valueAt L hN (a0 := a0) (x1 := ((q_I r3666.2 1 14 a0) - (1 : Int32))) k_a0 hnu knu (show 0 ≤ (((q_I r3666.2 1 14 a0) - (1 : Int32))).toInt by first | assumption | omega) (show (((q_I r3666.2 1 14 a0) - (1 : Int32))).toInt < (q_I r3666.2 3 1 nu).toInt by first | assumption | omega) i3668) (fun r3710 hr3711 => ?_)
                      have i3717 := hr3711
                      try rw [i3717]
                      have f3718 := ti_b r3710.1
                      refine ok_ite (fun h3719 => ?_) (fun h3719 => ?_)
                      · have c3720 : r3710.1.toInt = (q_I δ 1 8 a0).toInt := o_eq h3719
                        refine ok_bind (k_X1_enterList L hN (a0 := a0) (x1 := (q_I δ 1 8 a0)) k_a0 i3668) (fun r3721 hr3722 => ?_)
                        obtain ⟨i3723, ⟨u3726, u3727, u3728⟩, p3724, p3725⟩ := hr3722
                        have u3729 := kp_t u3677 u3726
                        have v3730 : q_V r3721 = q_V δ := (u3727).trans v3678
                        have v3731 : q_R r3721 = q_R δ := (u3728).trans v3679
                        have f3732 := ti_b (q_I r3721 1 3 a0)
                        have f3733 := ti_b (q_I r3666.2 1 11 a0)
                        have f3734 : (q_I r3666.2 1 11 a0).toInt = (q_I δ 1 11 a0).toInt := congrArg Int32.toInt (u3674 1 11 a0 (by decide))
                        have f3735 := ti_b (q_I r3721 1 4 a0)
                        have f3736 := ti_b (q_I r3666.2 1 12 a0)
                        have f3737 : (q_I r3666.2 1 12 a0).toInt = (q_I δ 1 12 a0).toInt := congrArg Int32.toInt (u3674 1 12 a0 (by decide))
                        exact ok_some (show CI ad h.1 δ0 r3721 ∧ (kp [(1, 3), (1, 4), (1, 5), (1, 6), (1, 8), (1, 13), (1, 14), (1, 15)] δ r3721 ∧ q_V r3721 = q_V δ ∧ q_R r3721 = q_R δ) ∧ 0 ≤ (q_I r3721 1 3 a0).toInt ∧ (q_I r3721 1 4 a0).toInt ≤ (q_I δ 3 1 nu).toInt from ⟨i3723, ⟨kp_w (by decide) u3729, v3730, v3731⟩, by first | assumption | omega, by first | assumption | omega⟩)
                      · have c3738 : r3710.1.toInt ≠ (q_I δ 1 8 a0).toInt := o_ne h3719
                        unfold J_X1_goOnDropping_172
                        refine ok_bind (k_X1_enterRoom L hN (a0 := a0) (x1 := (q_I δ 1 8 a0)) k_a0 i3668) (fun r3739 hr3740 => ?_)
                        obtain ⟨i3741, ⟨u3744, u3745, u3746⟩, p3742, p3743⟩ := hr3740
                        have u3747 := kp_t u3677 u3744
                        have v3748 : q_V r3739 = q_V δ := (u3745).trans v3678
                        have v3749 : q_R r3739 = q_R δ := (u3746).trans v3679
                        have f3750 := ti_b (q_I r3739 1 3 a0)
                        have f3751 := ti_b (q_I r3739 1 4 a0)
                        exact ok_some (show CI ad h.1 δ0 r3739 ∧ (kp [(1, 3), (1, 4), (1, 5), (1, 6), (1, 8), (1, 13), (1, 14), (1, 15)] δ r3739 ∧ q_V r3739 = q_V δ ∧ q_R r3739 = q_R δ) ∧ 0 ≤ (q_I r3739 1 3 a0).toInt ∧ (q_I r3739 1 4 a0).toInt ≤ (q_I δ 3 1 nu).toInt from ⟨i3741, ⟨kp_w (by decide) u3747, v3748, v3749⟩, by first | assumption | omega, by first | assumption | omega⟩)
                    · have c3752 : r3702.1.toInt ≠ (q_I δ 1 8 a0).toInt := o_ne h3708
                      unfold J_X1_goOnDropping_172
                      refine ok_bind (k_X1_enterRoom L hN (a0 := a0) (x1 := (q_I δ 1 8 a0)) k_a0 i3668) (fun r3753 hr3754 => ?_)
                      obtain ⟨i3755, ⟨u3758, u3759, u3760⟩, p3756, p3757⟩ := hr3754
                      have u3761 := kp_t u3677 u3758
                      have v3762 : q_V r3753 = q_V δ := (u3759).trans v3678
                      have v3763 : q_R r3753 = q_R δ := (u3760).trans v3679
                      have f3764 := ti_b (q_I r3753 1 3 a0)
                      have f3765 := ti_b (q_I r3753 1 4 a0)
                      exact ok_some (show CI ad h.1 δ0 r3753 ∧ (kp [(1, 3), (1, 4), (1, 5), (1, 6), (1, 8), (1, 13), (1, 14), (1, 15)] δ r3753 ∧ q_V r3753 = q_V δ ∧ q_R r3753 = q_R δ) ∧ 0 ≤ (q_I r3753 1 3 a0).toInt ∧ (q_I r3753 1 4 a0).toInt ≤ (q_I δ 3 1 nu).toInt from ⟨i3755, ⟨kp_w (by decide) u3761, v3762, v3763⟩, by first | assumption | omega, by first | assumption | omega⟩)
                · have c3766 : (0 : Int) ≠ (0 : Int) := o_ne h3664
                  refine ok_ite (fun h3767 => ?_) (fun h3767 => ?_)
                  · have c3768 : (q_I δ 1 8 a0).toInt = (q_I δ 1 9 a0).toInt := o_eq h3767
                    unfold J_X1_goOnDropping_118
                    refine ok_bind (k_X1_valueAt L hN (a0 := a0) (x1 := (q_I δ 1 11 a0)) k_a0 hnu knu (show 0 ≤ ((q_I δ 1 11 a0)).toInt by first | assumption | omega) (show ((q_I δ 1 11 a0)).toInt < (q_I δ 3 1 nu).toInt by first | assumption | omega) I) (fun r3769 hr3770 => ?_)
                    have i3771 := hr3770
                    try rw [i3771]
                    have f3772 := ti_b r3769.1
                    unfold J_X1_goOnDropping_121
                    refine ok_bind (k_X1_findRoom L hN (a0 := a0) (x1 := r3769.1) k_a0 hnu knu (show 0 ≤ (q_I δ 1 11 a0).toInt by first | assumption | omega) (show (q_I δ 1 11 a0).toInt ≤ (q_I δ 1 12 a0).toInt by first | assumption | omega) (show (q_I δ 1 12 a0).toInt ≤ (q_I δ 3 1 nu).toInt by first | assumption | omega) I) (fun r3773 hr3774 => ?_)
                    obtain ⟨i3775, ⟨u3781, u3782, u3783⟩, p3776, p3777, p3778, p3779, p3780⟩ := hr3774
                    have u3784 := kp_t kp_r u3781
                    have v3785 : q_V r3773.2 = q_V δ := (u3782).trans rfl
                    have v3786 : q_R r3773.2 = q_R δ := (u3783).trans rfl
                    have f3787 := bo_t p3776
                    have f3788 := ti_b (q_I r3773.2 1 13 a0)
                    have f3789 := ti_b (q_I r3773.2 1 14 a0)
                    have f3790 := ti_b r3773.1
                    have f3791 := ti_b r3773.1
                    refine ok_ite (fun h3792 => ?_) (fun h3792 => ?_)
                    · have c3793 : r3773.1.toInt = (0 : Int) := o_eq h3792
                      refine ok_bdv (fun d3794 e3795 => ?_)
                      have i3796 : CI ad h.1 δ0 d3794 := by rw [e3795]; exact cs_1_15 L i3775 k_a0 (show 0 ≤ (1 : Int) by omega) (show (1 : Int) ≤ 1 by omega)
                      have u3797 := kp_I u3784 e3795
                      have v3798 : q_V d3794 = q_V δ := ((show q_V d3794 = q_V r3773.2 by rw [e3795]; rfl)).trans v3785
                      have v3799 : q_R d3794 = q_R δ := ((show q_R d3794 = q_R r3773.2 by rw [e3795]; rfl)).trans v3786
                      have f3800 := ti_b (q_I d3794 1 3 a0)
                      have f3801 : (q_I d3794 1 3 a0).toInt = (q_I r3773.2 1 3 a0).toInt := congrArg Int32.toInt (by rw [e3795]; exact rI_o (by decide))
                      have f3802 := ti_b (q_I r3773.2 1 3 a0)
                      have f3803 : (q_I r3773.2 1 3 a0).toInt = (q_I δ 1 3 a0).toInt := congrArg Int32.toInt (u3781 1 3 a0 (by decide))
                      have f3804 := ti_b (q_I d3794 1 4 a0)
                      have f3805 : (q_I d3794 1 4 a0).toInt = (q_I r3773.2 1 4 a0).toInt := congrArg Int32.toInt (by rw [e3795]; exact rI_o (by decide))
                      have f3806 := ti_b (q_I r3773.2 1 4 a0)
                      have f3807 : (q_I r3773.2 1 4 a0).toInt = (q_I δ 1 4 a0).toInt := congrArg Int32.toInt (u3781 1 4 a0 (by decide))
                      exact ok_some (show CI ad h.1 δ0 d3794 ∧ (kp [(1, 3), (1, 4), (1, 5), (1, 6), (1, 8), (1, 13), (1, 14), (1, 15)] δ d3794 ∧ q_V d3794 = q_V δ ∧ q_R d3794 = q_R δ) ∧ 0 ≤ (q_I d3794 1 3 a0).toInt ∧ (q_I d3794 1 4 a0).toInt ≤ (q_I δ 3 1 nu).toInt from ⟨i3796, ⟨kp_w (by decide) u3797, v3798, v3799⟩, by first | assumption | omega, by first | assumption | omega⟩)
                    · have c3808 : r3773.1.toInt ≠ (0 : Int) := o_ne h3792
                      have f3811 := cb_3_1 i3775 knu o4
                      have f3812 : (q_I r3773.2 3 1 nu).toInt = (q_I δ 3 1 nu).toInt := congrArg Int32.toInt (u3781 3 1 nu (by decide))
                      refine ok_bind (k_X1_valueAt L hN (a0 := a0) (x1 := (q_I r3773.2 1 13 a0)) k_a0 hnu knu (show 0 ≤ ((q_I r3773.2 1 13 a0)).toInt by first | assumption | omega) (show ((q_I r3773.2 1 13 a0)).toInt < (q_I r3773.2 3 1 nu).toInt by first | assumption | omega) i3775) (fun r3809 hr3810 => ?_)
                      have i3813 := hr3810
                      try rw [i3813]
                      have f3814 := ti_b r3809.1
                      refine ok_ite (fun h3815 => ?_) (fun h3815 => ?_)
                      · have c3816 : r3809.1.toInt = r3769.1.toInt := o_eq h3815
                        first | (have q3820 := te_subc (c := 1) (n := 1) rfl (q_I r3773.2 1 14 a0) (by omega) (by omega); obtain ⟨f3821, f3822, f3823⟩ := q3820) | (obtain ⟨q3820, f3821, f3822, f3823⟩ := ti_subc (c := 1) (n := 1) rfl (q_I r3773.2 1 14 a0))
                        refine ok_bind (k_X1_valueAt L hN (a0 := a0) (x1 := ((q_I r3773.2 1 14 a0) - (1 : Int32))) k_a0 hnu knu (show 0 ≤ (((q_I r3773.2 1 14 a0) - (1 : Int32))).toInt by first | assumption | omega) (show (((q_I r3773.2 1 14 a0) - (1 : Int32))).toInt < (q_I r3773.2 3 1 nu).toInt by first | assumption | omega) i3775) (fun r3817 hr3818 => ?_)
                        have i3824 := hr3818
                        try rw [i3824]
                        have f3825 := ti_b r3817.1
                        refine ok_ite (fun h3826 => ?_) (fun h3826 => ?_)
                        · have c3827 : r3817.1.toInt = r3769.1.toInt := o_eq h3826
                          refine ok_bind (k_X1_enterList L hN (a0 := a0) (x1 := r3769.1) k_a0 i3775) (fun r3828 hr3829 => ?_)
                          obtain ⟨i3830, ⟨u3833, u3834, u3835⟩, p3831, p3832⟩ := hr3829
                          have u3836 := kp_t u3784 u3833
                          have v3837 : q_V r3828 = q_V δ := (u3834).trans v3785
                          have v3838 : q_R r3828 = q_R δ := (u3835).trans v3786
                          have f3839 := ti_b (q_I r3828 1 3 a0)
                          have f3840 := ti_b (q_I r3773.2 1 11 a0)
                          have f3841 : (q_I r3773.2 1 11 a0).toInt = (q_I δ 1 11 a0).toInt := congrArg Int32.toInt (u3781 1 11 a0 (by decide))
                          have f3842 := ti_b (q_I r3828 1 4 a0)
                          have f3843 := ti_b (q_I r3773.2 1 12 a0)
                          have f3844 : (q_I r3773.2 1 12 a0).toInt = (q_I δ 1 12 a0).toInt := congrArg Int32.toInt (u3781 1 12 a0 (by decide))
                          exact ok_some (show CI ad h.1 δ0 r3828 ∧ (kp [(1, 3), (1, 4), (1, 5), (1, 6), (1, 8), (1, 13), (1, 14), (1, 15)] δ r3828 ∧ q_V r3828 = q_V δ ∧ q_R r3828 = q_R δ) ∧ 0 ≤ (q_I r3828 1 3 a0).toInt ∧ (q_I r3828 1 4 a0).toInt ≤ (q_I δ 3 1 nu).toInt from ⟨i3830, ⟨kp_w (by decide) u3836, v3837, v3838⟩, by first | assumption | omega, by first | assumption | omega⟩)
                        · have c3845 : r3817.1.toInt ≠ r3769.1.toInt := o_ne h3826
                          unfold J_X1_goOnDropping_172
                          refine ok_bind (k_X1_enterRoom L hN (a0 := a0) (x1 := r3769.1) k_a0 i3775) (fun r3846 hr3847 => ?_)
                          obtain ⟨i3848, ⟨u3851, u3852, u3853⟩, p3849, p3850⟩ := hr3847
                          have u3854 := kp_t u3784 u3851
                          have v3855 : q_V r3846 = q_V δ := (u3852).trans v3785
                          have v3856 : q_R r3846 = q_R δ := (u3853).trans v3786
                          have f3857 := ti_b (q_I r3846 1 3 a0)
                          have f3858 := ti_b (q_I r3846 1 4 a0)
                          exact ok_some (show CI ad h.1 δ0 r3846 ∧ (kp [(1, 3), (1, 4), (1, 5), (1, 6), (1, 8), (1, 13), (1, 14), (1, 15)] δ r3846 ∧ q_V r3846 = q_V δ ∧ q_R r3846 = q_R δ) ∧ 0 ≤ (q_I r3846 1 3 a0).toInt ∧ (q_I r3846 1 4 a0).toInt ≤ (q_I δ 3 1 nu).toInt from ⟨i3848, ⟨kp_w (by decide) u3854, v3855, v3856⟩, by first | assumption | omega, by first | assumption | omega⟩)
                      · have c3859 : r3809.1.toInt ≠ r3769.1.toInt := o_ne h3815
                        unfold J_X1_goOnDropping_172
                        refine ok_bind (k_X1_enterRoom L hN (a0 := a0) (x1 := r3769.1) k_a0 i3775) (fun r3860 hr3861 => ?_)
                        obtain ⟨i3862, ⟨u3865, u3866, u3867⟩, p3863, p3864⟩ := hr3861
                        have u3868 := kp_t u3784 u3865
                        have v3869 : q_V r3860 = q_V δ := (u3866).trans v3785
                        have v3870 : q_R r3860 = q_R δ := (u3867).trans v3786
                        have f3871 := ti_b (q_I r3860 1 3 a0)
                        have f3872 := ti_b (q_I r3860 1 4 a0)
                        exact ok_some (show CI ad h.1 δ0 r3860 ∧ (kp [(1, 3), (1, 4), (1, 5), (1, 6), (1, 8), (1, 13), (1, 14), (1, 15)] δ r3860 ∧ q_V r3860 = q_V δ ∧ q_R r3860 = q_R δ) ∧ 0 ≤ (q_I r3860 1 3 a0).toInt ∧ (q_I r3860 1 4 a0).toInt ≤ (q_I δ 3 1 nu).toInt from ⟨i3862, ⟨kp_w (by decide) u3868, v3869, v3870⟩, by first | assumption | omega, by first | assumption | omega⟩)
                  · have c3873 : (q_I δ 1 8 a0).toInt ≠ (q_I δ 1 9 a0).toInt := o_ne h3767
                    unfold J_X1_goOnDropping_118
                    first | (have q3877 := te_subc (c := 1) (n := 1) rfl (q_I δ 1 12 a0) (by omega) (by omega); obtain ⟨f3878, f3879, f3880⟩ := q3877) | (obtain ⟨q3877, f3878, f3879, f3880⟩ := ti_subc (c := 1) (n := 1) rfl (q_I δ 1 12 a0))
                    refine ok_bind (k_X1_valueAt L hN (a0 := a0) (x1 := ((q_I δ 1 12 a0) - (1 : Int32))) k_a0 hnu knu (show 0 ≤ (((q_I δ 1 12 a0) - (1 : Int32))).toInt by first | assumption | omega) (show (((q_I δ 1 12 a0) - (1 : Int32))).toInt < (q_I δ 3 1 nu).toInt by first | assumption | omega) I) (fun r3874 hr3875 => ?_)
                    have i3881 := hr3875
                    try rw [i3881]
                    have f3882 := ti_b r3874.1
                    unfold J_X1_goOnDropping_121
                    refine ok_bind (k_X1_findRoom L hN (a0 := a0) (x1 := r3874.1) k_a0 hnu knu (show 0 ≤ (q_I δ 1 11 a0).toInt by first | assumption | omega) (show (q_I δ 1 11 a0).toInt ≤ (q_I δ 1 12 a0).toInt by first | assumption | omega) (show (q_I δ 1 12 a0).toInt ≤ (q_I δ 3 1 nu).toInt by first | assumption | omega) I) (fun r3883 hr3884 => ?_)
                    obtain ⟨i3885, ⟨u3891, u3892, u3893⟩, p3886, p3887, p3888, p3889, p3890⟩ := hr3884
                    have u3894 := kp_t kp_r u3891
                    have v3895 : q_V r3883.2 = q_V δ := (u3892).trans rfl
                    have v3896 : q_R r3883.2 = q_R δ := (u3893).trans rfl
                    have f3897 := bo_t p3886
                    have f3898 := ti_b (q_I r3883.2 1 13 a0)
                    have f3899 := ti_b (q_I r3883.2 1 14 a0)
                    have f3900 := ti_b r3883.1
                    have f3901 := ti_b r3883.1
                    refine ok_ite (fun h3902 => ?_) (fun h3902 => ?_)
                    · have c3903 : r3883.1.toInt = (0 : Int) := o_eq h3902
                      refine ok_bdv (fun d3904 e3905 => ?_)
                      have i3906 : CI ad h.1 δ0 d3904 := by rw [e3905]; exact cs_1_15 L i3885 k_a0 (show 0 ≤ (1 : Int) by omega) (show (1 : Int) ≤ 1 by omega)
                      have u3907 := kp_I u3894 e3905
                      have v3908 : q_V d3904 = q_V δ := ((show q_V d3904 = q_V r3883.2 by rw [e3905]; rfl)).trans v3895
                      have v3909 : q_R d3904 = q_R δ := ((show q_R d3904 = q_R r3883.2 by rw [e3905]; rfl)).trans v3896
                      have f3910 := ti_b (q_I d3904 1 3 a0)
                      have f3911 : (q_I d3904 1 3 a0).toInt = (q_I r3883.2 1 3 a0).toInt := congrArg Int32.toInt (by rw [e3905]; exact rI_o (by decide))
                      have f3912 := ti_b (q_I r3883.2 1 3 a0)
                      have f3913 : (q_I r3883.2 1 3 a0).toInt = (q_I δ 1 3 a0).toInt := congrArg Int32.toInt (u3891 1 3 a0 (by decide))
                      have f3914 := ti_b (q_I d3904 1 4 a0)
                      have f3915 : (q_I d3904 1 4 a0).toInt = (q_I r3883.2 1 4 a0).toInt := congrArg Int32.toInt (by rw [e3905]; exact rI_o (by decide))
                      have f3916 := ti_b (q_I r3883.2 1 4 a0)
                      have f3917 : (q_I r3883.2 1 4 a0).toInt = (q_I δ 1 4 a0).toInt := congrArg Int32.toInt (u3891 1 4 a0 (by decide))
                      exact ok_some (show CI ad h.1 δ0 d3904 ∧ (kp [(1, 3), (1, 4), (1, 5), (1, 6), (1, 8), (1, 13), (1, 14), (1, 15)] δ d3904 ∧ q_V d3904 = q_V δ ∧ q_R d3904 = q_R δ) ∧ 0 ≤ (q_I d3904 1 3 a0).toInt ∧ (q_I d3904 1 4 a0).toInt ≤ (q_I δ 3 1 nu).toInt from ⟨i3906, ⟨kp_w (by decide) u3907, v3908, v3909⟩, by first | assumption | omega, by first | assumption | omega⟩)
                    · have c3918 : r3883.1.toInt ≠ (0 : Int) := o_ne h3902
                      have f3921 := cb_3_1 i3885 knu o4
                      have f3922 : (q_I r3883.2 3 1 nu).toInt = (q_I δ 3 1 nu).toInt := congrArg Int32.toInt (u3891 3 1 nu (by decide))
                      refine ok_bind (k_X1_valueAt L hN (a0 := a0) (x1 := (q_I r3883.2 1 13 a0)) k_a0 hnu knu (show 0 ≤ ((q_I r3883.2 1 13 a0)).toInt by first | assumption | omega) (show ((q_I r3883.2 1 13 a0)).toInt < (q_I r3883.2 3 1 nu).toInt by first | assumption | omega) i3885) (fun r3919 hr3920 => ?_)
                      have i3923 := hr3920
                      try rw [i3923]
                      have f3924 := ti_b r3919.1
                      refine ok_ite (fun h3925 => ?_) (fun h3925 => ?_)
                      · have c3926 : r3919.1.toInt = r3874.1.toInt := o_eq h3925
                        first | (have q3930 := te_subc (c := 1) (n := 1) rfl (q_I r3883.2 1 14 a0) (by omega) (by omega); obtain ⟨f3931, f3932, f3933⟩ := q3930) | (obtain ⟨q3930, f3931, f3932, f3933⟩ := ti_subc (c := 1) (n := 1) rfl (q_I r3883.2 1 14 a0))
                        refine ok_bind (k_X1_valueAt L hN (a0 := a0) (x1 := ((q_I r3883.2 1 14 a0) - (1 : Int32))) k_a0 hnu knu (show 0 ≤ (((q_I r3883.2 1 14 a0) - (1 : Int32))).toInt by first | assumption | omega) (show (((q_I r3883.2 1 14 a0) - (1 : Int32))).toInt < (q_I r3883.2 3 1 nu).toInt by first | assumption | omega) i3885) (fun r3927 hr3928 => ?_)
                        have i3934 := hr3928
                        try rw [i3934]
                        have f3935 := ti_b r3927.1
                        refine ok_ite (fun h3936 => ?_) (fun h3936 => ?_)
                        · have c3937 : r3927.1.toInt = r3874.1.toInt := o_eq h3936
                          refine ok_bind (k_X1_enterList L hN (a0 := a0) (x1 := r3874.1) k_a0 i3885) (fun r3938 hr3939 => ?_)
                          obtain ⟨i3940, ⟨u3943, u3944, u3945⟩, p3941, p3942⟩ := hr3939
                          have u3946 := kp_t u3894 u3943
                          have v3947 : q_V r3938 = q_V δ := (u3944).trans v3895
                          have v3948 : q_R r3938 = q_R δ := (u3945).trans v3896
                          have f3949 := ti_b (q_I r3938 1 3 a0)
                          have f3950 := ti_b (q_I r3883.2 1 11 a0)
                          have f3951 : (q_I r3883.2 1 11 a0).toInt = (q_I δ 1 11 a0).toInt := congrArg Int32.toInt (u3891 1 11 a0 (by decide))
                          have f3952 := ti_b (q_I r3938 1 4 a0)
                          have f3953 := ti_b (q_I r3883.2 1 12 a0)
                          have f3954 : (q_I r3883.2 1 12 a0).toInt = (q_I δ 1 12 a0).toInt := congrArg Int32.toInt (u3891 1 12 a0 (by decide))
                          exact ok_some (show CI ad h.1 δ0 r3938 ∧ (kp [(1, 3), (1, 4), (1, 5), (1, 6), (1, 8), (1, 13), (1, 14), (1, 15)] δ r3938 ∧ q_V r3938 = q_V δ ∧ q_R r3938 = q_R δ) ∧ 0 ≤ (q_I r3938 1 3 a0).toInt ∧ (q_I r3938 1 4 a0).toInt ≤ (q_I δ 3 1 nu).toInt from ⟨i3940, ⟨kp_w (by decide) u3946, v3947, v3948⟩, by first | assumption | omega, by first | assumption | omega⟩)
                        · have c3955 : r3927.1.toInt ≠ r3874.1.toInt := o_ne h3936
                          unfold J_X1_goOnDropping_172
                          refine ok_bind (k_X1_enterRoom L hN (a0 := a0) (x1 := r3874.1) k_a0 i3885) (fun r3956 hr3957 => ?_)
                          obtain ⟨i3958, ⟨u3961, u3962, u3963⟩, p3959, p3960⟩ := hr3957
                          have u3964 := kp_t u3894 u3961
                          have v3965 : q_V r3956 = q_V δ := (u3962).trans v3895
                          have v3966 : q_R r3956 = q_R δ := (u3963).trans v3896
                          have f3967 := ti_b (q_I r3956 1 3 a0)
                          have f3968 := ti_b (q_I r3956 1 4 a0)
                          exact ok_some (show CI ad h.1 δ0 r3956 ∧ (kp [(1, 3), (1, 4), (1, 5), (1, 6), (1, 8), (1, 13), (1, 14), (1, 15)] δ r3956 ∧ q_V r3956 = q_V δ ∧ q_R r3956 = q_R δ) ∧ 0 ≤ (q_I r3956 1 3 a0).toInt ∧ (q_I r3956 1 4 a0).toInt ≤ (q_I δ 3 1 nu).toInt from ⟨i3958, ⟨kp_w (by decide) u3964, v3965, v3966⟩, by first | assumption | omega, by first | assumption | omega⟩)
                      · have c3969 : r3919.1.toInt ≠ r3874.1.toInt := o_ne h3925
                        unfold J_X1_goOnDropping_172
                        refine ok_bind (k_X1_enterRoom L hN (a0 := a0) (x1 := r3874.1) k_a0 i3885) (fun r3970 hr3971 => ?_)
                        obtain ⟨i3972, ⟨u3975, u3976, u3977⟩, p3973, p3974⟩ := hr3971
                        have u3978 := kp_t u3894 u3975
                        have v3979 : q_V r3970 = q_V δ := (u3976).trans v3895
                        have v3980 : q_R r3970 = q_R δ := (u3977).trans v3896
                        have f3981 := ti_b (q_I r3970 1 3 a0)
                        have f3982 := ti_b (q_I r3970 1 4 a0)
                        exact ok_some (show CI ad h.1 δ0 r3970 ∧ (kp [(1, 3), (1, 4), (1, 5), (1, 6), (1, 8), (1, 13), (1, 14), (1, 15)] δ r3970 ∧ q_V r3970 = q_V δ ∧ q_R r3970 = q_R δ) ∧ 0 ≤ (q_I r3970 1 3 a0).toInt ∧ (q_I r3970 1 4 a0).toInt ≤ (q_I δ 3 1 nu).toInt from ⟨i3972, ⟨kp_w (by decide) u3978, v3979, v3980⟩, by first | assumption | omega, by first | assumption | omega⟩)
            · have c3983 : (q_I δ 1 12 a0).toInt ≤ (q_I δ 1 11 a0).toInt := o_nlt h3340
              unfold J_X1_goOnDropping_65
              refine ok_bdv (fun d3984 e3985 => ?_)
              have i3986 : CI ad h.1 δ0 d3984 := by rw [e3985]; exact cs_1_15 L I k_a0 (show 0 ≤ (1 : Int) by omega) (show (1 : Int) ≤ 1 by omega)
              have u3987 := kp_I kp_r e3985
              have v3988 : q_V d3984 = q_V δ := ((show q_V d3984 = q_V δ by rw [e3985]; rfl)).trans rfl
              have v3989 : q_R d3984 = q_R δ := ((show q_R d3984 = q_R δ by rw [e3985]; rfl)).trans rfl
              have f3990 := ti_b (q_I d3984 1 3 a0)
              have f3991 : (q_I d3984 1 3 a0).toInt = (q_I δ 1 3 a0).toInt := congrArg Int32.toInt (by rw [e3985]; exact rI_o (by decide))
              have f3992 := ti_b (q_I d3984 1 4 a0)
              have f3993 : (q_I d3984 1 4 a0).toInt = (q_I δ 1 4 a0).toInt := congrArg Int32.toInt (by rw [e3985]; exact rI_o (by decide))
              exact ok_some (show CI ad h.1 δ0 d3984 ∧ (kp [(1, 3), (1, 4), (1, 5), (1, 6), (1, 8), (1, 13), (1, 14), (1, 15)] δ d3984 ∧ q_V d3984 = q_V δ ∧ q_R d3984 = q_R δ) ∧ 0 ≤ (q_I d3984 1 3 a0).toInt ∧ (q_I d3984 1 4 a0).toInt ≤ (q_I δ 3 1 nu).toInt from ⟨i3986, ⟨kp_w (by decide) u3987, v3988, v3989⟩, by first | assumption | omega, by first | assumption | omega⟩)
set_option maxHeartbeats 4000000 in
theorem k_X1_goOnAsking {ad : List Nat} {h : hp} (L : Lay TLx ad h) {δ0 : dp} {N : Nat} (hN : 10000000 ≤ N) {a0 : Nat} {nu : Nat} (k_a0 : q_K h.1 a0 = 1) (hnu : q_O h.1 1 1 a0 = some nu) (knu : q_K h.1 nu = 3) {δ : dp} (z0 : 0 ≤ (q_I δ 1 11 a0).toInt) (z1 : (q_I δ 1 11 a0).toInt ≤ (q_I δ 1 12 a0).toInt) (z2 : (q_I δ 1 12 a0).toInt ≤ (q_I δ 3 1 nu).toInt) (z3 : 0 ≤ (q_I δ 1 3 a0).toInt) (z4 : (q_I δ 1 4 a0).toInt ≤ (q_I δ 3 1 nu).toInt) (I : CI ad h.1 δ0 δ) : ok (D_X1_goOnAsking N h.1 a0 δ) (fun r => CI ad h.1 δ0 r ∧ (kp [(1, 3), (1, 4), (1, 6), (1, 8), (1, 13), (1, 14), (1, 15)] δ r ∧ q_V r = q_V δ ∧ q_R r = q_R δ) ∧ 0 ≤ (q_I r 1 3 a0).toInt ∧ (q_I r 1 4 a0).toInt ≤ (q_I δ 3 1 nu).toInt) := by
  unfold D_X1_goOnAsking
  have f1 := ti_b (q_I δ 1 11 a0)
  have f2 := ti_b (q_I δ 1 12 a0)
  obtain ⟨b3, o4, k5, ⟨n6, n7⟩, w8⟩ := gO_3_0 L knu
  have f9 := cb_3_1 I knu o4
  have f10 := ti_b (q_I δ 1 3 a0)
  have f11 := ti_b (q_I δ 1 4 a0)
  have f12 := ti_b (q_I δ 1 8 a0)
  have f13 := ti_b (q_I δ 1 9 a0)
  refine ok_ite (fun h14 => ?_) (fun h14 => ?_)
  · have c15 : (q_I δ 1 8 a0).toInt ≤ (q_I δ 1 9 a0).toInt := o_le h14
    unfold J_X1_goOnAsking_33
    refine ok_bdv (fun d16 e17 => ?_)
    have i18 : CI ad h.1 δ0 d16 := by rw [e17]; exact cs_1_15 L I k_a0 (show 0 ≤ (1 : Int) by omega) (show (1 : Int) ≤ 1 by omega)
    have u19 := kp_I kp_r e17
    have v20 : q_V d16 = q_V δ := ((show q_V d16 = q_V δ by rw [e17]; rfl)).trans rfl
    have v21 : q_R d16 = q_R δ := ((show q_R d16 = q_R δ by rw [e17]; rfl)).trans rfl
    unfold J_X1_goOnAsking_49
    have f22 := ti_b (q_I d16 1 3 a0)
    have f23 : (q_I d16 1 3 a0).toInt = (q_I δ 1 3 a0).toInt := congrArg Int32.toInt (by rw [e17]; exact rI_o (by decide))
    have f24 := ti_b (q_I d16 1 4 a0)
    have f25 : (q_I d16 1 4 a0).toInt = (q_I δ 1 4 a0).toInt := congrArg Int32.toInt (by rw [e17]; exact rI_o (by decide))
    exact ok_some (show CI ad h.1 δ0 d16 ∧ (kp [(1, 3), (1, 4), (1, 6), (1, 8), (1, 13), (1, 14), (1, 15)] δ d16 ∧ q_V d16 = q_V δ ∧ q_R d16 = q_R δ) ∧ 0 ≤ (q_I d16 1 3 a0).toInt ∧ (q_I d16 1 4 a0).toInt ≤ (q_I δ 3 1 nu).toInt from ⟨i18, ⟨kp_w (by decide) u19, v20, v21⟩, by first | assumption | omega, by first | assumption | omega⟩)
  · have c26 : (q_I δ 1 9 a0).toInt < (q_I δ 1 8 a0).toInt := o_nle h14
    have f27 := ti_b (q_I δ 1 10 a0)
    refine ok_ite (fun h28 => ?_) (fun h28 => ?_)
    · have c29 : (q_I δ 1 10 a0).toInt ≤ (q_I δ 1 8 a0).toInt := o_le h28
      unfold J_X1_goOnAsking_33
      refine ok_bdv (fun d30 e31 => ?_)
      have i32 : CI ad h.1 δ0 d30 := by rw [e31]; exact cs_1_15 L I k_a0 (show 0 ≤ (1 : Int) by omega) (show (1 : Int) ≤ 1 by omega)
      have u33 := kp_I kp_r e31
      have v34 : q_V d30 = q_V δ := ((show q_V d30 = q_V δ by rw [e31]; rfl)).trans rfl
      have v35 : q_R d30 = q_R δ := ((show q_R d30 = q_R δ by rw [e31]; rfl)).trans rfl
      unfold J_X1_goOnAsking_49
      have f36 := ti_b (q_I d30 1 3 a0)
      have f37 : (q_I d30 1 3 a0).toInt = (q_I δ 1 3 a0).toInt := congrArg Int32.toInt (by rw [e31]; exact rI_o (by decide))
      have f38 := ti_b (q_I d30 1 4 a0)
      have f39 : (q_I d30 1 4 a0).toInt = (q_I δ 1 4 a0).toInt := congrArg Int32.toInt (by rw [e31]; exact rI_o (by decide))
      exact ok_some (show CI ad h.1 δ0 d30 ∧ (kp [(1, 3), (1, 4), (1, 6), (1, 8), (1, 13), (1, 14), (1, 15)] δ d30 ∧ q_V d30 = q_V δ ∧ q_R d30 = q_R δ) ∧ 0 ≤ (q_I d30 1 3 a0).toInt ∧ (q_I d30 1 4 a0).toInt ≤ (q_I δ 3 1 nu).toInt from ⟨i32, ⟨kp_w (by decide) u33, v34, v35⟩, by first | assumption | omega, by first | assumption | omega⟩)
    · have c40 : (q_I δ 1 8 a0).toInt < (q_I δ 1 10 a0).toInt := o_nle h28
      refine ok_bind (k_X1_findRoom L hN (a0 := a0) (x1 := (q_I δ 1 8 a0)) k_a0 hnu knu (show 0 ≤ (q_I δ 1 11 a0).toInt by first | assumption | omega) (show (q_I δ 1 11 a0).toInt ≤ (q_I δ 1 12 a0).toInt by first | assumption | omega) (show (q_I δ 1 12 a0).toInt ≤ (q_I δ 3 1 nu).toInt by first | assumption | omega) I) (fun r41 hr42 => ?_)
      obtain ⟨i43, ⟨u49, u50, u51⟩, p44, p45, p46, p47, p48⟩ := hr42
      have u52 := kp_t kp_r u49
      have v53 : q_V r41.2 = q_V δ := (u50).trans rfl
      have v54 : q_R r41.2 = q_R δ := (u51).trans rfl
      have f55 := bo_t p44
      have f56 := ti_b (q_I r41.2 1 13 a0)
      have f57 := ti_b (q_I r41.2 1 14 a0)
      have f58 := ti_b r41.1
      have f59 := ti_b r41.1
      refine ok_ite (fun h60 => ?_) (fun h60 => ?_)
      · have c61 : r41.1.toInt = (0 : Int) := o_eq h60
        unfold J_X1_goOnAsking_33
        refine ok_bdv (fun d62 e63 => ?_)
        have i64 : CI ad h.1 δ0 d62 := by rw [e63]; exact cs_1_15 L i43 k_a0 (show 0 ≤ (1 : Int) by omega) (show (1 : Int) ≤ 1 by omega)
        have u65 := kp_I u52 e63
        have v66 : q_V d62 = q_V δ := ((show q_V d62 = q_V r41.2 by rw [e63]; rfl)).trans v53
        have v67 : q_R d62 = q_R δ := ((show q_R d62 = q_R r41.2 by rw [e63]; rfl)).trans v54
        unfold J_X1_goOnAsking_49
        have f68 := ti_b (q_I d62 1 3 a0)
        have f69 : (q_I d62 1 3 a0).toInt = (q_I r41.2 1 3 a0).toInt := congrArg Int32.toInt (by rw [e63]; exact rI_o (by decide))
        have f70 := ti_b (q_I r41.2 1 3 a0)
        have f71 : (q_I r41.2 1 3 a0).toInt = (q_I δ 1 3 a0).toInt := congrArg Int32.toInt (u49 1 3 a0 (by decide))
        have f72 := ti_b (q_I d62 1 4 a0)
        have f73 : (q_I d62 1 4 a0).toInt = (q_I r41.2 1 4 a0).toInt := congrArg Int32.toInt (by rw [e63]; exact rI_o (by decide))
        have f74 := ti_b (q_I r41.2 1 4 a0)
        have f75 : (q_I r41.2 1 4 a0).toInt = (q_I δ 1 4 a0).toInt := congrArg Int32.toInt (u49 1 4 a0 (by decide))
        exact ok_some (show CI ad h.1 δ0 d62 ∧ (kp [(1, 3), (1, 4), (1, 6), (1, 8), (1, 13), (1, 14), (1, 15)] δ d62 ∧ q_V d62 = q_V δ ∧ q_R d62 = q_R δ) ∧ 0 ≤ (q_I d62 1 3 a0).toInt ∧ (q_I d62 1 4 a0).toInt ≤ (q_I δ 3 1 nu).toInt from ⟨i64, ⟨kp_w (by decide) u65, v66, v67⟩, by first | assumption | omega, by first | assumption | omega⟩)
      · have c76 : r41.1.toInt ≠ (0 : Int) := o_ne h60
        refine ok_bind (k_X1_enterRoom L hN (a0 := a0) (x1 := (q_I r41.2 1 8 a0)) k_a0 i43) (fun r77 hr78 => ?_)
        obtain ⟨i79, ⟨u82, u83, u84⟩, p80, p81⟩ := hr78
        have u85 := kp_t u52 u82
        have v86 : q_V r77 = q_V δ := (u83).trans v53
        have v87 : q_R r77 = q_R δ := (u84).trans v54
        have f88 := ti_b (q_I r77 1 3 a0)
        have f89 := ti_b (q_I r77 1 4 a0)
        unfold J_X1_goOnAsking_49
        exact ok_some (show CI ad h.1 δ0 r77 ∧ (kp [(1, 3), (1, 4), (1, 6), (1, 8), (1, 13), (1, 14), (1, 15)] δ r77 ∧ q_V r77 = q_V δ ∧ q_R r77 = q_R δ) ∧ 0 ≤ (q_I r77 1 3 a0).toInt ∧ (q_I r77 1 4 a0).toInt ≤ (q_I δ 3 1 nu).toInt from ⟨i79, ⟨kp_w (by decide) u85, v86, v87⟩, by first | assumption | omega, by first | assumption | omega⟩)
set_option maxHeartbeats 4000000 in
theorem k_X1_goOnUp {ad : List Nat} {h : hp} (L : Lay TLx ad h) {δ0 : dp} {N : Nat} (hN : 10000000 ≤ N) {a0 : Nat} {nu : Nat} (k_a0 : q_K h.1 a0 = 1) (hnu : q_O h.1 1 1 a0 = some nu) (knu : q_K h.1 nu = 3) {δ : dp} (z0 : 0 ≤ (q_I δ 1 11 a0).toInt) (z1 : (q_I δ 1 11 a0).toInt ≤ (q_I δ 1 12 a0).toInt) (z2 : (q_I δ 1 12 a0).toInt ≤ (q_I δ 3 1 nu).toInt) (z3 : 0 ≤ (q_I δ 1 3 a0).toInt) (z4 : (q_I δ 1 4 a0).toInt ≤ (q_I δ 3 1 nu).toInt) (I : CI ad h.1 δ0 δ) : ok (D_X1_goOnUp N h.1 a0 δ) (fun r => CI ad h.1 δ0 r.2 ∧ (kp [(1, 3), (1, 4), (1, 5), (1, 6), (1, 8), (1, 13), (1, 14), (1, 15)] δ r.2 ∧ q_V r.2 = q_V δ ∧ q_R r.2 = q_R δ) ∧ 0 ≤ (q_I r.2 1 3 a0).toInt ∧ (q_I r.2 1 4 a0).toInt ≤ (q_I δ 3 1 nu).toInt) := by
  unfold D_X1_goOnUp
  have f1 := ti_b (q_I δ 1 11 a0)
  have f2 := ti_b (q_I δ 1 12 a0)
  obtain ⟨b3, o4, k5, ⟨n6, n7⟩, w8⟩ := gO_3_0 L knu
  have f9 := cb_3_1 I knu o4
  have f10 := ti_b (q_I δ 1 3 a0)
  have f11 := ti_b (q_I δ 1 4 a0)
  have f12 := ti_b (q_I δ 1 8 a0)
  have f13 := ti_b (q_I δ 1 9 a0)
  refine ok_ite (fun h14 => ?_) (fun h14 => ?_)
  · have c15 : (q_I δ 1 8 a0).toInt < (q_I δ 1 9 a0).toInt := o_lt h14
    unfold J_X1_goOnUp_33
    refine ok_bdv (fun d16 e17 => ?_)
    have i18 : CI ad h.1 δ0 d16 := by rw [e17]; exact cs_1_15 L I k_a0 (show 0 ≤ (1 : Int) by omega) (show (1 : Int) ≤ 1 by omega)
    have u19 := kp_I kp_r e17
    have v20 : q_V d16 = q_V δ := ((show q_V d16 = q_V δ by rw [e17]; rfl)).trans rfl
    have v21 : q_R d16 = q_R δ := ((show q_R d16 = q_R δ by rw [e17]; rfl)).trans rfl
    have f22 := ti_b (q_I d16 1 3 a0)
    have f23 : (q_I d16 1 3 a0).toInt = (q_I δ 1 3 a0).toInt := congrArg Int32.toInt (by rw [e17]; exact rI_o (by decide))
    have f24 := ti_b (q_I d16 1 4 a0)
    have f25 : (q_I d16 1 4 a0).toInt = (q_I δ 1 4 a0).toInt := congrArg Int32.toInt (by rw [e17]; exact rI_o (by decide))
    exact ok_some (show CI ad h.1 δ0 d16 ∧ (kp [(1, 3), (1, 4), (1, 5), (1, 6), (1, 8), (1, 13), (1, 14), (1, 15)] δ d16 ∧ q_V d16 = q_V δ ∧ q_R d16 = q_R δ) ∧ 0 ≤ (q_I d16 1 3 a0).toInt ∧ (q_I d16 1 4 a0).toInt ≤ (q_I δ 3 1 nu).toInt from ⟨i18, ⟨kp_w (by decide) u19, v20, v21⟩, by first | assumption | omega, by first | assumption | omega⟩)
  · have c26 : (q_I δ 1 9 a0).toInt ≤ (q_I δ 1 8 a0).toInt := o_nlt h14
    have f27 := ti_b (q_I δ 1 10 a0)
    refine ok_ite (fun h28 => ?_) (fun h28 => ?_)
    · have c29 : (q_I δ 1 10 a0).toInt ≤ (q_I δ 1 8 a0).toInt := o_le h28
      unfold J_X1_goOnUp_33
      refine ok_bdv (fun d30 e31 => ?_)
      have i32 : CI ad h.1 δ0 d30 := by rw [e31]; exact cs_1_15 L I k_a0 (show 0 ≤ (1 : Int) by omega) (show (1 : Int) ≤ 1 by omega)
      have u33 := kp_I kp_r e31
      have v34 : q_V d30 = q_V δ := ((show q_V d30 = q_V δ by rw [e31]; rfl)).trans rfl
      have v35 : q_R d30 = q_R δ := ((show q_R d30 = q_R δ by rw [e31]; rfl)).trans rfl
      have f36 := ti_b (q_I d30 1 3 a0)
      have f37 : (q_I d30 1 3 a0).toInt = (q_I δ 1 3 a0).toInt := congrArg Int32.toInt (by rw [e31]; exact rI_o (by decide))
      have f38 := ti_b (q_I d30 1 4 a0)
      have f39 : (q_I d30 1 4 a0).toInt = (q_I δ 1 4 a0).toInt := congrArg Int32.toInt (by rw [e31]; exact rI_o (by decide))
      exact ok_some (show CI ad h.1 δ0 d30 ∧ (kp [(1, 3), (1, 4), (1, 5), (1, 6), (1, 8), (1, 13), (1, 14), (1, 15)] δ d30 ∧ q_V d30 = q_V δ ∧ q_R d30 = q_R δ) ∧ 0 ≤ (q_I d30 1 3 a0).toInt ∧ (q_I d30 1 4 a0).toInt ≤ (q_I δ 3 1 nu).toInt from ⟨i32, ⟨kp_w (by decide) u33, v34, v35⟩, by first | assumption | omega, by first | assumption | omega⟩)
    · have c40 : (q_I δ 1 8 a0).toInt < (q_I δ 1 10 a0).toInt := o_nle h28
      refine ok_ite (fun h41 => ?_) (fun h41 => ?_)
      · have c42 : (q_I δ 1 11 a0).toInt < (q_I δ 1 12 a0).toInt := o_lt h41
        refine ok_bind (k_X1_findRoom L hN (a0 := a0) (x1 := (q_I δ 1 8 a0)) k_a0 hnu knu (show 0 ≤ (q_I δ 1 11 a0).toInt by first | assumption | omega) (show (q_I δ 1 11 a0).toInt ≤ (q_I δ 1 12 a0).toInt by first | assumption | omega) (show (q_I δ 1 12 a0).toInt ≤ (q_I δ 3 1 nu).toInt by first | assumption | omega) I) (fun r43 hr44 => ?_)
        obtain ⟨i45, ⟨u51, u52, u53⟩, p46, p47, p48, p49, p50⟩ := hr44
        have u54 := kp_t kp_r u51
        have v55 : q_V r43.2 = q_V δ := (u52).trans rfl
        have v56 : q_R r43.2 = q_R δ := (u53).trans rfl
        have f57 := bo_t p46
        have f58 := ti_b (q_I r43.2 1 13 a0)
        have f59 := ti_b (q_I r43.2 1 14 a0)
        have f60 := ti_b r43.1
        have f61 := ti_b r43.1
        refine ok_ite (fun h62 => ?_) (fun h62 => ?_)
        · have c63 : r43.1.toInt = (0 : Int) := o_eq h62
          unfold J_X1_goOnUp_82
          have f66 := ti_b (q_I r43.2 1 12 a0)
          have f67 : (q_I r43.2 1 12 a0).toInt = (q_I δ 1 12 a0).toInt := congrArg Int32.toInt (u51 1 12 a0 (by decide))
          first | (have q69 := te_subc (c := 1) (n := 1) rfl (q_I r43.2 1 12 a0) (by omega) (by omega); obtain ⟨f70, f71, f72⟩ := q69) | (obtain ⟨q69, f70, f71, f72⟩ := ti_subc (c := 1) (n := 1) rfl (q_I r43.2 1 12 a0))
          have f73 := cb_3_1 i45 knu o4
          have f74 : (q_I r43.2 3 1 nu).toInt = (q_I δ 3 1 nu).toInt := congrArg Int32.toInt (u51 3 1 nu (by decide))
          refine ok_bind (k_X1_valueAt L hN (a0 := a0) (x1 := ((q_I r43.2 1 12 a0) - (1 : Int32))) k_a0 hnu knu (show 0 ≤ (((q_I r43.2 1 12 a0) - (1 : Int32))).toInt by first | assumption | omega) (show (((q_I r43.2 1 12 a0) - (1 : Int32))).toInt < (q_I r43.2 3 1 nu).toInt by first | assumption | omega) i45) (fun r64 hr65 => ?_)
          have i75 := hr65
          try rw [i75]
          have f76 := ti_b r64.1
          have f77 := ti_b (r64.1 >>> ((q_I r43.2 1 7 a0) &&& 31))
          have f78 := ti_b ((q_I r43.2 1 8 a0) >>> ((q_I r43.2 1 7 a0) &&& 31))
          refine ok_ite (fun h79 => ?_) (fun h79 => ?_)
          · have c80 : (r64.1 >>> ((q_I r43.2 1 7 a0) &&& 31)).toInt ≤ ((q_I r43.2 1 8 a0) >>> ((q_I r43.2 1 7 a0) &&& 31)).toInt := o_le h79
            unfold J_X1_goOnUp_112
            refine ok_bind (k_X1_enterList L hN (a0 := a0) (x1 := (q_I r43.2 1 8 a0)) k_a0 i45) (fun r81 hr82 => ?_)
            obtain ⟨i83, ⟨u86, u87, u88⟩, p84, p85⟩ := hr82
            have u89 := kp_t u54 u86
            have v90 : q_V r81 = q_V δ := (u87).trans v55
            have v91 : q_R r81 = q_R δ := (u88).trans v56
            have f92 := ti_b (q_I r81 1 3 a0)
            have f93 := ti_b (q_I r43.2 1 11 a0)
            have f94 : (q_I r43.2 1 11 a0).toInt = (q_I δ 1 11 a0).toInt := congrArg Int32.toInt (u51 1 11 a0 (by decide))
            have f95 := ti_b (q_I r81 1 4 a0)
            exact ok_some (show CI ad h.1 δ0 r81 ∧ (kp [(1, 3), (1, 4), (1, 5), (1, 6), (1, 8), (1, 13), (1, 14), (1, 15)] δ r81 ∧ q_V r81 = q_V δ ∧ q_R r81 = q_R δ) ∧ 0 ≤ (q_I r81 1 3 a0).toInt ∧ (q_I r81 1 4 a0).toInt ≤ (q_I δ 3 1 nu).toInt from ⟨i83, ⟨kp_w (by decide) u89, v90, v91⟩, by first | assumption | omega, by first | assumption | omega⟩)
          · have c96 : ((q_I r43.2 1 8 a0) >>> ((q_I r43.2 1 7 a0) &&& 31)).toInt < (r64.1 >>> ((q_I r43.2 1 7 a0) &&& 31)).toInt := o_nle h79
            refine ok_biv (fun vx97 e98 => ?_)
            first | (have q99 := te_cadd (c := 0) (n := 0) rfl (1 : Int32) (by omega) (by omega); rw [← e98] at q99; obtain ⟨f100, f101, f102⟩ := q99) | (obtain ⟨q99, f100, f101, f102⟩ : ∃ q : Int, vx97.toInt = (0 : Int) + (1 : Int) + 4294967296 * q ∧ -2147483648 ≤ vx97.toInt ∧ vx97.toInt ≤ 2147483647 := by rw [e98]; exact ti_cadd (c := 0) (n := 0) rfl (1 : Int32))
            unfold J_X1_goOnUp_112
            refine ok_bind (k_X1_enterList L hN (a0 := a0) (x1 := (q_I r43.2 1 8 a0)) k_a0 i45) (fun r103 hr104 => ?_)
            obtain ⟨i105, ⟨u108, u109, u110⟩, p106, p107⟩ := hr104
            have u111 := kp_t u54 u108
            have v112 : q_V r103 = q_V δ := (u109).trans v55
            have v113 : q_R r103 = q_R δ := (u110).trans v56
            have f114 := ti_b (q_I r103 1 3 a0)
            have f115 := ti_b (q_I r43.2 1 11 a0)
            have f116 : (q_I r43.2 1 11 a0).toInt = (q_I δ 1 11 a0).toInt := congrArg Int32.toInt (u51 1 11 a0 (by decide))
            have f117 := ti_b (q_I r103 1 4 a0)
            exact ok_some (show CI ad h.1 δ0 r103 ∧ (kp [(1, 3), (1, 4), (1, 5), (1, 6), (1, 8), (1, 13), (1, 14), (1, 15)] δ r103 ∧ q_V r103 = q_V δ ∧ q_R r103 = q_R δ) ∧ 0 ≤ (q_I r103 1 3 a0).toInt ∧ (q_I r103 1 4 a0).toInt ≤ (q_I δ 3 1 nu).toInt from ⟨i105, ⟨kp_w (by decide) u111, v112, v113⟩, by first | assumption | omega, by first | assumption | omega⟩)
        · have c118 : r43.1.toInt ≠ (0 : Int) := o_ne h62
          first | (have q122 := te_subc (c := 1) (n := 1) rfl (q_I r43.2 1 14 a0) (by omega) (by omega); obtain ⟨f123, f124, f125⟩ := q122) | (obtain ⟨q122, f123, f124, f125⟩ := ti_subc (c := 1) (n := 1) rfl (q_I r43.2 1 14 a0))
          have f126 := cb_3_1 i45 knu o4
          have f127 : (q_I r43.2 3 1 nu).toInt = (q_I δ 3 1 nu).toInt := congrArg Int32.toInt (u51 3 1 nu (by decide))
          refine ok_bind (k_X1_valueAt L hN (a0 := a0) (x1 := ((q_I r43.2 1 14 a0) - (1 : Int32))) k_a0 hnu knu (show 0 ≤ (((q_I r43.2 1 14 a0) - (1 : Int32))).toInt by first | assumption | omega) (show (((q_I r43.2 1 14 a0) - (1 : Int32))).toInt < (q_I r43.2 3 1 nu).toInt by first | assumption | omega) i45) (fun r119 hr120 => ?_)
          have i128 := hr120
          try rw [i128]
          have f129 := ti_b r119.1
          have f130 := ti_b (q_I r43.2 1 8 a0)
          have f131 : (q_I r43.2 1 8 a0).toInt = (q_I δ 1 8 a0).toInt := congrArg Int32.toInt (u51 1 8 a0 (by decide))
          refine ok_ite (fun h132 => ?_) (fun h132 => ?_)
          · have c133 : r119.1.toInt ≤ (q_I r43.2 1 8 a0).toInt := o_le h132
            unfold J_X1_goOnUp_82
            have f136 := ti_b (q_I r43.2 1 12 a0)
            have f137 : (q_I r43.2 1 12 a0).toInt = (q_I δ 1 12 a0).toInt := congrArg Int32.toInt (u51 1 12 a0 (by decide))
            first | (have q139 := te_subc (c := 1) (n := 1) rfl (q_I r43.2 1 12 a0) (by omega) (by omega); obtain ⟨f140, f141, f142⟩ := q139) | (obtain ⟨q139, f140, f141, f142⟩ := ti_subc (c := 1) (n := 1) rfl (q_I r43.2 1 12 a0))
            refine ok_bind (k_X1_valueAt L hN (a0 := a0) (x1 := ((q_I r43.2 1 12 a0) - (1 : Int32))) k_a0 hnu knu (show 0 ≤ (((q_I r43.2 1 12 a0) - (1 : Int32))).toInt by first | assumption | omega) (show (((q_I r43.2 1 12 a0) - (1 : Int32))).toInt < (q_I r43.2 3 1 nu).toInt by first | assumption | omega) i45) (fun r134 hr135 => ?_)
            have i143 := hr135
            try rw [i143]
            have f144 := ti_b r134.1
            have f145 := ti_b (r134.1 >>> ((q_I r43.2 1 7 a0) &&& 31))
            have f146 := ti_b ((q_I r43.2 1 8 a0) >>> ((q_I r43.2 1 7 a0) &&& 31))
            refine ok_ite (fun h147 => ?_) (fun h147 => ?_)
            · have c148 : (r134.1 >>> ((q_I r43.2 1 7 a0) &&& 31)).toInt ≤ ((q_I r43.2 1 8 a0) >>> ((q_I r43.2 1 7 a0) &&& 31)).toInt := o_le h147
              unfold J_X1_goOnUp_112
              refine ok_bind (k_X1_enterList L hN (a0 := a0) (x1 := (q_I r43.2 1 8 a0)) k_a0 i45) (fun r149 hr150 => ?_)
              obtain ⟨i151, ⟨u154, u155, u156⟩, p152, p153⟩ := hr150
              have u157 := kp_t u54 u154
              have v158 : q_V r149 = q_V δ := (u155).trans v55
              have v159 : q_R r149 = q_R δ := (u156).trans v56
              have f160 := ti_b (q_I r149 1 3 a0)
              have f161 := ti_b (q_I r43.2 1 11 a0)
              have f162 : (q_I r43.2 1 11 a0).toInt = (q_I δ 1 11 a0).toInt := congrArg Int32.toInt (u51 1 11 a0 (by decide))
              have f163 := ti_b (q_I r149 1 4 a0)
              exact ok_some (show CI ad h.1 δ0 r149 ∧ (kp [(1, 3), (1, 4), (1, 5), (1, 6), (1, 8), (1, 13), (1, 14), (1, 15)] δ r149 ∧ q_V r149 = q_V δ ∧ q_R r149 = q_R δ) ∧ 0 ≤ (q_I r149 1 3 a0).toInt ∧ (q_I r149 1 4 a0).toInt ≤ (q_I δ 3 1 nu).toInt from ⟨i151, ⟨kp_w (by decide) u157, v158, v159⟩, by first | assumption | omega, by first | assumption | omega⟩)
            · have c164 : ((q_I r43.2 1 8 a0) >>> ((q_I r43.2 1 7 a0) &&& 31)).toInt < (r134.1 >>> ((q_I r43.2 1 7 a0) &&& 31)).toInt := o_nle h147
              refine ok_biv (fun vx165 e166 => ?_)
              first | (have q167 := te_cadd (c := 1) (n := 1) rfl (1 : Int32) (by omega) (by omega); rw [← e166] at q167; obtain ⟨f168, f169, f170⟩ := q167) | (obtain ⟨q167, f168, f169, f170⟩ : ∃ q : Int, vx165.toInt = (1 : Int) + (1 : Int) + 4294967296 * q ∧ -2147483648 ≤ vx165.toInt ∧ vx165.toInt ≤ 2147483647 := by rw [e166]; exact ti_cadd (c := 1) (n := 1) rfl (1 : Int32))
              unfold J_X1_goOnUp_112
              refine ok_bind (k_X1_enterList L hN (a0 := a0) (x1 := (q_I r43.2 1 8 a0)) k_a0 i45) (fun r171 hr172 => ?_)
              obtain ⟨i173, ⟨u176, u177, u178⟩, p174, p175⟩ := hr172
              have u179 := kp_t u54 u176
              have v180 : q_V r171 = q_V δ := (u177).trans v55
              have v181 : q_R r171 = q_R δ := (u178).trans v56
              have f182 := ti_b (q_I r171 1 3 a0)
              have f183 := ti_b (q_I r43.2 1 11 a0)
              have f184 : (q_I r43.2 1 11 a0).toInt = (q_I δ 1 11 a0).toInt := congrArg Int32.toInt (u51 1 11 a0 (by decide))
              have f185 := ti_b (q_I r171 1 4 a0)
              exact ok_some (show CI ad h.1 δ0 r171 ∧ (kp [(1, 3), (1, 4), (1, 5), (1, 6), (1, 8), (1, 13), (1, 14), (1, 15)] δ r171 ∧ q_V r171 = q_V δ ∧ q_R r171 = q_R δ) ∧ 0 ≤ (q_I r171 1 3 a0).toInt ∧ (q_I r171 1 4 a0).toInt ≤ (q_I δ 3 1 nu).toInt from ⟨i173, ⟨kp_w (by decide) u179, v180, v181⟩, by first | assumption | omega, by first | assumption | omega⟩)
          · have c186 : (q_I r43.2 1 8 a0).toInt < r119.1.toInt := o_nle h132
            refine ok_bind (k_X1_enterRoom L hN (a0 := a0) (x1 := (q_I r43.2 1 8 a0)) k_a0 i45) (fun r187 hr188 => ?_)
            obtain ⟨i189, ⟨u192, u193, u194⟩, p190, p191⟩ := hr188
            have u195 := kp_t u54 u192
            have v196 : q_V r187 = q_V δ := (u193).trans v55
            have v197 : q_R r187 = q_R δ := (u194).trans v56
            have f198 := ti_b (q_I r187 1 3 a0)
            have f199 := ti_b (q_I r187 1 4 a0)
            exact ok_some (show CI ad h.1 δ0 r187 ∧ (kp [(1, 3), (1, 4), (1, 5), (1, 6), (1, 8), (1, 13), (1, 14), (1, 15)] δ r187 ∧ q_V r187 = q_V δ ∧ q_R r187 = q_R δ) ∧ 0 ≤ (q_I r187 1 3 a0).toInt ∧ (q_I r187 1 4 a0).toInt ≤ (q_I δ 3 1 nu).toInt from ⟨i189, ⟨kp_w (by decide) u195, v196, v197⟩, by first | assumption | omega, by first | assumption | omega⟩)
      · have c200 : (q_I δ 1 12 a0).toInt ≤ (q_I δ 1 11 a0).toInt := o_nlt h41
        unfold J_X1_goOnUp_33
        refine ok_bdv (fun d201 e202 => ?_)
        have i203 : CI ad h.1 δ0 d201 := by rw [e202]; exact cs_1_15 L I k_a0 (show 0 ≤ (1 : Int) by omega) (show (1 : Int) ≤ 1 by omega)
        have u204 := kp_I kp_r e202
        have v205 : q_V d201 = q_V δ := ((show q_V d201 = q_V δ by rw [e202]; rfl)).trans rfl
        have v206 : q_R d201 = q_R δ := ((show q_R d201 = q_R δ by rw [e202]; rfl)).trans rfl
        have f207 := ti_b (q_I d201 1 3 a0)
        have f208 : (q_I d201 1 3 a0).toInt = (q_I δ 1 3 a0).toInt := congrArg Int32.toInt (by rw [e202]; exact rI_o (by decide))
        have f209 := ti_b (q_I d201 1 4 a0)
        have f210 : (q_I d201 1 4 a0).toInt = (q_I δ 1 4 a0).toInt := congrArg Int32.toInt (by rw [e202]; exact rI_o (by decide))
        exact ok_some (show CI ad h.1 δ0 d201 ∧ (kp [(1, 3), (1, 4), (1, 5), (1, 6), (1, 8), (1, 13), (1, 14), (1, 15)] δ d201 ∧ q_V d201 = q_V δ ∧ q_R d201 = q_R δ) ∧ 0 ≤ (q_I d201 1 3 a0).toInt ∧ (q_I d201 1 4 a0).toInt ≤ (q_I δ 3 1 nu).toInt from ⟨i203, ⟨kp_w (by decide) u204, v205, v206⟩, by first | assumption | omega, by first | assumption | omega⟩)
set_option maxHeartbeats 4000000 in
theorem k_X1_goOnDown {ad : List Nat} {h : hp} (L : Lay TLx ad h) {δ0 : dp} {N : Nat} (hN : 10000000 ≤ N) {a0 : Nat} {nu : Nat} (k_a0 : q_K h.1 a0 = 1) (hnu : q_O h.1 1 1 a0 = some nu) (knu : q_K h.1 nu = 3) {δ : dp} (z0 : 0 ≤ (q_I δ 1 11 a0).toInt) (z1 : (q_I δ 1 11 a0).toInt ≤ (q_I δ 1 12 a0).toInt) (z2 : (q_I δ 1 12 a0).toInt ≤ (q_I δ 3 1 nu).toInt) (z3 : 0 ≤ (q_I δ 1 3 a0).toInt) (z4 : (q_I δ 1 4 a0).toInt ≤ (q_I δ 3 1 nu).toInt) (I : CI ad h.1 δ0 δ) : ok (D_X1_goOnDown N h.1 a0 δ) (fun r => CI ad h.1 δ0 r.2 ∧ (kp [(1, 3), (1, 4), (1, 5), (1, 6), (1, 8), (1, 13), (1, 14), (1, 15)] δ r.2 ∧ q_V r.2 = q_V δ ∧ q_R r.2 = q_R δ) ∧ 0 ≤ (q_I r.2 1 3 a0).toInt ∧ (q_I r.2 1 4 a0).toInt ≤ (q_I δ 3 1 nu).toInt) := by
  unfold D_X1_goOnDown
  have f1 := ti_b (q_I δ 1 11 a0)
  have f2 := ti_b (q_I δ 1 12 a0)
  obtain ⟨b3, o4, k5, ⟨n6, n7⟩, w8⟩ := gO_3_0 L knu
  have f9 := cb_3_1 I knu o4
  have f10 := ti_b (q_I δ 1 3 a0)
  have f11 := ti_b (q_I δ 1 4 a0)
  have f12 := ti_b (q_I δ 1 10 a0)
  have f13 := ti_b (q_I δ 1 8 a0)
  refine ok_ite (fun h14 => ?_) (fun h14 => ?_)
  · have c15 : (q_I δ 1 10 a0).toInt < (q_I δ 1 8 a0).toInt := o_lt h14
    unfold J_X1_goOnDown_33
    refine ok_bdv (fun d16 e17 => ?_)
    have i18 : CI ad h.1 δ0 d16 := by rw [e17]; exact cs_1_15 L I k_a0 (show 0 ≤ (1 : Int) by omega) (show (1 : Int) ≤ 1 by omega)
    have u19 := kp_I kp_r e17
    have v20 : q_V d16 = q_V δ := ((show q_V d16 = q_V δ by rw [e17]; rfl)).trans rfl
    have v21 : q_R d16 = q_R δ := ((show q_R d16 = q_R δ by rw [e17]; rfl)).trans rfl
    have f22 := ti_b (q_I d16 1 3 a0)
    have f23 : (q_I d16 1 3 a0).toInt = (q_I δ 1 3 a0).toInt := congrArg Int32.toInt (by rw [e17]; exact rI_o (by decide))
    have f24 := ti_b (q_I d16 1 4 a0)
    have f25 : (q_I d16 1 4 a0).toInt = (q_I δ 1 4 a0).toInt := congrArg Int32.toInt (by rw [e17]; exact rI_o (by decide))
    exact ok_some (show CI ad h.1 δ0 d16 ∧ (kp [(1, 3), (1, 4), (1, 5), (1, 6), (1, 8), (1, 13), (1, 14), (1, 15)] δ d16 ∧ q_V d16 = q_V δ ∧ q_R d16 = q_R δ) ∧ 0 ≤ (q_I d16 1 3 a0).toInt ∧ (q_I d16 1 4 a0).toInt ≤ (q_I δ 3 1 nu).toInt from ⟨i18, ⟨kp_w (by decide) u19, v20, v21⟩, by first | assumption | omega, by first | assumption | omega⟩)
  · have c26 : (q_I δ 1 8 a0).toInt ≤ (q_I δ 1 10 a0).toInt := o_nlt h14
    have f27 := ti_b (q_I δ 1 9 a0)
    refine ok_ite (fun h28 => ?_) (fun h28 => ?_)
    · have c29 : (q_I δ 1 8 a0).toInt ≤ (q_I δ 1 9 a0).toInt := o_le h28
      unfold J_X1_goOnDown_33
      refine ok_bdv (fun d30 e31 => ?_)
      have i32 : CI ad h.1 δ0 d30 := by rw [e31]; exact cs_1_15 L I k_a0 (show 0 ≤ (1 : Int) by omega) (show (1 : Int) ≤ 1 by omega)
      have u33 := kp_I kp_r e31
      have v34 : q_V d30 = q_V δ := ((show q_V d30 = q_V δ by rw [e31]; rfl)).trans rfl
      have v35 : q_R d30 = q_R δ := ((show q_R d30 = q_R δ by rw [e31]; rfl)).trans rfl
      have f36 := ti_b (q_I d30 1 3 a0)
      have f37 : (q_I d30 1 3 a0).toInt = (q_I δ 1 3 a0).toInt := congrArg Int32.toInt (by rw [e31]; exact rI_o (by decide))
      have f38 := ti_b (q_I d30 1 4 a0)
      have f39 : (q_I d30 1 4 a0).toInt = (q_I δ 1 4 a0).toInt := congrArg Int32.toInt (by rw [e31]; exact rI_o (by decide))
      exact ok_some (show CI ad h.1 δ0 d30 ∧ (kp [(1, 3), (1, 4), (1, 5), (1, 6), (1, 8), (1, 13), (1, 14), (1, 15)] δ d30 ∧ q_V d30 = q_V δ ∧ q_R d30 = q_R δ) ∧ 0 ≤ (q_I d30 1 3 a0).toInt ∧ (q_I d30 1 4 a0).toInt ≤ (q_I δ 3 1 nu).toInt from ⟨i32, ⟨kp_w (by decide) u33, v34, v35⟩, by first | assumption | omega, by first | assumption | omega⟩)
    · have c40 : (q_I δ 1 9 a0).toInt < (q_I δ 1 8 a0).toInt := o_nle h28
      refine ok_ite (fun h41 => ?_) (fun h41 => ?_)
      · have c42 : (q_I δ 1 11 a0).toInt < (q_I δ 1 12 a0).toInt := o_lt h41
        refine ok_bind (k_X1_findRoom L hN (a0 := a0) (x1 := (q_I δ 1 8 a0)) k_a0 hnu knu (show 0 ≤ (q_I δ 1 11 a0).toInt by first | assumption | omega) (show (q_I δ 1 11 a0).toInt ≤ (q_I δ 1 12 a0).toInt by first | assumption | omega) (show (q_I δ 1 12 a0).toInt ≤ (q_I δ 3 1 nu).toInt by first | assumption | omega) I) (fun r43 hr44 => ?_)
        obtain ⟨i45, ⟨u51, u52, u53⟩, p46, p47, p48, p49, p50⟩ := hr44
        have u54 := kp_t kp_r u51
        have v55 : q_V r43.2 = q_V δ := (u52).trans rfl
        have v56 : q_R r43.2 = q_R δ := (u53).trans rfl
        have f57 := bo_t p46
        have f58 := ti_b (q_I r43.2 1 13 a0)
        have f59 := ti_b (q_I r43.2 1 14 a0)
        have f60 := ti_b r43.1
        have f61 := ti_b r43.1
        refine ok_ite (fun h62 => ?_) (fun h62 => ?_)
        · have c63 : r43.1.toInt = (0 : Int) := o_eq h62
          unfold J_X1_goOnDown_80
          have f66 := ti_b (q_I r43.2 1 11 a0)
          have f67 : (q_I r43.2 1 11 a0).toInt = (q_I δ 1 11 a0).toInt := congrArg Int32.toInt (u51 1 11 a0 (by decide))
          have f68 := cb_3_1 i45 knu o4
          have f69 : (q_I r43.2 3 1 nu).toInt = (q_I δ 3 1 nu).toInt := congrArg Int32.toInt (u51 3 1 nu (by decide))
          refine ok_bind (k_X1_valueAt L hN (a0 := a0) (x1 := (q_I r43.2 1 11 a0)) k_a0 hnu knu (show 0 ≤ ((q_I r43.2 1 11 a0)).toInt by first | assumption | omega) (show ((q_I r43.2 1 11 a0)).toInt < (q_I r43.2 3 1 nu).toInt by first | assumption | omega) i45) (fun r64 hr65 => ?_)
          have i70 := hr65
          try rw [i70]
          have f71 := ti_b r64.1
          have f72 := ti_b ((q_I r43.2 1 8 a0) >>> ((q_I r43.2 1 7 a0) &&& 31))
          have f73 := ti_b (r64.1 >>> ((q_I r43.2 1 7 a0) &&& 31))
          refine ok_ite (fun h74 => ?_) (fun h74 => ?_)
          · have c75 : ((q_I r43.2 1 8 a0) >>> ((q_I r43.2 1 7 a0) &&& 31)).toInt ≤ (r64.1 >>> ((q_I r43.2 1 7 a0) &&& 31)).toInt := o_le h74
            unfold J_X1_goOnDown_108
            refine ok_bind (k_X1_enterList L hN (a0 := a0) (x1 := (q_I r43.2 1 8 a0)) k_a0 i45) (fun r76 hr77 => ?_)
            obtain ⟨i78, ⟨u81, u82, u83⟩, p79, p80⟩ := hr77
            have u84 := kp_t u54 u81
            have v85 : q_V r76 = q_V δ := (u82).trans v55
            have v86 : q_R r76 = q_R δ := (u83).trans v56
            have f87 := ti_b (q_I r76 1 3 a0)
            have f88 := ti_b (q_I r76 1 4 a0)
            have f89 := ti_b (q_I r43.2 1 12 a0)
            have f90 : (q_I r43.2 1 12 a0).toInt = (q_I δ 1 12 a0).toInt := congrArg Int32.toInt (u51 1 12 a0 (by decide))
            exact ok_some (show CI ad h.1 δ0 r76 ∧ (kp [(1, 3), (1, 4), (1, 5), (1, 6), (1, 8), (1, 13), (1, 14), (1, 15)] δ r76 ∧ q_V r76 = q_V δ ∧ q_R r76 = q_R δ) ∧ 0 ≤ (q_I r76 1 3 a0).toInt ∧ (q_I r76 1 4 a0).toInt ≤ (q_I δ 3 1 nu).toInt from ⟨i78, ⟨kp_w (by decide) u84, v85, v86⟩, by first | assumption | omega, by first | assumption | omega⟩)
          · have c91 : (r64.1 >>> ((q_I r43.2 1 7 a0) &&& 31)).toInt < ((q_I r43.2 1 8 a0) >>> ((q_I r43.2 1 7 a0) &&& 31)).toInt := o_nle h74
            refine ok_biv (fun vx92 e93 => ?_)
            first | (have q94 := te_cadd (c := 0) (n := 0) rfl (1 : Int32) (by omega) (by omega); rw [← e93] at q94; obtain ⟨f95, f96, f97⟩ := q94) | (obtain ⟨q94, f95, f96, f97⟩ : ∃ q : Int, vx92.toInt = (0 : Int) + (1 : Int) + 4294967296 * q ∧ -2147483648 ≤ vx92.toInt ∧ vx92.toInt ≤ 2147483647 := by rw [e93]; exact ti_cadd (c := 0) (n := 0) rfl (1 : Int32))
            unfold J_X1_goOnDown_108
            refine ok_bind (k_X1_enterList L hN (a0 := a0) (x1 := (q_I r43.2 1 8 a0)) k_a0 i45) (fun r98 hr99 => ?_)
            obtain ⟨i100, ⟨u103, u104, u105⟩, p101, p102⟩ := hr99
            have u106 := kp_t u54 u103
            have v107 : q_V r98 = q_V δ := (u104).trans v55
            have v108 : q_R r98 = q_R δ := (u105).trans v56
            have f109 := ti_b (q_I r98 1 3 a0)
            have f110 := ti_b (q_I r98 1 4 a0)
            have f111 := ti_b (q_I r43.2 1 12 a0)
            have f112 : (q_I r43.2 1 12 a0).toInt = (q_I δ 1 12 a0).toInt := congrArg Int32.toInt (u51 1 12 a0 (by decide))
            exact ok_some (show CI ad h.1 δ0 r98 ∧ (kp [(1, 3), (1, 4), (1, 5), (1, 6), (1, 8), (1, 13), (1, 14), (1, 15)] δ r98 ∧ q_V r98 = q_V δ ∧ q_R r98 = q_R δ) ∧ 0 ≤ (q_I r98 1 3 a0).toInt ∧ (q_I r98 1 4 a0).toInt ≤ (q_I δ 3 1 nu).toInt from ⟨i100, ⟨kp_w (by decide) u106, v107, v108⟩, by first | assumption | omega, by first | assumption | omega⟩)
        · have c113 : r43.1.toInt ≠ (0 : Int) := o_ne h62
          have f116 := cb_3_1 i45 knu o4
          have f117 : (q_I r43.2 3 1 nu).toInt = (q_I δ 3 1 nu).toInt := congrArg Int32.toInt (u51 3 1 nu (by decide))
          refine ok_bind (k_X1_valueAt L hN (a0 := a0) (x1 := (q_I r43.2 1 13 a0)) k_a0 hnu knu (show 0 ≤ ((q_I r43.2 1 13 a0)).toInt by first | assumption | omega) (show ((q_I r43.2 1 13 a0)).toInt < (q_I r43.2 3 1 nu).toInt by first | assumption | omega) i45) (fun r114 hr115 => ?_)
          have i118 := hr115
          try rw [i118]
          have f119 := ti_b r114.1
          have f120 := ti_b (q_I r43.2 1 8 a0)
          have f121 : (q_I r43.2 1 8 a0).toInt = (q_I δ 1 8 a0).toInt := congrArg Int32.toInt (u51 1 8 a0 (by decide))
          refine ok_ite (fun h122 => ?_) (fun h122 => ?_)
          · have c123 : (q_I r43.2 1 8 a0).toInt ≤ r114.1.toInt := o_le h122
            unfold J_X1_goOnDown_80
            have f126 := ti_b (q_I r43.2 1 11 a0)
            have f127 : (q_I r43.2 1 11 a0).toInt = (q_I δ 1 11 a0).toInt := congrArg Int32.toInt (u51 1 11 a0 (by decide))
            refine ok_bind (k_X1_valueAt L hN (a0 := a0) (x1 := (q_I r43.2 1 11 a0)) k_a0 hnu knu (show 0 ≤ ((q_I r43.2 1 11 a0)).toInt by first | assumption | omega) (show ((q_I r43.2 1 11 a0)).toInt < (q_I r43.2 3 1 nu).toInt by first | assumption | omega) i45) (fun r124 hr125 => ?_)
            have i128 := hr125
            try rw [i128]
            have f129 := ti_b r124.1
            have f130 := ti_b ((q_I r43.2 1 8 a0) >>> ((q_I r43.2 1 7 a0) &&& 31))
            have f131 := ti_b (r124.1 >>> ((q_I r43.2 1 7 a0) &&& 31))
            refine ok_ite (fun h132 => ?_) (fun h132 => ?_)
            · have c133 : ((q_I r43.2 1 8 a0) >>> ((q_I r43.2 1 7 a0) &&& 31)).toInt ≤ (r124.1 >>> ((q_I r43.2 1 7 a0) &&& 31)).toInt := o_le h132
              unfold J_X1_goOnDown_108
              refine ok_bind (k_X1_enterList L hN (a0 := a0) (x1 := (q_I r43.2 1 8 a0)) k_a0 i45) (fun r134 hr135 => ?_)
              obtain ⟨i136, ⟨u139, u140, u141⟩, p137, p138⟩ := hr135
              have u142 := kp_t u54 u139
              have v143 : q_V r134 = q_V δ := (u140).trans v55
              have v144 : q_R r134 = q_R δ := (u141).trans v56
              have f145 := ti_b (q_I r134 1 3 a0)
              have f146 := ti_b (q_I r134 1 4 a0)
              have f147 := ti_b (q_I r43.2 1 12 a0)
              have f148 : (q_I r43.2 1 12 a0).toInt = (q_I δ 1 12 a0).toInt := congrArg Int32.toInt (u51 1 12 a0 (by decide))
              exact ok_some (show CI ad h.1 δ0 r134 ∧ (kp [(1, 3), (1, 4), (1, 5), (1, 6), (1, 8), (1, 13), (1, 14), (1, 15)] δ r134 ∧ q_V r134 = q_V δ ∧ q_R r134 = q_R δ) ∧ 0 ≤ (q_I r134 1 3 a0).toInt ∧ (q_I r134 1 4 a0).toInt ≤ (q_I δ 3 1 nu).toInt from ⟨i136, ⟨kp_w (by decide) u142, v143, v144⟩, by first | assumption | omega, by first | assumption | omega⟩)
            · have c149 : (r124.1 >>> ((q_I r43.2 1 7 a0) &&& 31)).toInt < ((q_I r43.2 1 8 a0) >>> ((q_I r43.2 1 7 a0) &&& 31)).toInt := o_nle h132
              refine ok_biv (fun vx150 e151 => ?_)
              first | (have q152 := te_cadd (c := 1) (n := 1) rfl (1 : Int32) (by omega) (by omega); rw [← e151] at q152; obtain ⟨f153, f154, f155⟩ := q152) | (obtain ⟨q152, f153, f154, f155⟩ : ∃ q : Int, vx150.toInt = (1 : Int) + (1 : Int) + 4294967296 * q ∧ -2147483648 ≤ vx150.toInt ∧ vx150.toInt ≤ 2147483647 := by rw [e151]; exact ti_cadd (c := 1) (n := 1) rfl (1 : Int32))
              unfold J_X1_goOnDown_108
              refine ok_bind (k_X1_enterList L hN (a0 := a0) (x1 := (q_I r43.2 1 8 a0)) k_a0 i45) (fun r156 hr157 => ?_)
              obtain ⟨i158, ⟨u161, u162, u163⟩, p159, p160⟩ := hr157
              have u164 := kp_t u54 u161
              have v165 : q_V r156 = q_V δ := (u162).trans v55
              have v166 : q_R r156 = q_R δ := (u163).trans v56
              have f167 := ti_b (q_I r156 1 3 a0)
              have f168 := ti_b (q_I r156 1 4 a0)
              have f169 := ti_b (q_I r43.2 1 12 a0)
              have f170 : (q_I r43.2 1 12 a0).toInt = (q_I δ 1 12 a0).toInt := congrArg Int32.toInt (u51 1 12 a0 (by decide))
              exact ok_some (show CI ad h.1 δ0 r156 ∧ (kp [(1, 3), (1, 4), (1, 5), (1, 6), (1, 8), (1, 13), (1, 14), (1, 15)] δ r156 ∧ q_V r156 = q_V δ ∧ q_R r156 = q_R δ) ∧ 0 ≤ (q_I r156 1 3 a0).toInt ∧ (q_I r156 1 4 a0).toInt ≤ (q_I δ 3 1 nu).toInt from ⟨i158, ⟨kp_w (by decide) u164, v165, v166⟩, by first | assumption | omega, by first | assumption | omega⟩)
          · have c171 : r114.1.toInt < (q_I r43.2 1 8 a0).toInt := o_nle h122
            refine ok_bind (k_X1_enterRoom L hN (a0 := a0) (x1 := (q_I r43.2 1 8 a0)) k_a0 i45) (fun r172 hr173 => ?_)
            obtain ⟨i174, ⟨u177, u178, u179⟩, p175, p176⟩ := hr173
            have u180 := kp_t u54 u177
            have v181 : q_V r172 = q_V δ := (u178).trans v55
            have v182 : q_R r172 = q_R δ := (u179).trans v56
            have f183 := ti_b (q_I r172 1 3 a0)
            have f184 := ti_b (q_I r172 1 4 a0)
            exact ok_some (show CI ad h.1 δ0 r172 ∧ (kp [(1, 3), (1, 4), (1, 5), (1, 6), (1, 8), (1, 13), (1, 14), (1, 15)] δ r172 ∧ q_V r172 = q_V δ ∧ q_R r172 = q_R δ) ∧ 0 ≤ (q_I r172 1 3 a0).toInt ∧ (q_I r172 1 4 a0).toInt ≤ (q_I δ 3 1 nu).toInt from ⟨i174, ⟨kp_w (by decide) u180, v181, v182⟩, by first | assumption | omega, by first | assumption | omega⟩)
      · have c185 : (q_I δ 1 12 a0).toInt ≤ (q_I δ 1 11 a0).toInt := o_nlt h41
        unfold J_X1_goOnDown_33
        refine ok_bdv (fun d186 e187 => ?_)
        have i188 : CI ad h.1 δ0 d186 := by rw [e187]; exact cs_1_15 L I k_a0 (show 0 ≤ (1 : Int) by omega) (show (1 : Int) ≤ 1 by omega)
        have u189 := kp_I kp_r e187
        have v190 : q_V d186 = q_V δ := ((show q_V d186 = q_V δ by rw [e187]; rfl)).trans rfl
        have v191 : q_R d186 = q_R δ := ((show q_R d186 = q_R δ by rw [e187]; rfl)).trans rfl
        have f192 := ti_b (q_I d186 1 3 a0)
        have f193 : (q_I d186 1 3 a0).toInt = (q_I δ 1 3 a0).toInt := congrArg Int32.toInt (by rw [e187]; exact rI_o (by decide))
        have f194 := ti_b (q_I d186 1 4 a0)
        have f195 : (q_I d186 1 4 a0).toInt = (q_I δ 1 4 a0).toInt := congrArg Int32.toInt (by rw [e187]; exact rI_o (by decide))
        exact ok_some (show CI ad h.1 δ0 d186 ∧ (kp [(1, 3), (1, 4), (1, 5), (1, 6), (1, 8), (1, 13), (1, 14), (1, 15)] δ d186 ∧ q_V d186 = q_V δ ∧ q_R d186 = q_R δ) ∧ 0 ≤ (q_I d186 1 3 a0).toInt ∧ (q_I d186 1 4 a0).toInt ≤ (q_I δ 3 1 nu).toInt from ⟨i188, ⟨kp_w (by decide) u189, v190, v191⟩, by first | assumption | omega, by first | assumption | omega⟩)
set_option maxHeartbeats 4000000 in
theorem kl_X1_touchesOf_47 {ad : List Nat} {h : hp} (L : Lay TLx ad h) {δ0 : dp} {N : Nat} (hN : 10000000 ≤ N) {a0 : Nat} {x1 : Int32} {x2 : Int32} {nu : Nat} (k_a0 : q_K h.1 a0 = 1) (hnu : q_O h.1 1 1 a0 = some nu) (knu : q_K h.1 nu = 3) : ∀ (n : Nat) (x3v : Int32) (x4v : Int32) (δ : dp), CI ad h.1 δ0 δ → 0 ≤ (q_I δ 1 3 a0).toInt → (q_I δ 1 4 a0).toInt ≤ (q_I δ 3 1 nu).toInt → 0 ≤ (x4v).toInt → (x4v).toInt ≤ 16 → 16 - (x4v).toInt < (n : Int) → ok (L_X1_touchesOf_47 N h.1 a0 x1 x2 n x3v x4v δ) (fun r => CI ad h.1 δ0 r.2 ∧ (kp [(1, 3), (1, 4), (1, 5), (1, 6), (1, 7), (1, 8), (1, 9), (1, 10), (1, 11), (1, 12), (1, 13), (1, 14), (1, 15)] δ r.2 ∧ q_V r.2 = q_V δ ∧ q_R r.2 = q_R δ)) := by
  intro n
  induction n with
  | zero =>
    intro x3v x4v δ I j0 j1 j2 j3 hm
    have f1 := ti_b (q_I δ 1 3 a0)
    have f2 := ti_b (q_I δ 1 4 a0)
    obtain ⟨b3, o4, k5, ⟨n6, n7⟩, w8⟩ := gO_3_0 L knu
    have f9 := cb_3_1 I knu o4
    have f10 := ti_b x4v
    exfalso; omega
  | succ n ih =>
    intro x3v x4v δ I j0 j1 j2 j3 hm
    unfold L_X1_touchesOf_47
    have f1 := ti_b (q_I δ 1 3 a0)
    have f2 := ti_b (q_I δ 1 4 a0)
    obtain ⟨b3, o4, k5, ⟨n6, n7⟩, w8⟩ := gO_3_0 L knu
    have f9 := cb_3_1 I knu o4
    have f10 := ti_b x4v
    refine ok_ite (fun h11 => ?_) (fun h11 => ?_)
    · have c12 : (16 : Int) ≤ x4v.toInt := o_le h11
      unfold J_X1_touchesOf_162
      exact ok_some (show CI ad h.1 δ0 δ ∧ (kp [(1, 3), (1, 4), (1, 5), (1, 6), (1, 7), (1, 8), (1, 9), (1, 10), (1, 11), (1, 12), (1, 13), (1, 14), (1, 15)] δ δ ∧ q_V δ = q_V δ ∧ q_R δ = q_R δ) from ⟨I, ⟨kp_w (by decide) kp_r, rfl, rfl⟩⟩)
    · have c13 : x4v.toInt < (16 : Int) := o_nle h11
      have f14 := cb_1_15 I k_a0
      refine ok_ite (fun h15 => ?_) (fun h15 => ?_)
      · have c16 : (q_I δ 1 15 a0).toInt = (0 : Int) := o_eq h15
        have f19 := ti_b x3v
        refine ok_biv (fun vx17 e18 => ?_)
        first | (have q20 := te_addc (c := 1) (n := 1) rfl x3v (by omega) (by omega); rw [← e18] at q20; obtain ⟨f21, f22, f23⟩ := q20) | (obtain ⟨q20, f21, f22, f23⟩ : ∃ q : Int, vx17.toInt = x3v.toInt + (1 : Int) + 4294967296 * q ∧ -2147483648 ≤ vx17.toInt ∧ vx17.toInt ≤ 2147483647 := by rw [e18]; exact ti_addc (c := 1) (n := 1) rfl x3v)
        refine ok_bind (k_X1_look L hN (a0 := a0) k_a0 hnu knu (show 0 ≤ (q_I δ 1 3 a0).toInt by first | assumption | omega) (show (q_I δ 1 4 a0).toInt ≤ (q_I δ 3 1 nu).toInt by first | assumption | omega) I) (fun r24 hr25 => ?_)
        obtain ⟨i26, ⟨u28, u29, u30⟩, p27⟩ := hr25
        have u31 := kp_t kp_r u28
        have v32 : q_V r24 = q_V δ := (u29).trans rfl
        have v33 : q_R r24 = q_R δ := (u30).trans rfl
        have f34 := cb_1_15 i26 k_a0
        have f35 := ti_b (q_I r24 1 11 a0)
        have f36 := ti_b (q_I r24 1 12 a0)
        refine ok_ite (fun h37 => ?_) (fun h37 => ?_)
        · have c38 : (q_I r24 1 15 a0).toInt = (0 : Int) := o_eq h37
          have f39 := ti_b x1
          refine ok_ite (fun h40 => ?_) (fun h40 => ?_)
          · have c41 : x1.toInt = (0 : Int) := o_eq h40
            have f44 := cb_3_1 i26 knu o4
            have f45 : (q_I r24 3 1 nu).toInt = (q_I δ 3 1 nu).toInt := congrArg Int32.toInt (u28 3 1 nu (by decide))
            have f46 := ti_b (q_I r24 1 3 a0)
            have f47 : (q_I r24 1 3 a0).toInt = (q_I δ 1 3 a0).toInt := congrArg Int32.toInt (u28 1 3 a0 (by decide))
            have f48 := ti_b (q_I r24 1 4 a0)
            have f49 : (q_I r24 1 4 a0).toInt = (q_I δ 1 4 a0).toInt := congrArg Int32.toInt (u28 1 4 a0 (by decide))
            refine ok_bind (k_X1_goOnPutting L hN (a0 := a0) k_a0 hnu knu (show 0 ≤ (q_I r24 1 11 a0).toInt by first | assumption | omega) (show (q_I r24 1 11 a0).toInt ≤ (q_I r24 1 12 a0).toInt by first | assumption | omega) (show (q_I r24 1 12 a0).toInt ≤ (q_I r24 3 1 nu).toInt by first | assumption | omega) (show 0 ≤ (q_I r24 1 3 a0).toInt by first | assumption | omega) (show (q_I r24 1 4 a0).toInt ≤ (q_I r24 3 1 nu).toInt by first | assumption | omega) i26) (fun r42 hr43 => ?_)
            obtain ⟨i50, ⟨u53, u54, u55⟩, p51, p52⟩ := hr43
            have u56 := kp_t u31 u53
            have v57 : q_V r42.2 = q_V δ := (u54).trans v32
            have v58 : q_R r42.2 = q_R δ := (u55).trans v33
            have f59 := ti_b (q_I r42.2 1 3 a0)
            have f60 := ti_b (q_I r42.2 1 4 a0)
            have f61 := ti_b r42.1
            refine ok_biv (fun vx62 e63 => ?_)
            first | (have q64 := te_add vx17 r42.1 (by omega) (by omega); rw [← e63] at q64; obtain ⟨f65, f66, f67⟩ := q64) | (obtain ⟨q64, f65, f66, f67⟩ : ∃ q : Int, vx62.toInt = vx17.toInt + r42.1.toInt + 4294967296 * q ∧ -2147483648 ≤ vx62.toInt ∧ vx62.toInt ≤ 2147483647 := by rw [e63]; exact ti_add vx17 r42.1)
            unfold J_X1_touchesOf_156
            refine ok_biv (fun vx68 e69 => ?_)
            first | (have q70 := te_addc (c := 1) (n := 1) rfl x4v (by omega) (by omega); rw [← e69] at q70; obtain ⟨f71, f72, f73⟩ := q70) | (obtain ⟨q70, f71, f72, f73⟩ : ∃ q : Int, vx68.toInt = x4v.toInt + (1 : Int) + 4294967296 * q ∧ -2147483648 ≤ vx68.toInt ∧ vx68.toInt ≤ 2147483647 := by rw [e69]; exact ti_addc (c := 1) (n := 1) rfl x4v)
            have f74 := cb_3_1 i50 knu o4
            have f75 : (q_I r42.2 3 1 nu).toInt = (q_I r24 3 1 nu).toInt := congrArg Int32.toInt (u53 3 1 nu (by decide))
            refine ok_mono (ih vx62 vx68 r42.2 i50 (show 0 ≤ (q_I r42.2 1 3 a0).toInt by first | assumption | omega) (show (q_I r42.2 1 4 a0).toInt ≤ (q_I r42.2 3 1 nu).toInt by first | assumption | omega) (show 0 ≤ (vx68).toInt by first | assumption | omega) (show (vx68).toInt ≤ 16 by first | assumption | omega) (show 16 - (vx68).toInt < _ by omega)) (fun r76 hr77 => ?_)
            obtain ⟨i78, ⟨u79, u80, u81⟩⟩ := hr77
            have u82 := kp_t u56 u79
            have v83 : q_V r76.2 = q_V δ := (u80).trans v57
            have v84 : q_R r76.2 = q_R δ := (u81).trans v58
            have f85 := ti_b r76.1
            exact ⟨by assumption, ⟨kp_w (by decide) u82, v83, v84⟩⟩
          · have c86 : x1.toInt ≠ (0 : Int) := o_ne h40
            refine ok_ite (fun h87 => ?_) (fun h87 => ?_)
            · have c88 : x1.toInt = (1 : Int) := o_eq h87
              have f91 := cb_3_1 i26 knu o4
              have f92 : (q_I r24 3 1 nu).toInt = (q_I δ 3 1 nu).toInt := congrArg Int32.toInt (u28 3 1 nu (by decide))
              have f93 := ti_b (q_I r24 1 3 a0)
              have f94 : (q_I r24 1 3 a0).toInt = (q_I δ 1 3 a0).toInt := congrArg Int32.toInt (u28 1 3 a0 (by decide))
              have f95 := ti_b (q_I r24 1 4 a0)
              have f96 : (q_I r24 1 4 a0).toInt = (q_I δ 1 4 a0).toInt := congrArg Int32.toInt (u28 1 4 a0 (by decide))
              refine ok_bind (k_X1_goOnDropping L hN (a0 := a0) k_a0 hnu knu (show 0 ≤ (q_I r24 1 11 a0).toInt by first | assumption | omega) (show (q_I r24 1 11 a0).toInt ≤ (q_I r24 1 12 a0).toInt by first | assumption | omega) (show (q_I r24 1 12 a0).toInt ≤ (q_I r24 3 1 nu).toInt by first | assumption | omega) (show 0 ≤ (q_I r24 1 3 a0).toInt by first | assumption | omega) (show (q_I r24 1 4 a0).toInt ≤ (q_I r24 3 1 nu).toInt by first | assumption | omega) i26) (fun r89 hr90 => ?_)
              obtain ⟨i97, ⟨u100, u101, u102⟩, p98, p99⟩ := hr90
              have u103 := kp_t u31 u100
              have v104 : q_V r89.2 = q_V δ := (u101).trans v32
              have v105 : q_R r89.2 = q_R δ := (u102).trans v33
              have f106 := ti_b (q_I r89.2 1 3 a0)
              have f107 := ti_b (q_I r89.2 1 4 a0)
              have f108 := ti_b r89.1
              refine ok_biv (fun vx109 e110 => ?_)
              first | (have q111 := te_add vx17 r89.1 (by omega) (by omega); rw [← e110] at q111; obtain ⟨f112, f113, f114⟩ := q111) | (obtain ⟨q111, f112, f113, f114⟩ : ∃ q : Int, vx109.toInt = vx17.toInt + r89.1.toInt + 4294967296 * q ∧ -2147483648 ≤ vx109.toInt ∧ vx109.toInt ≤ 2147483647 := by rw [e110]; exact ti_add vx17 r89.1)
              unfold J_X1_touchesOf_156
              refine ok_biv (fun vx115 e116 => ?_)
              first | (have q117 := te_addc (c := 1) (n := 1) rfl x4v (by omega) (by omega); rw [← e116] at q117; obtain ⟨f118, f119, f120⟩ := q117) | (obtain ⟨q117, f118, f119, f120⟩ : ∃ q : Int, vx115.toInt = x4v.toInt + (1 : Int) + 4294967296 * q ∧ -2147483648 ≤ vx115.toInt ∧ vx115.toInt ≤ 2147483647 := by rw [e116]; exact ti_addc (c := 1) (n := 1) rfl x4v)
              have f121 := cb_3_1 i97 knu o4
              have f122 : (q_I r89.2 3 1 nu).toInt = (q_I r24 3 1 nu).toInt := congrArg Int32.toInt (u100 3 1 nu (by decide))
              refine ok_mono (ih vx109 vx115 r89.2 i97 (show 0 ≤ (q_I r89.2 1 3 a0).toInt by first | assumption | omega) (show (q_I r89.2 1 4 a0).toInt ≤ (q_I r89.2 3 1 nu).toInt by first | assumption | omega) (show 0 ≤ (vx115).toInt by first | assumption | omega) (show (vx115).toInt ≤ 16 by first | assumption | omega) (show 16 - (vx115).toInt < _ by omega)) (fun r123 hr124 => ?_)
              obtain ⟨i125, ⟨u126, u127, u128⟩⟩ := hr124
              have u129 := kp_t u103 u126
              have v130 : q_V r123.2 = q_V δ := (u127).trans v104
              have v131 : q_R r123.2 = q_R δ := (u128).trans v105
              have f132 := ti_b r123.1
              exact ⟨by assumption, ⟨kp_w (by decide) u129, v130, v131⟩⟩
            · have c133 : x1.toInt ≠ (1 : Int) := o_ne h87
              refine ok_ite (fun h134 => ?_) (fun h134 => ?_)
              · have c135 : x1.toInt = (2 : Int) := o_eq h134
                unfold J_X1_touchesOf_152
                have f138 := cb_3_1 i26 knu o4
                have f139 : (q_I r24 3 1 nu).toInt = (q_I δ 3 1 nu).toInt := congrArg Int32.toInt (u28 3 1 nu (by decide))
                have f140 := ti_b (q_I r24 1 3 a0)
                have f141 : (q_I r24 1 3 a0).toInt = (q_I δ 1 3 a0).toInt := congrArg Int32.toInt (u28 1 3 a0 (by decide))
                have f142 := ti_b (q_I r24 1 4 a0)
                have f143 : (q_I r24 1 4 a0).toInt = (q_I δ 1 4 a0).toInt := congrArg Int32.toInt (u28 1 4 a0 (by decide))
                refine ok_bind (k_X1_goOnAsking L hN (a0 := a0) k_a0 hnu knu (show 0 ≤ (q_I r24 1 11 a0).toInt by first | assumption | omega) (show (q_I r24 1 11 a0).toInt ≤ (q_I r24 1 12 a0).toInt by first | assumption | omega) (show (q_I r24 1 12 a0).toInt ≤ (q_I r24 3 1 nu).toInt by first | assumption | omega) (show 0 ≤ (q_I r24 1 3 a0).toInt by first | assumption | omega) (show (q_I r24 1 4 a0).toInt ≤ (q_I r24 3 1 nu).toInt by first | assumption | omega) i26) (fun r136 hr137 => ?_)
                obtain ⟨i144, ⟨u147, u148, u149⟩, p145, p146⟩ := hr137
                have u150 := kp_t u31 u147
                have v151 : q_V r136 = q_V δ := (u148).trans v32
                have v152 : q_R r136 = q_R δ := (u149).trans v33
                have f153 := ti_b (q_I r136 1 3 a0)
                have f154 := ti_b (q_I r136 1 4 a0)
                unfold J_X1_touchesOf_156
                refine ok_biv (fun vx155 e156 => ?_)
                first | (have q157 := te_addc (c := 1) (n := 1) rfl x4v (by omega) (by omega); rw [← e156] at q157; obtain ⟨f158, f159, f160⟩ := q157) | (obtain ⟨q157, f158, f159, f160⟩ : ∃ q : Int, vx155.toInt = x4v.toInt + (1 : Int) + 4294967296 * q ∧ -2147483648 ≤ vx155.toInt ∧ vx155.toInt ≤ 2147483647 := by rw [e156]; exact ti_addc (c := 1) (n := 1) rfl x4v)
                have f161 := cb_3_1 i144 knu o4
                have f162 : (q_I r136 3 1 nu).toInt = (q_I r24 3 1 nu).toInt := congrArg Int32.toInt (u147 3 1 nu (by decide))
                refine ok_mono (ih vx17 vx155 r136 i144 (show 0 ≤ (q_I r136 1 3 a0).toInt by first | assumption | omega) (show (q_I r136 1 4 a0).toInt ≤ (q_I r136 3 1 nu).toInt by first | assumption | omega) (show 0 ≤ (vx155).toInt by first | assumption | omega) (show (vx155).toInt ≤ 16 by first | assumption | omega) (show 16 - (vx155).toInt < _ by omega)) (fun r163 hr164 => ?_)
                obtain ⟨i165, ⟨u166, u167, u168⟩⟩ := hr164
                have u169 := kp_t u150 u166
                have v170 : q_V r163.2 = q_V δ := (u167).trans v151
                have v171 : q_R r163.2 = q_R δ := (u168).trans v152
                have f172 := ti_b r163.1
                exact ⟨by assumption, ⟨kp_w (by decide) u169, v170, v171⟩⟩
              · have c173 : x1.toInt ≠ (2 : Int) := o_ne h134
                refine ok_ite (fun h174 => ?_) (fun h174 => ?_)
                · have c175 : x1.toInt = (3 : Int) := o_eq h174
                  have f178 := cb_3_1 i26 knu o4
                  have f179 : (q_I r24 3 1 nu).toInt = (q_I δ 3 1 nu).toInt := congrArg Int32.toInt (u28 3 1 nu (by decide))
                  have f180 := ti_b (q_I r24 1 3 a0)
                  have f181 : (q_I r24 1 3 a0).toInt = (q_I δ 1 3 a0).toInt := congrArg Int32.toInt (u28 1 3 a0 (by decide))
                  have f182 := ti_b (q_I r24 1 4 a0)
                  have f183 : (q_I r24 1 4 a0).toInt = (q_I δ 1 4 a0).toInt := congrArg Int32.toInt (u28 1 4 a0 (by decide))
                  refine ok_bind (k_X1_goOnUp L hN (a0 := a0) k_a0 hnu knu (show 0 ≤ (q_I r24 1 11 a0).toInt by first | assumption | omega) (show (q_I r24 1 11 a0).toInt ≤ (q_I r24 1 12 a0).toInt by first | assumption | omega) (show (q_I r24 1 12 a0).toInt ≤ (q_I r24 3 1 nu).toInt by first | assumption | omega) (show 0 ≤ (q_I r24 1 3 a0).toInt by first | assumption | omega) (show (q_I r24 1 4 a0).toInt ≤ (q_I r24 3 1 nu).toInt by first | assumption | omega) i26) (fun r176 hr177 => ?_)
                  obtain ⟨i184, ⟨u187, u188, u189⟩, p185, p186⟩ := hr177
                  have u190 := kp_t u31 u187
                  have v191 : q_V r176.2 = q_V δ := (u188).trans v32
                  have v192 : q_R r176.2 = q_R δ := (u189).trans v33
                  have f193 := ti_b (q_I r176.2 1 3 a0)
                  have f194 := ti_b (q_I r176.2 1 4 a0)
                  have f195 := ti_b r176.1
                  refine ok_biv (fun vx196 e197 => ?_)
                  first | (have q198 := te_add vx17 r176.1 (by omega) (by omega); rw [← e197] at q198; obtain ⟨f199, f200, f201⟩ := q198) | (obtain ⟨q198, f199, f200, f201⟩ : ∃ q : Int, vx196.toInt = vx17.toInt + r176.1.toInt + 4294967296 * q ∧ -2147483648 ≤ vx196.toInt ∧ vx196.toInt ≤ 2147483647 := by rw [e197]; exact ti_add vx17 r176.1)
                  unfold J_X1_touchesOf_156
                  refine ok_biv (fun vx202 e203 => ?_)
                  first | (have q204 := te_addc (c := 1) (n := 1) rfl x4v (by omega) (by omega); rw [← e203] at q204; obtain ⟨f205, f206, f207⟩ := q204) | (obtain ⟨q204, f205, f206, f207⟩ : ∃ q : Int, vx202.toInt = x4v.toInt + (1 : Int) + 4294967296 * q ∧ -2147483648 ≤ vx202.toInt ∧ vx202.toInt ≤ 2147483647 := by rw [e203]; exact ti_addc (c := 1) (n := 1) rfl x4v)
                  have f208 := cb_3_1 i184 knu o4
                  have f209 : (q_I r176.2 3 1 nu).toInt = (q_I r24 3 1 nu).toInt := congrArg Int32.toInt (u187 3 1 nu (by decide))
                  refine ok_mono (ih vx196 vx202 r176.2 i184 (show 0 ≤ (q_I r176.2 1 3 a0).toInt by first | assumption | omega) (show (q_I r176.2 1 4 a0).toInt ≤ (q_I r176.2 3 1 nu).toInt by first | assumption | omega) (show 0 ≤ (vx202).toInt by first | assumption | omega) (show (vx202).toInt ≤ 16 by first | assumption | omega) (show 16 - (vx202).toInt < _ by omega)) (fun r210 hr211 => ?_)
                  obtain ⟨i212, ⟨u213, u214, u215⟩⟩ := hr211
                  have u216 := kp_t u190 u213
                  have v217 : q_V r210.2 = q_V δ := (u214).trans v191
                  have v218 : q_R r210.2 = q_R δ := (u215).trans v192
                  have f219 := ti_b r210.1
                  exact ⟨by assumption, ⟨kp_w (by decide) u216, v217, v218⟩⟩
                · have c220 : x1.toInt ≠ (3 : Int) := o_ne h174
                  refine ok_ite (fun h221 => ?_) (fun h221 => ?_)
                  · have c222 : x1.toInt = (4 : Int) := o_eq h221
                    have f225 := cb_3_1 i26 knu o4
                    have f226 : (q_I r24 3 1 nu).toInt = (q_I δ 3 1 nu).toInt := congrArg Int32.toInt (u28 3 1 nu (by decide))
                    have f227 := ti_b (q_I r24 1 3 a0)
                    have f228 : (q_I r24 1 3 a0).toInt = (q_I δ 1 3 a0).toInt := congrArg Int32.toInt (u28 1 3 a0 (by decide))
                    have f229 := ti_b (q_I r24 1 4 a0)
                    have f230 : (q_I r24 1 4 a0).toInt = (q_I δ 1 4 a0).toInt := congrArg Int32.toInt (u28 1 4 a0 (by decide))
                    refine ok_bind (k_X1_goOnDown L hN (a0 := a0) k_a0 hnu knu (show 0 ≤ (q_I r24 1 11 a0).toInt by first | assumption | omega) (show (q_I r24 1 11 a0).toInt ≤ (q_I r24 1 12 a0).toInt by first | assumption | omega) (show (q_I r24 1 12 a0).toInt ≤ (q_I r24 3 1 nu).toInt by first | assumption | omega) (show 0 ≤ (q_I r24 1 3 a0).toInt by first | assumption | omega) (show (q_I r24 1 4 a0).toInt ≤ (q_I r24 3 1 nu).toInt by first | assumption | omega) i26) (fun r223 hr224 => ?_)
                    obtain ⟨i231, ⟨u234, u235, u236⟩, p232, p233⟩ := hr224
                    have u237 := kp_t u31 u234
                    have v238 : q_V r223.2 = q_V δ := (u235).trans v32
                    have v239 : q_R r223.2 = q_R δ := (u236).trans v33
                    have f240 := ti_b (q_I r223.2 1 3 a0)
                    have f241 := ti_b (q_I r223.2 1 4 a0)
                    have f242 := ti_b r223.1
                    refine ok_biv (fun vx243 e244 => ?_)
                    first | (have q245 := te_add vx17 r223.1 (by omega) (by omega); rw [← e244] at q245; obtain ⟨f246, f247, f248⟩ := q245) | (obtain ⟨q245, f246, f247, f248⟩ : ∃ q : Int, vx243.toInt = vx17.toInt + r223.1.toInt + 4294967296 * q ∧ -2147483648 ≤ vx243.toInt ∧ vx243.toInt ≤ 2147483647 := by rw [e244]; exact ti_add vx17 r223.1)
                    unfold J_X1_touchesOf_156
                    refine ok_biv (fun vx249 e250 => ?_)
                    first | (have q251 := te_addc (c := 1) (n := 1) rfl x4v (by omega) (by omega); rw [← e250] at q251; obtain ⟨f252, f253, f254⟩ := q251) | (obtain ⟨q251, f252, f253, f254⟩ : ∃ q : Int, vx249.toInt = x4v.toInt + (1 : Int) + 4294967296 * q ∧ -2147483648 ≤ vx249.toInt ∧ vx249.toInt ≤ 2147483647 := by rw [e250]; exact ti_addc (c := 1) (n := 1) rfl x4v)
                    have f255 := cb_3_1 i231 knu o4
                    have f256 : (q_I r223.2 3 1 nu).toInt = (q_I r24 3 1 nu).toInt := congrArg Int32.toInt (u234 3 1 nu (by decide))
                    refine ok_mono (ih vx243 vx249 r223.2 i231 (show 0 ≤ (q_I r223.2 1 3 a0).toInt by first | assumption | omega) (show (q_I r223.2 1 4 a0).toInt ≤ (q_I r223.2 3 1 nu).toInt by first | assumption | omega) (show 0 ≤ (vx249).toInt by first | assumption | omega) (show (vx249).toInt ≤ 16 by first | assumption | omega) (show 16 - (vx249).toInt < _ by omega)) (fun r257 hr258 => ?_)
                    obtain ⟨i259, ⟨u260, u261, u262⟩⟩ := hr258
                    have u263 := kp_t u237 u260
                    have v264 : q_V r257.2 = q_V δ := (u261).trans v238
                    have v265 : q_R r257.2 = q_R δ := (u262).trans v239
                    have f266 := ti_b r257.1
                    exact ⟨by assumption, ⟨kp_w (by decide) u263, v264, v265⟩⟩
                  · have c267 : x1.toInt ≠ (4 : Int) := o_ne h221
                    unfold J_X1_touchesOf_152
                    have f270 := cb_3_1 i26 knu o4
                    have f271 : (q_I r24 3 1 nu).toInt = (q_I δ 3 1 nu).toInt := congrArg Int32.toInt (u28 3 1 nu (by decide))
                    have f272 := ti_b (q_I r24 1 3 a0)
                    have f273 : (q_I r24 1 3 a0).toInt = (q_I δ 1 3 a0).toInt := congrArg Int32.toInt (u28 1 3 a0 (by decide))
                    have f274 := ti_b (q_I r24 1 4 a0)
                    have f275 : (q_I r24 1 4 a0).toInt = (q_I δ 1 4 a0).toInt := congrArg Int32.toInt (u28 1 4 a0 (by decide))
                    refine ok_bind (k_X1_goOnAsking L hN (a0 := a0) k_a0 hnu knu (show 0 ≤ (q_I r24 1 11 a0).toInt by first | assumption | omega) (show (q_I r24 1 11 a0).toInt ≤ (q_I r24 1 12 a0).toInt by first | assumption | omega) (show (q_I r24 1 12 a0).toInt ≤ (q_I r24 3 1 nu).toInt by first | assumption | omega) (show 0 ≤ (q_I r24 1 3 a0).toInt by first | assumption | omega) (show (q_I r24 1 4 a0).toInt ≤ (q_I r24 3 1 nu).toInt by first | assumption | omega) i26) (fun r268 hr269 => ?_)
                    obtain ⟨i276, ⟨u279, u280, u281⟩, p277, p278⟩ := hr269
                    have u282 := kp_t u31 u279
                    have v283 : q_V r268 = q_V δ := (u280).trans v32
                    have v284 : q_R r268 = q_R δ := (u281).trans v33
                    have f285 := ti_b (q_I r268 1 3 a0)
                    have f286 := ti_b (q_I r268 1 4 a0)
                    unfold J_X1_touchesOf_156
                    refine ok_biv (fun vx287 e288 => ?_)
                    first | (have q289 := te_addc (c := 1) (n := 1) rfl x4v (by omega) (by omega); rw [← e288] at q289; obtain ⟨f290, f291, f292⟩ := q289) | (obtain ⟨q289, f290, f291, f292⟩ : ∃ q : Int, vx287.toInt = x4v.toInt + (1 : Int) + 4294967296 * q ∧ -2147483648 ≤ vx287.toInt ∧ vx287.toInt ≤ 2147483647 := by rw [e288]; exact ti_addc (c := 1) (n := 1) rfl x4v)
                    have f293 := cb_3_1 i276 knu o4
                    have f294 : (q_I r268 3 1 nu).toInt = (q_I r24 3 1 nu).toInt := congrArg Int32.toInt (u279 3 1 nu (by decide))
                    refine ok_mono (ih vx17 vx287 r268 i276 (show 0 ≤ (q_I r268 1 3 a0).toInt by first | assumption | omega) (show (q_I r268 1 4 a0).toInt ≤ (q_I r268 3 1 nu).toInt by first | assumption | omega) (show 0 ≤ (vx287).toInt by first | assumption | omega) (show (vx287).toInt ≤ 16 by first | assumption | omega) (show 16 - (vx287).toInt < _ by omega)) (fun r295 hr296 => ?_)
                    obtain ⟨i297, ⟨u298, u299, u300⟩⟩ := hr296
                    have u301 := kp_t u282 u298
                    have v302 : q_V r295.2 = q_V δ := (u299).trans v283
                    have v303 : q_R r295.2 = q_R δ := (u300).trans v284
                    have f304 := ti_b r295.1
                    exact ⟨by assumption, ⟨kp_w (by decide) u301, v302, v303⟩⟩
        · have c305 : (q_I r24 1 15 a0).toInt ≠ (0 : Int) := o_ne h37
          exact ok_some (show CI ad h.1 δ0 r24 ∧ (kp [(1, 3), (1, 4), (1, 5), (1, 6), (1, 7), (1, 8), (1, 9), (1, 10), (1, 11), (1, 12), (1, 13), (1, 14), (1, 15)] δ r24 ∧ q_V r24 = q_V δ ∧ q_R r24 = q_R δ) from ⟨i26, ⟨kp_w (by decide) u31, v32, v33⟩⟩)
      · have c306 : (q_I δ 1 15 a0).toInt ≠ (0 : Int) := o_ne h15
        unfold J_X1_touchesOf_162
        exact ok_some (show CI ad h.1 δ0 δ ∧ (kp [(1, 3), (1, 4), (1, 5), (1, 6), (1, 7), (1, 8), (1, 9), (1, 10), (1, 11), (1, 12), (1, 13), (1, 14), (1, 15)] δ δ ∧ q_V δ = q_V δ ∧ q_R δ = q_R δ) from ⟨I, ⟨kp_w (by decide) kp_r, rfl, rfl⟩⟩)
set_option maxHeartbeats 4000000 in
theorem k_X1_touchesOf {ad : List Nat} {h : hp} (L : Lay TLx ad h) {δ0 : dp} {N : Nat} (hN : 10000000 ≤ N) {a0 : Nat} {x1 : Int32} {x2 : Int32} {nu : Nat} (k_a0 : q_K h.1 a0 = 1) (hnu : q_O h.1 1 1 a0 = some nu) (knu : q_K h.1 nu = 3) {δ : dp} (I : CI ad h.1 δ0 δ) : ok (D_X1_touchesOf N h.1 a0 x1 x2 δ) (fun r => CI ad h.1 δ0 r.2 ∧ (kp [(1, 3), (1, 4), (1, 5), (1, 6), (1, 7), (1, 8), (1, 9), (1, 10), (1, 11), (1, 12), (1, 13), (1, 14), (1, 15)] δ r.2 ∧ q_V r.2 = q_V δ ∧ q_R r.2 = q_R δ)) := by
  unfold D_X1_touchesOf
  refine ok_bdv (fun d1 e2 => ?_)
  have i3 : CI ad h.1 δ0 d1 := by rw [e2]; exact cs_1_3 L I
  have u4 := kp_I kp_r e2
  have v5 : q_V d1 = q_V δ := ((show q_V d1 = q_V δ by rw [e2]; rfl)).trans rfl
  have v6 : q_R d1 = q_R δ := ((show q_R d1 = q_R δ by rw [e2]; rfl)).trans rfl
  refine ok_at hnu ?_
  obtain ⟨b10, o11, k12, ⟨n13, n14⟩, w15⟩ := gO_3_0 L knu
  have f16 := cb_3_1 i3 knu o11
  have f17 : (q_I d1 3 1 nu).toInt = (q_I δ 3 1 nu).toInt := congrArg Int32.toInt (by rw [e2]; exact rI_o (by decide))
  have f18 := cb_3_1 I knu o11
  refine ok_bdv (fun d7 e8 => ?_)
  have i9 : CI ad h.1 δ0 d7 := by rw [e8]; exact cs_1_4 L i3
  have u19 := kp_I u4 e8
  have v20 : q_V d7 = q_V δ := ((show q_V d7 = q_V d1 by rw [e8]; rfl)).trans v5
  have v21 : q_R d7 = q_R δ := ((show q_R d7 = q_R d1 by rw [e8]; rfl)).trans v6
  refine ok_bdv (fun d22 e23 => ?_)
  have i24 : CI ad h.1 δ0 d22 := by rw [e23]; exact cs_1_5 L i9
  have u25 := kp_I u19 e23
  have v26 : q_V d22 = q_V δ := ((show q_V d22 = q_V d7 by rw [e23]; rfl)).trans v20
  have v27 : q_R d22 = q_R δ := ((show q_R d22 = q_R d7 by rw [e23]; rfl)).trans v21
  obtain ⟨b28, o29, k30⟩ := gO_1_0 L k_a0
  refine ok_at o29 ?_
  have f34 := cb_5_0 i24 k30
  have f35 : (q_I d22 5 0 b28).toInt = (q_I d7 5 0 b28).toInt := congrArg Int32.toInt (by rw [e23]; exact rI_o (by decide))
  have f36 := cb_5_0 i9 k30
  have f37 : (q_I d7 5 0 b28).toInt = (q_I d1 5 0 b28).toInt := congrArg Int32.toInt (by rw [e8]; exact rI_o (by decide))
  have f38 := cb_5_0 i3 k30
  have f39 : (q_I d1 5 0 b28).toInt = (q_I δ 5 0 b28).toInt := congrArg Int32.toInt (by rw [e2]; exact rI_o (by decide))
  have f40 := cb_5_0 I k30
  refine ok_bdv (fun d31 e32 => ?_)
  have i33 : CI ad h.1 δ0 d31 := by rw [e32]; exact cs_1_6 L i24
  have u41 := kp_I u25 e32
  have v42 : q_V d31 = q_V δ := ((show q_V d31 = q_V d22 by rw [e32]; rfl)).trans v26
  have v43 : q_R d31 = q_R δ := ((show q_R d31 = q_R d22 by rw [e32]; rfl)).trans v27
  have f47 := ti_b x2
  refine ok_bdv (fun d44 e45 => ?_)
  have i46 : CI ad h.1 δ0 d44 := by rw [e45]; exact cs_1_8 L i33
  have u48 := kp_I u41 e45
  have v49 : q_V d44 = q_V δ := ((show q_V d44 = q_V d31 by rw [e45]; rfl)).trans v42
  have v50 : q_R d44 = q_R δ := ((show q_R d44 = q_R d31 by rw [e45]; rfl)).trans v43
  refine ok_bdv (fun d51 e52 => ?_)
  have i53 : CI ad h.1 δ0 d51 := by rw [e52]; exact cs_1_15 L i46 k_a0 (show 0 ≤ (0 : Int) by omega) (show (0 : Int) ≤ 1 by omega)
  have u54 := kp_I u48 e52
  have v55 : q_V d51 = q_V δ := ((show q_V d51 = q_V d44 by rw [e52]; rfl)).trans v49
  have v56 : q_R d51 = q_R δ := ((show q_R d51 = q_R d44 by rw [e52]; rfl)).trans v50
  have f57 := ti_b (q_I d51 1 3 a0)
  have f58 : (q_I d51 1 3 a0).toInt = (q_I d44 1 3 a0).toInt := congrArg Int32.toInt (by rw [e52]; exact rI_o (by decide))
  have f59 := ti_b (q_I d44 1 3 a0)
  have f60 : (q_I d44 1 3 a0).toInt = (q_I d31 1 3 a0).toInt := congrArg Int32.toInt (by rw [e45]; exact rI_o (by decide))
  have f61 := ti_b (q_I d31 1 3 a0)
  have f62 : (q_I d31 1 3 a0).toInt = (q_I d22 1 3 a0).toInt := congrArg Int32.toInt (by rw [e32]; exact rI_o (by decide))
  have f63 := ti_b (q_I d22 1 3 a0)
  have f64 : (q_I d22 1 3 a0).toInt = (q_I d7 1 3 a0).toInt := congrArg Int32.toInt (by rw [e23]; exact rI_o (by decide))
  have f65 := ti_b (q_I d7 1 3 a0)
  have f66 : (q_I d7 1 3 a0).toInt = (q_I d1 1 3 a0).toInt := congrArg Int32.toInt (by rw [e8]; exact rI_o (by decide))
  have f67 := ti_b (q_I d1 1 3 a0)
  have f68 : (q_I d1 1 3 a0).toInt = (0 : Int) := congrArg Int32.toInt (show q_I d1 1 3 a0 = (0 : Int32) by rw [e2]; exact rI_s)
  have f69 := ti_b (q_I d51 1 4 a0)
  have f70 : (q_I d51 1 4 a0).toInt = (q_I d44 1 4 a0).toInt := congrArg Int32.toInt (by rw [e52]; exact rI_o (by decide))
  have f71 := ti_b (q_I d44 1 4 a0)
  have f72 : (q_I d44 1 4 a0).toInt = (q_I d31 1 4 a0).toInt := congrArg Int32.toInt (by rw [e45]; exact rI_o (by decide))
  have f73 := ti_b (q_I d31 1 4 a0)
  have f74 : (q_I d31 1 4 a0).toInt = (q_I d22 1 4 a0).toInt := congrArg Int32.toInt (by rw [e32]; exact rI_o (by decide))
  have f75 := ti_b (q_I d22 1 4 a0)
  have f76 : (q_I d22 1 4 a0).toInt = (q_I d7 1 4 a0).toInt := congrArg Int32.toInt (by rw [e23]; exact rI_o (by decide))
  have f77 := ti_b (q_I d7 1 4 a0)
  have f78 : (q_I d7 1 4 a0).toInt = (q_I d1 3 1 nu).toInt := congrArg Int32.toInt (show q_I d7 1 4 a0 = (q_I d1 3 1 nu) by rw [e8]; exact rI_s)
  have f79 := cb_3_1 i53 knu o11
  have f80 : (q_I d51 3 1 nu).toInt = (q_I d44 3 1 nu).toInt := congrArg Int32.toInt (by rw [e52]; exact rI_o (by decide))
  have f81 := cb_3_1 i46 knu o11
  have f82 : (q_I d44 3 1 nu).toInt = (q_I d31 3 1 nu).toInt := congrArg Int32.toInt (by rw [e45]; exact rI_o (by decide))
  have f83 := cb_3_1 i33 knu o11
  have f84 : (q_I d31 3 1 nu).toInt = (q_I d22 3 1 nu).toInt := congrArg Int32.toInt (by rw [e32]; exact rI_o (by decide))
  have f85 := cb_3_1 i24 knu o11
  have f86 : (q_I d22 3 1 nu).toInt = (q_I d7 3 1 nu).toInt := congrArg Int32.toInt (by rw [e23]; exact rI_o (by decide))
  have f87 := cb_3_1 i9 knu o11
  have f88 : (q_I d7 3 1 nu).toInt = (q_I d1 3 1 nu).toInt := congrArg Int32.toInt (by rw [e8]; exact rI_o (by decide))
  refine ok_mono (kl_X1_touchesOf_47 L hN   k_a0 hnu knu _ (0 : Int32) (0 : Int32) d51 i53 (show 0 ≤ (q_I d51 1 3 a0).toInt by first | assumption | omega) (show (q_I d51 1 4 a0).toInt ≤ (q_I d51 3 1 nu).toInt by first | assumption | omega) (show 0 ≤ (0 : Int) by first | assumption | omega) (show (0 : Int) ≤ 16 by first | assumption | omega) (show 16 - (0 : Int) < _ by omega)) (fun r89 hr90 => ?_)
  obtain ⟨i91, ⟨u92, u93, u94⟩⟩ := hr90
  have u95 := kp_t u54 u92
  have v96 : q_V r89.2 = q_V δ := (u93).trans v55
  have v97 : q_R r89.2 = q_R δ := (u94).trans v56
  have f98 := ti_b r89.1
  exact ⟨by assumption, ⟨kp_w (by decide) u95, v96, v97⟩⟩
set_option maxHeartbeats 4000000 in
theorem kl_X1_cellsOf_163 {ad : List Nat} {h : hp} (L : Lay TLx ad h) {δ0 : dp} {N : Nat} (hN : 10000000 ≤ N) {T : Nat → Int32 → Int32 → Int32 → Int32 → dp → Option (Int32 × dp)} {K : Int} (hT : ∀ (a0 : Nat) (x1 : Int32) (x2 : Int32) (x3 : Int32) (x4 : Int32) (δ : dp) (nu : Nat), q_K h.1 a0 = 1 → q_O h.1 1 1 a0 = some nu → q_K h.1 nu = 3 → 0 ≤ (x1).toInt → (x2).toInt ≤ (q_I δ 3 1 nu).toInt → 0 ≤ (x4).toInt → (x4).toInt ≤ 16 → (x4).toInt < K → CI ad h.1 δ0 δ → ok (T a0 x1 x2 x3 x4 δ) (fun r => r.2 = δ)) {a0 : Nat} {x1 : Int32} {x2 : Int32} {x3 : Int32} {x4 : Int32} {nu : Nat} (k_a0 : q_K h.1 a0 = 1) (hnu : q_O h.1 1 1 a0 = some nu) (knu : q_K h.1 nu = 3) : ∀ (n : Nat) (x7v : Int32) (x8v : Int32) (x9v : Int32) (x10v : Int32) (x11v : Int32) (δ : dp), CI ad h.1 δ0 δ → 0 ≤ (x1).toInt → (x1).toInt < (x2).toInt → (x2).toInt ≤ (q_I δ 3 1 nu).toInt → 2 ≤ (x4).toInt → (x4).toInt ≤ 16 → (x4).toInt ≤ K → 0 ≤ (x11v).toInt → (x11v).toInt ≤ (x7v).toInt → (x7v).toInt ≤ (x2).toInt → 0 ≤ (x10v).toInt → 1 ≤ (x8v).toInt → (x8v).toInt < (x4).toInt → (x7v).toInt - (x11v).toInt < (n : Int) → ok (L_X1_cellsOf_163 N h.1 T a0 x1 x2 x3 x4 n x7v x8v x9v x10v x11v δ) (fun r => r.2 = δ) := by
  intro n
  induction n with
  | zero =>
    intro x7v x8v x9v x10v x11v δ I j0 j1 j2 j3 j4 j5 j6 j7 j8 j9 j10 j11 hm
    have f1 := ti_b x1
    have f2 := ti_b x2
    obtain ⟨b3, o4, k5, ⟨n6, n7⟩, w8⟩ := gO_3_0 L knu
    have f9 := cb_3_1 I knu o4
    have f10 := ti_b x4
    have f11 := ti_b x11v
    have f12 := ti_b x7v
    have f13 := ti_b x10v
    have f14 := ti_b x8v
    exfalso; omega
  | succ n ih =>
    intro x7v x8v x9v x10v x11v δ I j0 j1 j2 j3 j4 j5 j6 j7 j8 j9 j10 j11 hm
    unfold L_X1_cellsOf_163
    have f1 := ti_b x1
    have f2 := ti_b x2
    obtain ⟨b3, o4, k5, ⟨n6, n7⟩, w8⟩ := gO_3_0 L knu
    have f9 := cb_3_1 I knu o4
    have f10 := ti_b x4
    have f11 := ti_b x11v
    have f12 := ti_b x7v
    have f13 := ti_b x10v
    have f14 := ti_b x8v
    refine ok_ite (fun h15 => ?_) (fun h15 => ?_)
    · have c16 : x7v.toInt ≤ x11v.toInt := o_le h15
      exact ok_some (show δ = δ from rfl)
    · have c17 : x11v.toInt < x7v.toInt := o_nle h15
      first | (have q19 := te_addc (c := 1) (n := 1) rfl x11v (by omega) (by omega); obtain ⟨f20, f21, f22⟩ := q19) | (obtain ⟨q19, f20, f21, f22⟩ := ti_addc (c := 1) (n := 1) rfl x11v)
      refine ok_ite (fun h23 => ?_) (fun h23 => ?_)
      · have c24 : x7v.toInt ≤ (x11v + (1 : Int32)).toInt := o_le h23
        unfold J_X1_cellsOf_208
        unfold J_X1_cellsOf_213
        refine ok_ite (fun h25 => ?_) (fun h25 => ?_)
        · have c26 : (1 : Int) = (0 : Int) := o_eq h25
          unfold J_X1_cellsOf_244
          refine ok_biv (fun vx27 e28 => ?_)
          first | (have q29 := te_addc (c := 1) (n := 1) rfl x11v (by omega) (by omega); rw [← e28] at q29; obtain ⟨f30, f31, f32⟩ := q29) | (obtain ⟨q29, f30, f31, f32⟩ : ∃ q : Int, vx27.toInt = x11v.toInt + (1 : Int) + 4294967296 * q ∧ -2147483648 ≤ vx27.toInt ∧ vx27.toInt ≤ 2147483647 := by rw [e28]; exact ti_addc (c := 1) (n := 1) rfl x11v)
          refine ok_mono (ih x7v x8v x9v x10v vx27 δ I (show 0 ≤ (x1).toInt by first | assumption | omega) (show (x1).toInt < (x2).toInt by first | assumption | omega) (show (x2).toInt ≤ (q_I δ 3 1 nu).toInt by first | assumption | omega) (show 2 ≤ (x4).toInt by first | assumption | omega) (show (x4).toInt ≤ 16 by first | assumption | omega) (show (x4).toInt ≤ K by first | assumption | omega) (show 0 ≤ (vx27).toInt by first | assumption | omega) (show (vx27).toInt ≤ (x7v).toInt by first | assumption | omega) (show (x7v).toInt ≤ (x2).toInt by first | assumption | omega) (show 0 ≤ (x10v).toInt by first | assumption | omega) (show 1 ≤ (x8v).toInt by first | assumption | omega) (show (x8v).toInt < (x4).toInt by first | assumption | omega) (show (x7v).toInt - (vx27).toInt < _ by omega)) (fun r33 hr34 => ?_)
          have i35 := hr34
          have f36 := ti_b r33.1
          exact by assumption
        · have c37 : (1 : Int) ≠ (0 : Int) := o_ne h25
          refine ok_bind (hT a0 x10v (x11v + (1 : Int32)) x3 x8v δ nu k_a0 hnu knu (show 0 ≤ (x10v).toInt by first | assumption | omega) (show ((x11v + (1 : Int32))).toInt ≤ (q_I δ 3 1 nu).toInt by first | assumption | omega) (show 0 ≤ (x8v).toInt by first | assumption | omega) (show (x8v).toInt ≤ 16 by first | assumption | omega) (show (x8v).toInt < _ by first | assumption | omega) I) (fun r38 hr39 => ?_)
          have i40 := hr39
          try rw [i40]
          have f41 := ti_b r38.1
          have f44 := ti_b x9v
          refine ok_biv (fun vx42 e43 => ?_)
          first | (have q45 := te_add x9v r38.1 (by omega) (by omega); rw [← e43] at q45; obtain ⟨f46, f47, f48⟩ := q45) | (obtain ⟨q45, f46, f47, f48⟩ : ∃ q : Int, vx42.toInt = x9v.toInt + r38.1.toInt + 4294967296 * q ∧ -2147483648 ≤ vx42.toInt ∧ vx42.toInt ≤ 2147483647 := by rw [e43]; exact ti_add x9v r38.1)
          refine ok_biv (fun vx49 e50 => ?_)
          first | (have q51 := te_addc (c := 1) (n := 1) rfl x11v (by omega) (by omega); rw [← e50] at q51; obtain ⟨f52, f53, f54⟩ := q51) | (obtain ⟨q51, f52, f53, f54⟩ : ∃ q : Int, vx49.toInt = x11v.toInt + (1 : Int) + 4294967296 * q ∧ -2147483648 ≤ vx49.toInt ∧ vx49.toInt ≤ 2147483647 := by rw [e50]; exact ti_addc (c := 1) (n := 1) rfl x11v)
          unfold J_X1_cellsOf_244
          refine ok_biv (fun vx55 e56 => ?_)
          first | (have q57 := te_addc (c := 1) (n := 1) rfl x11v (by omega) (by omega); rw [← e56] at q57; obtain ⟨f58, f59, f60⟩ := q57) | (obtain ⟨q57, f58, f59, f60⟩ : ∃ q : Int, vx55.toInt = x11v.toInt + (1 : Int) + 4294967296 * q ∧ -2147483648 ≤ vx55.toInt ∧ vx55.toInt ≤ 2147483647 := by rw [e56]; exact ti_addc (c := 1) (n := 1) rfl x11v)
          refine ok_mono (ih x7v x8v vx42 vx49 vx55 δ I (show 0 ≤ (x1).toInt by first | assumption | omega) (show (x1).toInt < (x2).toInt by first | assumption | omega) (show (x2).toInt ≤ (q_I δ 3 1 nu).toInt by first | assumption | omega) (show 2 ≤ (x4).toInt by first | assumption | omega) (show (x4).toInt ≤ 16 by first | assumption | omega) (show (x4).toInt ≤ K by first | assumption | omega) (show 0 ≤ (vx55).toInt by first | assumption | omega) (show (vx55).toInt ≤ (x7v).toInt by first | assumption | omega) (show (x7v).toInt ≤ (x2).toInt by first | assumption | omega) (show 0 ≤ (vx49).toInt by first | assumption | omega) (show 1 ≤ (x8v).toInt by first | assumption | omega) (show (x8v).toInt < (x4).toInt by first | assumption | omega) (show (x7v).toInt - (vx55).toInt < _ by omega)) (fun r61 hr62 => ?_)
          have i63 := hr62
          have f64 := ti_b r61.1
          exact by assumption
      · have c65 : (x11v + (1 : Int32)).toInt < x7v.toInt := o_nle h23
        have o66 := gH L k_a0 hnu o4
        refine ok_at o66 ?_
        have t67 := ti_tn x11v
        refine ok_gd (fun hc68 => ?_) ?_
        · rcases hc68 with hc68 | hc68
          · have c69 : x11v.toInt < (0 : Int) := o_lt hc68
            omega
          · omega
        refine ok_at o66 ?_
        have t70 := ti_tn (x11v + (1 : Int32))
        refine ok_gd (fun hc71 => ?_) ?_
        · rcases hc71 with hc71 | hc71
          · have c72 : (x11v + (1 : Int32)).toInt < (0 : Int) := o_lt hc71
            omega
          · omega
        have f73 := ti_b ((q_R δ b3 x11v.toNatClampNeg) >>> ((x3 + x8v) &&& 31))
        have f74 := ti_b ((q_R δ b3 (x11v + (1 : Int32)).toNatClampNeg) >>> ((x3 + x8v) &&& 31))
        refine ok_ite (fun h75 => ?_) (fun h75 => ?_)
        · have c76 : ((q_R δ b3 x11v.toNatClampNeg) >>> ((x3 + x8v) &&& 31)).toInt = ((q_R δ b3 (x11v + (1 : Int32)).toNatClampNeg) >>> ((x3 + x8v) &&& 31)).toInt := o_eq h75
          unfold J_X1_cellsOf_213
          refine ok_ite (fun h77 => ?_) (fun h77 => ?_)
          · have c78 : (0 : Int) = (0 : Int) := o_eq h77
            unfold J_X1_cellsOf_244
            refine ok_biv (fun vx79 e80 => ?_)
            first | (have q81 := te_addc (c := 1) (n := 1) rfl x11v (by omega) (by omega); rw [← e80] at q81; obtain ⟨f82, f83, f84⟩ := q81) | (obtain ⟨q81, f82, f83, f84⟩ : ∃ q : Int, vx79.toInt = x11v.toInt + (1 : Int) + 4294967296 * q ∧ -2147483648 ≤ vx79.toInt ∧ vx79.toInt ≤ 2147483647 := by rw [e80]; exact ti_addc (c := 1) (n := 1) rfl x11v)
            refine ok_mono (ih x7v x8v x9v x10v vx79 δ I (show 0 ≤ (x1).toInt by first | assumption | omega) (show (x1).toInt < (x2).toInt by first | assumption | omega) (show (x2).toInt ≤ (q_I δ 3 1 nu).toInt by first | assumption | omega) (show 2 ≤ (x4).toInt by first | assumption | omega) (show (x4).toInt ≤ 16 by first | assumption | omega) (show (x4).toInt ≤ K by first | assumption | omega) (show 0 ≤ (vx79).toInt by first | assumption | omega) (show (vx79).toInt ≤ (x7v).toInt by first | assumption | omega) (show (x7v).toInt ≤ (x2).toInt by first | assumption | omega) (show 0 ≤ (x10v).toInt by first | assumption | omega) (show 1 ≤ (x8v).toInt by first | assumption | omega) (show (x8v).toInt < (x4).toInt by first | assumption | omega) (show (x7v).toInt - (vx79).toInt < _ by omega)) (fun r85 hr86 => ?_)
            have i87 := hr86
            have f88 := ti_b r85.1
            exact by assumption
          · have c89 : (0 : Int) ≠ (0 : Int) := o_ne h77
            refine ok_bind (hT a0 x10v (x11v + (1 : Int32)) x3 x8v δ nu k_a0 hnu knu (show 0 ≤ (x10v).toInt by first | assumption | omega) (show ((x11v + (1 : Int32))).toInt ≤ (q_I δ 3 1 nu).toInt by first | assumption | omega) (show 0 ≤ (x8v).toInt by first | assumption | omega) (show (x8v).toInt ≤ 16 by first | assumption | omega) (show (x8v).toInt < _ by first | assumption | omega) I) (fun r90 hr91 => ?_)
            have i92 := hr91
            try rw [i92]
            have f93 := ti_b r90.1
            have f96 := ti_b x9v
            refine ok_biv (fun vx94 e95 => ?_)
            first | (have q97 := te_add x9v r90.1 (by omega) (by omega); rw [← e95] at q97; obtain ⟨f98, f99, f100⟩ := q97) | (obtain ⟨q97, f98, f99, f100⟩ : ∃ q : Int, vx94.toInt = x9v.toInt + r90.1.toInt + 4294967296 * q ∧ -2147483648 ≤ vx94.toInt ∧ vx94.toInt ≤ 2147483647 := by rw [e95]; exact ti_add x9v r90.1)
            refine ok_biv (fun vx101 e102 => ?_)
            first | (have q103 := te_addc (c := 1) (n := 1) rfl x11v (by omega) (by omega); rw [← e102] at q103; obtain ⟨f104, f105, f106⟩ := q103) | (obtain ⟨q103, f104, f105, f106⟩ : ∃ q : Int, vx101.toInt = x11v.toInt + (1 : Int) + 4294967296 * q ∧ -2147483648 ≤ vx101.toInt ∧ vx101.toInt ≤ 2147483647 := by rw [e102]; exact ti_addc (c := 1) (n := 1) rfl x11v)
            unfold J_X1_cellsOf_244
            refine ok_biv (fun vx107 e108 => ?_)
            first | (have q109 := te_addc (c := 1) (n := 1) rfl x11v (by omega) (by omega); rw [← e108] at q109; obtain ⟨f110, f111, f112⟩ := q109) | (obtain ⟨q109, f110, f111, f112⟩ : ∃ q : Int, vx107.toInt = x11v.toInt + (1 : Int) + 4294967296 * q ∧ -2147483648 ≤ vx107.toInt ∧ vx107.toInt ≤ 2147483647 := by rw [e108]; exact ti_addc (c := 1) (n := 1) rfl x11v)
            refine ok_mono (ih x7v x8v vx94 vx101 vx107 δ I (show 0 ≤ (x1).toInt by first | assumption | omega) (show (x1).toInt < (x2).toInt by first | assumption | omega) (show (x2).toInt ≤ (q_I δ 3 1 nu).toInt by first | assumption | omega) (show 2 ≤ (x4).toInt by first | assumption | omega) (show (x4).toInt ≤ 16 by first | assumption | omega) (show (x4).toInt ≤ K by first | assumption | omega) (show 0 ≤ (vx107).toInt by first | assumption | omega) (show (vx107).toInt ≤ (x7v).toInt by first | assumption | omega) (show (x7v).toInt ≤ (x2).toInt by first | assumption | omega) (show 0 ≤ (vx101).toInt by first | assumption | omega) (show 1 ≤ (x8v).toInt by first | assumption | omega) (show (x8v).toInt < (x4).toInt by first | assumption | omega) (show (x7v).toInt - (vx107).toInt < _ by omega)) (fun r113 hr114 => ?_)
            have i115 := hr114
            have f116 := ti_b r113.1
            exact by assumption
        · have c117 : ((q_R δ b3 x11v.toNatClampNeg) >>> ((x3 + x8v) &&& 31)).toInt ≠ ((q_R δ b3 (x11v + (1 : Int32)).toNatClampNeg) >>> ((x3 + x8v) &&& 31)).toInt := o_ne h75
          unfold J_X1_cellsOf_208
          unfold J_X1_cellsOf_213
          refine ok_ite (fun h118 => ?_) (fun h118 => ?_)
          · have c119 : (1 : Int) = (0 : Int) := o_eq h118
            unfold J_X1_cellsOf_244
            refine ok_biv (fun vx120 e121 => ?_)
            first | (have q122 := te_addc (c := 1) (n := 1) rfl x11v (by omega) (by omega); rw [← e121] at q122; obtain ⟨f123, f124, f125⟩ := q122) | (obtain ⟨q122, f123, f124, f125⟩ : ∃ q : Int, vx120.toInt = x11v.toInt + (1 : Int) + 4294967296 * q ∧ -2147483648 ≤ vx120.toInt ∧ vx120.toInt ≤ 2147483647 := by rw [e121]; exact ti_addc (c := 1) (n := 1) rfl x11v)
            refine ok_mono (ih x7v x8v x9v x10v vx120 δ I (show 0 ≤ (x1).toInt by first | assumption | omega) (show (x1).toInt < (x2).toInt by first | assumption | omega) (show (x2).toInt ≤ (q_I δ 3 1 nu).toInt by first | assumption | omega) (show 2 ≤ (x4).toInt by first | assumption | omega) (show (x4).toInt ≤ 16 by first | assumption | omega) (show (x4).toInt ≤ K by first | assumption | omega) (show 0 ≤ (vx120).toInt by first | assumption | omega) (show (vx120).toInt ≤ (x7v).toInt by first | assumption | omega) (show (x7v).toInt ≤ (x2).toInt by first | assumption | omega) (show 0 ≤ (x10v).toInt by first | assumption | omega) (show 1 ≤ (x8v).toInt by first | assumption | omega) (show (x8v).toInt < (x4).toInt by first | assumption | omega) (show (x7v).toInt - (vx120).toInt < _ by omega)) (fun r126 hr127 => ?_)
            have i128 := hr127
            have f129 := ti_b r126.1
            exact by assumption
          · have c130 : (1 : Int) ≠ (0 : Int) := o_ne h118
            refine ok_bind (hT a0 x10v (x11v + (1 : Int32)) x3 x8v δ nu k_a0 hnu knu (show 0 ≤ (x10v).toInt by first | assumption | omega) (show ((x11v + (1 : Int32))).toInt ≤ (q_I δ 3 1 nu).toInt by first | assumption | omega) (show 0 ≤ (x8v).toInt by first | assumption | omega) (show (x8v).toInt ≤ 16 by first | assumption | omega) (show (x8v).toInt < _ by first | assumption | omega) I) (fun r131 hr132 => ?_)
            have i133 := hr132
            try rw [i133]
            have f134 := ti_b r131.1
            have f137 := ti_b x9v
            refine ok_biv (fun vx135 e136 => ?_)
            first | (have q138 := te_add x9v r131.1 (by omega) (by omega); rw [← e136] at q138; obtain ⟨f139, f140, f141⟩ := q138) | (obtain ⟨q138, f139, f140, f141⟩ : ∃ q : Int, vx135.toInt = x9v.toInt + r131.1.toInt + 4294967296 * q ∧ -2147483648 ≤ vx135.toInt ∧ vx135.toInt ≤ 2147483647 := by rw [e136]; exact ti_add x9v r131.1)
            refine ok_biv (fun vx142 e143 => ?_)
            first | (have q144 := te_addc (c := 1) (n := 1) rfl x11v (by omega) (by omega); rw [← e143] at q144; obtain ⟨f145, f146, f147⟩ := q144) | (obtain ⟨q144, f145, f146, f147⟩ : ∃ q : Int, vx142.toInt = x11v.toInt + (1 : Int) + 4294967296 * q ∧ -2147483648 ≤ vx142.toInt ∧ vx142.toInt ≤ 2147483647 := by rw [e143]; exact ti_addc (c := 1) (n := 1) rfl x11v)
            unfold J_X1_cellsOf_244
            refine ok_biv (fun vx148 e149 => ?_)
            first | (have q150 := te_addc (c := 1) (n := 1) rfl x11v (by omega) (by omega); rw [← e149] at q150; obtain ⟨f151, f152, f153⟩ := q150) | (obtain ⟨q150, f151, f152, f153⟩ : ∃ q : Int, vx148.toInt = x11v.toInt + (1 : Int) + 4294967296 * q ∧ -2147483648 ≤ vx148.toInt ∧ vx148.toInt ≤ 2147483647 := by rw [e149]; exact ti_addc (c := 1) (n := 1) rfl x11v)
            refine ok_mono (ih x7v x8v vx135 vx142 vx148 δ I (show 0 ≤ (x1).toInt by first | assumption | omega) (show (x1).toInt < (x2).toInt by first | assumption | omega) (show (x2).toInt ≤ (q_I δ 3 1 nu).toInt by first | assumption | omega) (show 2 ≤ (x4).toInt by first | assumption | omega) (show (x4).toInt ≤ 16 by first | assumption | omega) (show (x4).toInt ≤ K by first | assumption | omega) (show 0 ≤ (vx148).toInt by first | assumption | omega) (show (vx148).toInt ≤ (x7v).toInt by first | assumption | omega) (show (x7v).toInt ≤ (x2).toInt by first | assumption | omega) (show 0 ≤ (vx142).toInt by first | assumption | omega) (show 1 ≤ (x8v).toInt by first | assumption | omega) (show (x8v).toInt < (x4).toInt by first | assumption | omega) (show (x7v).toInt - (vx148).toInt < _ by omega)) (fun r154 hr155 => ?_)
            have i156 := hr155
            have f157 := ti_b r154.1
            exact by assumption
set_option maxHeartbeats 4000000 in
theorem kl_X1_cellsOf_80 {ad : List Nat} {h : hp} (L : Lay TLx ad h) {δ0 : dp} {N : Nat} (hN : 10000000 ≤ N) {T : Nat → Int32 → Int32 → Int32 → Int32 → dp → Option (Int32 × dp)} {K : Int} (hT : ∀ (a0 : Nat) (x1 : Int32) (x2 : Int32) (x3 : Int32) (x4 : Int32) (δ : dp) (nu : Nat), q_K h.1 a0 = 1 → q_O h.1 1 1 a0 = some nu → q_K h.1 nu = 3 → 0 ≤ (x1).toInt → (x2).toInt ≤ (q_I δ 3 1 nu).toInt → 0 ≤ (x4).toInt → (x4).toInt ≤ 16 → (x4).toInt < K → CI ad h.1 δ0 δ → ok (T a0 x1 x2 x3 x4 δ) (fun r => r.2 = δ)) {a0 : Nat} {x1 : Int32} {x2 : Int32} {x3 : Int32} {x4 : Int32} {nu : Nat} (k_a0 : q_K h.1 a0 = 1) (hnu : q_O h.1 1 1 a0 = some nu) (knu : q_K h.1 nu = 3) : ∀ (n : Nat) (x5v : Int32) (x6v : Int32) (x7v : Int32) (δ : dp), CI ad h.1 δ0 δ → 0 ≤ (x1).toInt → (x1).toInt < (x2).toInt → (x2).toInt ≤ (q_I δ 3 1 nu).toInt → 2 ≤ (x4).toInt → (x4).toInt ≤ 16 → (x4).toInt ≤ K → (x1).toInt ≤ (x6v).toInt → (x6v).toInt ≤ (x7v).toInt → (x7v).toInt ≤ (x2).toInt → (x7v).toInt - (x6v).toInt < (n : Int) → ok (L_X1_cellsOf_80 N h.1 T a0 x1 x2 x3 x4 n x5v x6v x7v δ) (fun r => r.2 = δ) := by
  intro n
  induction n with
  | zero =>
    intro x5v x6v x7v δ I j0 j1 j2 j3 j4 j5 j6 j7 j8 hm
    have f1 := ti_b x1
    have f2 := ti_b x2
    obtain ⟨b3, o4, k5, ⟨n6, n7⟩, w8⟩ := gO_3_0 L knu
    have f9 := cb_3_1 I knu o4
    have f10 := ti_b x4
    have f11 := ti_b x6v
    have f12 := ti_b x7v
    exfalso; omega
  | succ n ih =>
    intro x5v x6v x7v δ I j0 j1 j2 j3 j4 j5 j6 j7 j8 hm
    unfold L_X1_cellsOf_80
    have f1 := ti_b x1
    have f2 := ti_b x2
    obtain ⟨b3, o4, k5, ⟨n6, n7⟩, w8⟩ := gO_3_0 L knu
    have f9 := cb_3_1 I knu o4
    have f10 := ti_b x4
    have f11 := ti_b x6v
    have f12 := ti_b x7v
    refine ok_ite (fun h13 => ?_) (fun h13 => ?_)
    · have c14 : x7v.toInt ≤ x6v.toInt := o_le h13
      unfold J_X1_cellsOf_123
      obtain ⟨b15, o16, k17⟩ := gO_1_0 L k_a0
      refine ok_at o16 ?_
      refine ok_bind (k_X5_lowerBits L hN (a0 := b15) (x1 := x4) k17 I) (fun r18 hr19 => ?_)
      obtain ⟨i20, p21⟩ := hr19
      try rw [i20]
      have f22 := ti_b r18.1
      have f23 := ti_b r18.1
      first | (have q27 := te_sub x4 r18.1 (by omega) (by omega); obtain ⟨f28, f29, f30⟩ := q27) | (obtain ⟨q27, f28, f29, f30⟩ := ti_sub x4 r18.1)
      refine ok_bind (hT a0 x6v x7v (x3 + r18.1) (x4 - r18.1) δ nu k_a0 hnu knu (show 0 ≤ (x6v).toInt by first | assumption | omega) (show (x7v).toInt ≤ (q_I δ 3 1 nu).toInt by first | assumption | omega) (show 0 ≤ ((x4 - r18.1)).toInt by first | assumption | omega) (show ((x4 - r18.1)).toInt ≤ 16 by first | assumption | omega) (show ((x4 - r18.1)).toInt < _ by first | assumption | omega) I) (fun r24 hr25 => ?_)
      have i31 := hr25
      try rw [i31]
      have f32 := ti_b r24.1
      refine ok_biv (fun vx33 e34 => ?_)
      first | (have q35 := te_cadd (c := 2) (n := 2) rfl r24.1 (by omega) (by omega); rw [← e34] at q35; obtain ⟨f36, f37, f38⟩ := q35) | (obtain ⟨q35, f36, f37, f38⟩ : ∃ q : Int, vx33.toInt = (2 : Int) + r24.1.toInt + 4294967296 * q ∧ -2147483648 ≤ vx33.toInt ∧ vx33.toInt ≤ 2147483647 := by rw [e34]; exact ti_cadd (c := 2) (n := 2) rfl r24.1)
      refine ok_mono (kl_X1_cellsOf_163 L hN   hT k_a0 hnu knu _ x7v r18.1 vx33 x6v x6v δ I (show 0 ≤ (x1).toInt by first | assumption | omega) (show (x1).toInt < (x2).toInt by first | assumption | omega) (show (x2).toInt ≤ (q_I δ 3 1 nu).toInt by first | assumption | omega) (show 2 ≤ (x4).toInt by first | assumption | omega) (show (x4).toInt ≤ 16 by first | assumption | omega) (show (x4).toInt ≤ K by first | assumption | omega) (show 0 ≤ (x6v).toInt by first | assumption | omega) (show (x6v).toInt ≤ (x7v).toInt by first | assumption | omega) (show (x7v).toInt ≤ (x2).toInt by first | assumption | omega) (show 0 ≤ (x6v).toInt by first | assumption | omega) (show 1 ≤ (r18.1).toInt by first | assumption | omega) (show (r18.1).toInt < (x4).toInt by first | assumption | omega) (show (x7v).toInt - (x6v).toInt < _ by omega)) (fun r39 hr40 => ?_)
      have i41 := hr40
      have f42 := ti_b r39.1
      exact by assumption
    · have c43 : x6v.toInt < x7v.toInt := o_nle h13
      have o44 := gH L k_a0 hnu o4
      refine ok_at o44 ?_
      first | (have q46 := te_subc (c := 1) (n := 1) rfl x7v (by omega) (by omega); obtain ⟨f47, f48, f49⟩ := q46) | (obtain ⟨q46, f47, f48, f49⟩ := ti_subc (c := 1) (n := 1) rfl x7v)
      have t50 := ti_tn (x7v - (1 : Int32))
      refine ok_gd (fun hc51 => ?_) ?_
      · rcases hc51 with hc51 | hc51
        · have c52 : (x7v - (1 : Int32)).toInt < (0 : Int) := o_lt hc51
          omega
        · omega
      refine ok_at o44 ?_
      first | (have q54 := te_subc (c := 1) (n := 1) rfl x2 (by omega) (by omega); obtain ⟨f55, f56, f57⟩ := q54) | (obtain ⟨q54, f55, f56, f57⟩ := ti_subc (c := 1) (n := 1) rfl x2)
      have t58 := ti_tn (x2 - (1 : Int32))
      refine ok_gd (fun hc59 => ?_) ?_
      · rcases hc59 with hc59 | hc59
        · have c60 : (x2 - (1 : Int32)).toInt < (0 : Int) := o_lt hc59
          omega
        · omega
      have f61 := ti_b (((q_R δ b3 (x7v - (1 : Int32)).toNatClampNeg) >>> (x3 &&& 31)) &&& x5v)
      have f62 := ti_b (((q_R δ b3 (x2 - (1 : Int32)).toNatClampNeg) >>> (x3 &&& 31)) &&& x5v)
      refine ok_ite (fun h63 => ?_) (fun h63 => ?_)
      · have c64 : (((q_R δ b3 (x7v - (1 : Int32)).toNatClampNeg) >>> (x3 &&& 31)) &&& x5v).toInt = (((q_R δ b3 (x2 - (1 : Int32)).toNatClampNeg) >>> (x3 &&& 31)) &&& x5v).toInt := o_eq h63
        refine ok_biv (fun vx65 e66 => ?_)
        first | (have q67 := te_addc (c := -1) (n := -1) (by decide) x7v (by omega) (by omega); rw [← e66] at q67; obtain ⟨f68, f69, f70⟩ := q67) | (obtain ⟨q67, f68, f69, f70⟩ : ∃ q : Int, vx65.toInt = x7v.toInt + (-1 : Int) + 4294967296 * q ∧ -2147483648 ≤ vx65.toInt ∧ vx65.toInt ≤ 2147483647 := by rw [e66]; exact ti_addc (c := -1) (n := -1) (by decide) x7v)
        refine ok_mono (ih x5v x6v vx65 δ I (show 0 ≤ (x1).toInt by first | assumption | omega) (show (x1).toInt < (x2).toInt by first | assumption | omega) (show (x2).toInt ≤ (q_I δ 3 1 nu).toInt by first | assumption | omega) (show 2 ≤ (x4).toInt by first | assumption | omega) (show (x4).toInt ≤ 16 by first | assumption | omega) (show (x4).toInt ≤ K by first | assumption | omega) (show (x1).toInt ≤ (x6v).toInt by first | assumption | omega) (show (x6v).toInt ≤ (vx65).toInt by first | assumption | omega) (show (vx65).toInt ≤ (x2).toInt by first | assumption | omega) (show (vx65).toInt - (x6v).toInt < _ by omega)) (fun r71 hr72 => ?_)
        have i73 := hr72
        have f74 := ti_b r71.1
        exact by assumption
      · have c75 : (((q_R δ b3 (x7v - (1 : Int32)).toNatClampNeg) >>> (x3 &&& 31)) &&& x5v).toInt ≠ (((q_R δ b3 (x2 - (1 : Int32)).toNatClampNeg) >>> (x3 &&& 31)) &&& x5v).toInt := o_ne h63
        unfold J_X1_cellsOf_123
        obtain ⟨b76, o77, k78⟩ := gO_1_0 L k_a0
        refine ok_at o77 ?_
        refine ok_bind (k_X5_lowerBits L hN (a0 := b76) (x1 := x4) k78 I) (fun r79 hr80 => ?_)
        obtain ⟨i81, p82⟩ := hr80
        try rw [i81]
        have f83 := ti_b r79.1
        have f84 := ti_b r79.1
        first | (have q88 := te_sub x4 r79.1 (by omega) (by omega); obtain ⟨f89, f90, f91⟩ := q88) | (obtain ⟨q88, f89, f90, f91⟩ := ti_sub x4 r79.1)
        refine ok_bind (hT a0 x6v x7v (x3 + r79.1) (x4 - r79.1) δ nu k_a0 hnu knu (show 0 ≤ (x6v).toInt by first | assumption | omega) (show (x7v).toInt ≤ (q_I δ 3 1 nu).toInt by first | assumption | omega) (show 0 ≤ ((x4 - r79.1)).toInt by first | assumption | omega) (show ((x4 - r79.1)).toInt ≤ 16 by first | assumption | omega) (show ((x4 - r79.1)).toInt < _ by first | assumption | omega) I) (fun r85 hr86 => ?_)
        have i92 := hr86
        try rw [i92]
        have f93 := ti_b r85.1
        refine ok_biv (fun vx94 e95 => ?_)
        first | (have q96 := te_cadd (c := 2) (n := 2) rfl r85.1 (by omega) (by omega); rw [← e95] at q96; obtain ⟨f97, f98, f99⟩ := q96) | (obtain ⟨q96, f97, f98, f99⟩ : ∃ q : Int, vx94.toInt = (2 : Int) + r85.1.toInt + 4294967296 * q ∧ -2147483648 ≤ vx94.toInt ∧ vx94.toInt ≤ 2147483647 := by rw [e95]; exact ti_cadd (c := 2) (n := 2) rfl r85.1)
        refine ok_mono (kl_X1_cellsOf_163 L hN   hT k_a0 hnu knu _ x7v r79.1 vx94 x6v x6v δ I (show 0 ≤ (x1).toInt by first | assumption | omega) (show (x1).toInt < (x2).toInt by first | assumption | omega) (show (x2).toInt ≤ (q_I δ 3 1 nu).toInt by first | assumption | omega) (show 2 ≤ (x4).toInt by first | assumption | omega) (show (x4).toInt ≤ 16 by first | assumption | omega) (show (x4).toInt ≤ K by first | assumption | omega) (show 0 ≤ (x6v).toInt by first | assumption | omega) (show (x6v).toInt ≤ (x7v).toInt by first | assumption | omega) (show (x7v).toInt ≤ (x2).toInt by first | assumption | omega) (show 0 ≤ (x6v).toInt by first | assumption | omega) (show 1 ≤ (r79.1).toInt by first | assumption | omega) (show (r79.1).toInt < (x4).toInt by first | assumption | omega) (show (x7v).toInt - (x6v).toInt < _ by omega)) (fun r100 hr101 => ?_)
        have i102 := hr101
        have f103 := ti_b r100.1
        exact by assumption
set_option maxHeartbeats 4000000 in
theorem kl_X1_cellsOf_39 {ad : List Nat} {h : hp} (L : Lay TLx ad h) {δ0 : dp} {N : Nat} (hN : 10000000 ≤ N) {T : Nat → Int32 → Int32 → Int32 → Int32 → dp → Option (Int32 × dp)} {K : Int} (hT : ∀ (a0 : Nat) (x1 : Int32) (x2 : Int32) (x3 : Int32) (x4 : Int32) (δ : dp) (nu : Nat), q_K h.1 a0 = 1 → q_O h.1 1 1 a0 = some nu → q_K h.1 nu = 3 → 0 ≤ (x1).toInt → (x2).toInt ≤ (q_I δ 3 1 nu).toInt → 0 ≤ (x4).toInt → (x4).toInt ≤ 16 → (x4).toInt < K → CI ad h.1 δ0 δ → ok (T a0 x1 x2 x3 x4 δ) (fun r => r.2 = δ)) {a0 : Nat} {x1 : Int32} {x2 : Int32} {x3 : Int32} {x4 : Int32} {nu : Nat} (k_a0 : q_K h.1 a0 = 1) (hnu : q_O h.1 1 1 a0 = some nu) (knu : q_K h.1 nu = 3) : ∀ (n : Nat) (x5v : Int32) (x6v : Int32) (δ : dp), CI ad h.1 δ0 δ → 0 ≤ (x1).toInt → (x1).toInt < (x2).toInt → (x2).toInt ≤ (q_I δ 3 1 nu).toInt → 2 ≤ (x4).toInt → (x4).toInt ≤ 16 → (x4).toInt ≤ K → (x1).toInt ≤ (x6v).toInt → (x6v).toInt ≤ (x2).toInt → (x2).toInt - (x6v).toInt < (n : Int) → ok (L_X1_cellsOf_39 N h.1 T a0 x1 x2 x3 x4 n x5v x6v δ) (fun r => r.2 = δ) := by
  intro n
  induction n with
  | zero =>
    intro x5v x6v δ I j0 j1 j2 j3 j4 j5 j6 j7 hm
    have f1 := ti_b x1
    have f2 := ti_b x2
    obtain ⟨b3, o4, k5, ⟨n6, n7⟩, w8⟩ := gO_3_0 L knu
    have f9 := cb_3_1 I knu o4
    have f10 := ti_b x4
    have f11 := ti_b x6v
    exfalso; omega
  | succ n ih =>
    intro x5v x6v δ I j0 j1 j2 j3 j4 j5 j6 j7 hm
    unfold L_X1_cellsOf_39
    have f1 := ti_b x1
    have f2 := ti_b x2
    obtain ⟨b3, o4, k5, ⟨n6, n7⟩, w8⟩ := gO_3_0 L knu
    have f9 := cb_3_1 I knu o4
    have f10 := ti_b x4
    have f11 := ti_b x6v
    refine ok_ite (fun h12 => ?_) (fun h12 => ?_)
    · have c13 : x2.toInt ≤ x6v.toInt := o_le h12
      unfold J_X1_cellsOf_77
      refine ok_mono (kl_X1_cellsOf_80 L hN   hT k_a0 hnu knu _ x5v x6v x2 δ I (show 0 ≤ (x1).toInt by first | assumption | omega) (show (x1).toInt < (x2).toInt by first | assumption | omega) (show (x2).toInt ≤ (q_I δ 3 1 nu).toInt by first | assumption | omega) (show 2 ≤ (x4).toInt by first | assumption | omega) (show (x4).toInt ≤ 16 by first | assumption | omega) (show (x4).toInt ≤ K by first | assumption | omega) (show (x1).toInt ≤ (x6v).toInt by first | assumption | omega) (show (x6v).toInt ≤ (x2).toInt by first | assumption | omega) (show (x2).toInt ≤ (x2).toInt by first | assumption | omega) (show (x2).toInt - (x6v).toInt < _ by omega)) (fun r14 hr15 => ?_)
      have i16 := hr15
      have f17 := ti_b r14.1
      exact by assumption
    · have c18 : x6v.toInt < x2.toInt := o_nle h12
      have o19 := gH L k_a0 hnu o4
      refine ok_at o19 ?_
      have t20 := ti_tn x6v
      refine ok_gd (fun hc21 => ?_) ?_
      · rcases hc21 with hc21 | hc21
        · have c22 : x6v.toInt < (0 : Int) := o_lt hc21
          omega
        · omega
      refine ok_at o19 ?_
      have t23 := ti_tn x1
      refine ok_gd (fun hc24 => ?_) ?_
      · rcases hc24 with hc24 | hc24
        · have c25 : x1.toInt < (0 : Int) := o_lt hc24
          omega
        · omega
      have f26 := ti_b (((q_R δ b3 x6v.toNatClampNeg) >>> (x3 &&& 31)) &&& x5v)
      have f27 := ti_b (((q_R δ b3 x1.toNatClampNeg) >>> (x3 &&& 31)) &&& x5v)
      refine ok_ite (fun h28 => ?_) (fun h28 => ?_)
      · have c29 : (((q_R δ b3 x6v.toNatClampNeg) >>> (x3 &&& 31)) &&& x5v).toInt = (((q_R δ b3 x1.toNatClampNeg) >>> (x3 &&& 31)) &&& x5v).toInt := o_eq h28
        refine ok_biv (fun vx30 e31 => ?_)
        first | (have q32 := te_addc (c := 1) (n := 1) rfl x6v (by omega) (by omega); rw [← e31] at q32; obtain ⟨f33, f34, f35⟩ := q32) | (obtain ⟨q32, f33, f34, f35⟩ : ∃ q : Int, vx30.toInt = x6v.toInt + (1 : Int) + 4294967296 * q ∧ -2147483648 ≤ vx30.toInt ∧ vx30.toInt ≤ 2147483647 := by rw [e31]; exact ti_addc (c := 1) (n := 1) rfl x6v)
        refine ok_mono (ih x5v vx30 δ I (show 0 ≤ (x1).toInt by first | assumption | omega) (show (x1).toInt < (x2).toInt by first | assumption | omega) (show (x2).toInt ≤ (q_I δ 3 1 nu).toInt by first | assumption | omega) (show 2 ≤ (x4).toInt by first | assumption | omega) (show (x4).toInt ≤ 16 by first | assumption | omega) (show (x4).toInt ≤ K by first | assumption | omega) (show (x1).toInt ≤ (vx30).toInt by first | assumption | omega) (show (vx30).toInt ≤ (x2).toInt by first | assumption | omega) (show (x2).toInt - (vx30).toInt < _ by omega)) (fun r36 hr37 => ?_)
        have i38 := hr37
        have f39 := ti_b r36.1
        exact by assumption
      · have c40 : (((q_R δ b3 x6v.toNatClampNeg) >>> (x3 &&& 31)) &&& x5v).toInt ≠ (((q_R δ b3 x1.toNatClampNeg) >>> (x3 &&& 31)) &&& x5v).toInt := o_ne h28
        unfold J_X1_cellsOf_77
        refine ok_mono (kl_X1_cellsOf_80 L hN   hT k_a0 hnu knu _ x5v x6v x2 δ I (show 0 ≤ (x1).toInt by first | assumption | omega) (show (x1).toInt < (x2).toInt by first | assumption | omega) (show (x2).toInt ≤ (q_I δ 3 1 nu).toInt by first | assumption | omega) (show 2 ≤ (x4).toInt by first | assumption | omega) (show (x4).toInt ≤ 16 by first | assumption | omega) (show (x4).toInt ≤ K by first | assumption | omega) (show (x1).toInt ≤ (x6v).toInt by first | assumption | omega) (show (x6v).toInt ≤ (x2).toInt by first | assumption | omega) (show (x2).toInt ≤ (x2).toInt by first | assumption | omega) (show (x2).toInt - (x6v).toInt < _ by omega)) (fun r41 hr42 => ?_)
        have i43 := hr42
        have f44 := ti_b r41.1
        exact by assumption
set_option maxHeartbeats 4000000 in
theorem ke_X1_cellsOf {ad : List Nat} {h : hp} (L : Lay TLx ad h) {δ0 : dp} {N : Nat} (hN : 10000000 ≤ N) : ∀ (k : Nat), ∀ (a0 : Nat) (x1 : Int32) (x2 : Int32) (x3 : Int32) (x4 : Int32) (δ : dp) (nu : Nat), q_K h.1 a0 = 1 → q_O h.1 1 1 a0 = some nu → q_K h.1 nu = 3 → 0 ≤ (x1).toInt → (x2).toInt ≤ (q_I δ 3 1 nu).toInt → 0 ≤ (x4).toInt → (x4).toInt ≤ 16 → (x4).toInt < (k : Int) → CI ad h.1 δ0 δ → ok (E_X1_cellsOf N h.1 k a0 x1 x2 x3 x4 δ) (fun r => r.2 = δ) := by
  intro k
  induction k with
  | zero =>
    intro a0 x1 x2 x3 x4 δ nu k_a0 hnu knu z0 z1 z2 z3 hd I
    exfalso; omega
  | succ k ih =>
    intro a0 x1 x2 x3 x4 δ nu k_a0 hnu knu z0 z1 z2 z3 hd I
    unfold E_X1_cellsOf B_X1_cellsOf
    have f1 := ti_b x1
    have f2 := ti_b x2
    obtain ⟨b3, o4, k5, ⟨n6, n7⟩, w8⟩ := gO_3_0 L knu
    have f9 := cb_3_1 I knu o4
    have f10 := ti_b x4
    refine ok_ite (fun h11 => ?_) (fun h11 => ?_)
    · have c12 : x2.toInt ≤ x1.toInt := o_le h11
      unfold J_X1_cellsOf_17
      refine ok_ite (fun h13 => ?_) (fun h13 => ?_)
      · have c14 : x1.toInt < x2.toInt := o_lt h13
        unfold J_X1_cellsOf_27
        exact ok_some (show δ = δ from rfl)
      · have c15 : x2.toInt ≤ x1.toInt := o_nlt h13
        unfold J_X1_cellsOf_27
        exact ok_some (show δ = δ from rfl)
    · have c16 : x1.toInt < x2.toInt := o_nle h11
      obtain ⟨b17, o18, k19⟩ := gO_1_0 L k_a0
      refine ok_at o18 ?_
      have f20 := cb_5_2 I k19
      refine ok_ite (fun h21 => ?_) (fun h21 => ?_)
      · have c22 : (q_I δ 5 2 b17).toInt < x4.toInt := o_lt h21
        have f25 := sh_b x4
        have f26 := ti_b ((1 : Int32) <<< (x4 &&& 31))
        refine ok_biv (fun vx23 e24 => ?_)
        first | (have q27 := te_subc (c := 1) (n := 1) rfl ((1 : Int32) <<< (x4 &&& 31)) (by omega) (by omega); rw [← e24] at q27; obtain ⟨f28, f29, f30⟩ := q27) | (obtain ⟨q27, f28, f29, f30⟩ : ∃ q : Int, vx23.toInt = ((1 : Int32) <<< (x4 &&& 31)).toInt - (1 : Int) + 4294967296 * q ∧ -2147483648 ≤ vx23.toInt ∧ vx23.toInt ≤ 2147483647 := by rw [e24]; exact ti_subc (c := 1) (n := 1) rfl ((1 : Int32) <<< (x4 &&& 31)))
        refine ok_mono (kl_X1_cellsOf_39 L hN   ih k_a0 hnu knu _ vx23 x1 δ I (show 0 ≤ (x1).toInt by first | assumption | omega) (show (x1).toInt < (x2).toInt by first | assumption | omega) (show (x2).toInt ≤ (q_I δ 3 1 nu).toInt by first | assumption | omega) (show 2 ≤ (x4).toInt by first | assumption | omega) (show (x4).toInt ≤ 16 by first | assumption | omega) (show (x4).toInt ≤ (k : Int) by first | assumption | omega) (show (x1).toInt ≤ (x1).toInt by first | assumption | omega) (show (x1).toInt ≤ (x2).toInt by first | assumption | omega) (show (x2).toInt - (x1).toInt < _ by omega)) (fun r31 hr32 => ?_)
        have i33 := hr32
        have f34 := ti_b r31.1
        exact by assumption
      · have c35 : x4.toInt ≤ (q_I δ 5 2 b17).toInt := o_nlt h21
        unfold J_X1_cellsOf_17
        refine ok_ite (fun h36 => ?_) (fun h36 => ?_)
        · have c37 : x1.toInt < x2.toInt := o_lt h36
          unfold J_X1_cellsOf_27
          exact ok_some (show δ = δ from rfl)
        · have c38 : x2.toInt ≤ x1.toInt := o_nlt h36
          unfold J_X1_cellsOf_27
          exact ok_some (show δ = δ from rfl)
set_option maxHeartbeats 4000000 in
theorem k_X1_cellsOf {ad : List Nat} {h : hp} (L : Lay TLx ad h) {δ0 : dp} {N : Nat} (hN : 10000000 ≤ N) {a0 : Nat} {x1 : Int32} {x2 : Int32} {x3 : Int32} {x4 : Int32} {nu : Nat} (k_a0 : q_K h.1 a0 = 1) (hnu : q_O h.1 1 1 a0 = some nu) (knu : q_K h.1 nu = 3) {δ : dp} (z0 : 0 ≤ (x1).toInt) (z1 : (x2).toInt ≤ (q_I δ 3 1 nu).toInt) (z2 : 0 ≤ (x4).toInt) (z3 : (x4).toInt ≤ 16) (hd : (x4).toInt < 20) (I : CI ad h.1 δ0 δ) : ok (D_X1_cellsOf N h.1 a0 x1 x2 x3 x4 δ) (fun r => r.2 = δ) := ke_X1_cellsOf L hN 20 a0 x1 x2 x3 x4 δ nu k_a0 hnu knu z0 z1 z2 z3 hd I
set_option maxHeartbeats 4000000 in
theorem k_X1_allCells {ad : List Nat} {h : hp} (L : Lay TLx ad h) {δ0 : dp} {N : Nat} (hN : 10000000 ≤ N) {a0 : Nat} (k_a0 : q_K h.1 a0 = 1) {δ : dp} (I : CI ad h.1 δ0 δ) : ok (D_X1_allCells N h.1 a0 δ) (fun r => r.2 = δ) := by
  unfold D_X1_allCells
  obtain ⟨b1, o2, k3⟩ := gO_1_1 L k_a0
  refine ok_at o2 ?_
  obtain ⟨b4, o5, k6⟩ := gO_1_0 L k_a0
  refine ok_at o5 ?_
  obtain ⟨b9, o10, k11, ⟨n12, n13⟩, w14⟩ := gO_3_0 L k3
  have f15 := cb_3_1 I k3 o10
  have f16 := cb_5_0 I k6
  refine ok_bind (k_X1_cellsOf L hN (a0 := a0) (x1 := (0 : Int32)) (x2 := (q_I δ 3 1 b1)) (x3 := (0 : Int32)) (x4 := (q_I δ 5 0 b4)) k_a0 o2 k3 (show 0 ≤ (0 : Int) by first | assumption | omega) (show ((q_I δ 3 1 b1)).toInt ≤ (q_I δ 3 1 b1).toInt by first | assumption | omega) (show 0 ≤ ((q_I δ 5 0 b4)).toInt by first | assumption | omega) (show ((q_I δ 5 0 b4)).toInt ≤ 16 by first | assumption | omega) (show ((q_I δ 5 0 b4)).toInt < 20 by first | assumption | omega) I) (fun r7 hr8 => ?_)
  have i17 := hr8
  try rw [i17]
  have f18 := ti_b r7.1
  exact ok_some (show δ = δ from rfl)
