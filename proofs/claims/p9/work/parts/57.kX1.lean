/-! 57.kX1 (by gen_safe.py) -/
set_option maxHeartbeats 4000000 in
theorem k_X1_valueAt {ad : List Nat} {h : hp} (L : Lay TLx ad h) {δ0 : dp} {N : Nat} (hN : 10000000 ≤ N) {a0 : Nat} {x1 : Int32} {nu : Nat} (k_a0 : q_K h.1 a0 = 1) (hnu : q_O h.1 1 1 a0 = some nu) (knu : q_K h.1 nu = 3) {δ : dp} (z0 : 0 ≤ (x1).toInt) (z1 : (x1).toInt < (q_I δ 3 1 nu).toInt) (I : CI ad h.1 δ0 δ) : ok (D_X1_valueAt N h.1 a0 x1 δ) (fun r => r.2 = δ) := by
  unfold D_X1_valueAt
  have f1 := ti_b x1
  obtain ⟨b2, o3, k4, ⟨n5, n6⟩, w7⟩ := gO_3_0 L knu
  have f8 := cb_3_1 I knu o3
  have o9 := gH L k_a0 hnu o3
  refine ok_at o9 ?_
  have t10 := ti_tn x1
  refine ok_gd (fun hc11 => ?_) ?_
  · rcases hc11 with hc11 | hc11
    · have c12 : x1.toInt < (0 : Int) := o_lt hc11
      omega
    · omega
  exact ok_some (show δ = δ from rfl)
set_option maxHeartbeats 4000000 in
theorem kl_X1_firstFrom_10 {ad : List Nat} {h : hp} (L : Lay TLx ad h) {δ0 : dp} {N : Nat} (hN : 10000000 ≤ N) {a0 : Nat} {x3 : Int32} {nu : Nat} (k_a0 : q_K h.1 a0 = 1) (hnu : q_O h.1 1 1 a0 = some nu) (knu : q_K h.1 nu = 3) : ∀ (n : Nat) (x1v : Int32) (x2v : Int32) (x4v : Int32) (δ : dp), CI ad h.1 δ0 δ → 0 ≤ (x1v).toInt → (x1v).toInt ≤ (x2v).toInt → (x2v).toInt ≤ (q_I δ 3 1 nu).toInt → (x2v).toInt - (x1v).toInt < (n : Int) → ok (L_X1_firstFrom_10 N h.1 a0 x3 n x1v x2v x4v δ) (fun r => r.2 = δ ∧ (x1v).toInt ≤ (r.1).toInt ∧ (r.1).toInt ≤ (x2v).toInt) := by
  intro n
  induction n with
  | zero =>
    intro x1v x2v x4v δ I j0 j1 j2 hm
    have f1 := ti_b x1v
    have f2 := ti_b x2v
    obtain ⟨b3, o4, k5, ⟨n6, n7⟩, w8⟩ := gO_3_0 L knu
    have f9 := cb_3_1 I knu o4
    exfalso; omega
  | succ n ih =>
    intro x1v x2v x4v δ I j0 j1 j2 hm
    unfold L_X1_firstFrom_10
    have f1 := ti_b x1v
    have f2 := ti_b x2v
    obtain ⟨b3, o4, k5, ⟨n6, n7⟩, w8⟩ := gO_3_0 L knu
    have f9 := cb_3_1 I knu o4
    refine ok_ite (fun h10 => ?_) (fun h10 => ?_)
    · have c11 : x2v.toInt ≤ x1v.toInt := o_le h10
      exact ok_some (show δ = δ ∧ (x1v).toInt ≤ (x1v).toInt ∧ (x1v).toInt ≤ (x2v).toInt from ⟨rfl, by first | assumption | omega, by first | assumption | omega⟩)
    · have c12 : x1v.toInt < x2v.toInt := o_nle h10
      first | (have q16 := te_add x1v x2v (by omega) (by omega); obtain ⟨f17, f18, f19⟩ := q16) | (obtain ⟨q16, f17, f18, f19⟩ := ti_add x1v x2v)
      have f20 := ti_div (c := 2) (n := 2) rfl (by decide) (x1v + x2v)
      have f21 := ti_b ((x1v + x2v) / (2 : Int32))
      refine ok_biv (fun vx13 e14 => ?_)
      have f22 : vx13.toInt = ((x1v + x2v) / (2 : Int32)).toInt := congrArg Int32.toInt e14
      have o23 := gH L k_a0 hnu o4
      refine ok_at o23 ?_
      have t24 := ti_tn vx13
      refine ok_gd (fun hc25 => ?_) ?_
      · rcases hc25 with hc25 | hc25
        · have c26 : vx13.toInt < (0 : Int) := o_lt hc25
          omega
        · omega
      have f27 := ti_b x3
      have f28 := ti_b (((q_R δ b3 vx13.toNatClampNeg) >>> ((q_I δ 1 5 a0) &&& 31)) &&& x4v)
      refine ok_ite (fun h29 => ?_) (fun h29 => ?_)
      · have c30 : x3.toInt ≤ (((q_R δ b3 vx13.toNatClampNeg) >>> ((q_I δ 1 5 a0) &&& 31)) &&& x4v).toInt := o_le h29
        unfold J_X1_firstFrom_52
        refine ok_mono (ih x1v vx13 x4v δ I (show 0 ≤ (x1v).toInt by first | assumption | omega) (show (x1v).toInt ≤ (vx13).toInt by first | assumption | omega) (show (vx13).toInt ≤ (q_I δ 3 1 nu).toInt by first | assumption | omega) (show (vx13).toInt - (x1v).toInt < _ by omega)) (fun r31 hr32 => ?_)
        obtain ⟨i33, p34, p35⟩ := hr32
        have f36 := ti_b r31.1
        have f37 := ti_b r31.1
        exact ⟨by assumption, by first | assumption | omega, by first | assumption | omega⟩
      · have c38 : (((q_R δ b3 vx13.toNatClampNeg) >>> ((q_I δ 1 5 a0) &&& 31)) &&& x4v).toInt < x3.toInt := o_nle h29
        refine ok_biv (fun vx39 e40 => ?_)
        first | (have q41 := te_addc (c := 1) (n := 1) rfl vx13 (by omega) (by omega); rw [← e40] at q41; obtain ⟨f42, f43, f44⟩ := q41) | (obtain ⟨q41, f42, f43, f44⟩ : ∃ q : Int, vx39.toInt = vx13.toInt + (1 : Int) + 4294967296 * q ∧ -2147483648 ≤ vx39.toInt ∧ vx39.toInt ≤ 2147483647 := by rw [e40]; exact ti_addc (c := 1) (n := 1) rfl vx13)
        unfold J_X1_firstFrom_52
        refine ok_mono (ih vx39 x2v x4v δ I (show 0 ≤ (vx39).toInt by first | assumption | omega) (show (vx39).toInt ≤ (x2v).toInt by first | assumption | omega) (show (x2v).toInt ≤ (q_I δ 3 1 nu).toInt by first | assumption | omega) (show (x2v).toInt - (vx39).toInt < _ by omega)) (fun r45 hr46 => ?_)
        obtain ⟨i47, p48, p49⟩ := hr46
        have f50 := ti_b r45.1
        have f51 := ti_b r45.1
        exact ⟨by assumption, by first | assumption | omega, by first | assumption | omega⟩
set_option maxHeartbeats 4000000 in
theorem k_X1_firstFrom {ad : List Nat} {h : hp} (L : Lay TLx ad h) {δ0 : dp} {N : Nat} (hN : 10000000 ≤ N) {a0 : Nat} {x1 : Int32} {x2 : Int32} {x3 : Int32} {nu : Nat} (k_a0 : q_K h.1 a0 = 1) (hnu : q_O h.1 1 1 a0 = some nu) (knu : q_K h.1 nu = 3) {δ : dp} (z0 : 0 ≤ (x1).toInt) (z1 : (x1).toInt ≤ (x2).toInt) (z2 : (x2).toInt ≤ (q_I δ 3 1 nu).toInt) (I : CI ad h.1 δ0 δ) : ok (D_X1_firstFrom N h.1 a0 x1 x2 x3 δ) (fun r => r.2 = δ ∧ (x1).toInt ≤ (r.1).toInt ∧ (r.1).toInt ≤ (x2).toInt) := by
  unfold D_X1_firstFrom
  have f1 := ti_b x1
  have f2 := ti_b x2
  obtain ⟨b3, o4, k5, ⟨n6, n7⟩, w8⟩ := gO_3_0 L knu
  have f9 := cb_3_1 I knu o4
  have f12 := ti_b (q_I δ 1 6 a0)
  have f13 := sh_b (q_I δ 1 6 a0)
  have f14 := ti_b ((1 : Int32) <<< ((q_I δ 1 6 a0) &&& 31))
  refine ok_biv (fun vx10 e11 => ?_)
  first | (have q15 := te_subc (c := 1) (n := 1) rfl ((1 : Int32) <<< ((q_I δ 1 6 a0) &&& 31)) (by omega) (by omega); rw [← e11] at q15; obtain ⟨f16, f17, f18⟩ := q15) | (obtain ⟨q15, f16, f17, f18⟩ : ∃ q : Int, vx10.toInt = ((1 : Int32) <<< ((q_I δ 1 6 a0) &&& 31)).toInt - (1 : Int) + 4294967296 * q ∧ -2147483648 ≤ vx10.toInt ∧ vx10.toInt ≤ 2147483647 := by rw [e11]; exact ti_subc (c := 1) (n := 1) rfl ((1 : Int32) <<< ((q_I δ 1 6 a0) &&& 31)))
  refine ok_mono (kl_X1_firstFrom_10 L hN   k_a0 hnu knu _ x1 x2 vx10 δ I (show 0 ≤ (x1).toInt by first | assumption | omega) (show (x1).toInt ≤ (x2).toInt by first | assumption | omega) (show (x2).toInt ≤ (q_I δ 3 1 nu).toInt by first | assumption | omega) (show (x2).toInt - (x1).toInt < _ by omega)) (fun r19 hr20 => ?_)
  obtain ⟨i21, p22, p23⟩ := hr20
  have f24 := ti_b r19.1
  have f25 := ti_b r19.1
  exact ⟨by assumption, by first | assumption | omega, by first | assumption | omega⟩
set_option maxHeartbeats 4000000 in
theorem k_X1_look {ad : List Nat} {h : hp} (L : Lay TLx ad h) {δ0 : dp} {N : Nat} (hN : 10000000 ≤ N) {a0 : Nat} {nu : Nat} (k_a0 : q_K h.1 a0 = 1) (hnu : q_O h.1 1 1 a0 = some nu) (knu : q_K h.1 nu = 3) {δ : dp} (z0 : 0 ≤ (q_I δ 1 3 a0).toInt) (z1 : (q_I δ 1 4 a0).toInt ≤ (q_I δ 3 1 nu).toInt) (I : CI ad h.1 δ0 δ) : ok (D_X1_look N h.1 a0 δ) (fun r => CI ad h.1 δ0 r ∧ (kp [(1, 7), (1, 9), (1, 10), (1, 11), (1, 12), (1, 15)] δ r ∧ q_V r = q_V δ ∧ q_R r = q_R δ) ∧ ((q_I r 1 15 a0).toInt = 0 → 0 ≤ (q_I r 1 11 a0).toInt ∧ (q_I r 1 11 a0).toInt ≤ (q_I r 1 12 a0).toInt ∧ (q_I r 1 12 a0).toInt ≤ (q_I δ 3 1 nu).toInt)) := by
  unfold D_X1_look
  have f1 := ti_b (q_I δ 1 3 a0)
  have f2 := ti_b (q_I δ 1 4 a0)
  obtain ⟨b3, o4, k5, ⟨n6, n7⟩, w8⟩ := gO_3_0 L knu
  have f9 := cb_3_1 I knu o4
  obtain ⟨b10, o11, k12⟩ := gO_1_0 L k_a0
  refine ok_at o11 ?_
  have f13 := ti_b (q_I δ 1 6 a0)
  have f14 := cb_5_2 I k12
  refine ok_ite (fun h15 => ?_) (fun h15 => ?_)
  · have c16 : (q_I δ 1 6 a0).toInt ≤ (q_I δ 5 2 b10).toInt := o_le h15
    unfold J_X1_look_26
    unfold J_X1_look_31
    refine ok_gp (by decide) ?_
    refine ok_bdv (fun d17 e18 => ?_)
    have i19 : CI ad h.1 δ0 d17 := by rw [e18]; exact cs_1_15 L I k_a0 (show 0 ≤ (1 : Int) by omega) (show (1 : Int) ≤ 1 by omega)
    have u20 := kp_I kp_r e18
    have v21 : q_V d17 = q_V δ := ((show q_V d17 = q_V δ by rw [e18]; rfl)).trans rfl
    have v22 : q_R d17 = q_R δ := ((show q_R d17 = q_R δ by rw [e18]; rfl)).trans rfl
    have f23 := cb_1_15 i19 k_a0
    have f24 : (q_I d17 1 15 a0).toInt = (1 : Int) := congrArg Int32.toInt (show q_I d17 1 15 a0 = (1 : Int32) by rw [e18]; exact rI_s)
    refine ok_ite (fun h25 => ?_) (fun h25 => ?_)
    · have c26 : (q_I d17 1 15 a0).toInt = (0 : Int) := o_eq h25
      have f29 := ti_b (q_I d17 1 3 a0)
      have f30 : (q_I d17 1 3 a0).toInt = (q_I δ 1 3 a0).toInt := congrArg Int32.toInt (by rw [e18]; exact rI_o (by decide))
      have f31 := cb_3_1 i19 knu o4
      have f32 : (q_I d17 3 1 nu).toInt = (q_I δ 3 1 nu).toInt := congrArg Int32.toInt (by rw [e18]; exact rI_o (by decide))
      refine ok_bind (k_X1_valueAt L hN (a0 := a0) (x1 := (q_I d17 1 3 a0)) k_a0 hnu knu (show 0 ≤ ((q_I d17 1 3 a0)).toInt by first | assumption | omega) (show ((q_I d17 1 3 a0)).toInt < (q_I d17 3 1 nu).toInt by first | assumption | omega) i19) (fun r27 hr28 => ?_)
      have i33 := hr28
      try rw [i33]
      have f34 := ti_b r27.1
      refine ok_bdv (fun d35 e36 => ?_)
      have i37 : CI ad h.1 δ0 d35 := by rw [e36]; exact cs_1_9 L i19
      have u38 := kp_I u20 e36
      have v39 : q_V d35 = q_V δ := ((show q_V d35 = q_V d17 by rw [e36]; rfl)).trans v21
      have v40 : q_R d35 = q_R δ := ((show q_R d35 = q_R d17 by rw [e36]; rfl)).trans v22
      have f43 := ti_b (q_I d35 1 4 a0)
      have f44 : (q_I d35 1 4 a0).toInt = (q_I d17 1 4 a0).toInt := congrArg Int32.toInt (by rw [e36]; exact rI_o (by decide))
      have f45 := ti_b (q_I d17 1 4 a0)
      have f46 : (q_I d17 1 4 a0).toInt = (q_I δ 1 4 a0).toInt := congrArg Int32.toInt (by rw [e18]; exact rI_o (by decide))
      first | (have q48 := te_subc (c := 1) (n := 1) rfl (q_I d35 1 4 a0) (by omega) (by omega); obtain ⟨f49, f50, f51⟩ := q48) | (obtain ⟨q48, f49, f50, f51⟩ := ti_subc (c := 1) (n := 1) rfl (q_I d35 1 4 a0))
      have f52 := cb_3_1 i37 knu o4
      have f53 : (q_I d35 3 1 nu).toInt = (q_I d17 3 1 nu).toInt := congrArg Int32.toInt (by rw [e36]; exact rI_o (by decide))
      refine ok_bind (k_X1_valueAt L hN (a0 := a0) (x1 := ((q_I d35 1 4 a0) - (1 : Int32))) k_a0 hnu knu (show 0 ≤ (((q_I d35 1 4 a0) - (1 : Int32))).toInt by first | assumption | omega) (show (((q_I d35 1 4 a0) - (1 : Int32))).toInt < (q_I d35 3 1 nu).toInt by first | assumption | omega) i37) (fun r41 hr42 => ?_)
      have i54 := hr42
      try rw [i54]
      have f55 := ti_b r41.1
      refine ok_bdv (fun d56 e57 => ?_)
      have i58 : CI ad h.1 δ0 d56 := by rw [e57]; exact cs_1_10 L i37
      have u59 := kp_I u38 e57
      have v60 : q_V d56 = q_V δ := ((show q_V d56 = q_V d35 by rw [e57]; rfl)).trans v39
      have v61 : q_R d56 = q_R δ := ((show q_R d56 = q_R d35 by rw [e57]; rfl)).trans v40
      have f62 := ti_b (q_I d56 1 9 a0)
      have f63 : (q_I d56 1 9 a0).toInt = (q_I d35 1 9 a0).toInt := congrArg Int32.toInt (by rw [e57]; exact rI_o (by decide))
      have f64 := ti_b (q_I d35 1 9 a0)
      have f65 : (q_I d35 1 9 a0).toInt = r27.1.toInt := congrArg Int32.toInt (show q_I d35 1 9 a0 = r27.1 by rw [e36]; exact rI_s)
      have f66 := ti_b (q_I d56 1 10 a0)
      have f67 : (q_I d56 1 10 a0).toInt = r41.1.toInt := congrArg Int32.toInt (show q_I d56 1 10 a0 = r41.1 by rw [e57]; exact rI_s)
      refine ok_ite (fun h68 => ?_) (fun h68 => ?_)
      · have c69 : (q_I d56 1 9 a0).toInt = (q_I d56 1 10 a0).toInt := o_eq h68
        unfold J_X1_look_85
        refine ok_gp (by decide) ?_
        refine ok_bdv (fun d70 e71 => ?_)
        have i72 : CI ad h.1 δ0 d70 := by rw [e71]; exact cs_1_15 L i58 k_a0 (show 0 ≤ (1 : Int) by omega) (show (1 : Int) ≤ 1 by omega)
        have u73 := kp_I u59 e71
        have v74 : q_V d70 = q_V δ := ((show q_V d70 = q_V d56 by rw [e71]; rfl)).trans v60
        have v75 : q_R d70 = q_R δ := ((show q_R d70 = q_R d56 by rw [e71]; rfl)).trans v61
        have f76 := cb_1_15 i72 k_a0
        have f77 : (q_I d70 1 15 a0).toInt = (1 : Int) := congrArg Int32.toInt (show q_I d70 1 15 a0 = (1 : Int32) by rw [e71]; exact rI_s)
        refine ok_ite (fun h78 => ?_) (fun h78 => ?_)
        · have c79 : (q_I d70 1 15 a0).toInt = (0 : Int) := o_eq h78
          refine ok_at o11 ?_
          refine ok_bind (k_X5_lowerBits L hN (a0 := b10) (x1 := (q_I d70 1 6 a0)) k12 i72) (fun r80 hr81 => ?_)
          obtain ⟨i82, p83⟩ := hr81
          try rw [i82]
          have f84 := ti_b (q_I d70 1 6 a0)
          have f85 : (q_I d70 1 6 a0).toInt = (q_I d56 1 6 a0).toInt := congrArg Int32.toInt (by rw [e71]; exact rI_o (by decide))
          have f86 := ti_b (q_I d56 1 6 a0)
          have f87 : (q_I d56 1 6 a0).toInt = (q_I d35 1 6 a0).toInt := congrArg Int32.toInt (by rw [e57]; exact rI_o (by decide))
          have f88 := ti_b (q_I d35 1 6 a0)
          have f89 : (q_I d35 1 6 a0).toInt = (q_I d17 1 6 a0).toInt := congrArg Int32.toInt (by rw [e36]; exact rI_o (by decide))
          have f90 := ti_b (q_I d17 1 6 a0)
          have f91 : (q_I d17 1 6 a0).toInt = (q_I δ 1 6 a0).toInt := congrArg Int32.toInt (by rw [e18]; exact rI_o (by decide))
          have f92 := ti_b r80.1
          have f93 := ti_b r80.1
          refine ok_bdv (fun d94 e95 => ?_)
          have i96 : CI ad h.1 δ0 d94 := by rw [e95]; exact cs_1_7 L i72
          have u97 := kp_I u73 e95
          have v98 : q_V d94 = q_V δ := ((show q_V d94 = q_V d70 by rw [e95]; rfl)).trans v74
          have v99 : q_R d94 = q_R δ := ((show q_R d94 = q_R d70 by rw [e95]; rfl)).trans v75
          have f102 := ti_b (q_I d94 1 3 a0)
          have f103 : (q_I d94 1 3 a0).toInt = (q_I d70 1 3 a0).toInt := congrArg Int32.toInt (by rw [e95]; exact rI_o (by decide))
          have f104 := ti_b (q_I d70 1 3 a0)
          have f105 : (q_I d70 1 3 a0).toInt = (q_I d56 1 3 a0).toInt := congrArg Int32.toInt (by rw [e71]; exact rI_o (by decide))
          have f106 := ti_b (q_I d56 1 3 a0)
          have f107 : (q_I d56 1 3 a0).toInt = (q_I d35 1 3 a0).toInt := congrArg Int32.toInt (by rw [e57]; exact rI_o (by decide))
          have f108 := ti_b (q_I d35 1 3 a0)
          have f109 : (q_I d35 1 3 a0).toInt = (q_I d17 1 3 a0).toInt := congrArg Int32.toInt (by rw [e36]; exact rI_o (by decide))
          first | (have q111 := te_addc (c := 1) (n := 1) rfl (q_I d94 1 3 a0) (by omega) (by omega); obtain ⟨f112, f113, f114⟩ := q111) | (obtain ⟨q111, f112, f113, f114⟩ := ti_addc (c := 1) (n := 1) rfl (q_I d94 1 3 a0))
          have f115 := ti_b (q_I d94 1 4 a0)
          have f116 : (q_I d94 1 4 a0).toInt = (q_I d70 1 4 a0).toInt := congrArg Int32.toInt (by rw [e95]; exact rI_o (by decide))
          have f117 := ti_b (q_I d70 1 4 a0)
          have f118 : (q_I d70 1 4 a0).toInt = (q_I d56 1 4 a0).toInt := congrArg Int32.toInt (by rw [e71]; exact rI_o (by decide))
          have f119 := ti_b (q_I d56 1 4 a0)
          have f120 : (q_I d56 1 4 a0).toInt = (q_I d35 1 4 a0).toInt := congrArg Int32.toInt (by rw [e57]; exact rI_o (by decide))
          have f121 := cb_3_1 i96 knu o4
          have f122 : (q_I d94 3 1 nu).toInt = (q_I d70 3 1 nu).toInt := congrArg Int32.toInt (by rw [e95]; exact rI_o (by decide))
          have f123 := cb_3_1 i72 knu o4
          have f124 : (q_I d70 3 1 nu).toInt = (q_I d56 3 1 nu).toInt := congrArg Int32.toInt (by rw [e71]; exact rI_o (by decide))
          have f125 := cb_3_1 i58 knu o4
          have f126 : (q_I d56 3 1 nu).toInt = (q_I d35 3 1 nu).toInt := congrArg Int32.toInt (by rw [e57]; exact rI_o (by decide))
          refine ok_bind (k_X1_firstFrom L hN (a0 := a0) (x1 := ((q_I d94 1 3 a0) + (1 : Int32))) (x2 := (q_I d94 1 4 a0)) (x3 := ((q_I d94 1 9 a0) + (1 : Int32))) k_a0 hnu knu (show 0 ≤ (((q_I d94 1 3 a0) + (1 : Int32))).toInt by first | assumption | omega) (show (((q_I d94 1 3 a0) + (1 : Int32))).toInt ≤ ((q_I d94 1 4 a0)).toInt by first | assumption | omega) (show ((q_I d94 1 4 a0)).toInt ≤ (q_I d94 3 1 nu).toInt by first | assumption | omega) i96) (fun r100 hr101 => ?_)
          obtain ⟨i127, p128, p129⟩ := hr101
          try rw [i127]
          have f130 := ti_b r100.1
          have f131 := ti_b r100.1
          refine ok_bdv (fun d132 e133 => ?_)
          have i134 : CI ad h.1 δ0 d132 := by rw [e133]; exact cs_1_11 L i96
          have u135 := kp_I u97 e133
          have v136 : q_V d132 = q_V δ := ((show q_V d132 = q_V d94 by rw [e133]; rfl)).trans v98
          have v137 : q_R d132 = q_R δ := ((show q_R d132 = q_R d94 by rw [e133]; rfl)).trans v99
          have f140 := ti_b (q_I d132 1 11 a0)
          have f141 : (q_I d132 1 11 a0).toInt = r100.1.toInt := congrArg Int32.toInt (show q_I d132 1 11 a0 = r100.1 by rw [e133]; exact rI_s)
          have f142 := ti_b (q_I d132 1 4 a0)
          have f143 : (q_I d132 1 4 a0).toInt = (q_I d94 1 4 a0).toInt := congrArg Int32.toInt (by rw [e133]; exact rI_o (by decide))
          have f144 := cb_3_1 i134 knu o4
          have f145 : (q_I d132 3 1 nu).toInt = (q_I d94 3 1 nu).toInt := congrArg Int32.toInt (by rw [e133]; exact rI_o (by decide))
          refine ok_bind (k_X1_firstFrom L hN (a0 := a0) (x1 := (q_I d132 1 11 a0)) (x2 := (q_I d132 1 4 a0)) (x3 := (q_I d132 1 10 a0)) k_a0 hnu knu (show 0 ≤ ((q_I d132 1 11 a0)).toInt by first | assumption | omega) (show ((q_I d132 1 11 a0)).toInt ≤ ((q_I d132 1 4 a0)).toInt by first | assumption | omega) (show ((q_I d132 1 4 a0)).toInt ≤ (q_I d132 3 1 nu).toInt by first | assumption | omega) i134) (fun r138 hr139 => ?_)
          obtain ⟨i146, p147, p148⟩ := hr139
          try rw [i146]
          have f149 := ti_b r138.1
          have f150 := ti_b r138.1
          refine ok_bdv (fun d151 e152 => ?_)
          have i153 : CI ad h.1 δ0 d151 := by rw [e152]; exact cs_1_12 L i134
          have u154 := kp_I u135 e152
          have v155 : q_V d151 = q_V δ := ((show q_V d151 = q_V d132 by rw [e152]; rfl)).trans v136
          have v156 : q_R d151 = q_R δ := ((show q_R d151 = q_R d132 by rw [e152]; rfl)).trans v137
          unfold J_X1_look_154
          have f157 := cb_1_15 i153 k_a0
          have f158 : (q_I d151 1 15 a0).toInt = (q_I d132 1 15 a0).toInt := congrArg Int32.toInt (by rw [e152]; exact rI_o (by decide))
          have f159 := cb_1_15 i134 k_a0
          have f160 : (q_I d132 1 15 a0).toInt = (q_I d94 1 15 a0).toInt := congrArg Int32.toInt (by rw [e133]; exact rI_o (by decide))
          have f161 := cb_1_15 i96 k_a0
          have f162 : (q_I d94 1 15 a0).toInt = (q_I d70 1 15 a0).toInt := congrArg Int32.toInt (by rw [e95]; exact rI_o (by decide))
          have f163 := ti_b (q_I d151 1 11 a0)
          have f164 : (q_I d151 1 11 a0).toInt = (q_I d132 1 11 a0).toInt := congrArg Int32.toInt (by rw [e152]; exact rI_o (by decide))
          have f165 := ti_b (q_I d151 1 12 a0)
          have f166 : (q_I d151 1 12 a0).toInt = r138.1.toInt := congrArg Int32.toInt (show q_I d151 1 12 a0 = r138.1 by rw [e152]; exact rI_s)
          exact ok_some (show CI ad h.1 δ0 d151 ∧ (kp [(1, 7), (1, 9), (1, 10), (1, 11), (1, 12), (1, 15)] δ d151 ∧ q_V d151 = q_V δ ∧ q_R d151 = q_R δ) ∧ ((q_I d151 1 15 a0).toInt = 0 → 0 ≤ (q_I d151 1 11 a0).toInt ∧ (q_I d151 1 11 a0).toInt ≤ (q_I d151 1 12 a0).toInt ∧ (q_I d151 1 12 a0).toInt ≤ (q_I δ 3 1 nu).toInt) from ⟨i153, ⟨kp_w (by decide) u154, v155, v156⟩, by first | assumption | omega⟩)
        · have c167 : (q_I d70 1 15 a0).toInt ≠ (0 : Int) := o_ne h78
          unfold J_X1_look_154
          have f168 := ti_b (q_I d70 1 11 a0)
          have f169 : (q_I d70 1 11 a0).toInt = (q_I d56 1 11 a0).toInt := congrArg Int32.toInt (by rw [e71]; exact rI_o (by decide))
          have f170 := ti_b (q_I d56 1 11 a0)
          have f171 : (q_I d56 1 11 a0).toInt = (q_I d35 1 11 a0).toInt := congrArg Int32.toInt (by rw [e57]; exact rI_o (by decide))
          have f172 := ti_b (q_I d35 1 11 a0)
          have f173 : (q_I d35 1 11 a0).toInt = (q_I d17 1 11 a0).toInt := congrArg Int32.toInt (by rw [e36]; exact rI_o (by decide))
          have f174 := ti_b (q_I d17 1 11 a0)
          have f175 : (q_I d17 1 11 a0).toInt = (q_I δ 1 11 a0).toInt := congrArg Int32.toInt (by rw [e18]; exact rI_o (by decide))
          have f176 := ti_b (q_I δ 1 11 a0)
          have f177 := ti_b (q_I d70 1 12 a0)
          have f178 : (q_I d70 1 12 a0).toInt = (q_I d56 1 12 a0).toInt := congrArg Int32.toInt (by rw [e71]; exact rI_o (by decide))
          have f179 := ti_b (q_I d56 1 12 a0)
          have f180 : (q_I d56 1 12 a0).toInt = (q_I d35 1 12 a0).toInt := congrArg Int32.toInt (by rw [e57]; exact rI_o (by decide))
          have f181 := ti_b (q_I d35 1 12 a0)
          have f182 : (q_I d35 1 12 a0).toInt = (q_I d17 1 12 a0).toInt := congrArg Int32.toInt (by rw [e36]; exact rI_o (by decide))
          have f183 := ti_b (q_I d17 1 12 a0)
          have f184 : (q_I d17 1 12 a0).toInt = (q_I δ 1 12 a0).toInt := congrArg Int32.toInt (by rw [e18]; exact rI_o (by decide))
          have f185 := ti_b (q_I δ 1 12 a0)
          exact ok_some (show CI ad h.1 δ0 d70 ∧ (kp [(1, 7), (1, 9), (1, 10), (1, 11), (1, 12), (1, 15)] δ d70 ∧ q_V d70 = q_V δ ∧ q_R d70 = q_R δ) ∧ ((q_I d70 1 15 a0).toInt = 0 → 0 ≤ (q_I d70 1 11 a0).toInt ∧ (q_I d70 1 11 a0).toInt ≤ (q_I d70 1 12 a0).toInt ∧ (q_I d70 1 12 a0).toInt ≤ (q_I δ 3 1 nu).toInt) from ⟨i72, ⟨kp_w (by decide) u73, v74, v75⟩, by first | assumption | omega⟩)
      · have c186 : (q_I d56 1 9 a0).toInt ≠ (q_I d56 1 10 a0).toInt := o_ne h68
        unfold J_X1_look_85
        refine ok_gp (by decide) ?_
        refine ok_bdv (fun d187 e188 => ?_)
        have i189 : CI ad h.1 δ0 d187 := by rw [e188]; exact cs_1_15 L i58 k_a0 (show 0 ≤ (0 : Int) by omega) (show (0 : Int) ≤ 1 by omega)
        have u190 := kp_I u59 e188
        have v191 : q_V d187 = q_V δ := ((show q_V d187 = q_V d56 by rw [e188]; rfl)).trans v60
        have v192 : q_R d187 = q_R δ := ((show q_R d187 = q_R d56 by rw [e188]; rfl)).trans v61
        have f193 := cb_1_15 i189 k_a0
        have f194 : (q_I d187 1 15 a0).toInt = (0 : Int) := congrArg Int32.toInt (show q_I d187 1 15 a0 = (0 : Int32) by rw [e188]; exact rI_s)
        refine ok_ite (fun h195 => ?_) (fun h195 => ?_)
        · have c196 : (q_I d187 1 15 a0).toInt = (0 : Int) := o_eq h195
          refine ok_at o11 ?_
          refine ok_bind (k_X5_lowerBits L hN (a0 := b10) (x1 := (q_I d187 1 6 a0)) k12 i189) (fun r197 hr198 => ?_)
          obtain ⟨i199, p200⟩ := hr198
          try rw [i199]
          have f201 := ti_b (q_I d187 1 6 a0)
          have f202 : (q_I d187 1 6 a0).toInt = (q_I d56 1 6 a0).toInt := congrArg Int32.toInt (by rw [e188]; exact rI_o (by decide))
          have f203 := ti_b (q_I d56 1 6 a0)
          have f204 : (q_I d56 1 6 a0).toInt = (q_I d35 1 6 a0).toInt := congrArg Int32.toInt (by rw [e57]; exact rI_o (by decide))
          have f205 := ti_b (q_I d35 1 6 a0)
          have f206 : (q_I d35 1 6 a0).toInt = (q_I d17 1 6 a0).toInt := congrArg Int32.toInt (by rw [e36]; exact rI_o (by decide))
          have f207 := ti_b (q_I d17 1 6 a0)
          have f208 : (q_I d17 1 6 a0).toInt = (q_I δ 1 6 a0).toInt := congrArg Int32.toInt (by rw [e18]; exact rI_o (by decide))
          have f209 := ti_b r197.1
          have f210 := ti_b r197.1
          refine ok_bdv (fun d211 e212 => ?_)
          have i213 : CI ad h.1 δ0 d211 := by rw [e212]; exact cs_1_7 L i189
          have u214 := kp_I u190 e212
          have v215 : q_V d211 = q_V δ := ((show q_V d211 = q_V d187 by rw [e212]; rfl)).trans v191
          have v216 : q_R d211 = q_R δ := ((show q_R d211 = q_R d187 by rw [e212]; rfl)).trans v192
          have f219 := ti_b (q_I d211 1 3 a0)
          have f220 : (q_I d211 1 3 a0).toInt = (q_I d187 1 3 a0).toInt := congrArg Int32.toInt (by rw [e212]; exact rI_o (by decide))
          have f221 := ti_b (q_I d187 1 3 a0)
          have f222 : (q_I d187 1 3 a0).toInt = (q_I d56 1 3 a0).toInt := congrArg Int32.toInt (by rw [e188]; exact rI_o (by decide))
          have f223 := ti_b (q_I d56 1 3 a0)
          have f224 : (q_I d56 1 3 a0).toInt = (q_I d35 1 3 a0).toInt := congrArg Int32.toInt (by rw [e57]; exact rI_o (by decide))
          have f225 := ti_b (q_I d35 1 3 a0)
          have f226 : (q_I d35 1 3 a0).toInt = (q_I d17 1 3 a0).toInt := congrArg Int32.toInt (by rw [e36]; exact rI_o (by decide))
          first | (have q228 := te_addc (c := 1) (n := 1) rfl (q_I d211 1 3 a0) (by omega) (by omega); obtain ⟨f229, f230, f231⟩ := q228) | (obtain ⟨q228, f229, f230, f231⟩ := ti_addc (c := 1) (n := 1) rfl (q_I d211 1 3 a0))
          have f232 := ti_b (q_I d211 1 4 a0)
          have f233 : (q_I d211 1 4 a0).toInt = (q_I d187 1 4 a0).toInt := congrArg Int32.toInt (by rw [e212]; exact rI_o (by decide))
          have f234 := ti_b (q_I d187 1 4 a0)
          have f235 : (q_I d187 1 4 a0).toInt = (q_I d56 1 4 a0).toInt := congrArg Int32.toInt (by rw [e188]; exact rI_o (by decide))
          have f236 := ti_b (q_I d56 1 4 a0)
          have f237 : (q_I d56 1 4 a0).toInt = (q_I d35 1 4 a0).toInt := congrArg Int32.toInt (by rw [e57]; exact rI_o (by decide))
          have f238 := cb_3_1 i213 knu o4
          have f239 : (q_I d211 3 1 nu).toInt = (q_I d187 3 1 nu).toInt := congrArg Int32.toInt (by rw [e212]; exact rI_o (by decide))
          have f240 := cb_3_1 i189 knu o4
          have f241 : (q_I d187 3 1 nu).toInt = (q_I d56 3 1 nu).toInt := congrArg Int32.toInt (by rw [e188]; exact rI_o (by decide))
          have f242 := cb_3_1 i58 knu o4
          have f243 : (q_I d56 3 1 nu).toInt = (q_I d35 3 1 nu).toInt := congrArg Int32.toInt (by rw [e57]; exact rI_o (by decide))
          refine ok_bind (k_X1_firstFrom L hN (a0 := a0) (x1 := ((q_I d211 1 3 a0) + (1 : Int32))) (x2 := (q_I d211 1 4 a0)) (x3 := ((q_I d211 1 9 a0) + (1 : Int32))) k_a0 hnu knu (show 0 ≤ (((q_I d211 1 3 a0) + (1 : Int32))).toInt by first | assumption | omega) (show (((q_I d211 1 3 a0) + (1 : Int32))).toInt ≤ ((q_I d211 1 4 a0)).toInt by first | assumption | omega) (show ((q_I d211 1 4 a0)).toInt ≤ (q_I d211 3 1 nu).toInt by first | assumption | omega) i213) (fun r217 hr218 => ?_)
          obtain ⟨i244, p245, p246⟩ := hr218
          try rw [i244]
          have f247 := ti_b r217.1
          have f248 := ti_b r217.1
          refine ok_bdv (fun d249 e250 => ?_)
          have i251 : CI ad h.1 δ0 d249 := by rw [e250]; exact cs_1_11 L i213
          have u252 := kp_I u214 e250
          have v253 : q_V d249 = q_V δ := ((show q_V d249 = q_V d211 by rw [e250]; rfl)).trans v215
          have v254 : q_R d249 = q_R δ := ((show q_R d249 = q_R d211 by rw [e250]; rfl)).trans v216
          have f257 := ti_b (q_I d249 1 11 a0)
          have f258 : (q_I d249 1 11 a0).toInt = r217.1.toInt := congrArg Int32.toInt (show q_I d249 1 11 a0 = r217.1 by rw [e250]; exact rI_s)
          have f259 := ti_b (q_I d249 1 4 a0)
          have f260 : (q_I d249 1 4 a0).toInt = (q_I d211 1 4 a0).toInt := congrArg Int32.toInt (by rw [e250]; exact rI_o (by decide))
          have f261 := cb_3_1 i251 knu o4
          have f262 : (q_I d249 3 1 nu).toInt = (q_I d211 3 1 nu).toInt := congrArg Int32.toInt (by rw [e250]; exact rI_o (by decide))
          refine ok_bind (k_X1_firstFrom L hN (a0 := a0) (x1 := (q_I d249 1 11 a0)) (x2 := (q_I d249 1 4 a0)) (x3 := (q_I d249 1 10 a0)) k_a0 hnu knu (show 0 ≤ ((q_I d249 1 11 a0)).toInt by first | assumption | omega) (show ((q_I d249 1 11 a0)).toInt ≤ ((q_I d249 1 4 a0)).toInt by first | assumption | omega) (show ((q_I d249 1 4 a0)).toInt ≤ (q_I d249 3 1 nu).toInt by first | assumption | omega) i251) (fun r255 hr256 => ?_)
          obtain ⟨i263, p264, p265⟩ := hr256
          try rw [i263]
          have f266 := ti_b r255.1
          have f267 := ti_b r255.1
          refine ok_bdv (fun d268 e269 => ?_)
          have i270 : CI ad h.1 δ0 d268 := by rw [e269]; exact cs_1_12 L i251
          have u271 := kp_I u252 e269
          have v272 : q_V d268 = q_V δ := ((show q_V d268 = q_V d249 by rw [e269]; rfl)).trans v253
          have v273 : q_R d268 = q_R δ := ((show q_R d268 = q_R d249 by rw [e269]; rfl)).trans v254
          unfold J_X1_look_154
          have f274 := cb_1_15 i270 k_a0
          have f275 : (q_I d268 1 15 a0).toInt = (q_I d249 1 15 a0).toInt := congrArg Int32.toInt (by rw [e269]; exact rI_o (by decide))
          have f276 := cb_1_15 i251 k_a0
          have f277 : (q_I d249 1 15 a0).toInt = (q_I d211 1 15 a0).toInt := congrArg Int32.toInt (by rw [e250]; exact rI_o (by decide))
          have f278 := cb_1_15 i213 k_a0
          have f279 : (q_I d211 1 15 a0).toInt = (q_I d187 1 15 a0).toInt := congrArg Int32.toInt (by rw [e212]; exact rI_o (by decide))
          have f280 := ti_b (q_I d268 1 11 a0)
          have f281 : (q_I d268 1 11 a0).toInt = (q_I d249 1 11 a0).toInt := congrArg Int32.toInt (by rw [e269]; exact rI_o (by decide))
          have f282 := ti_b (q_I d268 1 12 a0)
          have f283 : (q_I d268 1 12 a0).toInt = r255.1.toInt := congrArg Int32.toInt (show q_I d268 1 12 a0 = r255.1 by rw [e269]; exact rI_s)
          exact ok_some (show CI ad h.1 δ0 d268 ∧ (kp [(1, 7), (1, 9), (1, 10), (1, 11), (1, 12), (1, 15)] δ d268 ∧ q_V d268 = q_V δ ∧ q_R d268 = q_R δ) ∧ ((q_I d268 1 15 a0).toInt = 0 → 0 ≤ (q_I d268 1 11 a0).toInt ∧ (q_I d268 1 11 a0).toInt ≤ (q_I d268 1 12 a0).toInt ∧ (q_I d268 1 12 a0).toInt ≤ (q_I δ 3 1 nu).toInt) from ⟨i270, ⟨kp_w (by decide) u271, v272, v273⟩, by first | assumption | omega⟩)
        · have c284 : (q_I d187 1 15 a0).toInt ≠ (0 : Int) := o_ne h195
          unfold J_X1_look_154
          have f285 := ti_b (q_I d187 1 11 a0)
          have f286 : (q_I d187 1 11 a0).toInt = (q_I d56 1 11 a0).toInt := congrArg Int32.toInt (by rw [e188]; exact rI_o (by decide))
          have f287 := ti_b (q_I d56 1 11 a0)
          have f288 : (q_I d56 1 11 a0).toInt = (q_I d35 1 11 a0).toInt := congrArg Int32.toInt (by rw [e57]; exact rI_o (by decide))
          have f289 := ti_b (q_I d35 1 11 a0)
          have f290 : (q_I d35 1 11 a0).toInt = (q_I d17 1 11 a0).toInt := congrArg Int32.toInt (by rw [e36]; exact rI_o (by decide))
          have f291 := ti_b (q_I d17 1 11 a0)
          have f292 : (q_I d17 1 11 a0).toInt = (q_I δ 1 11 a0).toInt := congrArg Int32.toInt (by rw [e18]; exact rI_o (by decide))
          have f293 := ti_b (q_I δ 1 11 a0)
          have f294 := ti_b (q_I d187 1 12 a0)
          have f295 : (q_I d187 1 12 a0).toInt = (q_I d56 1 12 a0).toInt := congrArg Int32.toInt (by rw [e188]; exact rI_o (by decide))
          have f296 := ti_b (q_I d56 1 12 a0)
          have f297 : (q_I d56 1 12 a0).toInt = (q_I d35 1 12 a0).toInt := congrArg Int32.toInt (by rw [e57]; exact rI_o (by decide))
          have f298 := ti_b (q_I d35 1 12 a0)
          have f299 : (q_I d35 1 12 a0).toInt = (q_I d17 1 12 a0).toInt := congrArg Int32.toInt (by rw [e36]; exact rI_o (by decide))
          have f300 := ti_b (q_I d17 1 12 a0)
          have f301 : (q_I d17 1 12 a0).toInt = (q_I δ 1 12 a0).toInt := congrArg Int32.toInt (by rw [e18]; exact rI_o (by decide))
          have f302 := ti_b (q_I δ 1 12 a0)
          exact ok_some (show CI ad h.1 δ0 d187 ∧ (kp [(1, 7), (1, 9), (1, 10), (1, 11), (1, 12), (1, 15)] δ d187 ∧ q_V d187 = q_V δ ∧ q_R d187 = q_R δ) ∧ ((q_I d187 1 15 a0).toInt = 0 → 0 ≤ (q_I d187 1 11 a0).toInt ∧ (q_I d187 1 11 a0).toInt ≤ (q_I d187 1 12 a0).toInt ∧ (q_I d187 1 12 a0).toInt ≤ (q_I δ 3 1 nu).toInt) from ⟨i189, ⟨kp_w (by decide) u190, v191, v192⟩, by first | assumption | omega⟩)
    · have c303 : (q_I d17 1 15 a0).toInt ≠ (0 : Int) := o_ne h25
      have f304 := ti_b (q_I d17 1 11 a0)
      have f305 : (q_I d17 1 11 a0).toInt = (q_I δ 1 11 a0).toInt := congrArg Int32.toInt (by rw [e18]; exact rI_o (by decide))
      have f306 := ti_b (q_I δ 1 11 a0)
      have f307 := ti_b (q_I d17 1 12 a0)
      have f308 : (q_I d17 1 12 a0).toInt = (q_I δ 1 12 a0).toInt := congrArg Int32.toInt (by rw [e18]; exact rI_o (by decide))
      have f309 := ti_b (q_I δ 1 12 a0)
      exact ok_some (show CI ad h.1 δ0 d17 ∧ (kp [(1, 7), (1, 9), (1, 10), (1, 11), (1, 12), (1, 15)] δ d17 ∧ q_V d17 = q_V δ ∧ q_R d17 = q_R δ) ∧ ((q_I d17 1 15 a0).toInt = 0 → 0 ≤ (q_I d17 1 11 a0).toInt ∧ (q_I d17 1 11 a0).toInt ≤ (q_I d17 1 12 a0).toInt ∧ (q_I d17 1 12 a0).toInt ≤ (q_I δ 3 1 nu).toInt) from ⟨i19, ⟨kp_w (by decide) u20, v21, v22⟩, by first | assumption | omega⟩)
  · have c310 : (q_I δ 5 2 b10).toInt < (q_I δ 1 6 a0).toInt := o_nle h15
    refine ok_ite (fun h311 => ?_) (fun h311 => ?_)
    · have c312 : (q_I δ 1 3 a0).toInt < (q_I δ 1 4 a0).toInt := o_lt h311
      unfold J_X1_look_31
      refine ok_gp (by decide) ?_
      refine ok_bdv (fun d313 e314 => ?_)
      have i315 : CI ad h.1 δ0 d313 := by rw [e314]; exact cs_1_15 L I k_a0 (show 0 ≤ (0 : Int) by omega) (show (0 : Int) ≤ 1 by omega)
      have u316 := kp_I kp_r e314
      have v317 : q_V d313 = q_V δ := ((show q_V d313 = q_V δ by rw [e314]; rfl)).trans rfl
      have v318 : q_R d313 = q_R δ := ((show q_R d313 = q_R δ by rw [e314]; rfl)).trans rfl
      have f319 := cb_1_15 i315 k_a0
      have f320 : (q_I d313 1 15 a0).toInt = (0 : Int) := congrArg Int32.toInt (show q_I d313 1 15 a0 = (0 : Int32) by rw [e314]; exact rI_s)
      refine ok_ite (fun h321 => ?_) (fun h321 => ?_)
      · have c322 : (q_I d313 1 15 a0).toInt = (0 : Int) := o_eq h321
        have f325 := ti_b (q_I d313 1 3 a0)
        have f326 : (q_I d313 1 3 a0).toInt = (q_I δ 1 3 a0).toInt := congrArg Int32.toInt (by rw [e314]; exact rI_o (by decide))
        have f327 := cb_3_1 i315 knu o4
        have f328 : (q_I d313 3 1 nu).toInt = (q_I δ 3 1 nu).toInt := congrArg Int32.toInt (by rw [e314]; exact rI_o (by decide))
        refine ok_bind (k_X1_valueAt L hN (a0 := a0) (x1 := (q_I d313 1 3 a0)) k_a0 hnu knu (show 0 ≤ ((q_I d313 1 3 a0)).toInt by first | assumption | omega) (show ((q_I d313 1 3 a0)).toInt < (q_I d313 3 1 nu).toInt by first | assumption | omega) i315) (fun r323 hr324 => ?_)
        have i329 := hr324
        try rw [i329]
        have f330 := ti_b r323.1
        refine ok_bdv (fun d331 e332 => ?_)
        have i333 : CI ad h.1 δ0 d331 := by rw [e332]; exact cs_1_9 L i315
        have u334 := kp_I u316 e332
        have v335 : q_V d331 = q_V δ := ((show q_V d331 = q_V d313 by rw [e332]; rfl)).trans v317
        have v336 : q_R d331 = q_R δ := ((show q_R d331 = q_R d313 by rw [e332]; rfl)).trans v318
        have f339 := ti_b (q_I d331 1 4 a0)
        have f340 : (q_I d331 1 4 a0).toInt = (q_I d313 1 4 a0).toInt := congrArg Int32.toInt (by rw [e332]; exact rI_o (by decide))
        have f341 := ti_b (q_I d313 1 4 a0)
        have f342 : (q_I d313 1 4 a0).toInt = (q_I δ 1 4 a0).toInt := congrArg Int32.toInt (by rw [e314]; exact rI_o (by decide))
        first | (have q344 := te_subc (c := 1) (n := 1) rfl (q_I d331 1 4 a0) (by omega) (by omega); obtain ⟨f345, f346, f347⟩ := q344) | (obtain ⟨q344, f345, f346, f347⟩ := ti_subc (c := 1) (n := 1) rfl (q_I d331 1 4 a0))
        have f348 := cb_3_1 i333 knu o4
        have f349 : (q_I d331 3 1 nu).toInt = (q_I d313 3 1 nu).toInt := congrArg Int32.toInt (by rw [e332]; exact rI_o (by decide))
        refine ok_bind (k_X1_valueAt L hN (a0 := a0) (x1 := ((q_I d331 1 4 a0) - (1 : Int32))) k_a0 hnu knu (show 0 ≤ (((q_I d331 1 4 a0) - (1 : Int32))).toInt by first | assumption | omega) (show (((q_I d331 1 4 a0) - (1 : Int32))).toInt < (q_I d331 3 1 nu).toInt by first | assumption | omega) i333) (fun r337 hr338 => ?_)
        have i350 := hr338
        try rw [i350]
        have f351 := ti_b r337.1
        refine ok_bdv (fun d352 e353 => ?_)
        have i354 : CI ad h.1 δ0 d352 := by rw [e353]; exact cs_1_10 L i333
        have u355 := kp_I u334 e353
        have v356 : q_V d352 = q_V δ := ((show q_V d352 = q_V d331 by rw [e353]; rfl)).trans v335
        have v357 : q_R d352 = q_R δ := ((show q_R d352 = q_R d331 by rw [e353]; rfl)).trans v336
        have f358 := ti_b (q_I d352 1 9 a0)
        have f359 : (q_I d352 1 9 a0).toInt = (q_I d331 1 9 a0).toInt := congrArg Int32.toInt (by rw [e353]; exact rI_o (by decide))
        have f360 := ti_b (q_I d331 1 9 a0)
        have f361 : (q_I d331 1 9 a0).toInt = r323.1.toInt := congrArg Int32.toInt (show q_I d331 1 9 a0 = r323.1 by rw [e332]; exact rI_s)
        have f362 := ti_b (q_I d352 1 10 a0)
        have f363 : (q_I d352 1 10 a0).toInt = r337.1.toInt := congrArg Int32.toInt (show q_I d352 1 10 a0 = r337.1 by rw [e353]; exact rI_s)
        refine ok_ite (fun h364 => ?_) (fun h364 => ?_)
        · have c365 : (q_I d352 1 9 a0).toInt = (q_I d352 1 10 a0).toInt := o_eq h364
          unfold J_X1_look_85
          refine ok_gp (by decide) ?_
          refine ok_bdv (fun d366 e367 => ?_)
          have i368 : CI ad h.1 δ0 d366 := by rw [e367]; exact cs_1_15 L i354 k_a0 (show 0 ≤ (1 : Int) by omega) (show (1 : Int) ≤ 1 by omega)
          have u369 := kp_I u355 e367
          have v370 : q_V d366 = q_V δ := ((show q_V d366 = q_V d352 by rw [e367]; rfl)).trans v356
          have v371 : q_R d366 = q_R δ := ((show q_R d366 = q_R d352 by rw [e367]; rfl)).trans v357
          have f372 := cb_1_15 i368 k_a0
          have f373 : (q_I d366 1 15 a0).toInt = (1 : Int) := congrArg Int32.toInt (show q_I d366 1 15 a0 = (1 : Int32) by rw [e367]; exact rI_s)
          refine ok_ite (fun h374 => ?_) (fun h374 => ?_)
          · have c375 : (q_I d366 1 15 a0).toInt = (0 : Int) := o_eq h374
            refine ok_at o11 ?_
            refine ok_bind (k_X5_lowerBits L hN (a0 := b10) (x1 := (q_I d366 1 6 a0)) k12 i368) (fun r376 hr377 => ?_)
            obtain ⟨i378, p379⟩ := hr377
            try rw [i378]
            have f380 := ti_b (q_I d366 1 6 a0)
            have f381 : (q_I d366 1 6 a0).toInt = (q_I d352 1 6 a0).toInt := congrArg Int32.toInt (by rw [e367]; exact rI_o (by decide))
            have f382 := ti_b (q_I d352 1 6 a0)
            have f383 : (q_I d352 1 6 a0).toInt = (q_I d331 1 6 a0).toInt := congrArg Int32.toInt (by rw [e353]; exact rI_o (by decide))
            have f384 := ti_b (q_I d331 1 6 a0)
            have f385 : (q_I d331 1 6 a0).toInt = (q_I d313 1 6 a0).toInt := congrArg Int32.toInt (by rw [e332]; exact rI_o (by decide))
            have f386 := ti_b (q_I d313 1 6 a0)
            have f387 : (q_I d313 1 6 a0).toInt = (q_I δ 1 6 a0).toInt := congrArg Int32.toInt (by rw [e314]; exact rI_o (by decide))
            have f388 := ti_b r376.1
            have f389 := ti_b r376.1
            refine ok_bdv (fun d390 e391 => ?_)
            have i392 : CI ad h.1 δ0 d390 := by rw [e391]; exact cs_1_7 L i368
            have u393 := kp_I u369 e391
            have v394 : q_V d390 = q_V δ := ((show q_V d390 = q_V d366 by rw [e391]; rfl)).trans v370
            have v395 : q_R d390 = q_R δ := ((show q_R d390 = q_R d366 by rw [e391]; rfl)).trans v371
            have f398 := ti_b (q_I d390 1 3 a0)
            have f399 : (q_I d390 1 3 a0).toInt = (q_I d366 1 3 a0).toInt := congrArg Int32.toInt (by rw [e391]; exact rI_o (by decide))
            have f400 := ti_b (q_I d366 1 3 a0)
            have f401 : (q_I d366 1 3 a0).toInt = (q_I d352 1 3 a0).toInt := congrArg Int32.toInt (by rw [e367]; exact rI_o (by decide))
            have f402 := ti_b (q_I d352 1 3 a0)
            have f403 : (q_I d352 1 3 a0).toInt = (q_I d331 1 3 a0).toInt := congrArg Int32.toInt (by rw [e353]; exact rI_o (by decide))
            have f404 := ti_b (q_I d331 1 3 a0)
            have f405 : (q_I d331 1 3 a0).toInt = (q_I d313 1 3 a0).toInt := congrArg Int32.toInt (by rw [e332]; exact rI_o (by decide))
            first | (have q407 := te_addc (c := 1) (n := 1) rfl (q_I d390 1 3 a0) (by omega) (by omega); obtain ⟨f408, f409, f410⟩ := q407) | (obtain ⟨q407, f408, f409, f410⟩ := ti_addc (c := 1) (n := 1) rfl (q_I d390 1 3 a0))
            have f411 := ti_b (q_I d390 1 4 a0)
            have f412 : (q_I d390 1 4 a0).toInt = (q_I d366 1 4 a0).toInt := congrArg Int32.toInt (by rw [e391]; exact rI_o (by decide))
            have f413 := ti_b (q_I d366 1 4 a0)
            have f414 : (q_I d366 1 4 a0).toInt = (q_I d352 1 4 a0).toInt := congrArg Int32.toInt (by rw [e367]; exact rI_o (by decide))
            have f415 := ti_b (q_I d352 1 4 a0)
            have f416 : (q_I d352 1 4 a0).toInt = (q_I d331 1 4 a0).toInt := congrArg Int32.toInt (by rw [e353]; exact rI_o (by decide))
            have f417 := cb_3_1 i392 knu o4
            have f418 : (q_I d390 3 1 nu).toInt = (q_I d366 3 1 nu).toInt := congrArg Int32.toInt (by rw [e391]; exact rI_o (by decide))
            have f419 := cb_3_1 i368 knu o4
            have f420 : (q_I d366 3 1 nu).toInt = (q_I d352 3 1 nu).toInt := congrArg Int32.toInt (by rw [e367]; exact rI_o (by decide))
            have f421 := cb_3_1 i354 knu o4
            have f422 : (q_I d352 3 1 nu).toInt = (q_I d331 3 1 nu).toInt := congrArg Int32.toInt (by rw [e353]; exact rI_o (by decide))
            refine ok_bind (k_X1_firstFrom L hN (a0 := a0) (x1 := ((q_I d390 1 3 a0) + (1 : Int32))) (x2 := (q_I d390 1 4 a0)) (x3 := ((q_I d390 1 9 a0) + (1 : Int32))) k_a0 hnu knu (show 0 ≤ (((q_I d390 1 3 a0) + (1 : Int32))).toInt by first | assumption | omega) (show (((q_I d390 1 3 a0) + (1 : Int32))).toInt ≤ ((q_I d390 1 4 a0)).toInt by first | assumption | omega) (show ((q_I d390 1 4 a0)).toInt ≤ (q_I d390 3 1 nu).toInt by first | assumption | omega) i392) (fun r396 hr397 => ?_)
            obtain ⟨i423, p424, p425⟩ := hr397
            try rw [i423]
            have f426 := ti_b r396.1
            have f427 := ti_b r396.1
            refine ok_bdv (fun d428 e429 => ?_)
            have i430 : CI ad h.1 δ0 d428 := by rw [e429]; exact cs_1_11 L i392
            have u431 := kp_I u393 e429
            have v432 : q_V d428 = q_V δ := ((show q_V d428 = q_V d390 by rw [e429]; rfl)).trans v394
            have v433 : q_R d428 = q_R δ := ((show q_R d428 = q_R d390 by rw [e429]; rfl)).trans v395
            have f436 := ti_b (q_I d428 1 11 a0)
            have f437 : (q_I d428 1 11 a0).toInt = r396.1.toInt := congrArg Int32.toInt (show q_I d428 1 11 a0 = r396.1 by rw [e429]; exact rI_s)
            have f438 := ti_b (q_I d428 1 4 a0)
            have f439 : (q_I d428 1 4 a0).toInt = (q_I d390 1 4 a0).toInt := congrArg Int32.toInt (by rw [e429]; exact rI_o (by decide))
            have f440 := cb_3_1 i430 knu o4
            have f441 : (q_I d428 3 1 nu).toInt = (q_I d390 3 1 nu).toInt := congrArg Int32.toInt (by rw [e429]; exact rI_o (by decide))
            refine ok_bind (k_X1_firstFrom L hN (a0 := a0) (x1 := (q_I d428 1 11 a0)) (x2 := (q_I d428 1 4 a0)) (x3 := (q_I d428 1 10 a0)) k_a0 hnu knu (show 0 ≤ ((q_I d428 1 11 a0)).toInt by first | assumption | omega) (show ((q_I d428 1 11 a0)).toInt ≤ ((q_I d428 1 4 a0)).toInt by first | assumption | omega) (show ((q_I d428 1 4 a0)).toInt ≤ (q_I d428 3 1 nu).toInt by first | assumption | omega) i430) (fun r434 hr435 => ?_)
            obtain ⟨i442, p443, p444⟩ := hr435
            try rw [i442]
            have f445 := ti_b r434.1
            have f446 := ti_b r434.1
            refine ok_bdv (fun d447 e448 => ?_)
            have i449 : CI ad h.1 δ0 d447 := by rw [e448]; exact cs_1_12 L i430
            have u450 := kp_I u431 e448
            have v451 : q_V d447 = q_V δ := ((show q_V d447 = q_V d428 by rw [e448]; rfl)).trans v432
            have v452 : q_R d447 = q_R δ := ((show q_R d447 = q_R d428 by rw [e448]; rfl)).trans v433
            unfold J_X1_look_154
            have f453 := cb_1_15 i449 k_a0
            have f454 : (q_I d447 1 15 a0).toInt = (q_I d428 1 15 a0).toInt := congrArg Int32.toInt (by rw [e448]; exact rI_o (by decide))
            have f455 := cb_1_15 i430 k_a0
            have f456 : (q_I d428 1 15 a0).toInt = (q_I d390 1 15 a0).toInt := congrArg Int32.toInt (by rw [e429]; exact rI_o (by decide))
            have f457 := cb_1_15 i392 k_a0
            have f458 : (q_I d390 1 15 a0).toInt = (q_I d366 1 15 a0).toInt := congrArg Int32.toInt (by rw [e391]; exact rI_o (by decide))
            have f459 := ti_b (q_I d447 1 11 a0)
            have f460 : (q_I d447 1 11 a0).toInt = (q_I d428 1 11 a0).toInt := congrArg Int32.toInt (by rw [e448]; exact rI_o (by decide))
            have f461 := ti_b (q_I d447 1 12 a0)
            have f462 : (q_I d447 1 12 a0).toInt = r434.1.toInt := congrArg Int32.toInt (show q_I d447 1 12 a0 = r434.1 by rw [e448]; exact rI_s)
            exact ok_some (show CI ad h.1 δ0 d447 ∧ (kp [(1, 7), (1, 9), (1, 10), (1, 11), (1, 12), (1, 15)] δ d447 ∧ q_V d447 = q_V δ ∧ q_R d447 = q_R δ) ∧ ((q_I d447 1 15 a0).toInt = 0 → 0 ≤ (q_I d447 1 11 a0).toInt ∧ (q_I d447 1 11 a0).toInt ≤ (q_I d447 1 12 a0).toInt ∧ (q_I d447 1 12 a0).toInt ≤ (q_I δ 3 1 nu).toInt) from ⟨i449, ⟨kp_w (by decide) u450, v451, v452⟩, by first | assumption | omega⟩)
          · have c463 : (q_I d366 1 15 a0).toInt ≠ (0 : Int) := o_ne h374
            unfold J_X1_look_154
            have f464 := ti_b (q_I d366 1 11 a0)
            have f465 : (q_I d366 1 11 a0).toInt = (q_I d352 1 11 a0).toInt := congrArg Int32.toInt (by rw [e367]; exact rI_o (by decide))
            have f466 := ti_b (q_I d352 1 11 a0)
            have f467 : (q_I d352 1 11 a0).toInt = (q_I d331 1 11 a0).toInt := congrArg Int32.toInt (by rw [e353]; exact rI_o (by decide))
            have f468 := ti_b (q_I d331 1 11 a0)
            have f469 : (q_I d331 1 11 a0).toInt = (q_I d313 1 11 a0).toInt := congrArg Int32.toInt (by rw [e332]; exact rI_o (by decide))
            have f470 := ti_b (q_I d313 1 11 a0)
            have f471 : (q_I d313 1 11 a0).toInt = (q_I δ 1 11 a0).toInt := congrArg Int32.toInt (by rw [e314]; exact rI_o (by decide))
            have f472 := ti_b (q_I δ 1 11 a0)
            have f473 := ti_b (q_I d366 1 12 a0)
            have f474 : (q_I d366 1 12 a0).toInt = (q_I d352 1 12 a0).toInt := congrArg Int32.toInt (by rw [e367]; exact rI_o (by decide))
            have f475 := ti_b (q_I d352 1 12 a0)
            have f476 : (q_I d352 1 12 a0).toInt = (q_I d331 1 12 a0).toInt := congrArg Int32.toInt (by rw [e353]; exact rI_o (by decide))
            have f477 := ti_b (q_I d331 1 12 a0)
            have f478 : (q_I d331 1 12 a0).toInt = (q_I d313 1 12 a0).toInt := congrArg Int32.toInt (by rw [e332]; exact rI_o (by decide))
            have f479 := ti_b (q_I d313 1 12 a0)
            have f480 : (q_I d313 1 12 a0).toInt = (q_I δ 1 12 a0).toInt := congrArg Int32.toInt (by rw [e314]; exact rI_o (by decide))
            have f481 := ti_b (q_I δ 1 12 a0)
            exact ok_some (show CI ad h.1 δ0 d366 ∧ (kp [(1, 7), (1, 9), (1, 10), (1, 11), (1, 12), (1, 15)] δ d366 ∧ q_V d366 = q_V δ ∧ q_R d366 = q_R δ) ∧ ((q_I d366 1 15 a0).toInt = 0 → 0 ≤ (q_I d366 1 11 a0).toInt ∧ (q_I d366 1 11 a0).toInt ≤ (q_I d366 1 12 a0).toInt ∧ (q_I d366 1 12 a0).toInt ≤ (q_I δ 3 1 nu).toInt) from ⟨i368, ⟨kp_w (by decide) u369, v370, v371⟩, by first | assumption | omega⟩)
        · have c482 : (q_I d352 1 9 a0).toInt ≠ (q_I d352 1 10 a0).toInt := o_ne h364
          unfold J_X1_look_85
          refine ok_gp (by decide) ?_
          refine ok_bdv (fun d483 e484 => ?_)
          have i485 : CI ad h.1 δ0 d483 := by rw [e484]; exact cs_1_15 L i354 k_a0 (show 0 ≤ (0 : Int) by omega) (show (0 : Int) ≤ 1 by omega)
          have u486 := kp_I u355 e484
          have v487 : q_V d483 = q_V δ := ((show q_V d483 = q_V d352 by rw [e484]; rfl)).trans v356
          have v488 : q_R d483 = q_R δ := ((show q_R d483 = q_R d352 by rw [e484]; rfl)).trans v357
          have f489 := cb_1_15 i485 k_a0
          have f490 : (q_I d483 1 15 a0).toInt = (0 : Int) := congrArg Int32.toInt (show q_I d483 1 15 a0 = (0 : Int32) by rw [e484]; exact rI_s)
          refine ok_ite (fun h491 => ?_) (fun h491 => ?_)
          · have c492 : (q_I d483 1 15 a0).toInt = (0 : Int) := o_eq h491
            refine ok_at o11 ?_
            refine ok_bind (k_X5_lowerBits L hN (a0 := b10) (x1 := (q_I d483 1 6 a0)) k12 i485) (fun r493 hr494 => ?_)
            obtain ⟨i495, p496⟩ := hr494
            try rw [i495]
            have f497 := ti_b (q_I d483 1 6 a0)
            have f498 : (q_I d483 1 6 a0).toInt = (q_I d352 1 6 a0).toInt := congrArg Int32.toInt (by rw [e484]; exact rI_o (by decide))
            have f499 := ti_b (q_I d352 1 6 a0)
            have f500 : (q_I d352 1 6 a0).toInt = (q_I d331 1 6 a0).toInt := congrArg Int32.toInt (by rw [e353]; exact rI_o (by decide))
            have f501 := ti_b (q_I d331 1 6 a0)
            have f502 : (q_I d331 1 6 a0).toInt = (q_I d313 1 6 a0).toInt := congrArg Int32.toInt (by rw [e332]; exact rI_o (by decide))
            have f503 := ti_b (q_I d313 1 6 a0)
            have f504 : (q_I d313 1 6 a0).toInt = (q_I δ 1 6 a0).toInt := congrArg Int32.toInt (by rw [e314]; exact rI_o (by decide))
            have f505 := ti_b r493.1
            have f506 := ti_b r493.1
            refine ok_bdv (fun d507 e508 => ?_)
            have i509 : CI ad h.1 δ0 d507 := by rw [e508]; exact cs_1_7 L i485
            have u510 := kp_I u486 e508
            have v511 : q_V d507 = q_V δ := ((show q_V d507 = q_V d483 by rw [e508]; rfl)).trans v487
            have v512 : q_R d507 = q_R δ := ((show q_R d507 = q_R d483 by rw [e508]; rfl)).trans v488
            have f515 := ti_b (q_I d507 1 3 a0)
            have f516 : (q_I d507 1 3 a0).toInt = (q_I d483 1 3 a0).toInt := congrArg Int32.toInt (by rw [e508]; exact rI_o (by decide))
            have f517 := ti_b (q_I d483 1 3 a0)
            have f518 : (q_I d483 1 3 a0).toInt = (q_I d352 1 3 a0).toInt := congrArg Int32.toInt (by rw [e484]; exact rI_o (by decide))
            have f519 := ti_b (q_I d352 1 3 a0)
            have f520 : (q_I d352 1 3 a0).toInt = (q_I d331 1 3 a0).toInt := congrArg Int32.toInt (by rw [e353]; exact rI_o (by decide))
            have f521 := ti_b (q_I d331 1 3 a0)
            have f522 : (q_I d331 1 3 a0).toInt = (q_I d313 1 3 a0).toInt := congrArg Int32.toInt (by rw [e332]; exact rI_o (by decide))
            first | (have q524 := te_addc (c := 1) (n := 1) rfl (q_I d507 1 3 a0) (by omega) (by omega); obtain ⟨f525, f526, f527⟩ := q524) | (obtain ⟨q524, f525, f526, f527⟩ := ti_addc (c := 1) (n := 1) rfl (q_I d507 1 3 a0))
            have f528 := ti_b (q_I d507 1 4 a0)
            have f529 : (q_I d507 1 4 a0).toInt = (q_I d483 1 4 a0).toInt := congrArg Int32.toInt (by rw [e508]; exact rI_o (by decide))
            have f530 := ti_b (q_I d483 1 4 a0)
            have f531 : (q_I d483 1 4 a0).toInt = (q_I d352 1 4 a0).toInt := congrArg Int32.toInt (by rw [e484]; exact rI_o (by decide))
            have f532 := ti_b (q_I d352 1 4 a0)
            have f533 : (q_I d352 1 4 a0).toInt = (q_I d331 1 4 a0).toInt := congrArg Int32.toInt (by rw [e353]; exact rI_o (by decide))
            have f534 := cb_3_1 i509 knu o4
            have f535 : (q_I d507 3 1 nu).toInt = (q_I d483 3 1 nu).toInt := congrArg Int32.toInt (by rw [e508]; exact rI_o (by decide))
            have f536 := cb_3_1 i485 knu o4
            have f537 : (q_I d483 3 1 nu).toInt = (q_I d352 3 1 nu).toInt := congrArg Int32.toInt (by rw [e484]; exact rI_o (by decide))
            have f538 := cb_3_1 i354 knu o4
            have f539 : (q_I d352 3 1 nu).toInt = (q_I d331 3 1 nu).toInt := congrArg Int32.toInt (by rw [e353]; exact rI_o (by decide))
            refine ok_bind (k_X1_firstFrom L hN (a0 := a0) (x1 := ((q_I d507 1 3 a0) + (1 : Int32))) (x2 := (q_I d507 1 4 a0)) (x3 := ((q_I d507 1 9 a0) + (1 : Int32))) k_a0 hnu knu (show 0 ≤ (((q_I d507 1 3 a0) + (1 : Int32))).toInt by first | assumption | omega) (show (((q_I d507 1 3 a0) + (1 : Int32))).toInt ≤ ((q_I d507 1 4 a0)).toInt by first | assumption | omega) (show ((q_I d507 1 4 a0)).toInt ≤ (q_I d507 3 1 nu).toInt by first | assumption | omega) i509) (fun r513 hr514 => ?_)
            obtain ⟨i540, p541, p542⟩ := hr514
            try rw [i540]
            have f543 := ti_b r513.1
            have f544 := ti_b r513.1
            refine ok_bdv (fun d545 e546 => ?_)
            have i547 : CI ad h.1 δ0 d545 := by rw [e546]; exact cs_1_11 L i509
            have u548 := kp_I u510 e546
            have v549 : q_V d545 = q_V δ := ((show q_V d545 = q_V d507 by rw [e546]; rfl)).trans v511
            have v550 : q_R d545 = q_R δ := ((show q_R d545 = q_R d507 by rw [e546]; rfl)).trans v512
            have f553 := ti_b (q_I d545 1 11 a0)
            have f554 : (q_I d545 1 11 a0).toInt = r513.1.toInt := congrArg Int32.toInt (show q_I d545 1 11 a0 = r513.1 by rw [e546]; exact rI_s)
            have f555 := ti_b (q_I d545 1 4 a0)
            have f556 : (q_I d545 1 4 a0).toInt = (q_I d507 1 4 a0).toInt := congrArg Int32.toInt (by rw [e546]; exact rI_o (by decide))
            have f557 := cb_3_1 i547 knu o4
            have f558 : (q_I d545 3 1 nu).toInt = (q_I d507 3 1 nu).toInt := congrArg Int32.toInt (by rw [e546]; exact rI_o (by decide))
            refine ok_bind (k_X1_firstFrom L hN (a0 := a0) (x1 := (q_I d545 1 11 a0)) (x2 := (q_I d545 1 4 a0)) (x3 := (q_I d545 1 10 a0)) k_a0 hnu knu (show 0 ≤ ((q_I d545 1 11 a0)).toInt by first | assumption | omega) (show ((q_I d545 1 11 a0)).toInt ≤ ((q_I d545 1 4 a0)).toInt by first | assumption | omega) (show ((q_I d545 1 4 a0)).toInt ≤ (q_I d545 3 1 nu).toInt by first | assumption | omega) i547) (fun r551 hr552 => ?_)
            obtain ⟨i559, p560, p561⟩ := hr552
            try rw [i559]
            have f562 := ti_b r551.1
            have f563 := ti_b r551.1
            refine ok_bdv (fun d564 e565 => ?_)
            have i566 : CI ad h.1 δ0 d564 := by rw [e565]; exact cs_1_12 L i547
            have u567 := kp_I u548 e565
            have v568 : q_V d564 = q_V δ := ((show q_V d564 = q_V d545 by rw [e565]; rfl)).trans v549
            have v569 : q_R d564 = q_R δ := ((show q_R d564 = q_R d545 by rw [e565]; rfl)).trans v550
            unfold J_X1_look_154
            have f570 := cb_1_15 i566 k_a0
            have f571 : (q_I d564 1 15 a0).toInt = (q_I d545 1 15 a0).toInt := congrArg Int32.toInt (by rw [e565]; exact rI_o (by decide))
            have f572 := cb_1_15 i547 k_a0
            have f573 : (q_I d545 1 15 a0).toInt = (q_I d507 1 15 a0).toInt := congrArg Int32.toInt (by rw [e546]; exact rI_o (by decide))
            have f574 := cb_1_15 i509 k_a0
            have f575 : (q_I d507 1 15 a0).toInt = (q_I d483 1 15 a0).toInt := congrArg Int32.toInt (by rw [e508]; exact rI_o (by decide))
            have f576 := ti_b (q_I d564 1 11 a0)
            have f577 : (q_I d564 1 11 a0).toInt = (q_I d545 1 11 a0).toInt := congrArg Int32.toInt (by rw [e565]; exact rI_o (by decide))
            have f578 := ti_b (q_I d564 1 12 a0)
            have f579 : (q_I d564 1 12 a0).toInt = r551.1.toInt := congrArg Int32.toInt (show q_I d564 1 12 a0 = r551.1 by rw [e565]; exact rI_s)
            exact ok_some (show CI ad h.1 δ0 d564 ∧ (kp [(1, 7), (1, 9), (1, 10), (1, 11), (1, 12), (1, 15)] δ d564 ∧ q_V d564 = q_V δ ∧ q_R d564 = q_R δ) ∧ ((q_I d564 1 15 a0).toInt = 0 → 0 ≤ (q_I d564 1 11 a0).toInt ∧ (q_I d564 1 11 a0).toInt ≤ (q_I d564 1 12 a0).toInt ∧ (q_I d564 1 12 a0).toInt ≤ (q_I δ 3 1 nu).toInt) from ⟨i566, ⟨kp_w (by decide) u567, v568, v569⟩, by first | assumption | omega⟩)
          · have c580 : (q_I d483 1 15 a0).toInt ≠ (0 : Int) := o_ne h491
            unfold J_X1_look_154
            have f581 := ti_b (q_I d483 1 11 a0)
            have f582 : (q_I d483 1 11 a0).toInt = (q_I d352 1 11 a0).toInt := congrArg Int32.toInt (by rw [e484]; exact rI_o (by decide))
            have f583 := ti_b (q_I d352 1 11 a0)
            have f584 : (q_I d352 1 11 a0).toInt = (q_I d331 1 11 a0).toInt := congrArg Int32.toInt (by rw [e353]; exact rI_o (by decide))
            have f585 := ti_b (q_I d331 1 11 a0)
            have f586 : (q_I d331 1 11 a0).toInt = (q_I d313 1 11 a0).toInt := congrArg Int32.toInt (by rw [e332]; exact rI_o (by decide))
            have f587 := ti_b (q_I d313 1 11 a0)
            have f588 : (q_I d313 1 11 a0).toInt = (q_I δ 1 11 a0).toInt := congrArg Int32.toInt (by rw [e314]; exact rI_o (by decide))
            have f589 := ti_b (q_I δ 1 11 a0)
            have f590 := ti_b (q_I d483 1 12 a0)
            have f591 : (q_I d483 1 12 a0).toInt = (q_I d352 1 12 a0).toInt := congrArg Int32.toInt (by rw [e484]; exact rI_o (by decide))
            have f592 := ti_b (q_I d352 1 12 a0)
            have f593 : (q_I d352 1 12 a0).toInt = (q_I d331 1 12 a0).toInt := congrArg Int32.toInt (by rw [e353]; exact rI_o (by decide))
            have f594 := ti_b (q_I d331 1 12 a0)
            have f595 : (q_I d331 1 12 a0).toInt = (q_I d313 1 12 a0).toInt := congrArg Int32.toInt (by rw [e332]; exact rI_o (by decide))
            have f596 := ti_b (q_I d313 1 12 a0)
            have f597 : (q_I d313 1 12 a0).toInt = (q_I δ 1 12 a0).toInt := congrArg Int32.toInt (by rw [e314]; exact rI_o (by decide))
            have f598 := ti_b (q_I δ 1 12 a0)
            exact ok_some (show CI ad h.1 δ0 d483 ∧ (kp [(1, 7), (1, 9), (1, 10), (1, 11), (1, 12), (1, 15)] δ d483 ∧ q_V d483 = q_V δ ∧ q_R d483 = q_R δ) ∧ ((q_I d483 1 15 a0).toInt = 0 → 0 ≤ (q_I d483 1 11 a0).toInt ∧ (q_I d483 1 11 a0).toInt ≤ (q_I d483 1 12 a0).toInt ∧ (q_I d483 1 12 a0).toInt ≤ (q_I δ 3 1 nu).toInt) from ⟨i485, ⟨kp_w (by decide) u486, v487, v488⟩, by first | assumption | omega⟩)
      · have c599 : (q_I d313 1 15 a0).toInt ≠ (0 : Int) := o_ne h321
        have f600 := ti_b (q_I d313 1 11 a0)
        have f601 : (q_I d313 1 11 a0).toInt = (q_I δ 1 11 a0).toInt := congrArg Int32.toInt (by rw [e314]; exact rI_o (by decide))
        have f602 := ti_b (q_I δ 1 11 a0)
        have f603 := ti_b (q_I d313 1 12 a0)
        have f604 : (q_I d313 1 12 a0).toInt = (q_I δ 1 12 a0).toInt := congrArg Int32.toInt (by rw [e314]; exact rI_o (by decide))
        have f605 := ti_b (q_I δ 1 12 a0)
        exact ok_some (show CI ad h.1 δ0 d313 ∧ (kp [(1, 7), (1, 9), (1, 10), (1, 11), (1, 12), (1, 15)] δ d313 ∧ q_V d313 = q_V δ ∧ q_R d313 = q_R δ) ∧ ((q_I d313 1 15 a0).toInt = 0 → 0 ≤ (q_I d313 1 11 a0).toInt ∧ (q_I d313 1 11 a0).toInt ≤ (q_I d313 1 12 a0).toInt ∧ (q_I d313 1 12 a0).toInt ≤ (q_I δ 3 1 nu).toInt) from ⟨i315, ⟨kp_w (by decide) u316, v317, v318⟩, by first | assumption | omega⟩)
    · have c606 : (q_I δ 1 4 a0).toInt ≤ (q_I δ 1 3 a0).toInt := o_nlt h311
      unfold J_X1_look_26
      unfold J_X1_look_31
      refine ok_gp (by decide) ?_
      refine ok_bdv (fun d607 e608 => ?_)
      have i609 : CI ad h.1 δ0 d607 := by rw [e608]; exact cs_1_15 L I k_a0 (show 0 ≤ (1 : Int) by omega) (show (1 : Int) ≤ 1 by omega)
      have u610 := kp_I kp_r e608
      have v611 : q_V d607 = q_V δ := ((show q_V d607 = q_V δ by rw [e608]; rfl)).trans rfl
      have v612 : q_R d607 = q_R δ := ((show q_R d607 = q_R δ by rw [e608]; rfl)).trans rfl
      have f613 := cb_1_15 i609 k_a0
      have f614 : (q_I d607 1 15 a0).toInt = (1 : Int) := congrArg Int32.toInt (show q_I d607 1 15 a0 = (1 : Int32) by rw [e608]; exact rI_s)
      refine ok_ite (fun h615 => ?_) (fun h615 => ?_)
      · have c616 : (q_I d607 1 15 a0).toInt = (0 : Int) := o_eq h615
        have f619 := ti_b (q_I d607 1 3 a0)
        have f620 : (q_I d607 1 3 a0).toInt = (q_I δ 1 3 a0).toInt := congrArg Int32.toInt (by rw [e608]; exact rI_o (by decide))
        have f621 := cb_3_1 i609 knu o4
        have f622 : (q_I d607 3 1 nu).toInt = (q_I δ 3 1 nu).toInt := congrArg Int32.toInt (by rw [e608]; exact rI_o (by decide))
        refine ok_bind (k_X1_valueAt L hN (a0 := a0) (x1 := (q_I d607 1 3 a0)) k_a0 hnu knu (show 0 ≤ ((q_I d607 1 3 a0)).toInt by first | assumption | omega) (show ((q_I d607 1 3 a0)).toInt < (q_I d607 3 1 nu).toInt by first | assumption | omega) i609) (fun r617 hr618 => ?_)
        have i623 := hr618
        try rw [i623]
        have f624 := ti_b r617.1
        refine ok_bdv (fun d625 e626 => ?_)
        have i627 : CI ad h.1 δ0 d625 := by rw [e626]; exact cs_1_9 L i609
        have u628 := kp_I u610 e626
        have v629 : q_V d625 = q_V δ := ((show q_V d625 = q_V d607 by rw [e626]; rfl)).trans v611
        have v630 : q_R d625 = q_R δ := ((show q_R d625 = q_R d607 by rw [e626]; rfl)).trans v612
        have f633 := ti_b (q_I d625 1 4 a0)
        have f634 : (q_I d625 1 4 a0).toInt = (q_I d607 1 4 a0).toInt := congrArg Int32.toInt (by rw [e626]; exact rI_o (by decide))
        have f635 := ti_b (q_I d607 1 4 a0)
        have f636 : (q_I d607 1 4 a0).toInt = (q_I δ 1 4 a0).toInt := congrArg Int32.toInt (by rw [e608]; exact rI_o (by decide))
        first | (have q638 := te_subc (c := 1) (n := 1) rfl (q_I d625 1 4 a0) (by omega) (by omega); obtain ⟨f639, f640, f641⟩ := q638) | (obtain ⟨q638, f639, f640, f641⟩ := ti_subc (c := 1) (n := 1) rfl (q_I d625 1 4 a0))
        have f642 := cb_3_1 i627 knu o4
        have f643 : (q_I d625 3 1 nu).toInt = (q_I d607 3 1 nu).toInt := congrArg Int32.toInt (by rw [e626]; exact rI_o (by decide))
        refine ok_bind (k_X1_valueAt L hN (a0 := a0) (x1 := ((q_I d625 1 4 a0) - (1 : Int32))) k_a0 hnu knu (show 0 ≤ (((q_I d625 1 4 a0) - (1 : Int32))).toInt by first | assumption | omega) (show (((q_I d625 1 4 a0) - (1 : Int32))).toInt < (q_I d625 3 1 nu).toInt by first | assumption | omega) i627) (fun r631 hr632 => ?_)
        have i644 := hr632
        try rw [i644]
        have f645 := ti_b r631.1
        refine ok_bdv (fun d646 e647 => ?_)
        have i648 : CI ad h.1 δ0 d646 := by rw [e647]; exact cs_1_10 L i627
        have u649 := kp_I u628 e647
        have v650 : q_V d646 = q_V δ := ((show q_V d646 = q_V d625 by rw [e647]; rfl)).trans v629
        have v651 : q_R d646 = q_R δ := ((show q_R d646 = q_R d625 by rw [e647]; rfl)).trans v630
        have f652 := ti_b (q_I d646 1 9 a0)
        have f653 : (q_I d646 1 9 a0).toInt = (q_I d625 1 9 a0).toInt := congrArg Int32.toInt (by rw [e647]; exact rI_o (by decide))
        have f654 := ti_b (q_I d625 1 9 a0)
        have f655 : (q_I d625 1 9 a0).toInt = r617.1.toInt := congrArg Int32.toInt (show q_I d625 1 9 a0 = r617.1 by rw [e626]; exact rI_s)
        have f656 := ti_b (q_I d646 1 10 a0)
        have f657 : (q_I d646 1 10 a0).toInt = r631.1.toInt := congrArg Int32.toInt (show q_I d646 1 10 a0 = r631.1 by rw [e647]; exact rI_s)
        refine ok_ite (fun h658 => ?_) (fun h658 => ?_)
        · have c659 : (q_I d646 1 9 a0).toInt = (q_I d646 1 10 a0).toInt := o_eq h658
          unfold J_X1_look_85
          refine ok_gp (by decide) ?_
          refine ok_bdv (fun d660 e661 => ?_)
          have i662 : CI ad h.1 δ0 d660 := by rw [e661]; exact cs_1_15 L i648 k_a0 (show 0 ≤ (1 : Int) by omega) (show (1 : Int) ≤ 1 by omega)
          have u663 := kp_I u649 e661
          have v664 : q_V d660 = q_V δ := ((show q_V d660 = q_V d646 by rw [e661]; rfl)).trans v650
          have v665 : q_R d660 = q_R δ := ((show q_R d660 = q_R d646 by rw [e661]; rfl)).trans v651
          have f666 := cb_1_15 i662 k_a0
          have f667 : (q_I d660 1 15 a0).toInt = (1 : Int) := congrArg Int32.toInt (show q_I d660 1 15 a0 = (1 : Int32) by rw [e661]; exact rI_s)
          refine ok_ite (fun h668 => ?_) (fun h668 => ?_)
          · have c669 : (q_I d660 1 15 a0).toInt = (0 : Int) := o_eq h668
            refine ok_at o11 ?_
            refine ok_bind (k_X5_lowerBits L hN (a0 := b10) (x1 := (q_I d660 1 6 a0)) k12 i662) (fun r670 hr671 => ?_)
            obtain ⟨i672, p673⟩ := hr671
            try rw [i672]
            have f674 := ti_b (q_I d660 1 6 a0)
            have f675 : (q_I d660 1 6 a0).toInt = (q_I d646 1 6 a0).toInt := congrArg Int32.toInt (by rw [e661]; exact rI_o (by decide))
            have f676 := ti_b (q_I d646 1 6 a0)
            have f677 : (q_I d646 1 6 a0).toInt = (q_I d625 1 6 a0).toInt := congrArg Int32.toInt (by rw [e647]; exact rI_o (by decide))
            have f678 := ti_b (q_I d625 1 6 a0)
            have f679 : (q_I d625 1 6 a0).toInt = (q_I d607 1 6 a0).toInt := congrArg Int32.toInt (by rw [e626]; exact rI_o (by decide))
            have f680 := ti_b (q_I d607 1 6 a0)
            have f681 : (q_I d607 1 6 a0).toInt = (q_I δ 1 6 a0).toInt := congrArg Int32.toInt (by rw [e608]; exact rI_o (by decide))
            have f682 := ti_b r670.1
            have f683 := ti_b r670.1
            refine ok_bdv (fun d684 e685 => ?_)
            have i686 : CI ad h.1 δ0 d684 := by rw [e685]; exact cs_1_7 L i662
            have u687 := kp_I u663 e685
            have v688 : q_V d684 = q_V δ := ((show q_V d684 = q_V d660 by rw [e685]; rfl)).trans v664
            have v689 : q_R d684 = q_R δ := ((show q_R d684 = q_R d660 by rw [e685]; rfl)).trans v665
            have f692 := ti_b (q_I d684 1 3 a0)
            have f693 : (q_I d684 1 3 a0).toInt = (q_I d660 1 3 a0).toInt := congrArg Int32.toInt (by rw [e685]; exact rI_o (by decide))
            have f694 := ti_b (q_I d660 1 3 a0)
            have f695 : (q_I d660 1 3 a0).toInt = (q_I d646 1 3 a0).toInt := congrArg Int32.toInt (by rw [e661]; exact rI_o (by decide))
            have f696 := ti_b (q_I d646 1 3 a0)
            have f697 : (q_I d646 1 3 a0).toInt = (q_I d625 1 3 a0).toInt := congrArg Int32.toInt (by rw [e647]; exact rI_o (by decide))
            have f698 := ti_b (q_I d625 1 3 a0)
            have f699 : (q_I d625 1 3 a0).toInt = (q_I d607 1 3 a0).toInt := congrArg Int32.toInt (by rw [e626]; exact rI_o (by decide))
            first | (have q701 := te_addc (c := 1) (n := 1) rfl (q_I d684 1 3 a0) (by omega) (by omega); obtain ⟨f702, f703, f704⟩ := q701) | (obtain ⟨q701, f702, f703, f704⟩ := ti_addc (c := 1) (n := 1) rfl (q_I d684 1 3 a0))
            have f705 := ti_b (q_I d684 1 4 a0)
            have f706 : (q_I d684 1 4 a0).toInt = (q_I d660 1 4 a0).toInt := congrArg Int32.toInt (by rw [e685]; exact rI_o (by decide))
            have f707 := ti_b (q_I d660 1 4 a0)
            have f708 : (q_I d660 1 4 a0).toInt = (q_I d646 1 4 a0).toInt := congrArg Int32.toInt (by rw [e661]; exact rI_o (by decide))
            have f709 := ti_b (q_I d646 1 4 a0)
            have f710 : (q_I d646 1 4 a0).toInt = (q_I d625 1 4 a0).toInt := congrArg Int32.toInt (by rw [e647]; exact rI_o (by decide))
            have f711 := cb_3_1 i686 knu o4
            have f712 : (q_I d684 3 1 nu).toInt = (q_I d660 3 1 nu).toInt := congrArg Int32.toInt (by rw [e685]; exact rI_o (by decide))
            have f713 := cb_3_1 i662 knu o4
            have f714 : (q_I d660 3 1 nu).toInt = (q_I d646 3 1 nu).toInt := congrArg Int32.toInt (by rw [e661]; exact rI_o (by decide))
            have f715 := cb_3_1 i648 knu o4
            have f716 : (q_I d646 3 1 nu).toInt = (q_I d625 3 1 nu).toInt := congrArg Int32.toInt (by rw [e647]; exact rI_o (by decide))
            refine ok_bind (k_X1_firstFrom L hN (a0 := a0) (x1 := ((q_I d684 1 3 a0) + (1 : Int32))) (x2 := (q_I d684 1 4 a0)) (x3 := ((q_I d684 1 9 a0) + (1 : Int32))) k_a0 hnu knu (show 0 ≤ (((q_I d684 1 3 a0) + (1 : Int32))).toInt by first | assumption | omega) (show (((q_I d684 1 3 a0) + (1 : Int32))).toInt ≤ ((q_I d684 1 4 a0)).toInt by first | assumption | omega) (show ((q_I d684 1 4 a0)).toInt ≤ (q_I d684 3 1 nu).toInt by first | assumption | omega) i686) (fun r690 hr691 => ?_)
            obtain ⟨i717, p718, p719⟩ := hr691
            try rw [i717]
            have f720 := ti_b r690.1
            have f721 := ti_b r690.1
            refine ok_bdv (fun d722 e723 => ?_)
            have i724 : CI ad h.1 δ0 d722 := by rw [e723]; exact cs_1_11 L i686
            have u725 := kp_I u687 e723
            have v726 : q_V d722 = q_V δ := ((show q_V d722 = q_V d684 by rw [e723]; rfl)).trans v688
            have v727 : q_R d722 = q_R δ := ((show q_R d722 = q_R d684 by rw [e723]; rfl)).trans v689
            have f730 := ti_b (q_I d722 1 11 a0)
            have f731 : (q_I d722 1 11 a0).toInt = r690.1.toInt := congrArg Int32.toInt (show q_I d722 1 11 a0 = r690.1 by rw [e723]; exact rI_s)
            have f732 := ti_b (q_I d722 1 4 a0)
            have f733 : (q_I d722 1 4 a0).toInt = (q_I d684 1 4 a0).toInt := congrArg Int32.toInt (by rw [e723]; exact rI_o (by decide))
            have f734 := cb_3_1 i724 knu o4
            have f735 : (q_I d722 3 1 nu).toInt = (q_I d684 3 1 nu).toInt := congrArg Int32.toInt (by rw [e723]; exact rI_o (by decide))
            refine ok_bind (k_X1_firstFrom L hN (a0 := a0) (x1 := (q_I d722 1 11 a0)) (x2 := (q_I d722 1 4 a0)) (x3 := (q_I d722 1 10 a0)) k_a0 hnu knu (show 0 ≤ ((q_I d722 1 11 a0)).toInt by first | assumption | omega) (show ((q_I d722 1 11 a0)).toInt ≤ ((q_I d722 1 4 a0)).toInt by first | assumption | omega) (show ((q_I d722 1 4 a0)).toInt ≤ (q_I d722 3 1 nu).toInt by first | assumption | omega) i724) (fun r728 hr729 => ?_)
            obtain ⟨i736, p737, p738⟩ := hr729
            try rw [i736]
            have f739 := ti_b r728.1
            have f740 := ti_b r728.1
            refine ok_bdv (fun d741 e742 => ?_)
            have i743 : CI ad h.1 δ0 d741 := by rw [e742]; exact cs_1_12 L i724
            have u744 := kp_I u725 e742
            have v745 : q_V d741 = q_V δ := ((show q_V d741 = q_V d722 by rw [e742]; rfl)).trans v726
            have v746 : q_R d741 = q_R δ := ((show q_R d741 = q_R d722 by rw [e742]; rfl)).trans v727
            unfold J_X1_look_154
            have f747 := cb_1_15 i743 k_a0
            have f748 : (q_I d741 1 15 a0).toInt = (q_I d722 1 15 a0).toInt := congrArg Int32.toInt (by rw [e742]; exact rI_o (by decide))
            have f749 := cb_1_15 i724 k_a0
            have f750 : (q_I d722 1 15 a0).toInt = (q_I d684 1 15 a0).toInt := congrArg Int32.toInt (by rw [e723]; exact rI_o (by decide))
            have f751 := cb_1_15 i686 k_a0
            have f752 : (q_I d684 1 15 a0).toInt = (q_I d660 1 15 a0).toInt := congrArg Int32.toInt (by rw [e685]; exact rI_o (by decide))
            have f753 := ti_b (q_I d741 1 11 a0)
            have f754 : (q_I d741 1 11 a0).toInt = (q_I d722 1 11 a0).toInt := congrArg Int32.toInt (by rw [e742]; exact rI_o (by decide))
            have f755 := ti_b (q_I d741 1 12 a0)
            have f756 : (q_I d741 1 12 a0).toInt = r728.1.toInt := congrArg Int32.toInt (show q_I d741 1 12 a0 = r728.1 by rw [e742]; exact rI_s)
            exact ok_some (show CI ad h.1 δ0 d741 ∧ (kp [(1, 7), (1, 9), (1, 10), (1, 11), (1, 12), (1, 15)] δ d741 ∧ q_V d741 = q_V δ ∧ q_R d741 = q_R δ) ∧ ((q_I d741 1 15 a0).toInt = 0 → 0 ≤ (q_I d741 1 11 a0).toInt ∧ (q_I d741 1 11 a0).toInt ≤ (q_I d741 1 12 a0).toInt ∧ (q_I d741 1 12 a0).toInt ≤ (q_I δ 3 1 nu).toInt) from ⟨i743, ⟨kp_w (by decide) u744, v745, v746⟩, by first | assumption | omega⟩)
          · have c757 : (q_I d660 1 15 a0).toInt ≠ (0 : Int) := o_ne h668
            unfold J_X1_look_154
            have f758 := ti_b (q_I d660 1 11 a0)
            have f759 : (q_I d660 1 11 a0).toInt = (q_I d646 1 11 a0).toInt := congrArg Int32.toInt (by rw [e661]; exact rI_o (by decide))
            have f760 := ti_b (q_I d646 1 11 a0)
            have f761 : (q_I d646 1 11 a0).toInt = (q_I d625 1 11 a0).toInt := congrArg Int32.toInt (by rw [e647]; exact rI_o (by decide))
            have f762 := ti_b (q_I d625 1 11 a0)
            have f763 : (q_I d625 1 11 a0).toInt = (q_I d607 1 11 a0).toInt := congrArg Int32.toInt (by rw [e626]; exact rI_o (by decide))
            have f764 := ti_b (q_I d607 1 11 a0)
            have f765 : (q_I d607 1 11 a0).toInt = (q_I δ 1 11 a0).toInt := congrArg Int32.toInt (by rw [e608]; exact rI_o (by decide))
            have f766 := ti_b (q_I δ 1 11 a0)
            have f767 := ti_b (q_I d660 1 12 a0)
            have f768 : (q_I d660 1 12 a0).toInt = (q_I d646 1 12 a0).toInt := congrArg Int32.toInt (by rw [e661]; exact rI_o (by decide))
            have f769 := ti_b (q_I d646 1 12 a0)
            have f770 : (q_I d646 1 12 a0).toInt = (q_I d625 1 12 a0).toInt := congrArg Int32.toInt (by rw [e647]; exact rI_o (by decide))
            have f771 := ti_b (q_I d625 1 12 a0)
            have f772 : (q_I d625 1 12 a0).toInt = (q_I d607 1 12 a0).toInt := congrArg Int32.toInt (by rw [e626]; exact rI_o (by decide))
            have f773 := ti_b (q_I d607 1 12 a0)
            have f774 : (q_I d607 1 12 a0).toInt = (q_I δ 1 12 a0).toInt := congrArg Int32.toInt (by rw [e608]; exact rI_o (by decide))
            have f775 := ti_b (q_I δ 1 12 a0)
            exact ok_some (show CI ad h.1 δ0 d660 ∧ (kp [(1, 7), (1, 9), (1, 10), (1, 11), (1, 12), (1, 15)] δ d660 ∧ q_V d660 = q_V δ ∧ q_R d660 = q_R δ) ∧ ((q_I d660 1 15 a0).toInt = 0 → 0 ≤ (q_I d660 1 11 a0).toInt ∧ (q_I d660 1 11 a0).toInt ≤ (q_I d660 1 12 a0).toInt ∧ (q_I d660 1 12 a0).toInt ≤ (q_I δ 3 1 nu).toInt) from ⟨i662, ⟨kp_w (by decide) u663, v664, v665⟩, by first | assumption | omega⟩)
        · have c776 : (q_I d646 1 9 a0).toInt ≠ (q_I d646 1 10 a0).toInt := o_ne h658
          unfold J_X1_look_85
          refine ok_gp (by decide) ?_
          refine ok_bdv (fun d777 e778 => ?_)
          have i779 : CI ad h.1 δ0 d777 := by rw [e778]; exact cs_1_15 L i648 k_a0 (show 0 ≤ (0 : Int) by omega) (show (0 : Int) ≤ 1 by omega)
          have u780 := kp_I u649 e778
          have v781 : q_V d777 = q_V δ := ((show q_V d777 = q_V d646 by rw [e778]; rfl)).trans v650
          have v782 : q_R d777 = q_R δ := ((show q_R d777 = q_R d646 by rw [e778]; rfl)).trans v651
          have f783 := cb_1_15 i779 k_a0
          have f784 : (q_I d777 1 15 a0).toInt = (0 : Int) := congrArg Int32.toInt (show q_I d777 1 15 a0 = (0 : Int32) by rw [e778]; exact rI_s)
          refine ok_ite (fun h785 => ?_) (fun h785 => ?_)
          · have c786 : (q_I d777 1 15 a0).toInt = (0 : Int) := o_eq h785
            refine ok_at o11 ?_
            refine ok_bind (k_X5_lowerBits L hN (a0 := b10) (x1 := (q_I d777 1 6 a0)) k12 i779) (fun r787 hr788 => ?_)
            obtain ⟨i789, p790⟩ := hr788
            try rw [i789]
            have f791 := ti_b (q_I d777 1 6 a0)
            have f792 : (q_I d777 1 6 a0).toInt = (q_I d646 1 6 a0).toInt := congrArg Int32.toInt (by rw [e778]; exact rI_o (by decide))
            have f793 := ti_b (q_I d646 1 6 a0)
            have f794 : (q_I d646 1 6 a0).toInt = (q_I d625 1 6 a0).toInt := congrArg Int32.toInt (by rw [e647]; exact rI_o (by decide))
            have f795 := ti_b (q_I d625 1 6 a0)
            have f796 : (q_I d625 1 6 a0).toInt = (q_I d607 1 6 a0).toInt := congrArg Int32.toInt (by rw [e626]; exact rI_o (by decide))
            have f797 := ti_b (q_I d607 1 6 a0)
            have f798 : (q_I d607 1 6 a0).toInt = (q_I δ 1 6 a0).toInt := congrArg Int32.toInt (by rw [e608]; exact rI_o (by decide))
            have f799 := ti_b r787.1
            have f800 := ti_b r787.1
            refine ok_bdv (fun d801 e802 => ?_)
            have i803 : CI ad h.1 δ0 d801 := by rw [e802]; exact cs_1_7 L i779
            have u804 := kp_I u780 e802
            have v805 : q_V d801 = q_V δ := ((show q_V d801 = q_V d777 by rw [e802]; rfl)).trans v781
            have v806 : q_R d801 = q_R δ := ((show q_R d801 = q_R d777 by rw [e802]; rfl)).trans v782
            have f809 := ti_b (q_I d801 1 3 a0)
            have f810 : (q_I d801 1 3 a0).toInt = (q_I d777 1 3 a0).toInt := congrArg Int32.toInt (by rw [e802]; exact rI_o (by decide))
            have f811 := ti_b (q_I d777 1 3 a0)
            have f812 : (q_I d777 1 3 a0).toInt = (q_I d646 1 3 a0).toInt := congrArg Int32.toInt (by rw [e778]; exact rI_o (by decide))
            have f813 := ti_b (q_I d646 1 3 a0)
            have f814 : (q_I d646 1 3 a0).toInt = (q_I d625 1 3 a0).toInt := congrArg Int32.toInt (by rw [e647]; exact rI_o (by decide))
            have f815 := ti_b (q_I d625 1 3 a0)
            have f816 : (q_I d625 1 3 a0).toInt = (q_I d607 1 3 a0).toInt := congrArg Int32.toInt (by rw [e626]; exact rI_o (by decide))
            first | (have q818 := te_addc (c := 1) (n := 1) rfl (q_I d801 1 3 a0) (by omega) (by omega); obtain ⟨f819, f820, f821⟩ := q818) | (obtain ⟨q818, f819, f820, f821⟩ := ti_addc (c := 1) (n := 1) rfl (q_I d801 1 3 a0))
            have f822 := ti_b (q_I d801 1 4 a0)
            have f823 : (q_I d801 1 4 a0).toInt = (q_I d777 1 4 a0).toInt := congrArg Int32.toInt (by rw [e802]; exact rI_o (by decide))
            have f824 := ti_b (q_I d777 1 4 a0)
            have f825 : (q_I d777 1 4 a0).toInt = (q_I d646 1 4 a0).toInt := congrArg Int32.toInt (by rw [e778]; exact rI_o (by decide))
            have f826 := ti_b (q_I d646 1 4 a0)
            have f827 : (q_I d646 1 4 a0).toInt = (q_I d625 1 4 a0).toInt := congrArg Int32.toInt (by rw [e647]; exact rI_o (by decide))
            have f828 := cb_3_1 i803 knu o4
            have f829 : (q_I d801 3 1 nu).toInt = (q_I d777 3 1 nu).toInt := congrArg Int32.toInt (by rw [e802]; exact rI_o (by decide))
            have f830 := cb_3_1 i779 knu o4
            have f831 : (q_I d777 3 1 nu).toInt = (q_I d646 3 1 nu).toInt := congrArg Int32.toInt (by rw [e778]; exact rI_o (by decide))
            have f832 := cb_3_1 i648 knu o4
            have f833 : (q_I d646 3 1 nu).toInt = (q_I d625 3 1 nu).toInt := congrArg Int32.toInt (by rw [e647]; exact rI_o (by decide))
            refine ok_bind (k_X1_firstFrom L hN (a0 := a0) (x1 := ((q_I d801 1 3 a0) + (1 : Int32))) (x2 := (q_I d801 1 4 a0)) (x3 := ((q_I d801 1 9 a0) + (1 : Int32))) k_a0 hnu knu (show 0 ≤ (((q_I d801 1 3 a0) + (1 : Int32))).toInt by first | assumption | omega) (show (((q_I d801 1 3 a0) + (1 : Int32))).toInt ≤ ((q_I d801 1 4 a0)).toInt by first | assumption | omega) (show ((q_I d801 1 4 a0)).toInt ≤ (q_I d801 3 1 nu).toInt by first | assumption | omega) i803) (fun r807 hr808 => ?_)
            obtain ⟨i834, p835, p836⟩ := hr808
            try rw [i834]
            have f837 := ti_b r807.1
            have f838 := ti_b r807.1
            refine ok_bdv (fun d839 e840 => ?_)
            have i841 : CI ad h.1 δ0 d839 := by rw [e840]; exact cs_1_11 L i803
            have u842 := kp_I u804 e840
            have v843 : q_V d839 = q_V δ := ((show q_V d839 = q_V d801 by rw [e840]; rfl)).trans v805
            have v844 : q_R d839 = q_R δ := ((show q_R d839 = q_R d801 by rw [e840]; rfl)).trans v806
            have f847 := ti_b (q_I d839 1 11 a0)
            have f848 : (q_I d839 1 11 a0).toInt = r807.1.toInt := congrArg Int32.toInt (show q_I d839 1 11 a0 = r807.1 by rw [e840]; exact rI_s)
            have f849 := ti_b (q_I d839 1 4 a0)
            have f850 : (q_I d839 1 4 a0).toInt = (q_I d801 1 4 a0).toInt := congrArg Int32.toInt (by rw [e840]; exact rI_o (by decide))
            have f851 := cb_3_1 i841 knu o4
            have f852 : (q_I d839 3 1 nu).toInt = (q_I d801 3 1 nu).toInt := congrArg Int32.toInt (by rw [e840]; exact rI_o (by decide))
            refine ok_bind (k_X1_firstFrom L hN (a0 := a0) (x1 := (q_I d839 1 11 a0)) (x2 := (q_I d839 1 4 a0)) (x3 := (q_I d839 1 10 a0)) k_a0 hnu knu (show 0 ≤ ((q_I d839 1 11 a0)).toInt by first | assumption | omega) (show ((q_I d839 1 11 a0)).toInt ≤ ((q_I d839 1 4 a0)).toInt by first | assumption | omega) (show ((q_I d839 1 4 a0)).toInt ≤ (q_I d839 3 1 nu).toInt by first | assumption | omega) i841) (fun r845 hr846 => ?_)
            obtain ⟨i853, p854, p855⟩ := hr846
            try rw [i853]
            have f856 := ti_b r845.1
            have f857 := ti_b r845.1
            refine ok_bdv (fun d858 e859 => ?_)
            have i860 : CI ad h.1 δ0 d858 := by rw [e859]; exact cs_1_12 L i841
            have u861 := kp_I u842 e859
            have v862 : q_V d858 = q_V δ := ((show q_V d858 = q_V d839 by rw [e859]; rfl)).trans v843
            have v863 : q_R d858 = q_R δ := ((show q_R d858 = q_R d839 by rw [e859]; rfl)).trans v844
            unfold J_X1_look_154
            have f864 := cb_1_15 i860 k_a0
            have f865 : (q_I d858 1 15 a0).toInt = (q_I d839 1 15 a0).toInt := congrArg Int32.toInt (by rw [e859]; exact rI_o (by decide))
            have f866 := cb_1_15 i841 k_a0
            have f867 : (q_I d839 1 15 a0).toInt = (q_I d801 1 15 a0).toInt := congrArg Int32.toInt (by rw [e840]; exact rI_o (by decide))
            have f868 := cb_1_15 i803 k_a0
            have f869 : (q_I d801 1 15 a0).toInt = (q_I d777 1 15 a0).toInt := congrArg Int32.toInt (by rw [e802]; exact rI_o (by decide))
            have f870 := ti_b (q_I d858 1 11 a0)
            have f871 : (q_I d858 1 11 a0).toInt = (q_I d839 1 11 a0).toInt := congrArg Int32.toInt (by rw [e859]; exact rI_o (by decide))
            have f872 := ti_b (q_I d858 1 12 a0)
            have f873 : (q_I d858 1 12 a0).toInt = r845.1.toInt := congrArg Int32.toInt (show q_I d858 1 12 a0 = r845.1 by rw [e859]; exact rI_s)
            exact ok_some (show CI ad h.1 δ0 d858 ∧ (kp [(1, 7), (1, 9), (1, 10), (1, 11), (1, 12), (1, 15)] δ d858 ∧ q_V d858 = q_V δ ∧ q_R d858 = q_R δ) ∧ ((q_I d858 1 15 a0).toInt = 0 → 0 ≤ (q_I d858 1 11 a0).toInt ∧ (q_I d858 1 11 a0).toInt ≤ (q_I d858 1 12 a0).toInt ∧ (q_I d858 1 12 a0).toInt ≤ (q_I δ 3 1 nu).toInt) from ⟨i860, ⟨kp_w (by decide) u861, v862, v863⟩, by first | assumption | omega⟩)
          · have c874 : (q_I d777 1 15 a0).toInt ≠ (0 : Int) := o_ne h785
            unfold J_X1_look_154
            have f875 := ti_b (q_I d777 1 11 a0)
            have f876 : (q_I d777 1 11 a0).toInt = (q_I d646 1 11 a0).toInt := congrArg Int32.toInt (by rw [e778]; exact rI_o (by decide))
            have f877 := ti_b (q_I d646 1 11 a0)
            have f878 : (q_I d646 1 11 a0).toInt = (q_I d625 1 11 a0).toInt := congrArg Int32.toInt (by rw [e647]; exact rI_o (by decide))
            have f879 := ti_b (q_I d625 1 11 a0)
            have f880 : (q_I d625 1 11 a0).toInt = (q_I d607 1 11 a0).toInt := congrArg Int32.toInt (by rw [e626]; exact rI_o (by decide))
            have f881 := ti_b (q_I d607 1 11 a0)
            have f882 : (q_I d607 1 11 a0).toInt = (q_I δ 1 11 a0).toInt := congrArg Int32.toInt (by rw [e608]; exact rI_o (by decide))
            have f883 := ti_b (q_I δ 1 11 a0)
            have f884 := ti_b (q_I d777 1 12 a0)
            have f885 : (q_I d777 1 12 a0).toInt = (q_I d646 1 12 a0).toInt := congrArg Int32.toInt (by rw [e778]; exact rI_o (by decide))
            have f886 := ti_b (q_I d646 1 12 a0)
            have f887 : (q_I d646 1 12 a0).toInt = (q_I d625 1 12 a0).toInt := congrArg Int32.toInt (by rw [e647]; exact rI_o (by decide))
            have f888 := ti_b (q_I d625 1 12 a0)
            have f889 : (q_I d625 1 12 a0).toInt = (q_I d607 1 12 a0).toInt := congrArg Int32.toInt (by rw [e626]; exact rI_o (by decide))
            have f890 := ti_b (q_I d607 1 12 a0)
            have f891 : (q_I d607 1 12 a0).toInt = (q_I δ 1 12 a0).toInt := congrArg Int32.toInt (by rw [e608]; exact rI_o (by decide))
            have f892 := ti_b (q_I δ 1 12 a0)
            exact ok_some (show CI ad h.1 δ0 d777 ∧ (kp [(1, 7), (1, 9), (1, 10), (1, 11), (1, 12), (1, 15)] δ d777 ∧ q_V d777 = q_V δ ∧ q_R d777 = q_R δ) ∧ ((q_I d777 1 15 a0).toInt = 0 → 0 ≤ (q_I d777 1 11 a0).toInt ∧ (q_I d777 1 11 a0).toInt ≤ (q_I d777 1 12 a0).toInt ∧ (q_I d777 1 12 a0).toInt ≤ (q_I δ 3 1 nu).toInt) from ⟨i779, ⟨kp_w (by decide) u780, v781, v782⟩, by first | assumption | omega⟩)
      · have c893 : (q_I d607 1 15 a0).toInt ≠ (0 : Int) := o_ne h615
        have f894 := ti_b (q_I d607 1 11 a0)
        have f895 : (q_I d607 1 11 a0).toInt = (q_I δ 1 11 a0).toInt := congrArg Int32.toInt (by rw [e608]; exact rI_o (by decide))
        have f896 := ti_b (q_I δ 1 11 a0)
        have f897 := ti_b (q_I d607 1 12 a0)
        have f898 : (q_I d607 1 12 a0).toInt = (q_I δ 1 12 a0).toInt := congrArg Int32.toInt (by rw [e608]; exact rI_o (by decide))
        have f899 := ti_b (q_I δ 1 12 a0)
        exact ok_some (show CI ad h.1 δ0 d607 ∧ (kp [(1, 7), (1, 9), (1, 10), (1, 11), (1, 12), (1, 15)] δ d607 ∧ q_V d607 = q_V δ ∧ q_R d607 = q_R δ) ∧ ((q_I d607 1 15 a0).toInt = 0 → 0 ≤ (q_I d607 1 11 a0).toInt ∧ (q_I d607 1 11 a0).toInt ≤ (q_I d607 1 12 a0).toInt ∧ (q_I d607 1 12 a0).toInt ≤ (q_I δ 3 1 nu).toInt) from ⟨i609, ⟨kp_w (by decide) u610, v611, v612⟩, by first | assumption | omega⟩)
set_option maxHeartbeats 4000000 in
theorem k_X1_findRoom {ad : List Nat} {h : hp} (L : Lay TLx ad h) {δ0 : dp} {N : Nat} (hN : 10000000 ≤ N) {a0 : Nat} {x1 : Int32} {nu : Nat} (k_a0 : q_K h.1 a0 = 1) (hnu : q_O h.1 1 1 a0 = some nu) (knu : q_K h.1 nu = 3) {δ : dp} (z0 : 0 ≤ (q_I δ 1 11 a0).toInt) (z1 : (q_I δ 1 11 a0).toInt ≤ (q_I δ 1 12 a0).toInt) (z2 : (q_I δ 1 12 a0).toInt ≤ (q_I δ 3 1 nu).toInt) (I : CI ad h.1 δ0 δ) : ok (D_X1_findRoom N h.1 a0 x1 δ) (fun r => CI ad h.1 δ0 r.2 ∧ (kp [(1, 13), (1, 14)] δ r.2 ∧ q_V r.2 = q_V δ ∧ q_R r.2 = q_R δ) ∧ bo (r.1) ∧ (q_I δ 1 11 a0).toInt ≤ (q_I r.2 1 13 a0).toInt ∧ (q_I r.2 1 13 a0).toInt ≤ (q_I r.2 1 14 a0).toInt ∧ (q_I r.2 1 14 a0).toInt ≤ (q_I δ 1 12 a0).toInt ∧ ((r.1).toInt = 1 → (q_I r.2 1 13 a0).toInt < (q_I r.2 1 14 a0).toInt)) := by
  unfold D_X1_findRoom
  have f1 := ti_b (q_I δ 1 11 a0)
  have f2 := ti_b (q_I δ 1 12 a0)
  obtain ⟨b3, o4, k5, ⟨n6, n7⟩, w8⟩ := gO_3_0 L knu
  have f9 := cb_3_1 I knu o4
  have f12 := ti_b ((x1 >>> ((q_I δ 1 7 a0) &&& 31)) <<< ((q_I δ 1 7 a0) &&& 31))
  refine ok_biv (fun vx10 e11 => ?_)
  have f13 : vx10.toInt = ((x1 >>> ((q_I δ 1 7 a0) &&& 31)) <<< ((q_I δ 1 7 a0) &&& 31)).toInt := congrArg Int32.toInt e11
  refine ok_bind (k_X1_firstFrom L hN (a0 := a0) (x1 := (q_I δ 1 11 a0)) (x2 := (q_I δ 1 12 a0)) (x3 := vx10) k_a0 hnu knu (show 0 ≤ ((q_I δ 1 11 a0)).toInt by first | assumption | omega) (show ((q_I δ 1 11 a0)).toInt ≤ ((q_I δ 1 12 a0)).toInt by first | assumption | omega) (show ((q_I δ 1 12 a0)).toInt ≤ (q_I δ 3 1 nu).toInt by first | assumption | omega) I) (fun r14 hr15 => ?_)
  obtain ⟨i16, p17, p18⟩ := hr15
  try rw [i16]
  have f19 := ti_b r14.1
  have f20 := ti_b r14.1
  refine ok_bdv (fun d21 e22 => ?_)
  have i23 : CI ad h.1 δ0 d21 := by rw [e22]; exact cs_1_13 L I
  have u24 := kp_I kp_r e22
  have v25 : q_V d21 = q_V δ := ((show q_V d21 = q_V δ by rw [e22]; rfl)).trans rfl
  have v26 : q_R d21 = q_R δ := ((show q_R d21 = q_R δ by rw [e22]; rfl)).trans rfl
  have f29 := ti_b (q_I d21 1 13 a0)
  have f30 : (q_I d21 1 13 a0).toInt = r14.1.toInt := congrArg Int32.toInt (show q_I d21 1 13 a0 = r14.1 by rw [e22]; exact rI_s)
  have f31 := ti_b (q_I d21 1 12 a0)
  have f32 : (q_I d21 1 12 a0).toInt = (q_I δ 1 12 a0).toInt := congrArg Int32.toInt (by rw [e22]; exact rI_o (by decide))
  have f33 := cb_3_1 i23 knu o4
  have f34 : (q_I d21 3 1 nu).toInt = (q_I δ 3 1 nu).toInt := congrArg Int32.toInt (by rw [e22]; exact rI_o (by decide))
  refine ok_bind (k_X1_firstFrom L hN (a0 := a0) (x1 := (q_I d21 1 13 a0)) (x2 := (q_I d21 1 12 a0)) (x3 := (vx10 + ((1 : Int32) <<< ((q_I d21 1 7 a0) &&& 31)))) k_a0 hnu knu (show 0 ≤ ((q_I d21 1 13 a0)).toInt by first | assumption | omega) (show ((q_I d21 1 13 a0)).toInt ≤ ((q_I d21 1 12 a0)).toInt by first | assumption | omega) (show ((q_I d21 1 12 a0)).toInt ≤ (q_I d21 3 1 nu).toInt by first | assumption | omega) i23) (fun r27 hr28 => ?_)
  obtain ⟨i35, p36, p37⟩ := hr28
  try rw [i35]
  have f38 := ti_b r27.1
  have f39 := ti_b r27.1
  refine ok_bdv (fun d40 e41 => ?_)
  have i42 : CI ad h.1 δ0 d40 := by rw [e41]; exact cs_1_14 L i23
  have u43 := kp_I u24 e41
  have v44 : q_V d40 = q_V δ := ((show q_V d40 = q_V d21 by rw [e41]; rfl)).trans v25
  have v45 : q_R d40 = q_R δ := ((show q_R d40 = q_R d21 by rw [e41]; rfl)).trans v26
  have f46 := ti_b (q_I d40 1 14 a0)
  have f47 : (q_I d40 1 14 a0).toInt = r27.1.toInt := congrArg Int32.toInt (show q_I d40 1 14 a0 = r27.1 by rw [e41]; exact rI_s)
  have f48 := ti_b (q_I d40 1 13 a0)
  have f49 : (q_I d40 1 13 a0).toInt = (q_I d21 1 13 a0).toInt := congrArg Int32.toInt (by rw [e41]; exact rI_o (by decide))
  refine ok_ite (fun h50 => ?_) (fun h50 => ?_)
  · have c51 : (q_I d40 1 14 a0).toInt ≤ (q_I d40 1 13 a0).toInt := o_le h50
    unfold J_X1_findRoom_69
    refine ok_gp (by decide) ?_
    exact ok_some (show CI ad h.1 δ0 d40 ∧ (kp [(1, 13), (1, 14)] δ d40 ∧ q_V d40 = q_V δ ∧ q_R d40 = q_R δ) ∧ bo ((0 : Int32)) ∧ (q_I δ 1 11 a0).toInt ≤ (q_I d40 1 13 a0).toInt ∧ (q_I d40 1 13 a0).toInt ≤ (q_I d40 1 14 a0).toInt ∧ (q_I d40 1 14 a0).toInt ≤ (q_I δ 1 12 a0).toInt ∧ ((0 : Int) = 1 → (q_I d40 1 13 a0).toInt < (q_I d40 1 14 a0).toInt) from ⟨i42, ⟨kp_w (by decide) u43, v44, v45⟩, bo_0, by first | assumption | omega, by first | assumption | omega, by first | assumption | omega, by first | assumption | omega⟩)
  · have c52 : (q_I d40 1 13 a0).toInt < (q_I d40 1 14 a0).toInt := o_nle h50
    unfold J_X1_findRoom_69
    refine ok_gp (by decide) ?_
    exact ok_some (show CI ad h.1 δ0 d40 ∧ (kp [(1, 13), (1, 14)] δ d40 ∧ q_V d40 = q_V δ ∧ q_R d40 = q_R δ) ∧ bo ((1 : Int32)) ∧ (q_I δ 1 11 a0).toInt ≤ (q_I d40 1 13 a0).toInt ∧ (q_I d40 1 13 a0).toInt ≤ (q_I d40 1 14 a0).toInt ∧ (q_I d40 1 14 a0).toInt ≤ (q_I δ 1 12 a0).toInt ∧ ((1 : Int) = 1 → (q_I d40 1 13 a0).toInt < (q_I d40 1 14 a0).toInt) from ⟨i42, ⟨kp_w (by decide) u43, v44, v45⟩, bo_1, by first | assumption | omega, by first | assumption | omega, by first | assumption | omega, by first | assumption | omega⟩)
set_option maxHeartbeats 4000000 in
theorem k_X1_enterRoom {ad : List Nat} {h : hp} (L : Lay TLx ad h) {δ0 : dp} {N : Nat} (hN : 10000000 ≤ N) {a0 : Nat} {x1 : Int32} (k_a0 : q_K h.1 a0 = 1) {δ : dp} (I : CI ad h.1 δ0 δ) : ok (D_X1_enterRoom N h.1 a0 x1 δ) (fun r => CI ad h.1 δ0 r ∧ (kp [(1, 3), (1, 4), (1, 6), (1, 8)] δ r ∧ q_V r = q_V δ ∧ q_R r = q_R δ) ∧ (q_I r 1 3 a0).toInt = (q_I δ 1 13 a0).toInt ∧ (q_I r 1 4 a0).toInt = (q_I δ 1 14 a0).toInt) := by
  unfold D_X1_enterRoom
  have f4 := ti_b (q_I δ 1 13 a0)
  refine ok_bdv (fun d1 e2 => ?_)
  have i3 : CI ad h.1 δ0 d1 := by rw [e2]; exact cs_1_3 L I
  have u5 := kp_I kp_r e2
  have v6 : q_V d1 = q_V δ := ((show q_V d1 = q_V δ by rw [e2]; rfl)).trans rfl
  have v7 : q_R d1 = q_R δ := ((show q_R d1 = q_R δ by rw [e2]; rfl)).trans rfl
  have f11 := ti_b (q_I d1 1 14 a0)
  have f12 : (q_I d1 1 14 a0).toInt = (q_I δ 1 14 a0).toInt := congrArg Int32.toInt (by rw [e2]; exact rI_o (by decide))
  have f13 := ti_b (q_I δ 1 14 a0)
  refine ok_bdv (fun d8 e9 => ?_)
  have i10 : CI ad h.1 δ0 d8 := by rw [e9]; exact cs_1_4 L i3
  have u14 := kp_I u5 e9
  have v15 : q_V d8 = q_V δ := ((show q_V d8 = q_V d1 by rw [e9]; rfl)).trans v6
  have v16 : q_R d8 = q_R δ := ((show q_R d8 = q_R d1 by rw [e9]; rfl)).trans v7
  have f20 := ti_b (q_I d8 1 7 a0)
  have f21 : (q_I d8 1 7 a0).toInt = (q_I d1 1 7 a0).toInt := congrArg Int32.toInt (by rw [e9]; exact rI_o (by decide))
  have f22 := ti_b (q_I d1 1 7 a0)
  have f23 : (q_I d1 1 7 a0).toInt = (q_I δ 1 7 a0).toInt := congrArg Int32.toInt (by rw [e2]; exact rI_o (by decide))
  have f24 := ti_b (q_I δ 1 7 a0)
  refine ok_bdv (fun d17 e18 => ?_)
  have i19 : CI ad h.1 δ0 d17 := by rw [e18]; exact cs_1_6 L i10
  have u25 := kp_I u14 e18
  have v26 : q_V d17 = q_V δ := ((show q_V d17 = q_V d8 by rw [e18]; rfl)).trans v15
  have v27 : q_R d17 = q_R δ := ((show q_R d17 = q_R d8 by rw [e18]; rfl)).trans v16
  have f31 := ti_b (x1 &&& (((1 : Int32) <<< ((q_I d17 1 7 a0) &&& 31)) - (1 : Int32)))
  refine ok_bdv (fun d28 e29 => ?_)
  have i30 : CI ad h.1 δ0 d28 := by rw [e29]; exact cs_1_8 L i19
  have u32 := kp_I u25 e29
  have v33 : q_V d28 = q_V δ := ((show q_V d28 = q_V d17 by rw [e29]; rfl)).trans v26
  have v34 : q_R d28 = q_R δ := ((show q_R d28 = q_R d17 by rw [e29]; rfl)).trans v27
  have f35 := ti_b (q_I d28 1 3 a0)
  have f36 : (q_I d28 1 3 a0).toInt = (q_I d17 1 3 a0).toInt := congrArg Int32.toInt (by rw [e29]; exact rI_o (by decide))
  have f37 := ti_b (q_I d17 1 3 a0)
  have f38 : (q_I d17 1 3 a0).toInt = (q_I d8 1 3 a0).toInt := congrArg Int32.toInt (by rw [e18]; exact rI_o (by decide))
  have f39 := ti_b (q_I d8 1 3 a0)
  have f40 : (q_I d8 1 3 a0).toInt = (q_I d1 1 3 a0).toInt := congrArg Int32.toInt (by rw [e9]; exact rI_o (by decide))
  have f41 := ti_b (q_I d1 1 3 a0)
  have f42 : (q_I d1 1 3 a0).toInt = (q_I δ 1 13 a0).toInt := congrArg Int32.toInt (show q_I d1 1 3 a0 = (q_I δ 1 13 a0) by rw [e2]; exact rI_s)
  have f43 := ti_b (q_I d28 1 4 a0)
  have f44 : (q_I d28 1 4 a0).toInt = (q_I d17 1 4 a0).toInt := congrArg Int32.toInt (by rw [e29]; exact rI_o (by decide))
  have f45 := ti_b (q_I d17 1 4 a0)
  have f46 : (q_I d17 1 4 a0).toInt = (q_I d8 1 4 a0).toInt := congrArg Int32.toInt (by rw [e18]; exact rI_o (by decide))
  have f47 := ti_b (q_I d8 1 4 a0)
  have f48 : (q_I d8 1 4 a0).toInt = (q_I d1 1 14 a0).toInt := congrArg Int32.toInt (show q_I d8 1 4 a0 = (q_I d1 1 14 a0) by rw [e9]; exact rI_s)
  exact ok_some (show CI ad h.1 δ0 d28 ∧ (kp [(1, 3), (1, 4), (1, 6), (1, 8)] δ d28 ∧ q_V d28 = q_V δ ∧ q_R d28 = q_R δ) ∧ (q_I d28 1 3 a0).toInt = (q_I δ 1 13 a0).toInt ∧ (q_I d28 1 4 a0).toInt = (q_I δ 1 14 a0).toInt from ⟨i30, ⟨kp_w (by decide) u32, v33, v34⟩, by first | assumption | omega, by first | assumption | omega⟩)
set_option maxHeartbeats 4000000 in
theorem k_X1_enterList {ad : List Nat} {h : hp} (L : Lay TLx ad h) {δ0 : dp} {N : Nat} (hN : 10000000 ≤ N) {a0 : Nat} {x1 : Int32} (k_a0 : q_K h.1 a0 = 1) {δ : dp} (I : CI ad h.1 δ0 δ) : ok (D_X1_enterList N h.1 a0 x1 δ) (fun r => CI ad h.1 δ0 r ∧ (kp [(1, 3), (1, 4), (1, 5), (1, 6), (1, 8)] δ r ∧ q_V r = q_V δ ∧ q_R r = q_R δ) ∧ (q_I r 1 3 a0).toInt = (q_I δ 1 11 a0).toInt ∧ (q_I r 1 4 a0).toInt = (q_I δ 1 12 a0).toInt) := by
  unfold D_X1_enterList
  have f4 := ti_b (q_I δ 1 11 a0)
  refine ok_bdv (fun d1 e2 => ?_)
  have i3 : CI ad h.1 δ0 d1 := by rw [e2]; exact cs_1_3 L I
  have u5 := kp_I kp_r e2
  have v6 : q_V d1 = q_V δ := ((show q_V d1 = q_V δ by rw [e2]; rfl)).trans rfl
  have v7 : q_R d1 = q_R δ := ((show q_R d1 = q_R δ by rw [e2]; rfl)).trans rfl
  have f11 := ti_b (q_I d1 1 12 a0)
  have f12 : (q_I d1 1 12 a0).toInt = (q_I δ 1 12 a0).toInt := congrArg Int32.toInt (by rw [e2]; exact rI_o (by decide))
  have f13 := ti_b (q_I δ 1 12 a0)
  refine ok_bdv (fun d8 e9 => ?_)
  have i10 : CI ad h.1 δ0 d8 := by rw [e9]; exact cs_1_4 L i3
  have u14 := kp_I u5 e9
  have v15 : q_V d8 = q_V δ := ((show q_V d8 = q_V d1 by rw [e9]; rfl)).trans v6
  have v16 : q_R d8 = q_R δ := ((show q_R d8 = q_R d1 by rw [e9]; rfl)).trans v7
  have f20 := ti_b (q_I d8 1 5 a0)
  have f21 : (q_I d8 1 5 a0).toInt = (q_I d1 1 5 a0).toInt := congrArg Int32.toInt (by rw [e9]; exact rI_o (by decide))
  have f22 := ti_b (q_I d1 1 5 a0)
  have f23 : (q_I d1 1 5 a0).toInt = (q_I δ 1 5 a0).toInt := congrArg Int32.toInt (by rw [e2]; exact rI_o (by decide))
  have f24 := ti_b (q_I δ 1 5 a0)
  have f25 := ti_b (q_I d8 1 7 a0)
  have f26 : (q_I d8 1 7 a0).toInt = (q_I d1 1 7 a0).toInt := congrArg Int32.toInt (by rw [e9]; exact rI_o (by decide))
  have f27 := ti_b (q_I d1 1 7 a0)
  have f28 : (q_I d1 1 7 a0).toInt = (q_I δ 1 7 a0).toInt := congrArg Int32.toInt (by rw [e2]; exact rI_o (by decide))
  have f29 := ti_b (q_I δ 1 7 a0)
  first | (have q31 := te_add (q_I d8 1 5 a0) (q_I d8 1 7 a0) (by omega) (by omega); obtain ⟨f32, f33, f34⟩ := q31) | (obtain ⟨q31, f32, f33, f34⟩ := ti_add (q_I d8 1 5 a0) (q_I d8 1 7 a0))
  refine ok_bdv (fun d17 e18 => ?_)
  have i19 : CI ad h.1 δ0 d17 := by rw [e18]; exact cs_1_5 L i10
  have u35 := kp_I u14 e18
  have v36 : q_V d17 = q_V δ := ((show q_V d17 = q_V d8 by rw [e18]; rfl)).trans v15
  have v37 : q_R d17 = q_R δ := ((show q_R d17 = q_R d8 by rw [e18]; rfl)).trans v16
  have f41 := ti_b (q_I d17 1 6 a0)
  have f42 : (q_I d17 1 6 a0).toInt = (q_I d8 1 6 a0).toInt := congrArg Int32.toInt (by rw [e18]; exact rI_o (by decide))
  have f43 := ti_b (q_I d8 1 6 a0)
  have f44 : (q_I d8 1 6 a0).toInt = (q_I d1 1 6 a0).toInt := congrArg Int32.toInt (by rw [e9]; exact rI_o (by decide))
  have f45 := ti_b (q_I d1 1 6 a0)
  have f46 : (q_I d1 1 6 a0).toInt = (q_I δ 1 6 a0).toInt := congrArg Int32.toInt (by rw [e2]; exact rI_o (by decide))
  have f47 := ti_b (q_I δ 1 6 a0)
  have f48 := ti_b (q_I d17 1 7 a0)
  have f49 : (q_I d17 1 7 a0).toInt = (q_I d8 1 7 a0).toInt := congrArg Int32.toInt (by rw [e18]; exact rI_o (by decide))
  first | (have q51 := te_sub (q_I d17 1 6 a0) (q_I d17 1 7 a0) (by omega) (by omega); obtain ⟨f52, f53, f54⟩ := q51) | (obtain ⟨q51, f52, f53, f54⟩ := ti_sub (q_I d17 1 6 a0) (q_I d17 1 7 a0))
  refine ok_bdv (fun d38 e39 => ?_)
  have i40 : CI ad h.1 δ0 d38 := by rw [e39]; exact cs_1_6 L i19
  have u55 := kp_I u35 e39
  have v56 : q_V d38 = q_V δ := ((show q_V d38 = q_V d17 by rw [e39]; rfl)).trans v36
  have v57 : q_R d38 = q_R δ := ((show q_R d38 = q_R d17 by rw [e39]; rfl)).trans v37
  have f61 := ti_b (x1 >>> ((q_I d38 1 7 a0) &&& 31))
  refine ok_bdv (fun d58 e59 => ?_)
  have i60 : CI ad h.1 δ0 d58 := by rw [e59]; exact cs_1_8 L i40
  have u62 := kp_I u55 e59
  have v63 : q_V d58 = q_V δ := ((show q_V d58 = q_V d38 by rw [e59]; rfl)).trans v56
  have v64 : q_R d58 = q_R δ := ((show q_R d58 = q_R d38 by rw [e59]; rfl)).trans v57
  have f65 := ti_b (q_I d58 1 3 a0)
  have f66 : (q_I d58 1 3 a0).toInt = (q_I d38 1 3 a0).toInt := congrArg Int32.toInt (by rw [e59]; exact rI_o (by decide))
  have f67 := ti_b (q_I d38 1 3 a0)
  have f68 : (q_I d38 1 3 a0).toInt = (q_I d17 1 3 a0).toInt := congrArg Int32.toInt (by rw [e39]; exact rI_o (by decide))
  have f69 := ti_b (q_I d17 1 3 a0)
  have f70 : (q_I d17 1 3 a0).toInt = (q_I d8 1 3 a0).toInt := congrArg Int32.toInt (by rw [e18]; exact rI_o (by decide))
  have f71 := ti_b (q_I d8 1 3 a0)
  have f72 : (q_I d8 1 3 a0).toInt = (q_I d1 1 3 a0).toInt := congrArg Int32.toInt (by rw [e9]; exact rI_o (by decide))
  have f73 := ti_b (q_I d1 1 3 a0)
  have f74 : (q_I d1 1 3 a0).toInt = (q_I δ 1 11 a0).toInt := congrArg Int32.toInt (show q_I d1 1 3 a0 = (q_I δ 1 11 a0) by rw [e2]; exact rI_s)
  have f75 := ti_b (q_I d58 1 4 a0)
  have f76 : (q_I d58 1 4 a0).toInt = (q_I d38 1 4 a0).toInt := congrArg Int32.toInt (by rw [e59]; exact rI_o (by decide))
  have f77 := ti_b (q_I d38 1 4 a0)
  have f78 : (q_I d38 1 4 a0).toInt = (q_I d17 1 4 a0).toInt := congrArg Int32.toInt (by rw [e39]; exact rI_o (by decide))
  have f79 := ti_b (q_I d17 1 4 a0)
  have f80 : (q_I d17 1 4 a0).toInt = (q_I d8 1 4 a0).toInt := congrArg Int32.toInt (by rw [e18]; exact rI_o (by decide))
  have f81 := ti_b (q_I d8 1 4 a0)
  have f82 : (q_I d8 1 4 a0).toInt = (q_I d1 1 12 a0).toInt := congrArg Int32.toInt (show q_I d8 1 4 a0 = (q_I d1 1 12 a0) by rw [e9]; exact rI_s)
  exact ok_some (show CI ad h.1 δ0 d58 ∧ (kp [(1, 3), (1, 4), (1, 5), (1, 6), (1, 8)] δ d58 ∧ q_V d58 = q_V δ ∧ q_R d58 = q_R δ) ∧ (q_I d58 1 3 a0).toInt = (q_I δ 1 11 a0).toInt ∧ (q_I d58 1 4 a0).toInt = (q_I δ 1 12 a0).toInt from ⟨i60, ⟨kp_w (by decide) u62, v63, v64⟩, by first | assumption | omega, by first | assumption | omega⟩)
set_option maxHeartbeats 4000000 in
theorem k_X1_goOnPutting {ad : List Nat} {h : hp} (L : Lay TLx ad h) {δ0 : dp} {N : Nat} (hN : 10000000 ≤ N) {a0 : Nat} {nu : Nat} (k_a0 : q_K h.1 a0 = 1) (hnu : q_O h.1 1 1 a0 = some nu) (knu : q_K h.1 nu = 3) {δ : dp} (z0 : 0 ≤ (q_I δ 1 11 a0).toInt) (z1 : (q_I δ 1 11 a0).toInt ≤ (q_I δ 1 12 a0).toInt) (z2 : (q_I δ 1 12 a0).toInt ≤ (q_I δ 3 1 nu).toInt) (z3 : 0 ≤ (q_I δ 1 3 a0).toInt) (z4 : (q_I δ 1 4 a0).toInt ≤ (q_I δ 3 1 nu).toInt) (I : CI ad h.1 δ0 δ) : ok (D_X1_goOnPutting N h.1 a0 δ) (fun r => CI ad h.1 δ0 r.2 ∧ (kp [(1, 3), (1, 4), (1, 5), (1, 6), (1, 8), (1, 13), (1, 14), (1, 15)] δ r.2 ∧ q_V r.2 = q_V δ ∧ q_R r.2 = q_R δ) ∧ 0 ≤ (q_I r.2 1 3 a0).toInt ∧ (q_I r.2 1 4 a0).toInt ≤ (q_I δ 3 1 nu).toInt) := by
  unfold D_X1_goOnPutting
  have f1 := ti_b (q_I δ 1 11 a0)
  have f2 := ti_b (q_I δ 1 12 a0)
  obtain ⟨b3, o4, k5, ⟨n6, n7⟩, w8⟩ := gO_3_0 L knu
  have f9 := cb_3_1 I knu o4
  have f10 := ti_b (q_I δ 1 3 a0)
  have f11 := ti_b (q_I δ 1 4 a0)
  have f12 := ti_b (q_I δ 1 8 a0)
  have f13 := ti_b (q_I δ 1 9 a0)
  refine ok_ite (fun h14 => ?_) (fun h14 => ?_)
  · have c15 : (q_I δ 1 8 a0).toInt = (q_I δ 1 9 a0).toInt := o_eq h14
    unfold J_X1_goOnPutting_22
    refine ok_bdv (fun d16 e17 => ?_)
    have i18 : CI ad h.1 δ0 d16 := by rw [e17]; exact cs_1_15 L I k_a0 (show 0 ≤ (1 : Int) by omega) (show (1 : Int) ≤ 1 by omega)
    have u19 := kp_I kp_r e17
    have v20 : q_V d16 = q_V δ := ((show q_V d16 = q_V δ by rw [e17]; rfl)).trans rfl
    have v21 : q_R d16 = q_R δ := ((show q_R d16 = q_R δ by rw [e17]; rfl)).trans rfl
    have f22 := ti_b (q_I d16 1 3 a0)
    have f23 : (q_I d16 1 3 a0).toInt = (q_I δ 1 3 a0).toInt := congrArg Int32.toInt (by rw [e17]; exact rI_o (by decide))
    have f24 := ti_b (q_I d16 1 4 a0)
    have f25 : (q_I d16 1 4 a0).toInt = (q_I δ 1 4 a0).toInt := congrArg Int32.toInt (by rw [e17]; exact rI_o (by decide))
    exact ok_some (show CI ad h.1 δ0 d16 ∧ (kp [(1, 3), (1, 4), (1, 5), (1, 6), (1, 8), (1, 13), (1, 14), (1, 15)] δ d16 ∧ q_V d16 = q_V δ ∧ q_R d16 = q_R δ) ∧ 0 ≤ (q_I d16 1 3 a0).toInt ∧ (q_I d16 1 4 a0).toInt ≤ (q_I δ 3 1 nu).toInt from ⟨i18, ⟨kp_w (by decide) u19, v20, v21⟩, by first | assumption | omega, by first | assumption | omega⟩)
  · have c26 : (q_I δ 1 8 a0).toInt ≠ (q_I δ 1 9 a0).toInt := o_ne h14
    have f27 := ti_b (q_I δ 1 10 a0)
    refine ok_ite (fun h28 => ?_) (fun h28 => ?_)
    · have c29 : (q_I δ 1 8 a0).toInt = (q_I δ 1 10 a0).toInt := o_eq h28
      unfold J_X1_goOnPutting_22
      refine ok_bdv (fun d30 e31 => ?_)
      have i32 : CI ad h.1 δ0 d30 := by rw [e31]; exact cs_1_15 L I k_a0 (show 0 ≤ (1 : Int) by omega) (show (1 : Int) ≤ 1 by omega)
      have u33 := kp_I kp_r e31
      have v34 : q_V d30 = q_V δ := ((show q_V d30 = q_V δ by rw [e31]; rfl)).trans rfl
      have v35 : q_R d30 = q_R δ := ((show q_R d30 = q_R δ by rw [e31]; rfl)).trans rfl
      have f36 := ti_b (q_I d30 1 3 a0)
      have f37 : (q_I d30 1 3 a0).toInt = (q_I δ 1 3 a0).toInt := congrArg Int32.toInt (by rw [e31]; exact rI_o (by decide))
      have f38 := ti_b (q_I d30 1 4 a0)
      have f39 : (q_I d30 1 4 a0).toInt = (q_I δ 1 4 a0).toInt := congrArg Int32.toInt (by rw [e31]; exact rI_o (by decide))
      exact ok_some (show CI ad h.1 δ0 d30 ∧ (kp [(1, 3), (1, 4), (1, 5), (1, 6), (1, 8), (1, 13), (1, 14), (1, 15)] δ d30 ∧ q_V d30 = q_V δ ∧ q_R d30 = q_R δ) ∧ 0 ≤ (q_I d30 1 3 a0).toInt ∧ (q_I d30 1 4 a0).toInt ≤ (q_I δ 3 1 nu).toInt from ⟨i32, ⟨kp_w (by decide) u33, v34, v35⟩, by first | assumption | omega, by first | assumption | omega⟩)
    · have c40 : (q_I δ 1 8 a0).toInt ≠ (q_I δ 1 10 a0).toInt := o_ne h28
      refine ok_bind (k_J9_max_7cf53 L hN (x0 := (q_I δ 1 8 a0)) (x1 := (q_I δ 1 9 a0))  I) (fun r41 hr42 => ?_)
      obtain ⟨i43, p44, p45, p46⟩ := hr42
      try rw [i43]
      have f47 := ti_b r41.1
      have f48 := ti_b r41.1
      refine ok_bind (k_J9_min_7cf53 L hN (x0 := r41.1) (x1 := (q_I δ 1 10 a0))  I) (fun r49 hr50 => ?_)
      obtain ⟨i51, p52, p53, p54⟩ := hr50
      try rw [i51]
      have f55 := ti_b r49.1
      have f56 := ti_b r49.1
      refine ok_bind (k_X1_findRoom L hN (a0 := a0) (x1 := r49.1) k_a0 hnu knu (show 0 ≤ (q_I δ 1 11 a0).toInt by first | assumption | omega) (show (q_I δ 1 11 a0).toInt ≤ (q_I δ 1 12 a0).toInt by first | assumption | omega) (show (q_I δ 1 12 a0).toInt ≤ (q_I δ 3 1 nu).toInt by first | assumption | omega) I) (fun r57 hr58 => ?_)
      obtain ⟨i59, ⟨u65, u66, u67⟩, p60, p61, p62, p63, p64⟩ := hr58
      have u68 := kp_t kp_r u65
      have v69 : q_V r57.2 = q_V δ := (u66).trans rfl
      have v70 : q_R r57.2 = q_R δ := (u67).trans rfl
      have f71 := bo_t p60
      have f72 := ti_b (q_I r57.2 1 13 a0)
      have f73 := ti_b (q_I r57.2 1 14 a0)
      have f74 := ti_b r57.1
      have f75 := ti_b r57.1
      refine ok_ite (fun h76 => ?_) (fun h76 => ?_)
      · have c77 : r57.1.toInt = (0 : Int) := o_eq h76
        refine ok_bind (k_X1_enterList L hN (a0 := a0) (x1 := r49.1) k_a0 i59) (fun r78 hr79 => ?_)
        obtain ⟨i80, ⟨u83, u84, u85⟩, p81, p82⟩ := hr79
        have u86 := kp_t u68 u83
        have v87 : q_V r78 = q_V δ := (u84).trans v69
        have v88 : q_R r78 = q_R δ := (u85).trans v70
        have f89 := ti_b (q_I r78 1 3 a0)
        have f90 := ti_b (q_I r57.2 1 11 a0)
        have f91 : (q_I r57.2 1 11 a0).toInt = (q_I δ 1 11 a0).toInt := congrArg Int32.toInt (u65 1 11 a0 (by decide))
        have f92 := ti_b (q_I r78 1 4 a0)
        have f93 := ti_b (q_I r57.2 1 12 a0)
        have f94 : (q_I r57.2 1 12 a0).toInt = (q_I δ 1 12 a0).toInt := congrArg Int32.toInt (u65 1 12 a0 (by decide))
        exact ok_some (show CI ad h.1 δ0 r78 ∧ (kp [(1, 3), (1, 4), (1, 5), (1, 6), (1, 8), (1, 13), (1, 14), (1, 15)] δ r78 ∧ q_V r78 = q_V δ ∧ q_R r78 = q_R δ) ∧ 0 ≤ (q_I r78 1 3 a0).toInt ∧ (q_I r78 1 4 a0).toInt ≤ (q_I δ 3 1 nu).toInt from ⟨i80, ⟨kp_w (by decide) u86, v87, v88⟩, by first | assumption | omega, by first | assumption | omega⟩)
      · have c95 : r57.1.toInt ≠ (0 : Int) := o_ne h76
        refine ok_bind (k_X1_enterRoom L hN (a0 := a0) (x1 := r49.1) k_a0 i59) (fun r96 hr97 => ?_)
        obtain ⟨i98, ⟨u101, u102, u103⟩, p99, p100⟩ := hr97
        have u104 := kp_t u68 u101
        have v105 : q_V r96 = q_V δ := (u102).trans v69
        have v106 : q_R r96 = q_R δ := (u103).trans v70
        have f107 := ti_b (q_I r96 1 3 a0)
        have f108 := ti_b (q_I r96 1 4 a0)
        exact ok_some (show CI ad h.1 δ0 r96 ∧ (kp [(1, 3), (1, 4), (1, 5), (1, 6), (1, 8), (1, 13), (1, 14), (1, 15)] δ r96 ∧ q_V r96 = q_V δ ∧ q_R r96 = q_R δ) ∧ 0 ≤ (q_I r96 1 3 a0).toInt ∧ (q_I r96 1 4 a0).toInt ≤ (q_I δ 3 1 nu).toInt from ⟨i98, ⟨kp_w (by decide) u104, v105, v106⟩, by first | assumption | omega, by first | assumption | omega⟩)
set_option maxHeartbeats 4000000 in
theorem kj_X1_goOnDropping_121 {ad : List Nat} {h : hp} (L : Lay TLx ad h) {δ0 : dp} {N : Nat} (hN : 10000000 ≤ N) {a0 : Nat} {xs0 : Int32} {x2v : Int32} {nu : Nat} (k_a0 : q_K h.1 a0 = 1) (hnu : q_O h.1 1 1 a0 = some nu) (knu : q_K h.1 nu = 3) {δ : dp} (z0 : 0 ≤ (q_I δ 1 11 a0).toInt) (z1 : (q_I δ 1 11 a0).toInt ≤ (q_I δ 1 12 a0).toInt) (z2 : (q_I δ 1 12 a0).toInt ≤ (q_I δ 3 1 nu).toInt) (z3 : 0 ≤ (q_I δ 1 3 a0).toInt) (z4 : (q_I δ 1 4 a0).toInt ≤ (q_I δ 3 1 nu).toInt) (I : CI ad h.1 δ0 δ) : ok (J_X1_goOnDropping_121 N h.1 a0 xs0 x2v δ) (fun r => CI ad h.1 δ0 r.2 ∧ (kp [(1, 3), (1, 4), (1, 5), (1, 6), (1, 8), (1, 13), (1, 14), (1, 15)] δ r.2 ∧ q_V r.2 = q_V δ ∧ q_R r.2 = q_R δ) ∧ 0 ≤ (q_I r.2 1 3 a0).toInt ∧ (q_I r.2 1 4 a0).toInt ≤ (q_I δ 3 1 nu).toInt) := by
  unfold J_X1_goOnDropping_121
  have f1 := ti_b (q_I δ 1 11 a0)
  have f2 := ti_b (q_I δ 1 12 a0)
  obtain ⟨b3, o4, k5, ⟨n6, n7⟩, w8⟩ := gO_3_0 L knu
  have f9 := cb_3_1 I knu o4
  have f10 := ti_b (q_I δ 1 3 a0)
  have f11 := ti_b (q_I δ 1 4 a0)
  refine ok_bind (k_X1_findRoom L hN (a0 := a0) (x1 := xs0) k_a0 hnu knu (show 0 ≤ (q_I δ 1 11 a0).toInt by first | assumption | omega) (show (q_I δ 1 11 a0).toInt ≤ (q_I δ 1 12 a0).toInt by first | assumption | omega) (show (q_I δ 1 12 a0).toInt ≤ (q_I δ 3 1 nu).toInt by first | assumption | omega) I) (fun r12 hr13 => ?_)
  obtain ⟨i14, ⟨u20, u21, u22⟩, p15, p16, p17, p18, p19⟩ := hr13
  have u23 := kp_t kp_r u20
  have v24 : q_V r12.2 = q_V δ := (u21).trans rfl
  have v25 : q_R r12.2 = q_R δ := (u22).trans rfl
  have f26 := bo_t p15
  have f27 := ti_b (q_I r12.2 1 13 a0)
  have f28 := ti_b (q_I r12.2 1 14 a0)
  have f29 := ti_b r12.1
  have f30 := ti_b r12.1
  refine ok_ite (fun h31 => ?_) (fun h31 => ?_)
  · have c32 : r12.1.toInt = (0 : Int) := o_eq h31
    refine ok_bdv (fun d33 e34 => ?_)
    have i35 : CI ad h.1 δ0 d33 := by rw [e34]; exact cs_1_15 L i14 k_a0 (show 0 ≤ (1 : Int) by omega) (show (1 : Int) ≤ 1 by omega)
    have u36 := kp_I u23 e34
    have v37 : q_V d33 = q_V δ := ((show q_V d33 = q_V r12.2 by rw [e34]; rfl)).trans v24
    have v38 : q_R d33 = q_R δ := ((show q_R d33 = q_R r12.2 by rw [e34]; rfl)).trans v25
    have f39 := ti_b (q_I d33 1 3 a0)
    have f40 : (q_I d33 1 3 a0).toInt = (q_I r12.2 1 3 a0).toInt := congrArg Int32.toInt (by rw [e34]; exact rI_o (by decide))
    have f41 := ti_b (q_I r12.2 1 3 a0)
    have f42 : (q_I r12.2 1 3 a0).toInt = (q_I δ 1 3 a0).toInt := congrArg Int32.toInt (u20 1 3 a0 (by decide))
    have f43 := ti_b (q_I d33 1 4 a0)
    have f44 : (q_I d33 1 4 a0).toInt = (q_I r12.2 1 4 a0).toInt := congrArg Int32.toInt (by rw [e34]; exact rI_o (by decide))
    have f45 := ti_b (q_I r12.2 1 4 a0)
    have f46 : (q_I r12.2 1 4 a0).toInt = (q_I δ 1 4 a0).toInt := congrArg Int32.toInt (u20 1 4 a0 (by decide))
    exact ok_some (show CI ad h.1 δ0 d33 ∧ (kp [(1, 3), (1, 4), (1, 5), (1, 6), (1, 8), (1, 13), (1, 14), (1, 15)] δ d33 ∧ q_V d33 = q_V δ ∧ q_R d33 = q_R δ) ∧ 0 ≤ (q_I d33 1 3 a0).toInt ∧ (q_I d33 1 4 a0).toInt ≤ (q_I δ 3 1 nu).toInt from ⟨i35, ⟨kp_w (by decide) u36, v37, v38⟩, by first | assumption | omega, by first | assumption | omega⟩)
  · have c47 : r12.1.toInt ≠ (0 : Int) := o_ne h31
    have f50 := cb_3_1 i14 knu o4
    have f51 : (q_I r12.2 3 1 nu).toInt = (q_I δ 3 1 nu).toInt := congrArg Int32.toInt (u20 3 1 nu (by decide))
    refine ok_bind (k_X1_valueAt L hN (a0 := a0) (x1 := (q_I r12.2 1 13 a0)) k_a0 hnu knu (show 0 ≤ ((q_I r12.2 1 13 a0)).toInt by first | assumption | omega) (show ((q_I r12.2 1 13 a0)).toInt < (q_I r12.2 3 1 nu).toInt by first | assumption | omega) i14) (fun r48 hr49 => ?_)
    have i52 := hr49
    try rw [i52]
    have f53 := ti_b r48.1
    have f54 := ti_b xs0
    refine ok_ite (fun h55 => ?_) (fun h55 => ?_)
    · have c56 : r48.1.toInt = xs0.toInt := o_eq h55
      first | (have q60 := te_subc (c := 1) (n := 1) rfl (q_I r12.2 1 14 a0) (by omega) (by omega); obtain ⟨f61, f62, f63⟩ := q60) | (obtain ⟨q60, f61, f62, f63⟩ := ti_subc (c := 1) (n := 1) rfl (q_I r12.2 1 14 a0))
      refine ok_bind (k_X1_valueAt L hN (a0 := a0) (x1 := ((q_I r12.2 1 14 a0) - (1 : Int32))) k_a0 hnu knu (show 0 ≤ (((q_I r12.2 1 14 a0) - (1 : Int32))).toInt by first | assumption | omega) (show (((q_I r12.2 1 14 a0) - (1 : Int32))).toInt < (q_I r12.2 3 1 nu).toInt by first | assumption | omega) i14) (fun r57 hr58 => ?_)
      have i64 := hr58
      try rw [i64]
      have f65 := ti_b r57.1
      refine ok_ite (fun h66 => ?_) (fun h66 => ?_)
      · have c67 : r57.1.toInt = xs0.toInt := o_eq h66
        refine ok_bind (k_X1_enterList L hN (a0 := a0) (x1 := xs0) k_a0 i14) (fun r68 hr69 => ?_)
        obtain ⟨i70, ⟨u73, u74, u75⟩, p71, p72⟩ := hr69
        have u76 := kp_t u23 u73
        have v77 : q_V r68 = q_V δ := (u74).trans v24
        have v78 : q_R r68 = q_R δ := (u75).trans v25
        have f79 := ti_b (q_I r68 1 3 a0)
        have f80 := ti_b (q_I r12.2 1 11 a0)
        have f81 : (q_I r12.2 1 11 a0).toInt = (q_I δ 1 11 a0).toInt := congrArg Int32.toInt (u20 1 11 a0 (by decide))
        have f82 := ti_b (q_I r68 1 4 a0)
        have f83 := ti_b (q_I r12.2 1 12 a0)
        have f84 : (q_I r12.2 1 12 a0).toInt = (q_I δ 1 12 a0).toInt := congrArg Int32.toInt (u20 1 12 a0 (by decide))
        exact ok_some (show CI ad h.1 δ0 r68 ∧ (kp [(1, 3), (1, 4), (1, 5), (1, 6), (1, 8), (1, 13), (1, 14), (1, 15)] δ r68 ∧ q_V r68 = q_V δ ∧ q_R r68 = q_R δ) ∧ 0 ≤ (q_I r68 1 3 a0).toInt ∧ (q_I r68 1 4 a0).toInt ≤ (q_I δ 3 1 nu).toInt from ⟨i70, ⟨kp_w (by decide) u76, v77, v78⟩, by first | assumption | omega, by first | assumption | omega⟩)
      · have c85 : r57.1.toInt ≠ xs0.toInt := o_ne h66
        unfold J_X1_goOnDropping_172
        refine ok_bind (k_X1_enterRoom L hN (a0 := a0) (x1 := xs0) k_a0 i14) (fun r86 hr87 => ?_)
        obtain ⟨i88, ⟨u91, u92, u93⟩, p89, p90⟩ := hr87
        have u94 := kp_t u23 u91
        have v95 : q_V r86 = q_V δ := (u92).trans v24
        have v96 : q_R r86 = q_R δ := (u93).trans v25
        have f97 := ti_b (q_I r86 1 3 a0)
        have f98 := ti_b (q_I r86 1 4 a0)
        exact ok_some (show CI ad h.1 δ0 r86 ∧ (kp [(1, 3), (1, 4), (1, 5), (1, 6), (1, 8), (1, 13), (1, 14), (1, 15)] δ r86 ∧ q_V r86 = q_V δ ∧ q_R r86 = q_R δ) ∧ 0 ≤ (q_I r86 1 3 a0).toInt ∧ (q_I r86 1 4 a0).toInt ≤ (q_I δ 3 1 nu).toInt from ⟨i88, ⟨kp_w (by decide) u94, v95, v96⟩, by first | assumption | omega, by first | assumption | omega⟩)
    · have c99 : r48.1.toInt ≠ xs0.toInt := o_ne h55
      unfold J_X1_goOnDropping_172
      refine ok_bind (k_X1_enterRoom L hN (a0 := a0) (x1 := xs0) k_a0 i14) (fun r100 hr101 => ?_)
      obtain ⟨i102, ⟨u105, u106, u107⟩, p103, p104⟩ := hr101
      have u108 := kp_t u23 u105
      have v109 : q_V r100 = q_V δ := (u106).trans v24
      have v110 : q_R r100 = q_R δ := (u107).trans v25
      have f111 := ti_b (q_I r100 1 3 a0)
      have f112 := ti_b (q_I r100 1 4 a0)
      exact ok_some (show CI ad h.1 δ0 r100 ∧ (kp [(1, 3), (1, 4), (1, 5), (1, 6), (1, 8), (1, 13), (1, 14), (1, 15)] δ r100 ∧ q_V r100 = q_V δ ∧ q_R r100 = q_R δ) ∧ 0 ≤ (q_I r100 1 3 a0).toInt ∧ (q_I r100 1 4 a0).toInt ≤ (q_I δ 3 1 nu).toInt from ⟨i102, ⟨kp_w (by decide) u108, v109, v110⟩, by first | assumption | omega, by first | assumption | omega⟩)
set_option maxHeartbeats 4000000 in
theorem kj_X1_goOnDropping_27 {ad : List Nat} {h : hp} (L : Lay TLx ad h) {δ0 : dp} {N : Nat} (hN : 10000000 ≤ N) {a0 : Nat} {xs0 : Int32} {nu : Nat} (k_a0 : q_K h.1 a0 = 1) (hnu : q_O h.1 1 1 a0 = some nu) (knu : q_K h.1 nu = 3) {δ : dp} (z0 : 0 ≤ (q_I δ 1 11 a0).toInt) (z1 : (q_I δ 1 11 a0).toInt ≤ (q_I δ 1 12 a0).toInt) (z2 : (q_I δ 1 12 a0).toInt ≤ (q_I δ 3 1 nu).toInt) (z3 : 0 ≤ (q_I δ 1 3 a0).toInt) (z4 : (q_I δ 1 4 a0).toInt ≤ (q_I δ 3 1 nu).toInt) (I : CI ad h.1 δ0 δ) : ok (J_X1_goOnDropping_27 N h.1 a0 xs0 δ) (fun r => CI ad h.1 δ0 r.2 ∧ (kp [(1, 3), (1, 4), (1, 5), (1, 6), (1, 8), (1, 13), (1, 14), (1, 15)] δ r.2 ∧ q_V r.2 = q_V δ ∧ q_R r.2 = q_R δ) ∧ 0 ≤ (q_I r.2 1 3 a0).toInt ∧ (q_I r.2 1 4 a0).toInt ≤ (q_I δ 3 1 nu).toInt) := by
  unfold J_X1_goOnDropping_27
  have f1 := ti_b (q_I δ 1 11 a0)
  have f2 := ti_b (q_I δ 1 12 a0)
  obtain ⟨b3, o4, k5, ⟨n6, n7⟩, w8⟩ := gO_3_0 L knu
  have f9 := cb_3_1 I knu o4
  have f10 := ti_b (q_I δ 1 3 a0)
  have f11 := ti_b (q_I δ 1 4 a0)
  have f12 := ti_b (q_I δ 1 8 a0)
  have f13 := ti_b (q_I δ 1 9 a0)
  refine ok_ite (fun h14 => ?_) (fun h14 => ?_)
  · have c15 : (q_I δ 1 8 a0).toInt < (q_I δ 1 9 a0).toInt := o_lt h14
    unfold J_X1_goOnDropping_65
    refine ok_bdv (fun d16 e17 => ?_)
    have i18 : CI ad h.1 δ0 d16 := by rw [e17]; exact cs_1_15 L I k_a0 (show 0 ≤ (1 : Int) by omega) (show (1 : Int) ≤ 1 by omega)
    have u19 := kp_I kp_r e17
    have v20 : q_V d16 = q_V δ := ((show q_V d16 = q_V δ by rw [e17]; rfl)).trans rfl
    have v21 : q_R d16 = q_R δ := ((show q_R d16 = q_R δ by rw [e17]; rfl)).trans rfl
    have f22 := ti_b (q_I d16 1 3 a0)
    have f23 : (q_I d16 1 3 a0).toInt = (q_I δ 1 3 a0).toInt := congrArg Int32.toInt (by rw [e17]; exact rI_o (by decide))
    have f24 := ti_b (q_I d16 1 4 a0)
    have f25 : (q_I d16 1 4 a0).toInt = (q_I δ 1 4 a0).toInt := congrArg Int32.toInt (by rw [e17]; exact rI_o (by decide))
    exact ok_some (show CI ad h.1 δ0 d16 ∧ (kp [(1, 3), (1, 4), (1, 5), (1, 6), (1, 8), (1, 13), (1, 14), (1, 15)] δ d16 ∧ q_V d16 = q_V δ ∧ q_R d16 = q_R δ) ∧ 0 ≤ (q_I d16 1 3 a0).toInt ∧ (q_I d16 1 4 a0).toInt ≤ (q_I δ 3 1 nu).toInt from ⟨i18, ⟨kp_w (by decide) u19, v20, v21⟩, by first | assumption | omega, by first | assumption | omega⟩)
  · have c26 : (q_I δ 1 9 a0).toInt ≤ (q_I δ 1 8 a0).toInt := o_nlt h14
    have f27 := ti_b (q_I δ 1 10 a0)
    refine ok_ite (fun h28 => ?_) (fun h28 => ?_)
    · have c29 : (q_I δ 1 10 a0).toInt < (q_I δ 1 8 a0).toInt := o_lt h28
      unfold J_X1_goOnDropping_65
      refine ok_bdv (fun d30 e31 => ?_)
      have i32 : CI ad h.1 δ0 d30 := by rw [e31]; exact cs_1_15 L I k_a0 (show 0 ≤ (1 : Int) by omega) (show (1 : Int) ≤ 1 by omega)
      have u33 := kp_I kp_r e31
      have v34 : q_V d30 = q_V δ := ((show q_V d30 = q_V δ by rw [e31]; rfl)).trans rfl
      have v35 : q_R d30 = q_R δ := ((show q_R d30 = q_R δ by rw [e31]; rfl)).trans rfl
      have f36 := ti_b (q_I d30 1 3 a0)
      have f37 : (q_I d30 1 3 a0).toInt = (q_I δ 1 3 a0).toInt := congrArg Int32.toInt (by rw [e31]; exact rI_o (by decide))
      have f38 := ti_b (q_I d30 1 4 a0)
      have f39 : (q_I d30 1 4 a0).toInt = (q_I δ 1 4 a0).toInt := congrArg Int32.toInt (by rw [e31]; exact rI_o (by decide))
      exact ok_some (show CI ad h.1 δ0 d30 ∧ (kp [(1, 3), (1, 4), (1, 5), (1, 6), (1, 8), (1, 13), (1, 14), (1, 15)] δ d30 ∧ q_V d30 = q_V δ ∧ q_R d30 = q_R δ) ∧ 0 ≤ (q_I d30 1 3 a0).toInt ∧ (q_I d30 1 4 a0).toInt ≤ (q_I δ 3 1 nu).toInt from ⟨i32, ⟨kp_w (by decide) u33, v34, v35⟩, by first | assumption | omega, by first | assumption | omega⟩)
    · have c40 : (q_I δ 1 8 a0).toInt ≤ (q_I δ 1 10 a0).toInt := o_nlt h28
      have f41 := ti_b xs0
      refine ok_ite (fun h42 => ?_) (fun h42 => ?_)
      · have c43 : xs0.toInt = (0 : Int) := o_eq h42
        unfold J_X1_goOnDropping_72
        refine ok_ite (fun h44 => ?_) (fun h44 => ?_)
        · have c45 : xs0.toInt = (0 : Int) := o_eq h44
          unfold J_X1_goOnDropping_81
          refine ok_ite (fun h46 => ?_) (fun h46 => ?_)
          · have c47 : xs0.toInt = (0 : Int) := o_eq h46
            refine ok_mono (kj_X1_goOnDropping_121 L hN (a0 := a0) (xs0 := (q_I δ 1 8 a0)) (x2v := (0 : Int32)) k_a0 hnu knu (show 0 ≤ (q_I δ 1 11 a0).toInt by first | assumption | omega) (show (q_I δ 1 11 a0).toInt ≤ (q_I δ 1 12 a0).toInt by first | assumption | omega) (show (q_I δ 1 12 a0).toInt ≤ (q_I δ 3 1 nu).toInt by first | assumption | omega) (show 0 ≤ (q_I δ 1 3 a0).toInt by first | assumption | omega) (show (q_I δ 1 4 a0).toInt ≤ (q_I δ 3 1 nu).toInt by first | assumption | omega) I) (fun r48 hr49 => ?_)
            obtain ⟨i50, ⟨u53, u54, u55⟩, p51, p52⟩ := hr49
            have u56 := kp_t kp_r u53
            have v57 : q_V r48.2 = q_V δ := (u54).trans rfl
            have v58 : q_R r48.2 = q_R δ := (u55).trans rfl
            have f59 := ti_b (q_I r48.2 1 3 a0)
            have f60 := ti_b (q_I r48.2 1 4 a0)
            have f61 := ti_b r48.1
            exact ⟨by assumption, ⟨kp_w (by decide) u56, v57, v58⟩, by first | assumption | omega, by first | assumption | omega⟩
          · have c62 : xs0.toInt ≠ (0 : Int) := o_ne h46
            refine ok_ite (fun h63 => ?_) (fun h63 => ?_)
            · have c64 : (q_I δ 1 8 a0).toInt = (q_I δ 1 9 a0).toInt := o_eq h63
              unfold J_X1_goOnDropping_118
              refine ok_bind (k_X1_valueAt L hN (a0 := a0) (x1 := (q_I δ 1 11 a0)) k_a0 hnu knu (show 0 ≤ ((q_I δ 1 11 a0)).toInt by first | assumption | omega) (show ((q_I δ 1 11 a0)).toInt < (q_I δ 3 1 nu).toInt by first | assumption | omega) I) (fun r65 hr66 => ?_)
              have i67 := hr66
              try rw [i67]
              have f68 := ti_b r65.1
              refine ok_mono (kj_X1_goOnDropping_121 L hN (a0 := a0) (xs0 := r65.1) (x2v := (0 : Int32)) k_a0 hnu knu (show 0 ≤ (q_I δ 1 11 a0).toInt by first | assumption | omega) (show (q_I δ 1 11 a0).toInt ≤ (q_I δ 1 12 a0).toInt by first | assumption | omega) (show (q_I δ 1 12 a0).toInt ≤ (q_I δ 3 1 nu).toInt by first | assumption | omega) (show 0 ≤ (q_I δ 1 3 a0).toInt by first | assumption | omega) (show (q_I δ 1 4 a0).toInt ≤ (q_I δ 3 1 nu).toInt by first | assumption | omega) I) (fun r69 hr70 => ?_)
              obtain ⟨i71, ⟨u74, u75, u76⟩, p72, p73⟩ := hr70
              have u77 := kp_t kp_r u74
              have v78 : q_V r69.2 = q_V δ := (u75).trans rfl
              have v79 : q_R r69.2 = q_R δ := (u76).trans rfl
              have f80 := ti_b (q_I r69.2 1 3 a0)
              have f81 := ti_b (q_I r69.2 1 4 a0)
              have f82 := ti_b r69.1
              exact ⟨by assumption, ⟨kp_w (by decide) u77, v78, v79⟩, by first | assumption | omega, by first | assumption | omega⟩
            · have c83 : (q_I δ 1 8 a0).toInt ≠ (q_I δ 1 9 a0).toInt := o_ne h63
              unfold J_X1_goOnDropping_118
              first | (have q87 := te_subc (c := 1) (n := 1) rfl (q_I δ 1 12 a0) (by omega) (by omega); obtain ⟨f88, f89, f90⟩ := q87) | (obtain ⟨q87, f88, f89, f90⟩ := ti_subc (c := 1) (n := 1) rfl (q_I δ 1 12 a0))
              refine ok_bind (k_X1_valueAt L hN (a0 := a0) (x1 := ((q_I δ 1 12 a0) - (1 : Int32))) k_a0 hnu knu (show 0 ≤ (((q_I δ 1 12 a0) - (1 : Int32))).toInt by first | assumption | omega) (show (((q_I δ 1 12 a0) - (1 : Int32))).toInt < (q_I δ 3 1 nu).toInt by first | assumption | omega) I) (fun r84 hr85 => ?_)
              have i91 := hr85
              try rw [i91]
              have f92 := ti_b r84.1
              refine ok_mono (kj_X1_goOnDropping_121 L hN (a0 := a0) (xs0 := r84.1) (x2v := (0 : Int32)) k_a0 hnu knu (show 0 ≤ (q_I δ 1 11 a0).toInt by first | assumption | omega) (show (q_I δ 1 11 a0).toInt ≤ (q_I δ 1 12 a0).toInt by first | assumption | omega) (show (q_I δ 1 12 a0).toInt ≤ (q_I δ 3 1 nu).toInt by first | assumption | omega) (show 0 ≤ (q_I δ 1 3 a0).toInt by first | assumption | omega) (show (q_I δ 1 4 a0).toInt ≤ (q_I δ 3 1 nu).toInt by first | assumption | omega) I) (fun r93 hr94 => ?_)
              obtain ⟨i95, ⟨u98, u99, u100⟩, p96, p97⟩ := hr94
              have u101 := kp_t kp_r u98
              have v102 : q_V r93.2 = q_V δ := (u99).trans rfl
              have v103 : q_R r93.2 = q_R δ := (u100).trans rfl
              have f104 := ti_b (q_I r93.2 1 3 a0)
              have f105 := ti_b (q_I r93.2 1 4 a0)
              have f106 := ti_b r93.1
              exact ⟨by assumption, ⟨kp_w (by decide) u101, v102, v103⟩, by first | assumption | omega, by first | assumption | omega⟩
        · have c107 : xs0.toInt ≠ (0 : Int) := o_ne h44
          unfold J_X1_goOnDropping_81
          refine ok_ite (fun h108 => ?_) (fun h108 => ?_)
          · have c109 : xs0.toInt = (0 : Int) := o_eq h108
            refine ok_mono (kj_X1_goOnDropping_121 L hN (a0 := a0) (xs0 := (q_I δ 1 8 a0)) (x2v := (2 : Int32)) k_a0 hnu knu (show 0 ≤ (q_I δ 1 11 a0).toInt by first | assumption | omega) (show (q_I δ 1 11 a0).toInt ≤ (q_I δ 1 12 a0).toInt by first | assumption | omega) (show (q_I δ 1 12 a0).toInt ≤ (q_I δ 3 1 nu).toInt by first | assumption | omega) (show 0 ≤ (q_I δ 1 3 a0).toInt by first | assumption | omega) (show (q_I δ 1 4 a0).toInt ≤ (q_I δ 3 1 nu).toInt by first | assumption | omega) I) (fun r110 hr111 => ?_)
            obtain ⟨i112, ⟨u115, u116, u117⟩, p113, p114⟩ := hr111
            have u118 := kp_t kp_r u115
            have v119 : q_V r110.2 = q_V δ := (u116).trans rfl
            have v120 : q_R r110.2 = q_R δ := (u117).trans rfl
            have f121 := ti_b (q_I r110.2 1 3 a0)
            have f122 := ti_b (q_I r110.2 1 4 a0)
            have f123 := ti_b r110.1
            exact ⟨by assumption, ⟨kp_w (by decide) u118, v119, v120⟩, by first | assumption | omega, by first | assumption | omega⟩
          · have c124 : xs0.toInt ≠ (0 : Int) := o_ne h108
            refine ok_ite (fun h125 => ?_) (fun h125 => ?_)
            · have c126 : (q_I δ 1 8 a0).toInt = (q_I δ 1 9 a0).toInt := o_eq h125
              unfold J_X1_goOnDropping_118
              refine ok_bind (k_X1_valueAt L hN (a0 := a0) (x1 := (q_I δ 1 11 a0)) k_a0 hnu knu (show 0 ≤ ((q_I δ 1 11 a0)).toInt by first | assumption | omega) (show ((q_I δ 1 11 a0)).toInt < (q_I δ 3 1 nu).toInt by first | assumption | omega) I) (fun r127 hr128 => ?_)
              have i129 := hr128
              try rw [i129]
              have f130 := ti_b r127.1
              refine ok_mono (kj_X1_goOnDropping_121 L hN (a0 := a0) (xs0 := r127.1) (x2v := (2 : Int32)) k_a0 hnu knu (show 0 ≤ (q_I δ 1 11 a0).toInt by first | assumption | omega) (show (q_I δ 1 11 a0).toInt ≤ (q_I δ 1 12 a0).toInt by first | assumption | omega) (show (q_I δ 1 12 a0).toInt ≤ (q_I δ 3 1 nu).toInt by first | assumption | omega) (show 0 ≤ (q_I δ 1 3 a0).toInt by first | assumption | omega) (show (q_I δ 1 4 a0).toInt ≤ (q_I δ 3 1 nu).toInt by first | assumption | omega) I) (fun r131 hr132 => ?_)
              obtain ⟨i133, ⟨u136, u137, u138⟩, p134, p135⟩ := hr132
              have u139 := kp_t kp_r u136
              have v140 : q_V r131.2 = q_V δ := (u137).trans rfl
              have v141 : q_R r131.2 = q_R δ := (u138).trans rfl
              have f142 := ti_b (q_I r131.2 1 3 a0)
              have f143 := ti_b (q_I r131.2 1 4 a0)
              have f144 := ti_b r131.1
              exact ⟨by assumption, ⟨kp_w (by decide) u139, v140, v141⟩, by first | assumption | omega, by first | assumption | omega⟩
            · have c145 : (q_I δ 1 8 a0).toInt ≠ (q_I δ 1 9 a0).toInt := o_ne h125
              unfold J_X1_goOnDropping_118
              first | (have q149 := te_subc (c := 1) (n := 1) rfl (q_I δ 1 12 a0) (by omega) (by omega); obtain ⟨f150, f151, f152⟩ := q149) | (obtain ⟨q149, f150, f151, f152⟩ := ti_subc (c := 1) (n := 1) rfl (q_I δ 1 12 a0))
              refine ok_bind (k_X1_valueAt L hN (a0 := a0) (x1 := ((q_I δ 1 12 a0) - (1 : Int32))) k_a0 hnu knu (show 0 ≤ (((q_I δ 1 12 a0) - (1 : Int32))).toInt by first | assumption | omega) (show (((q_I δ 1 12 a0) - (1 : Int32))).toInt < (q_I δ 3 1 nu).toInt by first | assumption | omega) I) (fun r146 hr147 => ?_)
              have i153 := hr147
              try rw [i153]
              have f154 := ti_b r146.1
              refine ok_mono (kj_X1_goOnDropping_121 L hN (a0 := a0) (xs0 := r146.1) (x2v := (2 : Int32)) k_a0 hnu knu (show 0 ≤ (q_I δ 1 11 a0).toInt by first | assumption | omega) (show (q_I δ 1 11 a0).toInt ≤ (q_I δ 1 12 a0).toInt by first | assumption | omega) (show (q_I δ 1 12 a0).toInt ≤ (q_I δ 3 1 nu).toInt by first | assumption | omega) (show 0 ≤ (q_I δ 1 3 a0).toInt by first | assumption | omega) (show (q_I δ 1 4 a0).toInt ≤ (q_I δ 3 1 nu).toInt by first | assumption | omega) I) (fun r155 hr156 => ?_)
              obtain ⟨i157, ⟨u160, u161, u162⟩, p158, p159⟩ := hr156
              have u163 := kp_t kp_r u160
              have v164 : q_V r155.2 = q_V δ := (u161).trans rfl
              have v165 : q_R r155.2 = q_R δ := (u162).trans rfl
              have f166 := ti_b (q_I r155.2 1 3 a0)
              have f167 := ti_b (q_I r155.2 1 4 a0)
              have f168 := ti_b r155.1
              exact ⟨by assumption, ⟨kp_w (by decide) u163, v164, v165⟩, by first | assumption | omega, by first | assumption | omega⟩
      · have c169 : xs0.toInt ≠ (0 : Int) := o_ne h42
        refine ok_ite (fun h170 => ?_) (fun h170 => ?_)
        · have c171 : (q_I δ 1 11 a0).toInt < (q_I δ 1 12 a0).toInt := o_lt h170
          unfold J_X1_goOnDropping_72
          refine ok_ite (fun h172 => ?_) (fun h172 => ?_)
          · have c173 : xs0.toInt = (0 : Int) := o_eq h172
            unfold J_X1_goOnDropping_81
            refine ok_ite (fun h174 => ?_) (fun h174 => ?_)
            · have c175 : xs0.toInt = (0 : Int) := o_eq h174
              refine ok_mono (kj_X1_goOnDropping_121 L hN (a0 := a0) (xs0 := (q_I δ 1 8 a0)) (x2v := (0 : Int32)) k_a0 hnu knu (show 0 ≤ (q_I δ 1 11 a0).toInt by first | assumption | omega) (show (q_I δ 1 11 a0).toInt ≤ (q_I δ 1 12 a0).toInt by first | assumption | omega) (show (q_I δ 1 12 a0).toInt ≤ (q_I δ 3 1 nu).toInt by first | assumption | omega) (show 0 ≤ (q_I δ 1 3 a0).toInt by first | assumption | omega) (show (q_I δ 1 4 a0).toInt ≤ (q_I δ 3 1 nu).toInt by first | assumption | omega) I) (fun r176 hr177 => ?_)
              obtain ⟨i178, ⟨u181, u182, u183⟩, p179, p180⟩ := hr177
              have u184 := kp_t kp_r u181
              have v185 : q_V r176.2 = q_V δ := (u182).trans rfl
              have v186 : q_R r176.2 = q_R δ := (u183).trans rfl
              have f187 := ti_b (q_I r176.2 1 3 a0)
              have f188 := ti_b (q_I r176.2 1 4 a0)
              have f189 := ti_b r176.1
              exact ⟨by assumption, ⟨kp_w (by decide) u184, v185, v186⟩, by first | assumption | omega, by first | assumption | omega⟩
            · have c190 : xs0.toInt ≠ (0 : Int) := o_ne h174
              refine ok_ite (fun h191 => ?_) (fun h191 => ?_)
              · have c192 : (q_I δ 1 8 a0).toInt = (q_I δ 1 9 a0).toInt := o_eq h191
                unfold J_X1_goOnDropping_118
                refine ok_bind (k_X1_valueAt L hN (a0 := a0) (x1 := (q_I δ 1 11 a0)) k_a0 hnu knu (show 0 ≤ ((q_I δ 1 11 a0)).toInt by first | assumption | omega) (show ((q_I δ 1 11 a0)).toInt < (q_I δ 3 1 nu).toInt by first | assumption | omega) I) (fun r193 hr194 => ?_)
                have i195 := hr194
                try rw [i195]
                have f196 := ti_b r193.1
                refine ok_mono (kj_X1_goOnDropping_121 L hN (a0 := a0) (xs0 := r193.1) (x2v := (0 : Int32)) k_a0 hnu knu (show 0 ≤ (q_I δ 1 11 a0).toInt by first | assumption | omega) (show (q_I δ 1 11 a0).toInt ≤ (q_I δ 1 12 a0).toInt by first | assumption | omega) (show (q_I δ 1 12 a0).toInt ≤ (q_I δ 3 1 nu).toInt by first | assumption | omega) (show 0 ≤ (q_I δ 1 3 a0).toInt by first | assumption | omega) (show (q_I δ 1 4 a0).toInt ≤ (q_I δ 3 1 nu).toInt by first | assumption | omega) I) (fun r197 hr198 => ?_)
                obtain ⟨i199, ⟨u202, u203, u204⟩, p200, p201⟩ := hr198
                have u205 := kp_t kp_r u202
                have v206 : q_V r197.2 = q_V δ := (u203).trans rfl
                have v207 : q_R r197.2 = q_R δ := (u204).trans rfl
                have f208 := ti_b (q_I r197.2 1 3 a0)
                have f209 := ti_b (q_I r197.2 1 4 a0)
                have f210 := ti_b r197.1
                exact ⟨by assumption, ⟨kp_w (by decide) u205, v206, v207⟩, by first | assumption | omega, by first | assumption | omega⟩
              · have c211 : (q_I δ 1 8 a0).toInt ≠ (q_I δ 1 9 a0).toInt := o_ne h191
                unfold J_X1_goOnDropping_118
                first | (have q215 := te_subc (c := 1) (n := 1) rfl (q_I δ 1 12 a0) (by omega) (by omega); obtain ⟨f216, f217, f218⟩ := q215) | (obtain ⟨q215, f216, f217, f218⟩ := ti_subc (c := 1) (n := 1) rfl (q_I δ 1 12 a0))
                refine ok_bind (k_X1_valueAt L hN (a0 := a0) (x1 := ((q_I δ 1 12 a0) - (1 : Int32))) k_a0 hnu knu (show 0 ≤ (((q_I δ 1 12 a0) - (1 : Int32))).toInt by first | assumption | omega) (show (((q_I δ 1 12 a0) - (1 : Int32))).toInt < (q_I δ 3 1 nu).toInt by first | assumption | omega) I) (fun r212 hr213 => ?_)
                have i219 := hr213
                try rw [i219]
                have f220 := ti_b r212.1
                refine ok_mono (kj_X1_goOnDropping_121 L hN (a0 := a0) (xs0 := r212.1) (x2v := (0 : Int32)) k_a0 hnu knu (show 0 ≤ (q_I δ 1 11 a0).toInt by first | assumption | omega) (show (q_I δ 1 11 a0).toInt ≤ (q_I δ 1 12 a0).toInt by first | assumption | omega) (show (q_I δ 1 12 a0).toInt ≤ (q_I δ 3 1 nu).toInt by first | assumption | omega) (show 0 ≤ (q_I δ 1 3 a0).toInt by first | assumption | omega) (show (q_I δ 1 4 a0).toInt ≤ (q_I δ 3 1 nu).toInt by first | assumption | omega) I) (fun r221 hr222 => ?_)
                obtain ⟨i223, ⟨u226, u227, u228⟩, p224, p225⟩ := hr222
                have u229 := kp_t kp_r u226
                have v230 : q_V r221.2 = q_V δ := (u227).trans rfl
                have v231 : q_R r221.2 = q_R δ := (u228).trans rfl
                have f232 := ti_b (q_I r221.2 1 3 a0)
                have f233 := ti_b (q_I r221.2 1 4 a0)
                have f234 := ti_b r221.1
                exact ⟨by assumption, ⟨kp_w (by decide) u229, v230, v231⟩, by first | assumption | omega, by first | assumption | omega⟩
          · have c235 : xs0.toInt ≠ (0 : Int) := o_ne h172
            unfold J_X1_goOnDropping_81
            refine ok_ite (fun h236 => ?_) (fun h236 => ?_)
            · have c237 : xs0.toInt = (0 : Int) := o_eq h236
              refine ok_mono (kj_X1_goOnDropping_121 L hN (a0 := a0) (xs0 := (q_I δ 1 8 a0)) (x2v := (2 : Int32)) k_a0 hnu knu (show 0 ≤ (q_I δ 1 11 a0).toInt by first | assumption | omega) (show (q_I δ 1 11 a0).toInt ≤ (q_I δ 1 12 a0).toInt by first | assumption | omega) (show (q_I δ 1 12 a0).toInt ≤ (q_I δ 3 1 nu).toInt by first | assumption | omega) (show 0 ≤ (q_I δ 1 3 a0).toInt by first | assumption | omega) (show (q_I δ 1 4 a0).toInt ≤ (q_I δ 3 1 nu).toInt by first | assumption | omega) I) (fun r238 hr239 => ?_)
              obtain ⟨i240, ⟨u243, u244, u245⟩, p241, p242⟩ := hr239
              have u246 := kp_t kp_r u243
              have v247 : q_V r238.2 = q_V δ := (u244).trans rfl
              have v248 : q_R r238.2 = q_R δ := (u245).trans rfl
              have f249 := ti_b (q_I r238.2 1 3 a0)
              have f250 := ti_b (q_I r238.2 1 4 a0)
              have f251 := ti_b r238.1
              exact ⟨by assumption, ⟨kp_w (by decide) u246, v247, v248⟩, by first | assumption | omega, by first | assumption | omega⟩
            · have c252 : xs0.toInt ≠ (0 : Int) := o_ne h236
              refine ok_ite (fun h253 => ?_) (fun h253 => ?_)
              · have c254 : (q_I δ 1 8 a0).toInt = (q_I δ 1 9 a0).toInt := o_eq h253
                unfold J_X1_goOnDropping_118
                refine ok_bind (k_X1_valueAt L hN (a0 := a0) (x1 := (q_I δ 1 11 a0)) k_a0 hnu knu (show 0 ≤ ((q_I δ 1 11 a0)).toInt by first | assumption | omega) (show ((q_I δ 1 11 a0)).toInt < (q_I δ 3 1 nu).toInt by first | assumption | omega) I) (fun r255 hr256 => ?_)
                have i257 := hr256
                try rw [i257]
                have f258 := ti_b r255.1
                refine ok_mono (kj_X1_goOnDropping_121 L hN (a0 := a0) (xs0 := r255.1) (x2v := (2 : Int32)) k_a0 hnu knu (show 0 ≤ (q_I δ 1 11 a0).toInt by first | assumption | omega) (show (q_I δ 1 11 a0).toInt ≤ (q_I δ 1 12 a0).toInt by first | assumption | omega) (show (q_I δ 1 12 a0).toInt ≤ (q_I δ 3 1 nu).toInt by first | assumption | omega) (show 0 ≤ (q_I δ 1 3 a0).toInt by first | assumption | omega) (show (q_I δ 1 4 a0).toInt ≤ (q_I δ 3 1 nu).toInt by first | assumption | omega) I) (fun r259 hr260 => ?_)
                obtain ⟨i261, ⟨u264, u265, u266⟩, p262, p263⟩ := hr260
                have u267 := kp_t kp_r u264
                have v268 : q_V r259.2 = q_V δ := (u265).trans rfl
                have v269 : q_R r259.2 = q_R δ := (u266).trans rfl
                have f270 := ti_b (q_I r259.2 1 3 a0)
                have f271 := ti_b (q_I r259.2 1 4 a0)
                have f272 := ti_b r259.1
                exact ⟨by assumption, ⟨kp_w (by decide) u267, v268, v269⟩, by first | assumption | omega, by first | assumption | omega⟩
              · have c273 : (q_I δ 1 8 a0).toInt ≠ (q_I δ 1 9 a0).toInt := o_ne h253
                unfold J_X1_goOnDropping_118
                first | (have q277 := te_subc (c := 1) (n := 1) rfl (q_I δ 1 12 a0) (by omega) (by omega); obtain ⟨f278, f279, f280⟩ := q277) | (obtain ⟨q277, f278, f279, f280⟩ := ti_subc (c := 1) (n := 1) rfl (q_I δ 1 12 a0))
                refine ok_bind (k_X1_valueAt L hN (a0 := a0) (x1 := ((q_I δ 1 12 a0) - (1 : Int32))) k_a0 hnu knu (show 0 ≤ (((q_I δ 1 12 a0) - (1 : Int32))).toInt by first | assumption | omega) (show (((q_I δ 1 12 a0) - (1 : Int32))).toInt < (q_I δ 3 1 nu).toInt by first | assumption | omega) I) (fun r274 hr275 => ?_)
                have i281 := hr275
                try rw [i281]
                have f282 := ti_b r274.1
                refine ok_mono (kj_X1_goOnDropping_121 L hN (a0 := a0) (xs0 := r274.1) (x2v := (2 : Int32)) k_a0 hnu knu (show 0 ≤ (q_I δ 1 11 a0).toInt by first | assumption | omega) (show (q_I δ 1 11 a0).toInt ≤ (q_I δ 1 12 a0).toInt by first | assumption | omega) (show (q_I δ 1 12 a0).toInt ≤ (q_I δ 3 1 nu).toInt by first | assumption | omega) (show 0 ≤ (q_I δ 1 3 a0).toInt by first | assumption | omega) (show (q_I δ 1 4 a0).toInt ≤ (q_I δ 3 1 nu).toInt by first | assumption | omega) I) (fun r283 hr284 => ?_)
                obtain ⟨i285, ⟨u288, u289, u290⟩, p286, p287⟩ := hr284
                have u291 := kp_t kp_r u288
                have v292 : q_V r283.2 = q_V δ := (u289).trans rfl
                have v293 : q_R r283.2 = q_R δ := (u290).trans rfl
                have f294 := ti_b (q_I r283.2 1 3 a0)
                have f295 := ti_b (q_I r283.2 1 4 a0)
                have f296 := ti_b r283.1
                exact ⟨by assumption, ⟨kp_w (by decide) u291, v292, v293⟩, by first | assumption | omega, by first | assumption | omega⟩
        · have c297 : (q_I δ 1 12 a0).toInt ≤ (q_I δ 1 11 a0).toInt := o_nlt h170
          unfold J_X1_goOnDropping_65
          refine ok_bdv (fun d298 e299 => ?_)
          have i300 : CI ad h.1 δ0 d298 := by rw [e299]; exact cs_1_15 L I k_a0 (show 0 ≤ (1 : Int) by omega) (show (1 : Int) ≤ 1 by omega)
          have u301 := kp_I kp_r e299
          have v302 : q_V d298 = q_V δ := ((show q_V d298 = q_V δ by rw [e299]; rfl)).trans rfl
          have v303 : q_R d298 = q_R δ := ((show q_R d298 = q_R δ by rw [e299]; rfl)).trans rfl
          have f304 := ti_b (q_I d298 1 3 a0)
          have f305 : (q_I d298 1 3 a0).toInt = (q_I δ 1 3 a0).toInt := congrArg Int32.toInt (by rw [e299]; exact rI_o (by decide))
          have f306 := ti_b (q_I d298 1 4 a0)
          have f307 : (q_I d298 1 4 a0).toInt = (q_I δ 1 4 a0).toInt := congrArg Int32.toInt (by rw [e299]; exact rI_o (by decide))
          exact ok_some (show CI ad h.1 δ0 d298 ∧ (kp [(1, 3), (1, 4), (1, 5), (1, 6), (1, 8), (1, 13), (1, 14), (1, 15)] δ d298 ∧ q_V d298 = q_V δ ∧ q_R d298 = q_R δ) ∧ 0 ≤ (q_I d298 1 3 a0).toInt ∧ (q_I d298 1 4 a0).toInt ≤ (q_I δ 3 1 nu).toInt from ⟨i300, ⟨kp_w (by decide) u301, v302, v303⟩, by first | assumption | omega, by first | assumption | omega⟩)
set_option maxHeartbeats 4000000 in
theorem k_X1_goOnDropping {ad : List Nat} {h : hp} (L : Lay TLx ad h) {δ0 : dp} {N : Nat} (hN : 10000000 ≤ N) {a0 : Nat} {nu : Nat} (k_a0 : q_K h.1 a0 = 1) (hnu : q_O h.1 1 1 a0 = some nu) (knu : q_K h.1 nu = 3) {δ : dp} (z0 : 0 ≤ (q_I δ 1 11 a0).toInt) (z1 : (q_I δ 1 11 a0).toInt ≤ (q_I δ 1 12 a0).toInt) (z2 : (q_I δ 1 12 a0).toInt ≤ (q_I δ 3 1 nu).toInt) (z3 : 0 ≤ (q_I δ 1 3 a0).toInt) (z4 : (q_I δ 1 4 a0).toInt ≤ (q_I δ 3 1 nu).toInt) (I : CI ad h.1 δ0 δ) : ok (D_X1_goOnDropping N h.1 a0 δ) (fun r => CI ad h.1 δ0 r.2 ∧ (kp [(1, 3), (1, 4), (1, 5), (1, 6), (1, 8), (1, 13), (1, 14), (1, 15)] δ r.2 ∧ q_V r.2 = q_V δ ∧ q_R r.2 = q_R δ) ∧ 0 ≤ (q_I r.2 1 3 a0).toInt ∧ (q_I r.2 1 4 a0).toInt ≤ (q_I δ 3 1 nu).toInt) := by
  unfold D_X1_goOnDropping
  have f1 := ti_b (q_I δ 1 11 a0)
  have f2 := ti_b (q_I δ 1 12 a0)
  obtain ⟨b3, o4, k5, ⟨n6, n7⟩, w8⟩ := gO_3_0 L knu
  have f9 := cb_3_1 I knu o4
  have f10 := ti_b (q_I δ 1 3 a0)
  have f11 := ti_b (q_I δ 1 4 a0)
  have f12 := ti_b (q_I δ 1 8 a0)
  have f13 := ti_b (q_I δ 1 9 a0)
  refine ok_ite (fun h14 => ?_) (fun h14 => ?_)
  · have c15 : (q_I δ 1 8 a0).toInt = (q_I δ 1 9 a0).toInt := o_eq h14
    unfold J_X1_goOnDropping_22
    refine ok_mono (kj_X1_goOnDropping_27 L hN (a0 := a0) (xs0 := (1 : Int32)) k_a0 hnu knu (show 0 ≤ (q_I δ 1 11 a0).toInt by first | assumption | omega) (show (q_I δ 1 11 a0).toInt ≤ (q_I δ 1 12 a0).toInt by first | assumption | omega) (show (q_I δ 1 12 a0).toInt ≤ (q_I δ 3 1 nu).toInt by first | assumption | omega) (show 0 ≤ (q_I δ 1 3 a0).toInt by first | assumption | omega) (show (q_I δ 1 4 a0).toInt ≤ (q_I δ 3 1 nu).toInt by first | assumption | omega) I) (fun r16 hr17 => ?_)
    obtain ⟨i18, ⟨u21, u22, u23⟩, p19, p20⟩ := hr17
    have u24 := kp_t kp_r u21
    have v25 : q_V r16.2 = q_V δ := (u22).trans rfl
    have v26 : q_R r16.2 = q_R δ := (u23).trans rfl
    have f27 := ti_b (q_I r16.2 1 3 a0)
    have f28 := ti_b (q_I r16.2 1 4 a0)
    have f29 := ti_b r16.1
    exact ⟨by assumption, ⟨kp_w (by decide) u24, v25, v26⟩, by first | assumption | omega, by first | assumption | omega⟩
  · have c30 : (q_I δ 1 8 a0).toInt ≠ (q_I δ 1 9 a0).toInt := o_ne h14
    have f31 := ti_b (q_I δ 1 10 a0)
    refine ok_ite (fun h32 => ?_) (fun h32 => ?_)
    · have c33 : (q_I δ 1 8 a0).toInt = (q_I δ 1 10 a0).toInt := o_eq h32
      unfold J_X1_goOnDropping_22
      refine ok_mono (kj_X1_goOnDropping_27 L hN (a0 := a0) (xs0 := (1 : Int32)) k_a0 hnu knu (show 0 ≤ (q_I δ 1 11 a0).toInt by first | assumption | omega) (show (q_I δ 1 11 a0).toInt ≤ (q_I δ 1 12 a0).toInt by first | assumption | omega) (show (q_I δ 1 12 a0).toInt ≤ (q_I δ 3 1 nu).toInt by first | assumption | omega) (show 0 ≤ (q_I δ 1 3 a0).toInt by first | assumption | omega) (show (q_I δ 1 4 a0).toInt ≤ (q_I δ 3 1 nu).toInt by first | assumption | omega) I) (fun r34 hr35 => ?_)
      obtain ⟨i36, ⟨u39, u40, u41⟩, p37, p38⟩ := hr35
      have u42 := kp_t kp_r u39
      have v43 : q_V r34.2 = q_V δ := (u40).trans rfl
      have v44 : q_R r34.2 = q_R δ := (u41).trans rfl
      have f45 := ti_b (q_I r34.2 1 3 a0)
      have f46 := ti_b (q_I r34.2 1 4 a0)
      have f47 := ti_b r34.1
      exact ⟨by assumption, ⟨kp_w (by decide) u42, v43, v44⟩, by first | assumption | omega, by first | assumption | omega⟩
    · have c48 : (q_I δ 1 8 a0).toInt ≠ (q_I δ 1 10 a0).toInt := o_ne h32
      refine ok_mono (kj_X1_goOnDropping_27 L hN (a0 := a0) (xs0 := (0 : Int32)) k_a0 hnu knu (show 0 ≤ (q_I δ 1 11 a0).toInt by first | assumption | omega) (show (q_I δ 1 11 a0).toInt ≤ (q_I δ 1 12 a0).toInt by first | assumption | omega) (show (q_I δ 1 12 a0).toInt ≤ (q_I δ 3 1 nu).toInt by first | assumption | omega) (show 0 ≤ (q_I δ 1 3 a0).toInt by first | assumption | omega) (show (q_I δ 1 4 a0).toInt ≤ (q_I δ 3 1 nu).toInt by first | assumption | omega) I) (fun r49 hr50 => ?_)
      obtain ⟨i51, ⟨u54, u55, u56⟩, p52, p53⟩ := hr50
      have u57 := kp_t kp_r u54
      have v58 : q_V r49.2 = q_V δ := (u55).trans rfl
      have v59 : q_R r49.2 = q_R δ := (u56).trans rfl
      have f60 := ti_b (q_I r49.2 1 3 a0)
      have f61 := ti_b (q_I r49.2 1 4 a0)
      have f62 := ti_b r49.1
      exact ⟨by assumption, ⟨kp_w (by decide) u57, v58, v59⟩, by first | assumption | omega, by first | assumption | omega⟩
set_option maxHeartbeats 4000000 in
theorem k_X1_goOnAsking {ad : List Nat} {h : hp} (L : Lay TLx ad h) {δ0 : dp} {N : Nat} (hN : 10000000 ≤ N) {a0 : Nat} {nu : Nat} (k_a0 : q_K h.1 a0 = 1) (hnu : q_O h.1 1 1 a0 = some nu) (knu : q_K h.1 nu = 3) {δ : dp} (z0 : 0 ≤ (q_I δ 1 11 a0).toInt) (z1 : (q_I δ 1 11 a0).toInt ≤ (q_I δ 1 12 a0).toInt) (z2 : (q_I δ 1 12 a0).toInt ≤ (q_I δ 3 1 nu).toInt) (z3 : 0 ≤ (q_I δ 1 3 a0).toInt) (z4 : (q_I δ 1 4 a0).toInt ≤ (q_I δ 3 1 nu).toInt) (I : CI ad h.1 δ0 δ) : ok (D_X1_goOnAsking N h.1 a0 δ) (fun r => CI ad h.1 δ0 r ∧ (kp [(1, 3), (1, 4), (1, 6), (1, 8), (1, 13), (1, 14), (1, 15)] δ r ∧ q_V r = q_V δ ∧ q_R r = q_R δ) ∧ 0 ≤ (q_I r 1 3 a0).toInt ∧ (q_I r 1 4 a0).toInt ≤ (q_I δ 3 1 nu).toInt) := by
  unfold D_X1_goOnAsking
  have f1 := ti_b (q_I δ 1 11 a0)
  have f2 := ti_b (q_I δ 1 12 a0)
  obtain ⟨b3, o4, k5, ⟨n6, n7⟩, w8⟩ := gO_3_0 L knu
  have f9 := cb_3_1 I knu o4
  have f10 := ti_b (q_I δ 1 3 a0)
  have f11 := ti_b (q_I δ 1 4 a0)
  have f12 := ti_b (q_I δ 1 8 a0)
  have f13 := ti_b (q_I δ 1 9 a0)
  refine ok_ite (fun h14 => ?_) (fun h14 => ?_)
  · have c15 : (q_I δ 1 8 a0).toInt ≤ (q_I δ 1 9 a0).toInt := o_le h14
    unfold J_X1_goOnAsking_33
    refine ok_bdv (fun d16 e17 => ?_)
    have i18 : CI ad h.1 δ0 d16 := by rw [e17]; exact cs_1_15 L I k_a0 (show 0 ≤ (1 : Int) by omega) (show (1 : Int) ≤ 1 by omega)
    have u19 := kp_I kp_r e17
    have v20 : q_V d16 = q_V δ := ((show q_V d16 = q_V δ by rw [e17]; rfl)).trans rfl
    have v21 : q_R d16 = q_R δ := ((show q_R d16 = q_R δ by rw [e17]; rfl)).trans rfl
    unfold J_X1_goOnAsking_49
    have f22 := ti_b (q_I d16 1 3 a0)
    have f23 : (q_I d16 1 3 a0).toInt = (q_I δ 1 3 a0).toInt := congrArg Int32.toInt (by rw [e17]; exact rI_o (by decide))
    have f24 := ti_b (q_I d16 1 4 a0)
    have f25 : (q_I d16 1 4 a0).toInt = (q_I δ 1 4 a0).toInt := congrArg Int32.toInt (by rw [e17]; exact rI_o (by decide))
    exact ok_some (show CI ad h.1 δ0 d16 ∧ (kp [(1, 3), (1, 4), (1, 6), (1, 8), (1, 13), (1, 14), (1, 15)] δ d16 ∧ q_V d16 = q_V δ ∧ q_R d16 = q_R δ) ∧ 0 ≤ (q_I d16 1 3 a0).toInt ∧ (q_I d16 1 4 a0).toInt ≤ (q_I δ 3 1 nu).toInt from ⟨i18, ⟨kp_w (by decide) u19, v20, v21⟩, by first | assumption | omega, by first | assumption | omega⟩)
  · have c26 : (q_I δ 1 9 a0).toInt < (q_I δ 1 8 a0).toInt := o_nle h14
    have f27 := ti_b (q_I δ 1 10 a0)
    refine ok_ite (fun h28 => ?_) (fun h28 => ?_)
    · have c29 : (q_I δ 1 10 a0).toInt ≤ (q_I δ 1 8 a0).toInt := o_le h28
      unfold J_X1_goOnAsking_33
      refine ok_bdv (fun d30 e31 => ?_)
      have i32 : CI ad h.1 δ0 d30 := by rw [e31]; exact cs_1_15 L I k_a0 (show 0 ≤ (1 : Int) by omega) (show (1 : Int) ≤ 1 by omega)
      have u33 := kp_I kp_r e31
      have v34 : q_V d30 = q_V δ := ((show q_V d30 = q_V δ by rw [e31]; rfl)).trans rfl
      have v35 : q_R d30 = q_R δ := ((show q_R d30 = q_R δ by rw [e31]; rfl)).trans rfl
      unfold J_X1_goOnAsking_49
      have f36 := ti_b (q_I d30 1 3 a0)
      have f37 : (q_I d30 1 3 a0).toInt = (q_I δ 1 3 a0).toInt := congrArg Int32.toInt (by rw [e31]; exact rI_o (by decide))
      have f38 := ti_b (q_I d30 1 4 a0)
      have f39 : (q_I d30 1 4 a0).toInt = (q_I δ 1 4 a0).toInt := congrArg Int32.toInt (by rw [e31]; exact rI_o (by decide))
      exact ok_some (show CI ad h.1 δ0 d30 ∧ (kp [(1, 3), (1, 4), (1, 6), (1, 8), (1, 13), (1, 14), (1, 15)] δ d30 ∧ q_V d30 = q_V δ ∧ q_R d30 = q_R δ) ∧ 0 ≤ (q_I d30 1 3 a0).toInt ∧ (q_I d30 1 4 a0).toInt ≤ (q_I δ 3 1 nu).toInt from ⟨i32, ⟨kp_w (by decide) u33, v34, v35⟩, by first | assumption | omega, by first | assumption | omega⟩)
    · have c40 : (q_I δ 1 8 a0).toInt < (q_I δ 1 10 a0).toInt := o_nle h28
      refine ok_bind (k_X1_findRoom L hN (a0 := a0) (x1 := (q_I δ 1 8 a0)) k_a0 hnu knu (show 0 ≤ (q_I δ 1 11 a0).toInt by first | assumption | omega) (show (q_I δ 1 11 a0).toInt ≤ (q_I δ 1 12 a0).toInt by first | assumption | omega) (show (q_I δ 1 12 a0).toInt ≤ (q_I δ 3 1 nu).toInt by first | assumption | omega) I) (fun r41 hr42 => ?_)
      obtain ⟨i43, ⟨u49, u50, u51⟩, p44, p45, p46, p47, p48⟩ := hr42
      have u52 := kp_t kp_r u49
      have v53 : q_V r41.2 = q_V δ := (u50).trans rfl
      have v54 : q_R r41.2 = q_R δ := (u51).trans rfl
      have f55 := bo_t p44
      have f56 := ti_b (q_I r41.2 1 13 a0)
      have f57 := ti_b (q_I r41.2 1 14 a0)
      have f58 := ti_b r41.1
      have f59 := ti_b r41.1
      refine ok_ite (fun h60 => ?_) (fun h60 => ?_)
      · have c61 : r41.1.toInt = (0 : Int) := o_eq h60
        unfold J_X1_goOnAsking_33
        refine ok_bdv (fun d62 e63 => ?_)
        have i64 : CI ad h.1 δ0 d62 := by rw [e63]; exact cs_1_15 L i43 k_a0 (show 0 ≤ (1 : Int) by omega) (show (1 : Int) ≤ 1 by omega)
        have u65 := kp_I u52 e63
        have v66 : q_V d62 = q_V δ := ((show q_V d62 = q_V r41.2 by rw [e63]; rfl)).trans v53
        have v67 : q_R d62 = q_R δ := ((show q_R d62 = q_R r41.2 by rw [e63]; rfl)).trans v54
        unfold J_X1_goOnAsking_49
        have f68 := ti_b (q_I d62 1 3 a0)
        have f69 : (q_I d62 1 3 a0).toInt = (q_I r41.2 1 3 a0).toInt := congrArg Int32.toInt (by rw [e63]; exact rI_o (by decide))
        have f70 := ti_b (q_I r41.2 1 3 a0)
        have f71 : (q_I r41.2 1 3 a0).toInt = (q_I δ 1 3 a0).toInt := congrArg Int32.toInt (u49 1 3 a0 (by decide))
        have f72 := ti_b (q_I d62 1 4 a0)
        have f73 : (q_I d62 1 4 a0).toInt = (q_I r41.2 1 4 a0).toInt := congrArg Int32.toInt (by rw [e63]; exact rI_o (by decide))
        have f74 := ti_b (q_I r41.2 1 4 a0)
        have f75 : (q_I r41.2 1 4 a0).toInt = (q_I δ 1 4 a0).toInt := congrArg Int32.toInt (u49 1 4 a0 (by decide))
        exact ok_some (show CI ad h.1 δ0 d62 ∧ (kp [(1, 3), (1, 4), (1, 6), (1, 8), (1, 13), (1, 14), (1, 15)] δ d62 ∧ q_V d62 = q_V δ ∧ q_R d62 = q_R δ) ∧ 0 ≤ (q_I d62 1 3 a0).toInt ∧ (q_I d62 1 4 a0).toInt ≤ (q_I δ 3 1 nu).toInt from ⟨i64, ⟨kp_w (by decide) u65, v66, v67⟩, by first | assumption | omega, by first | assumption | omega⟩)
      · have c76 : r41.1.toInt ≠ (0 : Int) := o_ne h60
        refine ok_bind (k_X1_enterRoom L hN (a0 := a0) (x1 := (q_I r41.2 1 8 a0)) k_a0 i43) (fun r77 hr78 => ?_)
        obtain ⟨i79, ⟨u82, u83, u84⟩, p80, p81⟩ := hr78
        have u85 := kp_t u52 u82
        have v86 : q_V r77 = q_V δ := (u83).trans v53
        have v87 : q_R r77 = q_R δ := (u84).trans v54
        have f88 := ti_b (q_I r77 1 3 a0)
        have f89 := ti_b (q_I r77 1 4 a0)
        unfold J_X1_goOnAsking_49
        exact ok_some (show CI ad h.1 δ0 r77 ∧ (kp [(1, 3), (1, 4), (1, 6), (1, 8), (1, 13), (1, 14), (1, 15)] δ r77 ∧ q_V r77 = q_V δ ∧ q_R r77 = q_R δ) ∧ 0 ≤ (q_I r77 1 3 a0).toInt ∧ (q_I r77 1 4 a0).toInt ≤ (q_I δ 3 1 nu).toInt from ⟨i79, ⟨kp_w (by decide) u85, v86, v87⟩, by first | assumption | omega, by first | assumption | omega⟩)
set_option maxHeartbeats 4000000 in
theorem k_X1_goOnUp {ad : List Nat} {h : hp} (L : Lay TLx ad h) {δ0 : dp} {N : Nat} (hN : 10000000 ≤ N) {a0 : Nat} {nu : Nat} (k_a0 : q_K h.1 a0 = 1) (hnu : q_O h.1 1 1 a0 = some nu) (knu : q_K h.1 nu = 3) {δ : dp} (z0 : 0 ≤ (q_I δ 1 11 a0).toInt) (z1 : (q_I δ 1 11 a0).toInt ≤ (q_I δ 1 12 a0).toInt) (z2 : (q_I δ 1 12 a0).toInt ≤ (q_I δ 3 1 nu).toInt) (z3 : 0 ≤ (q_I δ 1 3 a0).toInt) (z4 : (q_I δ 1 4 a0).toInt ≤ (q_I δ 3 1 nu).toInt) (I : CI ad h.1 δ0 δ) : ok (D_X1_goOnUp N h.1 a0 δ) (fun r => CI ad h.1 δ0 r.2 ∧ (kp [(1, 3), (1, 4), (1, 5), (1, 6), (1, 8), (1, 13), (1, 14), (1, 15)] δ r.2 ∧ q_V r.2 = q_V δ ∧ q_R r.2 = q_R δ) ∧ 0 ≤ (q_I r.2 1 3 a0).toInt ∧ (q_I r.2 1 4 a0).toInt ≤ (q_I δ 3 1 nu).toInt) := by
  unfold D_X1_goOnUp
  have f1 := ti_b (q_I δ 1 11 a0)
  have f2 := ti_b (q_I δ 1 12 a0)
  obtain ⟨b3, o4, k5, ⟨n6, n7⟩, w8⟩ := gO_3_0 L knu
  have f9 := cb_3_1 I knu o4
  have f10 := ti_b (q_I δ 1 3 a0)
  have f11 := ti_b (q_I δ 1 4 a0)
  have f12 := ti_b (q_I δ 1 8 a0)
  have f13 := ti_b (q_I δ 1 9 a0)
  refine ok_ite (fun h14 => ?_) (fun h14 => ?_)
  · have c15 : (q_I δ 1 8 a0).toInt < (q_I δ 1 9 a0).toInt := o_lt h14
    unfold J_X1_goOnUp_33
    refine ok_bdv (fun d16 e17 => ?_)
    have i18 : CI ad h.1 δ0 d16 := by rw [e17]; exact cs_1_15 L I k_a0 (show 0 ≤ (1 : Int) by omega) (show (1 : Int) ≤ 1 by omega)
    have u19 := kp_I kp_r e17
    have v20 : q_V d16 = q_V δ := ((show q_V d16 = q_V δ by rw [e17]; rfl)).trans rfl
    have v21 : q_R d16 = q_R δ := ((show q_R d16 = q_R δ by rw [e17]; rfl)).trans rfl
    have f22 := ti_b (q_I d16 1 3 a0)
    have f23 : (q_I d16 1 3 a0).toInt = (q_I δ 1 3 a0).toInt := congrArg Int32.toInt (by rw [e17]; exact rI_o (by decide))
    have f24 := ti_b (q_I d16 1 4 a0)
    have f25 : (q_I d16 1 4 a0).toInt = (q_I δ 1 4 a0).toInt := congrArg Int32.toInt (by rw [e17]; exact rI_o (by decide))
    exact ok_some (show CI ad h.1 δ0 d16 ∧ (kp [(1, 3), (1, 4), (1, 5), (1, 6), (1, 8), (1, 13), (1, 14), (1, 15)] δ d16 ∧ q_V d16 = q_V δ ∧ q_R d16 = q_R δ) ∧ 0 ≤ (q_I d16 1 3 a0).toInt ∧ (q_I d16 1 4 a0).toInt ≤ (q_I δ 3 1 nu).toInt from ⟨i18, ⟨kp_w (by decide) u19, v20, v21⟩, by first | assumption | omega, by first | assumption | omega⟩)
  · have c26 : (q_I δ 1 9 a0).toInt ≤ (q_I δ 1 8 a0).toInt := o_nlt h14
    have f27 := ti_b (q_I δ 1 10 a0)
    refine ok_ite (fun h28 => ?_) (fun h28 => ?_)
    · have c29 : (q_I δ 1 10 a0).toInt ≤ (q_I δ 1 8 a0).toInt := o_le h28
      unfold J_X1_goOnUp_33
      refine ok_bdv (fun d30 e31 => ?_)
      have i32 : CI ad h.1 δ0 d30 := by rw [e31]; exact cs_1_15 L I k_a0 (show 0 ≤ (1 : Int) by omega) (show (1 : Int) ≤ 1 by omega)
      have u33 := kp_I kp_r e31
      have v34 : q_V d30 = q_V δ := ((show q_V d30 = q_V δ by rw [e31]; rfl)).trans rfl
      have v35 : q_R d30 = q_R δ := ((show q_R d30 = q_R δ by rw [e31]; rfl)).trans rfl
      have f36 := ti_b (q_I d30 1 3 a0)
      have f37 : (q_I d30 1 3 a0).toInt = (q_I δ 1 3 a0).toInt := congrArg Int32.toInt (by rw [e31]; exact rI_o (by decide))
      have f38 := ti_b (q_I d30 1 4 a0)
      have f39 : (q_I d30 1 4 a0).toInt = (q_I δ 1 4 a0).toInt := congrArg Int32.toInt (by rw [e31]; exact rI_o (by decide))
      exact ok_some (show CI ad h.1 δ0 d30 ∧ (kp [(1, 3), (1, 4), (1, 5), (1, 6), (1, 8), (1, 13), (1, 14), (1, 15)] δ d30 ∧ q_V d30 = q_V δ ∧ q_R d30 = q_R δ) ∧ 0 ≤ (q_I d30 1 3 a0).toInt ∧ (q_I d30 1 4 a0).toInt ≤ (q_I δ 3 1 nu).toInt from ⟨i32, ⟨kp_w (by decide) u33, v34, v35⟩, by first | assumption | omega, by first | assumption | omega⟩)
    · have c40 : (q_I δ 1 8 a0).toInt < (q_I δ 1 10 a0).toInt := o_nle h28
      refine ok_ite (fun h41 => ?_) (fun h41 => ?_)
      · have c42 : (q_I δ 1 11 a0).toInt < (q_I δ 1 12 a0).toInt := o_lt h41
        refine ok_bind (k_X1_findRoom L hN (a0 := a0) (x1 := (q_I δ 1 8 a0)) k_a0 hnu knu (show 0 ≤ (q_I δ 1 11 a0).toInt by first | assumption | omega) (show (q_I δ 1 11 a0).toInt ≤ (q_I δ 1 12 a0).toInt by first | assumption | omega) (show (q_I δ 1 12 a0).toInt ≤ (q_I δ 3 1 nu).toInt by first | assumption | omega) I) (fun r43 hr44 => ?_)
        obtain ⟨i45, ⟨u51, u52, u53⟩, p46, p47, p48, p49, p50⟩ := hr44
        have u54 := kp_t kp_r u51
        have v55 : q_V r43.2 = q_V δ := (u52).trans rfl
        have v56 : q_R r43.2 = q_R δ := (u53).trans rfl
        have f57 := bo_t p46
        have f58 := ti_b (q_I r43.2 1 13 a0)
        have f59 := ti_b (q_I r43.2 1 14 a0)
        have f60 := ti_b r43.1
        have f61 := ti_b r43.1
        refine ok_ite (fun h62 => ?_) (fun h62 => ?_)
        · have c63 : r43.1.toInt = (0 : Int) := o_eq h62
          unfold J_X1_goOnUp_82
          have f66 := ti_b (q_I r43.2 1 12 a0)
          have f67 : (q_I r43.2 1 12 a0).toInt = (q_I δ 1 12 a0).toInt := congrArg Int32.toInt (u51 1 12 a0 (by decide))
          first | (have q69 := te_subc (c := 1) (n := 1) rfl (q_I r43.2 1 12 a0) (by omega) (by omega); obtain ⟨f70, f71, f72⟩ := q69) | (obtain ⟨q69, f70, f71, f72⟩ := ti_subc (c := 1) (n := 1) rfl (q_I r43.2 1 12 a0))
          have f73 := cb_3_1 i45 knu o4
          have f74 : (q_I r43.2 3 1 nu).toInt = (q_I δ 3 1 nu).toInt := congrArg Int32.toInt (u51 3 1 nu (by decide))
          refine ok_bind (k_X1_valueAt L hN (a0 := a0) (x1 := ((q_I r43.2 1 12 a0) - (1 : Int32))) k_a0 hnu knu (show 0 ≤ (((q_I r43.2 1 12 a0) - (1 : Int32))).toInt by first | assumption | omega) (show (((q_I r43.2 1 12 a0) - (1 : Int32))).toInt < (q_I r43.2 3 1 nu).toInt by first | assumption | omega) i45) (fun r64 hr65 => ?_)
          have i75 := hr65
          try rw [i75]
          have f76 := ti_b r64.1
          have f77 := ti_b (r64.1 >>> ((q_I r43.2 1 7 a0) &&& 31))
          have f78 := ti_b ((q_I r43.2 1 8 a0) >>> ((q_I r43.2 1 7 a0) &&& 31))
          refine ok_ite (fun h79 => ?_) (fun h79 => ?_)
          · have c80 : (r64.1 >>> ((q_I r43.2 1 7 a0) &&& 31)).toInt ≤ ((q_I r43.2 1 8 a0) >>> ((q_I r43.2 1 7 a0) &&& 31)).toInt := o_le h79
            unfold J_X1_goOnUp_112
            refine ok_bind (k_X1_enterList L hN (a0 := a0) (x1 := (q_I r43.2 1 8 a0)) k_a0 i45) (fun r81 hr82 => ?_)
            obtain ⟨i83, ⟨u86, u87, u88⟩, p84, p85⟩ := hr82
            have u89 := kp_t u54 u86
            have v90 : q_V r81 = q_V δ := (u87).trans v55
            have v91 : q_R r81 = q_R δ := (u88).trans v56
            have f92 := ti_b (q_I r81 1 3 a0)
            have f93 := ti_b (q_I r43.2 1 11 a0)
            have f94 : (q_I r43.2 1 11 a0).toInt = (q_I δ 1 11 a0).toInt := congrArg Int32.toInt (u51 1 11 a0 (by decide))
            have f95 := ti_b (q_I r81 1 4 a0)
            exact ok_some (show CI ad h.1 δ0 r81 ∧ (kp [(1, 3), (1, 4), (1, 5), (1, 6), (1, 8), (1, 13), (1, 14), (1, 15)] δ r81 ∧ q_V r81 = q_V δ ∧ q_R r81 = q_R δ) ∧ 0 ≤ (q_I r81 1 3 a0).toInt ∧ (q_I r81 1 4 a0).toInt ≤ (q_I δ 3 1 nu).toInt from ⟨i83, ⟨kp_w (by decide) u89, v90, v91⟩, by first | assumption | omega, by first | assumption | omega⟩)
          · have c96 : ((q_I r43.2 1 8 a0) >>> ((q_I r43.2 1 7 a0) &&& 31)).toInt < (r64.1 >>> ((q_I r43.2 1 7 a0) &&& 31)).toInt := o_nle h79
            refine ok_biv (fun vx97 e98 => ?_)
            first | (have q99 := te_cadd (c := 0) (n := 0) rfl (1 : Int32) (by omega) (by omega); rw [← e98] at q99; obtain ⟨f100, f101, f102⟩ := q99) | (obtain ⟨q99, f100, f101, f102⟩ : ∃ q : Int, vx97.toInt = (0 : Int) + (1 : Int) + 4294967296 * q ∧ -2147483648 ≤ vx97.toInt ∧ vx97.toInt ≤ 2147483647 := by rw [e98]; exact ti_cadd (c := 0) (n := 0) rfl (1 : Int32))
            unfold J_X1_goOnUp_112
            refine ok_bind (k_X1_enterList L hN (a0 := a0) (x1 := (q_I r43.2 1 8 a0)) k_a0 i45) (fun r103 hr104 => ?_)
            obtain ⟨i105, ⟨u108, u109, u110⟩, p106, p107⟩ := hr104
            have u111 := kp_t u54 u108
            have v112 : q_V r103 = q_V δ := (u109).trans v55
            have v113 : q_R r103 = q_R δ := (u110).trans v56
            have f114 := ti_b (q_I r103 1 3 a0)
            have f115 := ti_b (q_I r43.2 1 11 a0)
            have f116 : (q_I r43.2 1 11 a0).toInt = (q_I δ 1 11 a0).toInt := congrArg Int32.toInt (u51 1 11 a0 (by decide))
            have f117 := ti_b (q_I r103 1 4 a0)
            exact ok_some (show CI ad h.1 δ0 r103 ∧ (kp [(1, 3), (1, 4), (1, 5), (1, 6), (1, 8), (1, 13), (1, 14), (1, 15)] δ r103 ∧ q_V r103 = q_V δ ∧ q_R r103 = q_R δ) ∧ 0 ≤ (q_I r103 1 3 a0).toInt ∧ (q_I r103 1 4 a0).toInt ≤ (q_I δ 3 1 nu).toInt from ⟨i105, ⟨kp_w (by decide) u111, v112, v113⟩, by first | assumption | omega, by first | assumption | omega⟩)
        · have c118 : r43.1.toInt ≠ (0 : Int) := o_ne h62
          first | (have q122 := te_subc (c := 1) (n := 1) rfl (q_I r43.2 1 14 a0) (by omega) (by omega); obtain ⟨f123, f124, f125⟩ := q122) | (obtain ⟨q122, f123, f124, f125⟩ := ti_subc (c := 1) (n := 1) rfl (q_I r43.2 1 14 a0))
          have f126 := cb_3_1 i45 knu o4
          have f127 : (q_I r43.2 3 1 nu).toInt = (q_I δ 3 1 nu).toInt := congrArg Int32.toInt (u51 3 1 nu (by decide))
          refine ok_bind (k_X1_valueAt L hN (a0 := a0) (x1 := ((q_I r43.2 1 14 a0) - (1 : Int32))) k_a0 hnu knu (show 0 ≤ (((q_I r43.2 1 14 a0) - (1 : Int32))).toInt by first | assumption | omega) (show (((q_I r43.2 1 14 a0) - (1 : Int32))).toInt < (q_I r43.2 3 1 nu).toInt by first | assumption | omega) i45) (fun r119 hr120 => ?_)
          have i128 := hr120
          try rw [i128]
          have f129 := ti_b r119.1
          have f130 := ti_b (q_I r43.2 1 8 a0)
          have f131 : (q_I r43.2 1 8 a0).toInt = (q_I δ 1 8 a0).toInt := congrArg Int32.toInt (u51 1 8 a0 (by decide))
          refine ok_ite (fun h132 => ?_) (fun h132 => ?_)
          · have c133 : r119.1.toInt ≤ (q_I r43.2 1 8 a0).toInt := o_le h132
            unfold J_X1_goOnUp_82
            have f136 := ti_b (q_I r43.2 1 12 a0)
            have f137 : (q_I r43.2 1 12 a0).toInt = (q_I δ 1 12 a0).toInt := congrArg Int32.toInt (u51 1 12 a0 (by decide))
            first | (have q139 := te_subc (c := 1) (n := 1) rfl (q_I r43.2 1 12 a0) (by omega) (by omega); obtain ⟨f140, f141, f142⟩ := q139) | (obtain ⟨q139, f140, f141, f142⟩ := ti_subc (c := 1) (n := 1) rfl (q_I r43.2 1 12 a0))
            refine ok_bind (k_X1_valueAt L hN (a0 := a0) (x1 := ((q_I r43.2 1 12 a0) - (1 : Int32))) k_a0 hnu knu (show 0 ≤ (((q_I r43.2 1 12 a0) - (1 : Int32))).toInt by first | assumption | omega) (show (((q_I r43.2 1 12 a0) - (1 : Int32))).toInt < (q_I r43.2 3 1 nu).toInt by first | assumption | omega) i45) (fun r134 hr135 => ?_)
            have i143 := hr135
            try rw [i143]
            have f144 := ti_b r134.1
            have f145 := ti_b (r134.1 >>> ((q_I r43.2 1 7 a0) &&& 31))
            have f146 := ti_b ((q_I r43.2 1 8 a0) >>> ((q_I r43.2 1 7 a0) &&& 31))
            refine ok_ite (fun h147 => ?_) (fun h147 => ?_)
            · have c148 : (r134.1 >>> ((q_I r43.2 1 7 a0) &&& 31)).toInt ≤ ((q_I r43.2 1 8 a0) >>> ((q_I r43.2 1 7 a0) &&& 31)).toInt := o_le h147
              unfold J_X1_goOnUp_112
              refine ok_bind (k_X1_enterList L hN (a0 := a0) (x1 := (q_I r43.2 1 8 a0)) k_a0 i45) (fun r149 hr150 => ?_)
              obtain ⟨i151, ⟨u154, u155, u156⟩, p152, p153⟩ := hr150
              have u157 := kp_t u54 u154
              have v158 : q_V r149 = q_V δ := (u155).trans v55
              have v159 : q_R r149 = q_R δ := (u156).trans v56
              have f160 := ti_b (q_I r149 1 3 a0)
              have f161 := ti_b (q_I r43.2 1 11 a0)
              have f162 : (q_I r43.2 1 11 a0).toInt = (q_I δ 1 11 a0).toInt := congrArg Int32.toInt (u51 1 11 a0 (by decide))
              have f163 := ti_b (q_I r149 1 4 a0)
              exact ok_some (show CI ad h.1 δ0 r149 ∧ (kp [(1, 3), (1, 4), (1, 5), (1, 6), (1, 8), (1, 13), (1, 14), (1, 15)] δ r149 ∧ q_V r149 = q_V δ ∧ q_R r149 = q_R δ) ∧ 0 ≤ (q_I r149 1 3 a0).toInt ∧ (q_I r149 1 4 a0).toInt ≤ (q_I δ 3 1 nu).toInt from ⟨i151, ⟨kp_w (by decide) u157, v158, v159⟩, by first | assumption | omega, by first | assumption | omega⟩)
            · have c164 : ((q_I r43.2 1 8 a0) >>> ((q_I r43.2 1 7 a0) &&& 31)).toInt < (r134.1 >>> ((q_I r43.2 1 7 a0) &&& 31)).toInt := o_nle h147
              refine ok_biv (fun vx165 e166 => ?_)
              first | (have q167 := te_cadd (c := 1) (n := 1) rfl (1 : Int32) (by omega) (by omega); rw [← e166] at q167; obtain ⟨f168, f169, f170⟩ := q167) | (obtain ⟨q167, f168, f169, f170⟩ : ∃ q : Int, vx165.toInt = (1 : Int) + (1 : Int) + 4294967296 * q ∧ -2147483648 ≤ vx165.toInt ∧ vx165.toInt ≤ 2147483647 := by rw [e166]; exact ti_cadd (c := 1) (n := 1) rfl (1 : Int32))
              unfold J_X1_goOnUp_112
              refine ok_bind (k_X1_enterList L hN (a0 := a0) (x1 := (q_I r43.2 1 8 a0)) k_a0 i45) (fun r171 hr172 => ?_)
              obtain ⟨i173, ⟨u176, u177, u178⟩, p174, p175⟩ := hr172
              have u179 := kp_t u54 u176
              have v180 : q_V r171 = q_V δ := (u177).trans v55
              have v181 : q_R r171 = q_R δ := (u178).trans v56
              have f182 := ti_b (q_I r171 1 3 a0)
              have f183 := ti_b (q_I r43.2 1 11 a0)
              have f184 : (q_I r43.2 1 11 a0).toInt = (q_I δ 1 11 a0).toInt := congrArg Int32.toInt (u51 1 11 a0 (by decide))
              have f185 := ti_b (q_I r171 1 4 a0)
              exact ok_some (show CI ad h.1 δ0 r171 ∧ (kp [(1, 3), (1, 4), (1, 5), (1, 6), (1, 8), (1, 13), (1, 14), (1, 15)] δ r171 ∧ q_V r171 = q_V δ ∧ q_R r171 = q_R δ) ∧ 0 ≤ (q_I r171 1 3 a0).toInt ∧ (q_I r171 1 4 a0).toInt ≤ (q_I δ 3 1 nu).toInt from ⟨i173, ⟨kp_w (by decide) u179, v180, v181⟩, by first | assumption | omega, by first | assumption | omega⟩)
          · have c186 : (q_I r43.2 1 8 a0).toInt < r119.1.toInt := o_nle h132
            refine ok_bind (k_X1_enterRoom L hN (a0 := a0) (x1 := (q_I r43.2 1 8 a0)) k_a0 i45) (fun r187 hr188 => ?_)
            obtain ⟨i189, ⟨u192, u193, u194⟩, p190, p191⟩ := hr188
            have u195 := kp_t u54 u192
            have v196 : q_V r187 = q_V δ := (u193).trans v55
            have v197 : q_R r187 = q_R δ := (u194).trans v56
            have f198 := ti_b (q_I r187 1 3 a0)
            have f199 := ti_b (q_I r187 1 4 a0)
            exact ok_some (show CI ad h.1 δ0 r187 ∧ (kp [(1, 3), (1, 4), (1, 5), (1, 6), (1, 8), (1, 13), (1, 14), (1, 15)] δ r187 ∧ q_V r187 = q_V δ ∧ q_R r187 = q_R δ) ∧ 0 ≤ (q_I r187 1 3 a0).toInt ∧ (q_I r187 1 4 a0).toInt ≤ (q_I δ 3 1 nu).toInt from ⟨i189, ⟨kp_w (by decide) u195, v196, v197⟩, by first | assumption | omega, by first | assumption | omega⟩)
      · have c200 : (q_I δ 1 12 a0).toInt ≤ (q_I δ 1 11 a0).toInt := o_nlt h41
        unfold J_X1_goOnUp_33
        refine ok_bdv (fun d201 e202 => ?_)
        have i203 : CI ad h.1 δ0 d201 := by rw [e202]; exact cs_1_15 L I k_a0 (show 0 ≤ (1 : Int) by omega) (show (1 : Int) ≤ 1 by omega)
        have u204 := kp_I kp_r e202
        have v205 : q_V d201 = q_V δ := ((show q_V d201 = q_V δ by rw [e202]; rfl)).trans rfl
        have v206 : q_R d201 = q_R δ := ((show q_R d201 = q_R δ by rw [e202]; rfl)).trans rfl
        have f207 := ti_b (q_I d201 1 3 a0)
        have f208 : (q_I d201 1 3 a0).toInt = (q_I δ 1 3 a0).toInt := congrArg Int32.toInt (by rw [e202]; exact rI_o (by decide))
        have f209 := ti_b (q_I d201 1 4 a0)
        have f210 : (q_I d201 1 4 a0).toInt = (q_I δ 1 4 a0).toInt := congrArg Int32.toInt (by rw [e202]; exact rI_o (by decide))
        exact ok_some (show CI ad h.1 δ0 d201 ∧ (kp [(1, 3), (1, 4), (1, 5), (1, 6), (1, 8), (1, 13), (1, 14), (1, 15)] δ d201 ∧ q_V d201 = q_V δ ∧ q_R d201 = q_R δ) ∧ 0 ≤ (q_I d201 1 3 a0).toInt ∧ (q_I d201 1 4 a0).toInt ≤ (q_I δ 3 1 nu).toInt from ⟨i203, ⟨kp_w (by decide) u204, v205, v206⟩, by first | assumption | omega, by first | assumption | omega⟩)
set_option maxHeartbeats 4000000 in
theorem k_X1_goOnDown {ad : List Nat} {h : hp} (L : Lay TLx ad h) {δ0 : dp} {N : Nat} (hN : 10000000 ≤ N) {a0 : Nat} {nu : Nat} (k_a0 : q_K h.1 a0 = 1) (hnu : q_O h.1 1 1 a0 = some nu) (knu : q_K h.1 nu = 3) {δ : dp} (z0 : 0 ≤ (q_I δ 1 11 a0).toInt) (z1 : (q_I δ 1 11 a0).toInt ≤ (q_I δ 1 12 a0).toInt) (z2 : (q_I δ 1 12 a0).toInt ≤ (q_I δ 3 1 nu).toInt) (z3 : 0 ≤ (q_I δ 1 3 a0).toInt) (z4 : (q_I δ 1 4 a0).toInt ≤ (q_I δ 3 1 nu).toInt) (I : CI ad h.1 δ0 δ) : ok (D_X1_goOnDown N h.1 a0 δ) (fun r => CI ad h.1 δ0 r.2 ∧ (kp [(1, 3), (1, 4), (1, 5), (1, 6), (1, 8), (1, 13), (1, 14), (1, 15)] δ r.2 ∧ q_V r.2 = q_V δ ∧ q_R r.2 = q_R δ) ∧ 0 ≤ (q_I r.2 1 3 a0).toInt ∧ (q_I r.2 1 4 a0).toInt ≤ (q_I δ 3 1 nu).toInt) := by
  unfold D_X1_goOnDown
  have f1 := ti_b (q_I δ 1 11 a0)
  have f2 := ti_b (q_I δ 1 12 a0)
  obtain ⟨b3, o4, k5, ⟨n6, n7⟩, w8⟩ := gO_3_0 L knu
  have f9 := cb_3_1 I knu o4
  have f10 := ti_b (q_I δ 1 3 a0)
  have f11 := ti_b (q_I δ 1 4 a0)
  have f12 := ti_b (q_I δ 1 10 a0)
  have f13 := ti_b (q_I δ 1 8 a0)
  refine ok_ite (fun h14 => ?_) (fun h14 => ?_)
  · have c15 : (q_I δ 1 10 a0).toInt < (q_I δ 1 8 a0).toInt := o_lt h14
    unfold J_X1_goOnDown_33
    refine ok_bdv (fun d16 e17 => ?_)
    have i18 : CI ad h.1 δ0 d16 := by rw [e17]; exact cs_1_15 L I k_a0 (show 0 ≤ (1 : Int) by omega) (show (1 : Int) ≤ 1 by omega)
    have u19 := kp_I kp_r e17
    have v20 : q_V d16 = q_V δ := ((show q_V d16 = q_V δ by rw [e17]; rfl)).trans rfl
    have v21 : q_R d16 = q_R δ := ((show q_R d16 = q_R δ by rw [e17]; rfl)).trans rfl
    have f22 := ti_b (q_I d16 1 3 a0)
    have f23 : (q_I d16 1 3 a0).toInt = (q_I δ 1 3 a0).toInt := congrArg Int32.toInt (by rw [e17]; exact rI_o (by decide))
    have f24 := ti_b (q_I d16 1 4 a0)
    have f25 : (q_I d16 1 4 a0).toInt = (q_I δ 1 4 a0).toInt := congrArg Int32.toInt (by rw [e17]; exact rI_o (by decide))
    exact ok_some (show CI ad h.1 δ0 d16 ∧ (kp [(1, 3), (1, 4), (1, 5), (1, 6), (1, 8), (1, 13), (1, 14), (1, 15)] δ d16 ∧ q_V d16 = q_V δ ∧ q_R d16 = q_R δ) ∧ 0 ≤ (q_I d16 1 3 a0).toInt ∧ (q_I d16 1 4 a0).toInt ≤ (q_I δ 3 1 nu).toInt from ⟨i18, ⟨kp_w (by decide) u19, v20, v21⟩, by first | assumption | omega, by first | assumption | omega⟩)
  · have c26 : (q_I δ 1 8 a0).toInt ≤ (q_I δ 1 10 a0).toInt := o_nlt h14
    have f27 := ti_b (q_I δ 1 9 a0)
    refine ok_ite (fun h28 => ?_) (fun h28 => ?_)
    · have c29 : (q_I δ 1 8 a0).toInt ≤ (q_I δ 1 9 a0).toInt := o_le h28
      unfold J_X1_goOnDown_33
      refine ok_bdv (fun d30 e31 => ?_)
      have i32 : CI ad h.1 δ0 d30 := by rw [e31]; exact cs_1_15 L I k_a0 (show 0 ≤ (1 : Int) by omega) (show (1 : Int) ≤ 1 by omega)
      have u33 := kp_I kp_r e31
      have v34 : q_V d30 = q_V δ := ((show q_V d30 = q_V δ by rw [e31]; rfl)).trans rfl
      have v35 : q_R d30 = q_R δ := ((show q_R d30 = q_R δ by rw [e31]; rfl)).trans rfl
      have f36 := ti_b (q_I d30 1 3 a0)
      have f37 : (q_I d30 1 3 a0).toInt = (q_I δ 1 3 a0).toInt := congrArg Int32.toInt (by rw [e31]; exact rI_o (by decide))
      have f38 := ti_b (q_I d30 1 4 a0)
      have f39 : (q_I d30 1 4 a0).toInt = (q_I δ 1 4 a0).toInt := congrArg Int32.toInt (by rw [e31]; exact rI_o (by decide))
      exact ok_some (show CI ad h.1 δ0 d30 ∧ (kp [(1, 3), (1, 4), (1, 5), (1, 6), (1, 8), (1, 13), (1, 14), (1, 15)] δ d30 ∧ q_V d30 = q_V δ ∧ q_R d30 = q_R δ) ∧ 0 ≤ (q_I d30 1 3 a0).toInt ∧ (q_I d30 1 4 a0).toInt ≤ (q_I δ 3 1 nu).toInt from ⟨i32, ⟨kp_w (by decide) u33, v34, v35⟩, by first | assumption | omega, by first | assumption | omega⟩)
    · have c40 : (q_I δ 1 9 a0).toInt < (q_I δ 1 8 a0).toInt := o_nle h28
      refine ok_ite (fun h41 => ?_) (fun h41 => ?_)
      · have c42 : (q_I δ 1 11 a0).toInt < (q_I δ 1 12 a0).toInt := o_lt h41
        refine ok_bind (k_X1_findRoom L hN (a0 := a0) (x1 := (q_I δ 1 8 a0)) k_a0 hnu knu (show 0 ≤ (q_I δ 1 11 a0).toInt by first | assumption | omega) (show (q_I δ 1 11 a0).toInt ≤ (q_I δ 1 12 a0).toInt by first | assumption | omega) (show (q_I δ 1 12 a0).toInt ≤ (q_I δ 3 1 nu).toInt by first | assumption | omega) I) (fun r43 hr44 => ?_)
        obtain ⟨i45, ⟨u51, u52, u53⟩, p46, p47, p48, p49, p50⟩ := hr44
        have u54 := kp_t kp_r u51
        have v55 : q_V r43.2 = q_V δ := (u52).trans rfl
        have v56 : q_R r43.2 = q_R δ := (u53).trans rfl
        have f57 := bo_t p46
        have f58 := ti_b (q_I r43.2 1 13 a0)
        have f59 := ti_b (q_I r43.2 1 14 a0)
        have f60 := ti_b r43.1
        have f61 := ti_b r43.1
        refine ok_ite (fun h62 => ?_) (fun h62 => ?_)
        · have c63 : r43.1.toInt = (0 : Int) := o_eq h62
          unfold J_X1_goOnDown_80
          have f66 := ti_b (q_I r43.2 1 11 a0)
          have f67 : (q_I r43.2 1 11 a0).toInt = (q_I δ 1 11 a0).toInt := congrArg Int32.toInt (u51 1 11 a0 (by decide))
          have f68 := cb_3_1 i45 knu o4
          have f69 : (q_I r43.2 3 1 nu).toInt = (q_I δ 3 1 nu).toInt := congrArg Int32.toInt (u51 3 1 nu (by decide))
          refine ok_bind (k_X1_valueAt L hN (a0 := a0) (x1 := (q_I r43.2 1 11 a0)) k_a0 hnu knu (show 0 ≤ ((q_I r43.2 1 11 a0)).toInt by first | assumption | omega) (show ((q_I r43.2 1 11 a0)).toInt < (q_I r43.2 3 1 nu).toInt by first | assumption | omega) i45) (fun r64 hr65 => ?_)
          have i70 := hr65
          try rw [i70]
          have f71 := ti_b r64.1
          have f72 := ti_b ((q_I r43.2 1 8 a0) >>> ((q_I r43.2 1 7 a0) &&& 31))
          have f73 := ti_b (r64.1 >>> ((q_I r43.2 1 7 a0) &&& 31))
          refine ok_ite (fun h74 => ?_) (fun h74 => ?_)
          · have c75 : ((q_I r43.2 1 8 a0) >>> ((q_I r43.2 1 7 a0) &&& 31)).toInt ≤ (r64.1 >>> ((q_I r43.2 1 7 a0) &&& 31)).toInt := o_le h74
            unfold J_X1_goOnDown_108
            refine ok_bind (k_X1_enterList L hN (a0 := a0) (x1 := (q_I r43.2 1 8 a0)) k_a0 i45) (fun r76 hr77 => ?_)
            obtain ⟨i78, ⟨u81, u82, u83⟩, p79, p80⟩ := hr77
            have u84 := kp_t u54 u81
            have v85 : q_V r76 = q_V δ := (u82).trans v55
            have v86 : q_R r76 = q_R δ := (u83).trans v56
            have f87 := ti_b (q_I r76 1 3 a0)
            have f88 := ti_b (q_I r76 1 4 a0)
            have f89 := ti_b (q_I r43.2 1 12 a0)
            have f90 : (q_I r43.2 1 12 a0).toInt = (q_I δ 1 12 a0).toInt := congrArg Int32.toInt (u51 1 12 a0 (by decide))
            exact ok_some (show CI ad h.1 δ0 r76 ∧ (kp [(1, 3), (1, 4), (1, 5), (1, 6), (1, 8), (1, 13), (1, 14), (1, 15)] δ r76 ∧ q_V r76 = q_V δ ∧ q_R r76 = q_R δ) ∧ 0 ≤ (q_I r76 1 3 a0).toInt ∧ (q_I r76 1 4 a0).toInt ≤ (q_I δ 3 1 nu).toInt from ⟨i78, ⟨kp_w (by decide) u84, v85, v86⟩, by first | assumption | omega, by first | assumption | omega⟩)
          · have c91 : (r64.1 >>> ((q_I r43.2 1 7 a0) &&& 31)).toInt < ((q_I r43.2 1 8 a0) >>> ((q_I r43.2 1 7 a0) &&& 31)).toInt := o_nle h74
            refine ok_biv (fun vx92 e93 => ?_)
            first | (have q94 := te_cadd (c := 0) (n := 0) rfl (1 : Int32) (by omega) (by omega); rw [← e93] at q94; obtain ⟨f95, f96, f97⟩ := q94) | (obtain ⟨q94, f95, f96, f97⟩ : ∃ q : Int, vx92.toInt = (0 : Int) + (1 : Int) + 4294967296 * q ∧ -2147483648 ≤ vx92.toInt ∧ vx92.toInt ≤ 2147483647 := by rw [e93]; exact ti_cadd (c := 0) (n := 0) rfl (1 : Int32))
            unfold J_X1_goOnDown_108
            refine ok_bind (k_X1_enterList L hN (a0 := a0) (x1 := (q_I r43.2 1 8 a0)) k_a0 i45) (fun r98 hr99 => ?_)
            obtain ⟨i100, ⟨u103, u104, u105⟩, p101, p102⟩ := hr99
            have u106 := kp_t u54 u103
            have v107 : q_V r98 = q_V δ := (u104).trans v55
            have v108 : q_R r98 = q_R δ := (u105).trans v56
            have f109 := ti_b (q_I r98 1 3 a0)
            have f110 := ti_b (q_I r98 1 4 a0)
            have f111 := ti_b (q_I r43.2 1 12 a0)
            have f112 : (q_I r43.2 1 12 a0).toInt = (q_I δ 1 12 a0).toInt := congrArg Int32.toInt (u51 1 12 a0 (by decide))
            exact ok_some (show CI ad h.1 δ0 r98 ∧ (kp [(1, 3), (1, 4), (1, 5), (1, 6), (1, 8), (1, 13), (1, 14), (1, 15)] δ r98 ∧ q_V r98 = q_V δ ∧ q_R r98 = q_R δ) ∧ 0 ≤ (q_I r98 1 3 a0).toInt ∧ (q_I r98 1 4 a0).toInt ≤ (q_I δ 3 1 nu).toInt from ⟨i100, ⟨kp_w (by decide) u106, v107, v108⟩, by first | assumption | omega, by first | assumption | omega⟩)
        · have c113 : r43.1.toInt ≠ (0 : Int) := o_ne h62
          have f116 := cb_3_1 i45 knu o4
          have f117 : (q_I r43.2 3 1 nu).toInt = (q_I δ 3 1 nu).toInt := congrArg Int32.toInt (u51 3 1 nu (by decide))
          refine ok_bind (k_X1_valueAt L hN (a0 := a0) (x1 := (q_I r43.2 1 13 a0)) k_a0 hnu knu (show 0 ≤ ((q_I r43.2 1 13 a0)).toInt by first | assumption | omega) (show ((q_I r43.2 1 13 a0)).toInt < (q_I r43.2 3 1 nu).toInt by first | assumption | omega) i45) (fun r114 hr115 => ?_)
          have i118 := hr115
          try rw [i118]
          have f119 := ti_b r114.1
          have f120 := ti_b (q_I r43.2 1 8 a0)
          have f121 : (q_I r43.2 1 8 a0).toInt = (q_I δ 1 8 a0).toInt := congrArg Int32.toInt (u51 1 8 a0 (by decide))
          refine ok_ite (fun h122 => ?_) (fun h122 => ?_)
          · have c123 : (q_I r43.2 1 8 a0).toInt ≤ r114.1.toInt := o_le h122
            unfold J_X1_goOnDown_80
            have f126 := ti_b (q_I r43.2 1 11 a0)
            have f127 : (q_I r43.2 1 11 a0).toInt = (q_I δ 1 11 a0).toInt := congrArg Int32.toInt (u51 1 11 a0 (by decide))
            refine ok_bind (k_X1_valueAt L hN (a0 := a0) (x1 := (q_I r43.2 1 11 a0)) k_a0 hnu knu (show 0 ≤ ((q_I r43.2 1 11 a0)).toInt by first | assumption | omega) (show ((q_I r43.2 1 11 a0)).toInt < (q_I r43.2 3 1 nu).toInt by first | assumption | omega) i45) (fun r124 hr125 => ?_)
            have i128 := hr125
            try rw [i128]
            have f129 := ti_b r124.1
            have f130 := ti_b ((q_I r43.2 1 8 a0) >>> ((q_I r43.2 1 7 a0) &&& 31))
            have f131 := ti_b (r124.1 >>> ((q_I r43.2 1 7 a0) &&& 31))
            refine ok_ite (fun h132 => ?_) (fun h132 => ?_)
            · have c133 : ((q_I r43.2 1 8 a0) >>> ((q_I r43.2 1 7 a0) &&& 31)).toInt ≤ (r124.1 >>> ((q_I r43.2 1 7 a0) &&& 31)).toInt := o_le h132
              unfold J_X1_goOnDown_108
              refine ok_bind (k_X1_enterList L hN (a0 := a0) (x1 := (q_I r43.2 1 8 a0)) k_a0 i45) (fun r134 hr135 => ?_)
              obtain ⟨i136, ⟨u139, u140, u141⟩, p137, p138⟩ := hr135
              have u142 := kp_t u54 u139
              have v143 : q_V r134 = q_V δ := (u140).trans v55
              have v144 : q_R r134 = q_R δ := (u141).trans v56
              have f145 := ti_b (q_I r134 1 3 a0)
              have f146 := ti_b (q_I r134 1 4 a0)
              have f147 := ti_b (q_I r43.2 1 12 a0)
              have f148 : (q_I r43.2 1 12 a0).toInt = (q_I δ 1 12 a0).toInt := congrArg Int32.toInt (u51 1 12 a0 (by decide))
              exact ok_some (show CI ad h.1 δ0 r134 ∧ (kp [(1, 3), (1, 4), (1, 5), (1, 6), (1, 8), (1, 13), (1, 14), (1, 15)] δ r134 ∧ q_V r134 = q_V δ ∧ q_R r134 = q_R δ) ∧ 0 ≤ (q_I r134 1 3 a0).toInt ∧ (q_I r134 1 4 a0).toInt ≤ (q_I δ 3 1 nu).toInt from ⟨i136, ⟨kp_w (by decide) u142, v143, v144⟩, by first | assumption | omega, by first | assumption | omega⟩)
            · have c149 : (r124.1 >>> ((q_I r43.2 1 7 a0) &&& 31)).toInt < ((q_I r43.2 1 8 a0) >>> ((q_I r43.2 1 7 a0) &&& 31)).toInt := o_nle h132
              refine ok_biv (fun vx150 e151 => ?_)
              first | (have q152 := te_cadd (c := 1) (n := 1) rfl (1 : Int32) (by omega) (by omega); rw [← e151] at q152; obtain ⟨f153, f154, f155⟩ := q152) | (obtain ⟨q152, f153, f154, f155⟩ : ∃ q : Int, vx150.toInt = (1 : Int) + (1 : Int) + 4294967296 * q ∧ -2147483648 ≤ vx150.toInt ∧ vx150.toInt ≤ 2147483647 := by rw [e151]; exact ti_cadd (c := 1) (n := 1) rfl (1 : Int32))
              unfold J_X1_goOnDown_108
              refine ok_bind (k_X1_enterList L hN (a0 := a0) (x1 := (q_I r43.2 1 8 a0)) k_a0 i45) (fun r156 hr157 => ?_)
              obtain ⟨i158, ⟨u161, u162, u163⟩, p159, p160⟩ := hr157
              have u164 := kp_t u54 u161
              have v165 : q_V r156 = q_V δ := (u162).trans v55
              have v166 : q_R r156 = q_R δ := (u163).trans v56
              have f167 := ti_b (q_I r156 1 3 a0)
              have f168 := ti_b (q_I r156 1 4 a0)
              have f169 := ti_b (q_I r43.2 1 12 a0)
              have f170 : (q_I r43.2 1 12 a0).toInt = (q_I δ 1 12 a0).toInt := congrArg Int32.toInt (u51 1 12 a0 (by decide))
              exact ok_some (show CI ad h.1 δ0 r156 ∧ (kp [(1, 3), (1, 4), (1, 5), (1, 6), (1, 8), (1, 13), (1, 14), (1, 15)] δ r156 ∧ q_V r156 = q_V δ ∧ q_R r156 = q_R δ) ∧ 0 ≤ (q_I r156 1 3 a0).toInt ∧ (q_I r156 1 4 a0).toInt ≤ (q_I δ 3 1 nu).toInt from ⟨i158, ⟨kp_w (by decide) u164, v165, v166⟩, by first | assumption | omega, by first | assumption | omega⟩)
          · have c171 : r114.1.toInt < (q_I r43.2 1 8 a0).toInt := o_nle h122
            refine ok_bind (k_X1_enterRoom L hN (a0 := a0) (x1 := (q_I r43.2 1 8 a0)) k_a0 i45) (fun r172 hr173 => ?_)
            obtain ⟨i174, ⟨u177, u178, u179⟩, p175, p176⟩ := hr173
            have u180 := kp_t u54 u177
            have v181 : q_V r172 = q_V δ := (u178).trans v55
            have v182 : q_R r172 = q_R δ := (u179).trans v56
            have f183 := ti_b (q_I r172 1 3 a0)
            have f184 := ti_b (q_I r172 1 4 a0)
            exact ok_some (show CI ad h.1 δ0 r172 ∧ (kp [(1, 3), (1, 4), (1, 5), (1, 6), (1, 8), (1, 13), (1, 14), (1, 15)] δ r172 ∧ q_V r172 = q_V δ ∧ q_R r172 = q_R δ) ∧ 0 ≤ (q_I r172 1 3 a0).toInt ∧ (q_I r172 1 4 a0).toInt ≤ (q_I δ 3 1 nu).toInt from ⟨i174, ⟨kp_w (by decide) u180, v181, v182⟩, by first | assumption | omega, by first | assumption | omega⟩)
      · have c185 : (q_I δ 1 12 a0).toInt ≤ (q_I δ 1 11 a0).toInt := o_nlt h41
        unfold J_X1_goOnDown_33
        refine ok_bdv (fun d186 e187 => ?_)
        have i188 : CI ad h.1 δ0 d186 := by rw [e187]; exact cs_1_15 L I k_a0 (show 0 ≤ (1 : Int) by omega) (show (1 : Int) ≤ 1 by omega)
        have u189 := kp_I kp_r e187
        have v190 : q_V d186 = q_V δ := ((show q_V d186 = q_V δ by rw [e187]; rfl)).trans rfl
        have v191 : q_R d186 = q_R δ := ((show q_R d186 = q_R δ by rw [e187]; rfl)).trans rfl
        have f192 := ti_b (q_I d186 1 3 a0)
        have f193 : (q_I d186 1 3 a0).toInt = (q_I δ 1 3 a0).toInt := congrArg Int32.toInt (by rw [e187]; exact rI_o (by decide))
        have f194 := ti_b (q_I d186 1 4 a0)
        have f195 : (q_I d186 1 4 a0).toInt = (q_I δ 1 4 a0).toInt := congrArg Int32.toInt (by rw [e187]; exact rI_o (by decide))
        exact ok_some (show CI ad h.1 δ0 d186 ∧ (kp [(1, 3), (1, 4), (1, 5), (1, 6), (1, 8), (1, 13), (1, 14), (1, 15)] δ d186 ∧ q_V d186 = q_V δ ∧ q_R d186 = q_R δ) ∧ 0 ≤ (q_I d186 1 3 a0).toInt ∧ (q_I d186 1 4 a0).toInt ≤ (q_I δ 3 1 nu).toInt from ⟨i188, ⟨kp_w (by decide) u189, v190, v191⟩, by first | assumption | omega, by first | assumption | omega⟩)
set_option maxHeartbeats 4000000 in
theorem kl_X1_touchesOf_47 {ad : List Nat} {h : hp} (L : Lay TLx ad h) {δ0 : dp} {N : Nat} (hN : 10000000 ≤ N) {a0 : Nat} {x1 : Int32} {x2 : Int32} {nu : Nat} (k_a0 : q_K h.1 a0 = 1) (hnu : q_O h.1 1 1 a0 = some nu) (knu : q_K h.1 nu = 3) : ∀ (n : Nat) (x3v : Int32) (x4v : Int32) (δ : dp), CI ad h.1 δ0 δ → 0 ≤ (q_I δ 1 3 a0).toInt → (q_I δ 1 4 a0).toInt ≤ (q_I δ 3 1 nu).toInt → 0 ≤ (x4v).toInt → (x4v).toInt ≤ 16 → 16 - (x4v).toInt < (n : Int) → ok (L_X1_touchesOf_47 N h.1 a0 x1 x2 n x3v x4v δ) (fun r => CI ad h.1 δ0 r.2 ∧ (kp [(1, 3), (1, 4), (1, 5), (1, 6), (1, 7), (1, 8), (1, 9), (1, 10), (1, 11), (1, 12), (1, 13), (1, 14), (1, 15)] δ r.2 ∧ q_V r.2 = q_V δ ∧ q_R r.2 = q_R δ)) := by
  intro n
  induction n with
  | zero =>
    intro x3v x4v δ I j0 j1 j2 j3 hm
    have f1 := ti_b (q_I δ 1 3 a0)
    have f2 := ti_b (q_I δ 1 4 a0)
    obtain ⟨b3, o4, k5, ⟨n6, n7⟩, w8⟩ := gO_3_0 L knu
    have f9 := cb_3_1 I knu o4
    have f10 := ti_b x4v
    exfalso; omega
  | succ n ih =>
    intro x3v x4v δ I j0 j1 j2 j3 hm
    unfold L_X1_touchesOf_47
    have f1 := ti_b (q_I δ 1 3 a0)
    have f2 := ti_b (q_I δ 1 4 a0)
    obtain ⟨b3, o4, k5, ⟨n6, n7⟩, w8⟩ := gO_3_0 L knu
    have f9 := cb_3_1 I knu o4
    have f10 := ti_b x4v
    refine ok_ite (fun h11 => ?_) (fun h11 => ?_)
    · have c12 : (16 : Int) ≤ x4v.toInt := o_le h11
      unfold J_X1_touchesOf_162
      exact ok_some (show CI ad h.1 δ0 δ ∧ (kp [(1, 3), (1, 4), (1, 5), (1, 6), (1, 7), (1, 8), (1, 9), (1, 10), (1, 11), (1, 12), (1, 13), (1, 14), (1, 15)] δ δ ∧ q_V δ = q_V δ ∧ q_R δ = q_R δ) from ⟨I, ⟨kp_w (by decide) kp_r, rfl, rfl⟩⟩)
    · have c13 : x4v.toInt < (16 : Int) := o_nle h11
      have f14 := cb_1_15 I k_a0
      refine ok_ite (fun h15 => ?_) (fun h15 => ?_)
      · have c16 : (q_I δ 1 15 a0).toInt = (0 : Int) := o_eq h15
        have f19 := ti_b x3v
        refine ok_biv (fun vx17 e18 => ?_)
        first | (have q20 := te_addc (c := 1) (n := 1) rfl x3v (by omega) (by omega); rw [← e18] at q20; obtain ⟨f21, f22, f23⟩ := q20) | (obtain ⟨q20, f21, f22, f23⟩ : ∃ q : Int, vx17.toInt = x3v.toInt + (1 : Int) + 4294967296 * q ∧ -2147483648 ≤ vx17.toInt ∧ vx17.toInt ≤ 2147483647 := by rw [e18]; exact ti_addc (c := 1) (n := 1) rfl x3v)
        refine ok_bind (k_X1_look L hN (a0 := a0) k_a0 hnu knu (show 0 ≤ (q_I δ 1 3 a0).toInt by first | assumption | omega) (show (q_I δ 1 4 a0).toInt ≤ (q_I δ 3 1 nu).toInt by first | assumption | omega) I) (fun r24 hr25 => ?_)
        obtain ⟨i26, ⟨u28, u29, u30⟩, p27⟩ := hr25
        have u31 := kp_t kp_r u28
        have v32 : q_V r24 = q_V δ := (u29).trans rfl
        have v33 : q_R r24 = q_R δ := (u30).trans rfl
        have f34 := cb_1_15 i26 k_a0
        have f35 := ti_b (q_I r24 1 11 a0)
        have f36 := ti_b (q_I r24 1 12 a0)
        refine ok_ite (fun h37 => ?_) (fun h37 => ?_)
        · have c38 : (q_I r24 1 15 a0).toInt = (0 : Int) := o_eq h37
          have f39 := ti_b x1
          refine ok_ite (fun h40 => ?_) (fun h40 => ?_)
          · have c41 : x1.toInt = (0 : Int) := o_eq h40
            have f44 := cb_3_1 i26 knu o4
            have f45 : (q_I r24 3 1 nu).toInt = (q_I δ 3 1 nu).toInt := congrArg Int32.toInt (u28 3 1 nu (by decide))
            have f46 := ti_b (q_I r24 1 3 a0)
            have f47 : (q_I r24 1 3 a0).toInt = (q_I δ 1 3 a0).toInt := congrArg Int32.toInt (u28 1 3 a0 (by decide))
            have f48 := ti_b (q_I r24 1 4 a0)
            have f49 : (q_I r24 1 4 a0).toInt = (q_I δ 1 4 a0).toInt := congrArg Int32.toInt (u28 1 4 a0 (by decide))
            refine ok_bind (k_X1_goOnPutting L hN (a0 := a0) k_a0 hnu knu (show 0 ≤ (q_I r24 1 11 a0).toInt by first | assumption | omega) (show (q_I r24 1 11 a0).toInt ≤ (q_I r24 1 12 a0).toInt by first | assumption | omega) (show (q_I r24 1 12 a0).toInt ≤ (q_I r24 3 1 nu).toInt by first | assumption | omega) (show 0 ≤ (q_I r24 1 3 a0).toInt by first | assumption | omega) (show (q_I r24 1 4 a0).toInt ≤ (q_I r24 3 1 nu).toInt by first | assumption | omega) i26) (fun r42 hr43 => ?_)
            obtain ⟨i50, ⟨u53, u54, u55⟩, p51, p52⟩ := hr43
            have u56 := kp_t u31 u53
            have v57 : q_V r42.2 = q_V δ := (u54).trans v32
            have v58 : q_R r42.2 = q_R δ := (u55).trans v33
            have f59 := ti_b (q_I r42.2 1 3 a0)
            have f60 := ti_b (q_I r42.2 1 4 a0)
            have f61 := ti_b r42.1
            refine ok_biv (fun vx62 e63 => ?_)
            first | (have q64 := te_add vx17 r42.1 (by omega) (by omega); rw [← e63] at q64; obtain ⟨f65, f66, f67⟩ := q64) | (obtain ⟨q64, f65, f66, f67⟩ : ∃ q : Int, vx62.toInt = vx17.toInt + r42.1.toInt + 4294967296 * q ∧ -2147483648 ≤ vx62.toInt ∧ vx62.toInt ≤ 2147483647 := by rw [e63]; exact ti_add vx17 r42.1)
            unfold J_X1_touchesOf_156
            refine ok_biv (fun vx68 e69 => ?_)
            first | (have q70 := te_addc (c := 1) (n := 1) rfl x4v (by omega) (by omega); rw [← e69] at q70; obtain ⟨f71, f72, f73⟩ := q70) | (obtain ⟨q70, f71, f72, f73⟩ : ∃ q : Int, vx68.toInt = x4v.toInt + (1 : Int) + 4294967296 * q ∧ -2147483648 ≤ vx68.toInt ∧ vx68.toInt ≤ 2147483647 := by rw [e69]; exact ti_addc (c := 1) (n := 1) rfl x4v)
            have f74 := cb_3_1 i50 knu o4
            have f75 : (q_I r42.2 3 1 nu).toInt = (q_I r24 3 1 nu).toInt := congrArg Int32.toInt (u53 3 1 nu (by decide))
            refine ok_mono (ih vx62 vx68 r42.2 i50 (show 0 ≤ (q_I r42.2 1 3 a0).toInt by first | assumption | omega) (show (q_I r42.2 1 4 a0).toInt ≤ (q_I r42.2 3 1 nu).toInt by first | assumption | omega) (show 0 ≤ (vx68).toInt by first | assumption | omega) (show (vx68).toInt ≤ 16 by first | assumption | omega) (show 16 - (vx68).toInt < _ by omega)) (fun r76 hr77 => ?_)
            obtain ⟨i78, ⟨u79, u80, u81⟩⟩ := hr77
            have u82 := kp_t u56 u79
            have v83 : q_V r76.2 = q_V δ := (u80).trans v57
            have v84 : q_R r76.2 = q_R δ := (u81).trans v58
            have f85 := ti_b r76.1
            exact ⟨by assumption, ⟨kp_w (by decide) u82, v83, v84⟩⟩
          · have c86 : x1.toInt ≠ (0 : Int) := o_ne h40
            refine ok_ite (fun h87 => ?_) (fun h87 => ?_)
            · have c88 : x1.toInt = (1 : Int) := o_eq h87
              have f91 := cb_3_1 i26 knu o4
              have f92 : (q_I r24 3 1 nu).toInt = (q_I δ 3 1 nu).toInt := congrArg Int32.toInt (u28 3 1 nu (by decide))
              have f93 := ti_b (q_I r24 1 3 a0)
              have f94 : (q_I r24 1 3 a0).toInt = (q_I δ 1 3 a0).toInt := congrArg Int32.toInt (u28 1 3 a0 (by decide))
              have f95 := ti_b (q_I r24 1 4 a0)
              have f96 : (q_I r24 1 4 a0).toInt = (q_I δ 1 4 a0).toInt := congrArg Int32.toInt (u28 1 4 a0 (by decide))
              refine ok_bind (k_X1_goOnDropping L hN (a0 := a0) k_a0 hnu knu (show 0 ≤ (q_I r24 1 11 a0).toInt by first | assumption | omega) (show (q_I r24 1 11 a0).toInt ≤ (q_I r24 1 12 a0).toInt by first | assumption | omega) (show (q_I r24 1 12 a0).toInt ≤ (q_I r24 3 1 nu).toInt by first | assumption | omega) (show 0 ≤ (q_I r24 1 3 a0).toInt by first | assumption | omega) (show (q_I r24 1 4 a0).toInt ≤ (q_I r24 3 1 nu).toInt by first | assumption | omega) i26) (fun r89 hr90 => ?_)
              obtain ⟨i97, ⟨u100, u101, u102⟩, p98, p99⟩ := hr90
              have u103 := kp_t u31 u100
              have v104 : q_V r89.2 = q_V δ := (u101).trans v32
              have v105 : q_R r89.2 = q_R δ := (u102).trans v33
              have f106 := ti_b (q_I r89.2 1 3 a0)
              have f107 := ti_b (q_I r89.2 1 4 a0)
              have f108 := ti_b r89.1
              refine ok_biv (fun vx109 e110 => ?_)
              first | (have q111 := te_add vx17 r89.1 (by omega) (by omega); rw [← e110] at q111; obtain ⟨f112, f113, f114⟩ := q111) | (obtain ⟨q111, f112, f113, f114⟩ : ∃ q : Int, vx109.toInt = vx17.toInt + r89.1.toInt + 4294967296 * q ∧ -2147483648 ≤ vx109.toInt ∧ vx109.toInt ≤ 2147483647 := by rw [e110]; exact ti_add vx17 r89.1)
              unfold J_X1_touchesOf_156
              refine ok_biv (fun vx115 e116 => ?_)
              first | (have q117 := te_addc (c := 1) (n := 1) rfl x4v (by omega) (by omega); rw [← e116] at q117; obtain ⟨f118, f119, f120⟩ := q117) | (obtain ⟨q117, f118, f119, f120⟩ : ∃ q : Int, vx115.toInt = x4v.toInt + (1 : Int) + 4294967296 * q ∧ -2147483648 ≤ vx115.toInt ∧ vx115.toInt ≤ 2147483647 := by rw [e116]; exact ti_addc (c := 1) (n := 1) rfl x4v)
              have f121 := cb_3_1 i97 knu o4
              have f122 : (q_I r89.2 3 1 nu).toInt = (q_I r24 3 1 nu).toInt := congrArg Int32.toInt (u100 3 1 nu (by decide))
              refine ok_mono (ih vx109 vx115 r89.2 i97 (show 0 ≤ (q_I r89.2 1 3 a0).toInt by first | assumption | omega) (show (q_I r89.2 1 4 a0).toInt ≤ (q_I r89.2 3 1 nu).toInt by first | assumption | omega) (show 0 ≤ (vx115).toInt by first | assumption | omega) (show (vx115).toInt ≤ 16 by first | assumption | omega) (show 16 - (vx115).toInt < _ by omega)) (fun r123 hr124 => ?_)
              obtain ⟨i125, ⟨u126, u127, u128⟩⟩ := hr124
              have u129 := kp_t u103 u126
              have v130 : q_V r123.2 = q_V δ := (u127).trans v104
              have v131 : q_R r123.2 = q_R δ := (u128).trans v105
              have f132 := ti_b r123.1
              exact ⟨by assumption, ⟨kp_w (by decide) u129, v130, v131⟩⟩
            · have c133 : x1.toInt ≠ (1 : Int) := o_ne h87
              refine ok_ite (fun h134 => ?_) (fun h134 => ?_)
              · have c135 : x1.toInt = (2 : Int) := o_eq h134
                unfold J_X1_touchesOf_152
                have f138 := cb_3_1 i26 knu o4
                have f139 : (q_I r24 3 1 nu).toInt = (q_I δ 3 1 nu).toInt := congrArg Int32.toInt (u28 3 1 nu (by decide))
                have f140 := ti_b (q_I r24 1 3 a0)
                have f141 : (q_I r24 1 3 a0).toInt = (q_I δ 1 3 a0).toInt := congrArg Int32.toInt (u28 1 3 a0 (by decide))
                have f142 := ti_b (q_I r24 1 4 a0)
                have f143 : (q_I r24 1 4 a0).toInt = (q_I δ 1 4 a0).toInt := congrArg Int32.toInt (u28 1 4 a0 (by decide))
                refine ok_bind (k_X1_goOnAsking L hN (a0 := a0) k_a0 hnu knu (show 0 ≤ (q_I r24 1 11 a0).toInt by first | assumption | omega) (show (q_I r24 1 11 a0).toInt ≤ (q_I r24 1 12 a0).toInt by first | assumption | omega) (show (q_I r24 1 12 a0).toInt ≤ (q_I r24 3 1 nu).toInt by first | assumption | omega) (show 0 ≤ (q_I r24 1 3 a0).toInt by first | assumption | omega) (show (q_I r24 1 4 a0).toInt ≤ (q_I r24 3 1 nu).toInt by first | assumption | omega) i26) (fun r136 hr137 => ?_)
                obtain ⟨i144, ⟨u147, u148, u149⟩, p145, p146⟩ := hr137
                have u150 := kp_t u31 u147
                have v151 : q_V r136 = q_V δ := (u148).trans v32
                have v152 : q_R r136 = q_R δ := (u149).trans v33
                have f153 := ti_b (q_I r136 1 3 a0)
                have f154 := ti_b (q_I r136 1 4 a0)
                unfold J_X1_touchesOf_156
                refine ok_biv (fun vx155 e156 => ?_)
                first | (have q157 := te_addc (c := 1) (n := 1) rfl x4v (by omega) (by omega); rw [← e156] at q157; obtain ⟨f158, f159, f160⟩ := q157) | (obtain ⟨q157, f158, f159, f160⟩ : ∃ q : Int, vx155.toInt = x4v.toInt + (1 : Int) + 4294967296 * q ∧ -2147483648 ≤ vx155.toInt ∧ vx155.toInt ≤ 2147483647 := by rw [e156]; exact ti_addc (c := 1) (n := 1) rfl x4v)
                have f161 := cb_3_1 i144 knu o4
                have f162 : (q_I r136 3 1 nu).toInt = (q_I r24 3 1 nu).toInt := congrArg Int32.toInt (u147 3 1 nu (by decide))
                refine ok_mono (ih vx17 vx155 r136 i144 (show 0 ≤ (q_I r136 1 3 a0).toInt by first | assumption | omega) (show (q_I r136 1 4 a0).toInt ≤ (q_I r136 3 1 nu).toInt by first | assumption | omega) (show 0 ≤ (vx155).toInt by first | assumption | omega) (show (vx155).toInt ≤ 16 by first | assumption | omega) (show 16 - (vx155).toInt < _ by omega)) (fun r163 hr164 => ?_)
                obtain ⟨i165, ⟨u166, u167, u168⟩⟩ := hr164
                have u169 := kp_t u150 u166
                have v170 : q_V r163.2 = q_V δ := (u167).trans v151
                have v171 : q_R r163.2 = q_R δ := (u168).trans v152
                have f172 := ti_b r163.1
                exact ⟨by assumption, ⟨kp_w (by decide) u169, v170, v171⟩⟩
              · have c173 : x1.toInt ≠ (2 : Int) := o_ne h134
                refine ok_ite (fun h174 => ?_) (fun h174 => ?_)
                · have c175 : x1.toInt = (3 : Int) := o_eq h174
                  have f178 := cb_3_1 i26 knu o4
                  have f179 : (q_I r24 3 1 nu).toInt = (q_I δ 3 1 nu).toInt := congrArg Int32.toInt (u28 3 1 nu (by decide))
                  have f180 := ti_b (q_I r24 1 3 a0)
                  have f181 : (q_I r24 1 3 a0).toInt = (q_I δ 1 3 a0).toInt := congrArg Int32.toInt (u28 1 3 a0 (by decide))
                  have f182 := ti_b (q_I r24 1 4 a0)
                  have f183 : (q_I r24 1 4 a0).toInt = (q_I δ 1 4 a0).toInt := congrArg Int32.toInt (u28 1 4 a0 (by decide))
                  refine ok_bind (k_X1_goOnUp L hN (a0 := a0) k_a0 hnu knu (show 0 ≤ (q_I r24 1 11 a0).toInt by first | assumption | omega) (show (q_I r24 1 11 a0).toInt ≤ (q_I r24 1 12 a0).toInt by first | assumption | omega) (show (q_I r24 1 12 a0).toInt ≤ (q_I r24 3 1 nu).toInt by first | assumption | omega) (show 0 ≤ (q_I r24 1 3 a0).toInt by first | assumption | omega) (show (q_I r24 1 4 a0).toInt ≤ (q_I r24 3 1 nu).toInt by first | assumption | omega) i26) (fun r176 hr177 => ?_)
                  obtain ⟨i184, ⟨u187, u188, u189⟩, p185, p186⟩ := hr177
                  have u190 := kp_t u31 u187
                  have v191 : q_V r176.2 = q_V δ := (u188).trans v32
                  have v192 : q_R r176.2 = q_R δ := (u189).trans v33
                  have f193 := ti_b (q_I r176.2 1 3 a0)
                  have f194 := ti_b (q_I r176.2 1 4 a0)
                  have f195 := ti_b r176.1
                  refine ok_biv (fun vx196 e197 => ?_)
                  first | (have q198 := te_add vx17 r176.1 (by omega) (by omega); rw [← e197] at q198; obtain ⟨f199, f200, f201⟩ := q198) | (obtain ⟨q198, f199, f200, f201⟩ : ∃ q : Int, vx196.toInt = vx17.toInt + r176.1.toInt + 4294967296 * q ∧ -2147483648 ≤ vx196.toInt ∧ vx196.toInt ≤ 2147483647 := by rw [e197]; exact ti_add vx17 r176.1)
                  unfold J_X1_touchesOf_156
                  refine ok_biv (fun vx202 e203 => ?_)
                  first | (have q204 := te_addc (c := 1) (n := 1) rfl x4v (by omega) (by omega); rw [← e203] at q204; obtain ⟨f205, f206, f207⟩ := q204) | (obtain ⟨q204, f205, f206, f207⟩ : ∃ q : Int, vx202.toInt = x4v.toInt + (1 : Int) + 4294967296 * q ∧ -2147483648 ≤ vx202.toInt ∧ vx202.toInt ≤ 2147483647 := by rw [e203]; exact ti_addc (c := 1) (n := 1) rfl x4v)
                  have f208 := cb_3_1 i184 knu o4
                  have f209 : (q_I r176.2 3 1 nu).toInt = (q_I r24 3 1 nu).toInt := congrArg Int32.toInt (u187 3 1 nu (by decide))
                  refine ok_mono (ih vx196 vx202 r176.2 i184 (show 0 ≤ (q_I r176.2 1 3 a0).toInt by first | assumption | omega) (show (q_I r176.2 1 4 a0).toInt ≤ (q_I r176.2 3 1 nu).toInt by first | assumption | omega) (show 0 ≤ (vx202).toInt by first | assumption | omega) (show (vx202).toInt ≤ 16 by first | assumption | omega) (show 16 - (vx202).toInt < _ by omega)) (fun r210 hr211 => ?_)
                  obtain ⟨i212, ⟨u213, u214, u215⟩⟩ := hr211
                  have u216 := kp_t u190 u213
                  have v217 : q_V r210.2 = q_V δ := (u214).trans v191
                  have v218 : q_R r210.2 = q_R δ := (u215).trans v192
                  have f219 := ti_b r210.1
                  exact ⟨by assumption, ⟨kp_w (by decide) u216, v217, v218⟩⟩
                · have c220 : x1.toInt ≠ (3 : Int) := o_ne h174
                  refine ok_ite (fun h221 => ?_) (fun h221 => ?_)
                  · have c222 : x1.toInt = (4 : Int) := o_eq h221
                    have f225 := cb_3_1 i26 knu o4
                    have f226 : (q_I r24 3 1 nu).toInt = (q_I δ 3 1 nu).toInt := congrArg Int32.toInt (u28 3 1 nu (by decide))
                    have f227 := ti_b (q_I r24 1 3 a0)
                    have f228 : (q_I r24 1 3 a0).toInt = (q_I δ 1 3 a0).toInt := congrArg Int32.toInt (u28 1 3 a0 (by decide))
                    have f229 := ti_b (q_I r24 1 4 a0)
                    have f230 : (q_I r24 1 4 a0).toInt = (q_I δ 1 4 a0).toInt := congrArg Int32.toInt (u28 1 4 a0 (by decide))
                    refine ok_bind (k_X1_goOnDown L hN (a0 := a0) k_a0 hnu knu (show 0 ≤ (q_I r24 1 11 a0).toInt by first | assumption | omega) (show (q_I r24 1 11 a0).toInt ≤ (q_I r24 1 12 a0).toInt by first | assumption | omega) (show (q_I r24 1 12 a0).toInt ≤ (q_I r24 3 1 nu).toInt by first | assumption | omega) (show 0 ≤ (q_I r24 1 3 a0).toInt by first | assumption | omega) (show (q_I r24 1 4 a0).toInt ≤ (q_I r24 3 1 nu).toInt by first | assumption | omega) i26) (fun r223 hr224 => ?_)
                    obtain ⟨i231, ⟨u234, u235, u236⟩, p232, p233⟩ := hr224
                    have u237 := kp_t u31 u234
                    have v238 : q_V r223.2 = q_V δ := (u235).trans v32
                    have v239 : q_R r223.2 = q_R δ := (u236).trans v33
                    have f240 := ti_b (q_I r223.2 1 3 a0)
                    have f241 := ti_b (q_I r223.2 1 4 a0)
                    have f242 := ti_b r223.1
                    refine ok_biv (fun vx243 e244 => ?_)
                    first | (have q245 := te_add vx17 r223.1 (by omega) (by omega); rw [← e244] at q245; obtain ⟨f246, f247, f248⟩ := q245) | (obtain ⟨q245, f246, f247, f248⟩ : ∃ q : Int, vx243.toInt = vx17.toInt + r223.1.toInt + 4294967296 * q ∧ -2147483648 ≤ vx243.toInt ∧ vx243.toInt ≤ 2147483647 := by rw [e244]; exact ti_add vx17 r223.1)
                    unfold J_X1_touchesOf_156
                    refine ok_biv (fun vx249 e250 => ?_)
                    first | (have q251 := te_addc (c := 1) (n := 1) rfl x4v (by omega) (by omega); rw [← e250] at q251; obtain ⟨f252, f253, f254⟩ := q251) | (obtain ⟨q251, f252, f253, f254⟩ : ∃ q : Int, vx249.toInt = x4v.toInt + (1 : Int) + 4294967296 * q ∧ -2147483648 ≤ vx249.toInt ∧ vx249.toInt ≤ 2147483647 := by rw [e250]; exact ti_addc (c := 1) (n := 1) rfl x4v)
                    have f255 := cb_3_1 i231 knu o4
                    have f256 : (q_I r223.2 3 1 nu).toInt = (q_I r24 3 1 nu).toInt := congrArg Int32.toInt (u234 3 1 nu (by decide))
                    refine ok_mono (ih vx243 vx249 r223.2 i231 (show 0 ≤ (q_I r223.2 1 3 a0).toInt by first | assumption | omega) (show (q_I r223.2 1 4 a0).toInt ≤ (q_I r223.2 3 1 nu).toInt by first | assumption | omega) (show 0 ≤ (vx249).toInt by first | assumption | omega) (show (vx249).toInt ≤ 16 by first | assumption | omega) (show 16 - (vx249).toInt < _ by omega)) (fun r257 hr258 => ?_)
                    obtain ⟨i259, ⟨u260, u261, u262⟩⟩ := hr258
                    have u263 := kp_t u237 u260
                    have v264 : q_V r257.2 = q_V δ := (u261).trans v238
                    have v265 : q_R r257.2 = q_R δ := (u262).trans v239
                    have f266 := ti_b r257.1
                    exact ⟨by assumption, ⟨kp_w (by decide) u263, v264, v265⟩⟩
                  · have c267 : x1.toInt ≠ (4 : Int) := o_ne h221
                    unfold J_X1_touchesOf_152
                    have f270 := cb_3_1 i26 knu o4
                    have f271 : (q_I r24 3 1 nu).toInt = (q_I δ 3 1 nu).toInt := congrArg Int32.toInt (u28 3 1 nu (by decide))
                    have f272 := ti_b (q_I r24 1 3 a0)
                    have f273 : (q_I r24 1 3 a0).toInt = (q_I δ 1 3 a0).toInt := congrArg Int32.toInt (u28 1 3 a0 (by decide))
                    have f274 := ti_b (q_I r24 1 4 a0)
                    have f275 : (q_I r24 1 4 a0).toInt = (q_I δ 1 4 a0).toInt := congrArg Int32.toInt (u28 1 4 a0 (by decide))
                    refine ok_bind (k_X1_goOnAsking L hN (a0 := a0) k_a0 hnu knu (show 0 ≤ (q_I r24 1 11 a0).toInt by first | assumption | omega) (show (q_I r24 1 11 a0).toInt ≤ (q_I r24 1 12 a0).toInt by first | assumption | omega) (show (q_I r24 1 12 a0).toInt ≤ (q_I r24 3 1 nu).toInt by first | assumption | omega) (show 0 ≤ (q_I r24 1 3 a0).toInt by first | assumption | omega) (show (q_I r24 1 4 a0).toInt ≤ (q_I r24 3 1 nu).toInt by first | assumption | omega) i26) (fun r268 hr269 => ?_)
                    obtain ⟨i276, ⟨u279, u280, u281⟩, p277, p278⟩ := hr269
                    have u282 := kp_t u31 u279
                    have v283 : q_V r268 = q_V δ := (u280).trans v32
                    have v284 : q_R r268 = q_R δ := (u281).trans v33
                    have f285 := ti_b (q_I r268 1 3 a0)
                    have f286 := ti_b (q_I r268 1 4 a0)
                    unfold J_X1_touchesOf_156
                    refine ok_biv (fun vx287 e288 => ?_)
                    first | (have q289 := te_addc (c := 1) (n := 1) rfl x4v (by omega) (by omega); rw [← e288] at q289; obtain ⟨f290, f291, f292⟩ := q289) | (obtain ⟨q289, f290, f291, f292⟩ : ∃ q : Int, vx287.toInt = x4v.toInt + (1 : Int) + 4294967296 * q ∧ -2147483648 ≤ vx287.toInt ∧ vx287.toInt ≤ 2147483647 := by rw [e288]; exact ti_addc (c := 1) (n := 1) rfl x4v)
                    have f293 := cb_3_1 i276 knu o4
                    have f294 : (q_I r268 3 1 nu).toInt = (q_I r24 3 1 nu).toInt := congrArg Int32.toInt (u279 3 1 nu (by decide))
                    refine ok_mono (ih vx17 vx287 r268 i276 (show 0 ≤ (q_I r268 1 3 a0).toInt by first | assumption | omega) (show (q_I r268 1 4 a0).toInt ≤ (q_I r268 3 1 nu).toInt by first | assumption | omega) (show 0 ≤ (vx287).toInt by first | assumption | omega) (show (vx287).toInt ≤ 16 by first | assumption | omega) (show 16 - (vx287).toInt < _ by omega)) (fun r295 hr296 => ?_)
                    obtain ⟨i297, ⟨u298, u299, u300⟩⟩ := hr296
                    have u301 := kp_t u282 u298
                    have v302 : q_V r295.2 = q_V δ := (u299).trans v283
                    have v303 : q_R r295.2 = q_R δ := (u300).trans v284
                    have f304 := ti_b r295.1
                    exact ⟨by assumption, ⟨kp_w (by decide) u301, v302, v303⟩⟩
        · have c305 : (q_I r24 1 15 a0).toInt ≠ (0 : Int) := o_ne h37
          exact ok_some (show CI ad h.1 δ0 r24 ∧ (kp [(1, 3), (1, 4), (1, 5), (1, 6), (1, 7), (1, 8), (1, 9), (1, 10), (1, 11), (1, 12), (1, 13), (1, 14), (1, 15)] δ r24 ∧ q_V r24 = q_V δ ∧ q_R r24 = q_R δ) from ⟨i26, ⟨kp_w (by decide) u31, v32, v33⟩⟩)
      · have c306 : (q_I δ 1 15 a0).toInt ≠ (0 : Int) := o_ne h15
        unfold J_X1_touchesOf_162
        exact ok_some (show CI ad h.1 δ0 δ ∧ (kp [(1, 3), (1, 4), (1, 5), (1, 6), (1, 7), (1, 8), (1, 9), (1, 10), (1, 11), (1, 12), (1, 13), (1, 14), (1, 15)] δ δ ∧ q_V δ = q_V δ ∧ q_R δ = q_R δ) from ⟨I, ⟨kp_w (by decide) kp_r, rfl, rfl⟩⟩)
set_option maxHeartbeats 4000000 in
theorem k_X1_touchesOf {ad : List Nat} {h : hp} (L : Lay TLx ad h) {δ0 : dp} {N : Nat} (hN : 10000000 ≤ N) {a0 : Nat} {x1 : Int32} {x2 : Int32} {nu : Nat} (k_a0 : q_K h.1 a0 = 1) (hnu : q_O h.1 1 1 a0 = some nu) (knu : q_K h.1 nu = 3) {δ : dp} (I : CI ad h.1 δ0 δ) : ok (D_X1_touchesOf N h.1 a0 x1 x2 δ) (fun r => CI ad h.1 δ0 r.2 ∧ (kp [(1, 3), (1, 4), (1, 5), (1, 6), (1, 7), (1, 8), (1, 9), (1, 10), (1, 11), (1, 12), (1, 13), (1, 14), (1, 15)] δ r.2 ∧ q_V r.2 = q_V δ ∧ q_R r.2 = q_R δ)) := by
  unfold D_X1_touchesOf
  refine ok_bdv (fun d1 e2 => ?_)
  have i3 : CI ad h.1 δ0 d1 := by rw [e2]; exact cs_1_3 L I
  have u4 := kp_I kp_r e2
  have v5 : q_V d1 = q_V δ := ((show q_V d1 = q_V δ by rw [e2]; rfl)).trans rfl
  have v6 : q_R d1 = q_R δ := ((show q_R d1 = q_R δ by rw [e2]; rfl)).trans rfl
  refine ok_at hnu ?_
  obtain ⟨b10, o11, k12, ⟨n13, n14⟩, w15⟩ := gO_3_0 L knu
  have f16 := cb_3_1 i3 knu o11
  have f17 : (q_I d1 3 1 nu).toInt = (q_I δ 3 1 nu).toInt := congrArg Int32.toInt (by rw [e2]; exact rI_o (by decide))
  have f18 := cb_3_1 I knu o11
  refine ok_bdv (fun d7 e8 => ?_)
  have i9 : CI ad h.1 δ0 d7 := by rw [e8]; exact cs_1_4 L i3
  have u19 := kp_I u4 e8
  have v20 : q_V d7 = q_V δ := ((show q_V d7 = q_V d1 by rw [e8]; rfl)).trans v5
  have v21 : q_R d7 = q_R δ := ((show q_R d7 = q_R d1 by rw [e8]; rfl)).trans v6
  refine ok_bdv (fun d22 e23 => ?_)
  have i24 : CI ad h.1 δ0 d22 := by rw [e23]; exact cs_1_5 L i9
  have u25 := kp_I u19 e23
  have v26 : q_V d22 = q_V δ := ((show q_V d22 = q_V d7 by rw [e23]; rfl)).trans v20
  have v27 : q_R d22 = q_R δ := ((show q_R d22 = q_R d7 by rw [e23]; rfl)).trans v21
  obtain ⟨b28, o29, k30⟩ := gO_1_0 L k_a0
  refine ok_at o29 ?_
  have f34 := cb_5_0 i24 k30
  have f35 : (q_I d22 5 0 b28).toInt = (q_I d7 5 0 b28).toInt := congrArg Int32.toInt (by rw [e23]; exact rI_o (by decide))
  have f36 := cb_5_0 i9 k30
  have f37 : (q_I d7 5 0 b28).toInt = (q_I d1 5 0 b28).toInt := congrArg Int32.toInt (by rw [e8]; exact rI_o (by decide))
  have f38 := cb_5_0 i3 k30
  have f39 : (q_I d1 5 0 b28).toInt = (q_I δ 5 0 b28).toInt := congrArg Int32.toInt (by rw [e2]; exact rI_o (by decide))
  have f40 := cb_5_0 I k30
  refine ok_bdv (fun d31 e32 => ?_)
  have i33 : CI ad h.1 δ0 d31 := by rw [e32]; exact cs_1_6 L i24
  have u41 := kp_I u25 e32
  have v42 : q_V d31 = q_V δ := ((show q_V d31 = q_V d22 by rw [e32]; rfl)).trans v26
  have v43 : q_R d31 = q_R δ := ((show q_R d31 = q_R d22 by rw [e32]; rfl)).trans v27
  have f47 := ti_b x2
  refine ok_bdv (fun d44 e45 => ?_)
  have i46 : CI ad h.1 δ0 d44 := by rw [e45]; exact cs_1_8 L i33
  have u48 := kp_I u41 e45
  have v49 : q_V d44 = q_V δ := ((show q_V d44 = q_V d31 by rw [e45]; rfl)).trans v42
  have v50 : q_R d44 = q_R δ := ((show q_R d44 = q_R d31 by rw [e45]; rfl)).trans v43
  refine ok_bdv (fun d51 e52 => ?_)
  have i53 : CI ad h.1 δ0 d51 := by rw [e52]; exact cs_1_15 L i46 k_a0 (show 0 ≤ (0 : Int) by omega) (show (0 : Int) ≤ 1 by omega)
  have u54 := kp_I u48 e52
  have v55 : q_V d51 = q_V δ := ((show q_V d51 = q_V d44 by rw [e52]; rfl)).trans v49
  have v56 : q_R d51 = q_R δ := ((show q_R d51 = q_R d44 by rw [e52]; rfl)).trans v50
  have f57 := ti_b (q_I d51 1 3 a0)
  have f58 : (q_I d51 1 3 a0).toInt = (q_I d44 1 3 a0).toInt := congrArg Int32.toInt (by rw [e52]; exact rI_o (by decide))
  have f59 := ti_b (q_I d44 1 3 a0)
  have f60 : (q_I d44 1 3 a0).toInt = (q_I d31 1 3 a0).toInt := congrArg Int32.toInt (by rw [e45]; exact rI_o (by decide))
  have f61 := ti_b (q_I d31 1 3 a0)
  have f62 : (q_I d31 1 3 a0).toInt = (q_I d22 1 3 a0).toInt := congrArg Int32.toInt (by rw [e32]; exact rI_o (by decide))
  have f63 := ti_b (q_I d22 1 3 a0)
  have f64 : (q_I d22 1 3 a0).toInt = (q_I d7 1 3 a0).toInt := congrArg Int32.toInt (by rw [e23]; exact rI_o (by decide))
  have f65 := ti_b (q_I d7 1 3 a0)
  have f66 : (q_I d7 1 3 a0).toInt = (q_I d1 1 3 a0).toInt := congrArg Int32.toInt (by rw [e8]; exact rI_o (by decide))
  have f67 := ti_b (q_I d1 1 3 a0)
  have f68 : (q_I d1 1 3 a0).toInt = (0 : Int) := congrArg Int32.toInt (show q_I d1 1 3 a0 = (0 : Int32) by rw [e2]; exact rI_s)
  have f69 := ti_b (q_I d51 1 4 a0)
  have f70 : (q_I d51 1 4 a0).toInt = (q_I d44 1 4 a0).toInt := congrArg Int32.toInt (by rw [e52]; exact rI_o (by decide))
  have f71 := ti_b (q_I d44 1 4 a0)
  have f72 : (q_I d44 1 4 a0).toInt = (q_I d31 1 4 a0).toInt := congrArg Int32.toInt (by rw [e45]; exact rI_o (by decide))
  have f73 := ti_b (q_I d31 1 4 a0)
  have f74 : (q_I d31 1 4 a0).toInt = (q_I d22 1 4 a0).toInt := congrArg Int32.toInt (by rw [e32]; exact rI_o (by decide))
  have f75 := ti_b (q_I d22 1 4 a0)
  have f76 : (q_I d22 1 4 a0).toInt = (q_I d7 1 4 a0).toInt := congrArg Int32.toInt (by rw [e23]; exact rI_o (by decide))
  have f77 := ti_b (q_I d7 1 4 a0)
  have f78 : (q_I d7 1 4 a0).toInt = (q_I d1 3 1 nu).toInt := congrArg Int32.toInt (show q_I d7 1 4 a0 = (q_I d1 3 1 nu) by rw [e8]; exact rI_s)
  have f79 := cb_3_1 i53 knu o11
  have f80 : (q_I d51 3 1 nu).toInt = (q_I d44 3 1 nu).toInt := congrArg Int32.toInt (by rw [e52]; exact rI_o (by decide))
  have f81 := cb_3_1 i46 knu o11
  have f82 : (q_I d44 3 1 nu).toInt = (q_I d31 3 1 nu).toInt := congrArg Int32.toInt (by rw [e45]; exact rI_o (by decide))
  have f83 := cb_3_1 i33 knu o11
  have f84 : (q_I d31 3 1 nu).toInt = (q_I d22 3 1 nu).toInt := congrArg Int32.toInt (by rw [e32]; exact rI_o (by decide))
  have f85 := cb_3_1 i24 knu o11
  have f86 : (q_I d22 3 1 nu).toInt = (q_I d7 3 1 nu).toInt := congrArg Int32.toInt (by rw [e23]; exact rI_o (by decide))
  have f87 := cb_3_1 i9 knu o11
  have f88 : (q_I d7 3 1 nu).toInt = (q_I d1 3 1 nu).toInt := congrArg Int32.toInt (by rw [e8]; exact rI_o (by decide))
  refine ok_mono (kl_X1_touchesOf_47 L hN   k_a0 hnu knu _ (0 : Int32) (0 : Int32) d51 i53 (show 0 ≤ (q_I d51 1 3 a0).toInt by first | assumption | omega) (show (q_I d51 1 4 a0).toInt ≤ (q_I d51 3 1 nu).toInt by first | assumption | omega) (show 0 ≤ (0 : Int) by first | assumption | omega) (show (0 : Int) ≤ 16 by first | assumption | omega) (show 16 - (0 : Int) < _ by omega)) (fun r89 hr90 => ?_)
  obtain ⟨i91, ⟨u92, u93, u94⟩⟩ := hr90
  have u95 := kp_t u54 u92
  have v96 : q_V r89.2 = q_V δ := (u93).trans v55
  have v97 : q_R r89.2 = q_R δ := (u94).trans v56
  have f98 := ti_b r89.1
  exact ⟨by assumption, ⟨kp_w (by decide) u95, v96, v97⟩⟩
set_option maxHeartbeats 4000000 in
theorem kl_X1_cellsOf_163 {ad : List Nat} {h : hp} (L : Lay TLx ad h) {δ0 : dp} {N : Nat} (hN : 10000000 ≤ N) {T : Nat → Int32 → Int32 → Int32 → Int32 → dp → Option (Int32 × dp)} {K : Int} (hT : ∀ (a0 : Nat) (x1 : Int32) (x2 : Int32) (x3 : Int32) (x4 : Int32) (δ : dp) (nu : Nat), q_K h.1 a0 = 1 → q_O h.1 1 1 a0 = some nu → q_K h.1 nu = 3 → 0 ≤ (x1).toInt → (x2).toInt ≤ (q_I δ 3 1 nu).toInt → 0 ≤ (x4).toInt → (x4).toInt ≤ 16 → (x4).toInt < K → CI ad h.1 δ0 δ → ok (T a0 x1 x2 x3 x4 δ) (fun r => r.2 = δ)) {a0 : Nat} {x1 : Int32} {x2 : Int32} {x3 : Int32} {x4 : Int32} {nu : Nat} (k_a0 : q_K h.1 a0 = 1) (hnu : q_O h.1 1 1 a0 = some nu) (knu : q_K h.1 nu = 3) : ∀ (n : Nat) (x7v : Int32) (x8v : Int32) (x9v : Int32) (x10v : Int32) (x11v : Int32) (δ : dp), CI ad h.1 δ0 δ → 0 ≤ (x1).toInt → (x1).toInt < (x2).toInt → (x2).toInt ≤ (q_I δ 3 1 nu).toInt → 2 ≤ (x4).toInt → (x4).toInt ≤ 16 → (x4).toInt ≤ K → 0 ≤ (x11v).toInt → (x11v).toInt ≤ (x7v).toInt → (x7v).toInt ≤ (x2).toInt → 0 ≤ (x10v).toInt → 1 ≤ (x8v).toInt → (x8v).toInt < (x4).toInt → (x7v).toInt - (x11v).toInt < (n : Int) → ok (L_X1_cellsOf_163 N h.1 T a0 x1 x2 x3 x4 n x7v x8v x9v x10v x11v δ) (fun r => r.2 = δ) := by
  intro n
  induction n with
  | zero =>
    intro x7v x8v x9v x10v x11v δ I j0 j1 j2 j3 j4 j5 j6 j7 j8 j9 j10 j11 hm
    have f1 := ti_b x1
    have f2 := ti_b x2
    obtain ⟨b3, o4, k5, ⟨n6, n7⟩, w8⟩ := gO_3_0 L knu
    have f9 := cb_3_1 I knu o4
    have f10 := ti_b x4
    have f11 := ti_b x11v
    have f12 := ti_b x7v
    have f13 := ti_b x10v
    have f14 := ti_b x8v
    exfalso; omega
  | succ n ih =>
    intro x7v x8v x9v x10v x11v δ I j0 j1 j2 j3 j4 j5 j6 j7 j8 j9 j10 j11 hm
    unfold L_X1_cellsOf_163
    have f1 := ti_b x1
    have f2 := ti_b x2
    obtain ⟨b3, o4, k5, ⟨n6, n7⟩, w8⟩ := gO_3_0 L knu
    have f9 := cb_3_1 I knu o4
    have f10 := ti_b x4
    have f11 := ti_b x11v
    have f12 := ti_b x7v
    have f13 := ti_b x10v
    have f14 := ti_b x8v
    refine ok_ite (fun h15 => ?_) (fun h15 => ?_)
    · have c16 : x7v.toInt ≤ x11v.toInt := o_le h15
      exact ok_some (show δ = δ from rfl)
    · have c17 : x11v.toInt < x7v.toInt := o_nle h15
      first | (have q19 := te_addc (c := 1) (n := 1) rfl x11v (by omega) (by omega); obtain ⟨f20, f21, f22⟩ := q19) | (obtain ⟨q19, f20, f21, f22⟩ := ti_addc (c := 1) (n := 1) rfl x11v)
      refine ok_ite (fun h23 => ?_) (fun h23 => ?_)
      · have c24 : x7v.toInt ≤ (x11v + (1 : Int32)).toInt := o_le h23
        unfold J_X1_cellsOf_208
        unfold J_X1_cellsOf_213
        refine ok_ite (fun h25 => ?_) (fun h25 => ?_)
        · have c26 : (1 : Int) = (0 : Int) := o_eq h25
          unfold J_X1_cellsOf_244
          refine ok_biv (fun vx27 e28 => ?_)
          first | (have q29 := te_addc (c := 1) (n := 1) rfl x11v (by omega) (by omega); rw [← e28] at q29; obtain ⟨f30, f31, f32⟩ := q29) | (obtain ⟨q29, f30, f31, f32⟩ : ∃ q : Int, vx27.toInt = x11v.toInt + (1 : Int) + 4294967296 * q ∧ -2147483648 ≤ vx27.toInt ∧ vx27.toInt ≤ 2147483647 := by rw [e28]; exact ti_addc (c := 1) (n := 1) rfl x11v)
          refine ok_mono (ih x7v x8v x9v x10v vx27 δ I (show 0 ≤ (x1).toInt by first | assumption | omega) (show (x1).toInt < (x2).toInt by first | assumption | omega) (show (x2).toInt ≤ (q_I δ 3 1 nu).toInt by first | assumption | omega) (show 2 ≤ (x4).toInt by first | assumption | omega) (show (x4).toInt ≤ 16 by first | assumption | omega) (show (x4).toInt ≤ K by first | assumption | omega) (show 0 ≤ (vx27).toInt by first | assumption | omega) (show (vx27).toInt ≤ (x7v).toInt by first | assumption | omega) (show (x7v).toInt ≤ (x2).toInt by first | assumption | omega) (show 0 ≤ (x10v).toInt by first | assumption | omega) (show 1 ≤ (x8v).toInt by first | assumption | omega) (show (x8v).toInt < (x4).toInt by first | assumption | omega) (show (x7v).toInt - (vx27).toInt < _ by omega)) (fun r33 hr34 => ?_)
          have i35 := hr34
          have f36 := ti_b r33.1
          exact by assumption
        · have c37 : (1 : Int) ≠ (0 : Int) := o_ne h25
          refine ok_bind (hT a0 x10v (x11v + (1 : Int32)) x3 x8v δ nu k_a0 hnu knu (show 0 ≤ (x10v).toInt by first | assumption | omega) (show ((x11v + (1 : Int32))).toInt ≤ (q_I δ 3 1 nu).toInt by first | assumption | omega) (show 0 ≤ (x8v).toInt by first | assumption | omega) (show (x8v).toInt ≤ 16 by first | assumption | omega) (show (x8v).toInt < _ by first | assumption | omega) I) (fun r38 hr39 => ?_)
          have i40 := hr39
          try rw [i40]
          have f41 := ti_b r38.1
          have f44 := ti_b x9v
          refine ok_biv (fun vx42 e43 => ?_)
          first | (have q45 := te_add x9v r38.1 (by omega) (by omega); rw [← e43] at q45; obtain ⟨f46, f47, f48⟩ := q45) | (obtain ⟨q45, f46, f47, f48⟩ : ∃ q : Int, vx42.toInt = x9v.toInt + r38.1.toInt + 4294967296 * q ∧ -2147483648 ≤ vx42.toInt ∧ vx42.toInt ≤ 2147483647 := by rw [e43]; exact ti_add x9v r38.1)
          refine ok_biv (fun vx49 e50 => ?_)
          first | (have q51 := te_addc (c := 1) (n := 1) rfl x11v (by omega) (by omega); rw [← e50] at q51; obtain ⟨f52, f53, f54⟩ := q51) | (obtain ⟨q51, f52, f53, f54⟩ : ∃ q : Int, vx49.toInt = x11v.toInt + (1 : Int) + 4294967296 * q ∧ -2147483648 ≤ vx49.toInt ∧ vx49.toInt ≤ 2147483647 := by rw [e50]; exact ti_addc (c := 1) (n := 1) rfl x11v)
          unfold J_X1_cellsOf_244
          refine ok_biv (fun vx55 e56 => ?_)
          first | (have q57 := te_addc (c := 1) (n := 1) rfl x11v (by omega) (by omega); rw [← e56] at q57; obtain ⟨f58, f59, f60⟩ := q57) | (obtain ⟨q57, f58, f59, f60⟩ : ∃ q : Int, vx55.toInt = x11v.toInt + (1 : Int) + 4294967296 * q ∧ -2147483648 ≤ vx55.toInt ∧ vx55.toInt ≤ 2147483647 := by rw [e56]; exact ti_addc (c := 1) (n := 1) rfl x11v)
          refine ok_mono (ih x7v x8v vx42 vx49 vx55 δ I (show 0 ≤ (x1).toInt by first | assumption | omega) (show (x1).toInt < (x2).toInt by first | assumption | omega) (show (x2).toInt ≤ (q_I δ 3 1 nu).toInt by first | assumption | omega) (show 2 ≤ (x4).toInt by first | assumption | omega) (show (x4).toInt ≤ 16 by first | assumption | omega) (show (x4).toInt ≤ K by first | assumption | omega) (show 0 ≤ (vx55).toInt by first | assumption | omega) (show (vx55).toInt ≤ (x7v).toInt by first | assumption | omega) (show (x7v).toInt ≤ (x2).toInt by first | assumption | omega) (show 0 ≤ (vx49).toInt by first | assumption | omega) (show 1 ≤ (x8v).toInt by first | assumption | omega) (show (x8v).toInt < (x4).toInt by first | assumption | omega) (show (x7v).toInt - (vx55).toInt < _ by omega)) (fun r61 hr62 => ?_)
          have i63 := hr62
          have f64 := ti_b r61.1
          exact by assumption
      · have c65 : (x11v + (1 : Int32)).toInt < x7v.toInt := o_nle h23
        have o66 := gH L k_a0 hnu o4
        refine ok_at o66 ?_
        have t67 := ti_tn x11v
        refine ok_gd (fun hc68 => ?_) ?_
        · rcases hc68 with hc68 | hc68
          · have c69 : x11v.toInt < (0 : Int) := o_lt hc68
            omega
          · omega
        refine ok_at o66 ?_
        have t70 := ti_tn (x11v + (1 : Int32))
        refine ok_gd (fun hc71 => ?_) ?_
        · rcases hc71 with hc71 | hc71
          · have c72 : (x11v + (1 : Int32)).toInt < (0 : Int) := o_lt hc71
            omega
          · omega
        have f73 := ti_b ((q_R δ b3 x11v.toNatClampNeg) >>> ((x3 + x8v) &&& 31))
        have f74 := ti_b ((q_R δ b3 (x11v + (1 : Int32)).toNatClampNeg) >>> ((x3 + x8v) &&& 31))
        refine ok_ite (fun h75 => ?_) (fun h75 => ?_)
        · have c76 : ((q_R δ b3 x11v.toNatClampNeg) >>> ((x3 + x8v) &&& 31)).toInt = ((q_R δ b3 (x11v + (1 : Int32)).toNatClampNeg) >>> ((x3 + x8v) &&& 31)).toInt := o_eq h75
          unfold J_X1_cellsOf_213
          refine ok_ite (fun h77 => ?_) (fun h77 => ?_)
          · have c78 : (0 : Int) = (0 : Int) := o_eq h77
            unfold J_X1_cellsOf_244
            refine ok_biv (fun vx79 e80 => ?_)
            first | (have q81 := te_addc (c := 1) (n := 1) rfl x11v (by omega) (by omega); rw [← e80] at q81; obtain ⟨f82, f83, f84⟩ := q81) | (obtain ⟨q81, f82, f83, f84⟩ : ∃ q : Int, vx79.toInt = x11v.toInt + (1 : Int) + 4294967296 * q ∧ -2147483648 ≤ vx79.toInt ∧ vx79.toInt ≤ 2147483647 := by rw [e80]; exact ti_addc (c := 1) (n := 1) rfl x11v)
            refine ok_mono (ih x7v x8v x9v x10v vx79 δ I (show 0 ≤ (x1).toInt by first | assumption | omega) (show (x1).toInt < (x2).toInt by first | assumption | omega) (show (x2).toInt ≤ (q_I δ 3 1 nu).toInt by first | assumption | omega) (show 2 ≤ (x4).toInt by first | assumption | omega) (show (x4).toInt ≤ 16 by first | assumption | omega) (show (x4).toInt ≤ K by first | assumption | omega) (show 0 ≤ (vx79).toInt by first | assumption | omega) (show (vx79).toInt ≤ (x7v).toInt by first | assumption | omega) (show (x7v).toInt ≤ (x2).toInt by first | assumption | omega) (show 0 ≤ (x10v).toInt by first | assumption | omega) (show 1 ≤ (x8v).toInt by first | assumption | omega) (show (x8v).toInt < (x4).toInt by first | assumption | omega) (show (x7v).toInt - (vx79).toInt < _ by omega)) (fun r85 hr86 => ?_)
            have i87 := hr86
            have f88 := ti_b r85.1
            exact by assumption
          · have c89 : (0 : Int) ≠ (0 : Int) := o_ne h77
            refine ok_bind (hT a0 x10v (x11v + (1 : Int32)) x3 x8v δ nu k_a0 hnu knu (show 0 ≤ (x10v).toInt by first | assumption | omega) (show ((x11v + (1 : Int32))).toInt ≤ (q_I δ 3 1 nu).toInt by first | assumption | omega) (show 0 ≤ (x8v).toInt by first | assumption | omega) (show (x8v).toInt ≤ 16 by first | assumption | omega) (show (x8v).toInt < _ by first | assumption | omega) I) (fun r90 hr91 => ?_)
            have i92 := hr91
            try rw [i92]
            have f93 := ti_b r90.1
            have f96 := ti_b x9v
            refine ok_biv (fun vx94 e95 => ?_)
            first | (have q97 := te_add x9v r90.1 (by omega) (by omega); rw [← e95] at q97; obtain ⟨f98, f99, f100⟩ := q97) | (obtain ⟨q97, f98, f99, f100⟩ : ∃ q : Int, vx94.toInt = x9v.toInt + r90.1.toInt + 4294967296 * q ∧ -2147483648 ≤ vx94.toInt ∧ vx94.toInt ≤ 2147483647 := by rw [e95]; exact ti_add x9v r90.1)
            refine ok_biv (fun vx101 e102 => ?_)
            first | (have q103 := te_addc (c := 1) (n := 1) rfl x11v (by omega) (by omega); rw [← e102] at q103; obtain ⟨f104, f105, f106⟩ := q103) | (obtain ⟨q103, f104, f105, f106⟩ : ∃ q : Int, vx101.toInt = x11v.toInt + (1 : Int) + 4294967296 * q ∧ -2147483648 ≤ vx101.toInt ∧ vx101.toInt ≤ 2147483647 := by rw [e102]; exact ti_addc (c := 1) (n := 1) rfl x11v)
            unfold J_X1_cellsOf_244
            refine ok_biv (fun vx107 e108 => ?_)
            first | (have q109 := te_addc (c := 1) (n := 1) rfl x11v (by omega) (by omega); rw [← e108] at q109; obtain ⟨f110, f111, f112⟩ := q109) | (obtain ⟨q109, f110, f111, f112⟩ : ∃ q : Int, vx107.toInt = x11v.toInt + (1 : Int) + 4294967296 * q ∧ -2147483648 ≤ vx107.toInt ∧ vx107.toInt ≤ 2147483647 := by rw [e108]; exact ti_addc (c := 1) (n := 1) rfl x11v)
            refine ok_mono (ih x7v x8v vx94 vx101 vx107 δ I (show 0 ≤ (x1).toInt by first | assumption | omega) (show (x1).toInt < (x2).toInt by first | assumption | omega) (show (x2).toInt ≤ (q_I δ 3 1 nu).toInt by first | assumption | omega) (show 2 ≤ (x4).toInt by first | assumption | omega) (show (x4).toInt ≤ 16 by first | assumption | omega) (show (x4).toInt ≤ K by first | assumption | omega) (show 0 ≤ (vx107).toInt by first | assumption | omega) (show (vx107).toInt ≤ (x7v).toInt by first | assumption | omega) (show (x7v).toInt ≤ (x2).toInt by first | assumption | omega) (show 0 ≤ (vx101).toInt by first | assumption | omega) (show 1 ≤ (x8v).toInt by first | assumption | omega) (show (x8v).toInt < (x4).toInt by first | assumption | omega) (show (x7v).toInt - (vx107).toInt < _ by omega)) (fun r113 hr114 => ?_)
            have i115 := hr114
            have f116 := ti_b r113.1
            exact by assumption
        · have c117 : ((q_R δ b3 x11v.toNatClampNeg) >>> ((x3 + x8v) &&& 31)).toInt ≠ ((q_R δ b3 (x11v + (1 : Int32)).toNatClampNeg) >>> ((x3 + x8v) &&& 31)).toInt := o_ne h75
          unfold J_X1_cellsOf_208
          unfold J_X1_cellsOf_213
          refine ok_ite (fun h118 => ?_) (fun h118 => ?_)
          · have c119 : (1 : Int) = (0 : Int) := o_eq h118
            unfold J_X1_cellsOf_244
            refine ok_biv (fun vx120 e121 => ?_)
            first | (have q122 := te_addc (c := 1) (n := 1) rfl x11v (by omega) (by omega); rw [← e121] at q122; obtain ⟨f123, f124, f125⟩ := q122) | (obtain ⟨q122, f123, f124, f125⟩ : ∃ q : Int, vx120.toInt = x11v.toInt + (1 : Int) + 4294967296 * q ∧ -2147483648 ≤ vx120.toInt ∧ vx120.toInt ≤ 2147483647 := by rw [e121]; exact ti_addc (c := 1) (n := 1) rfl x11v)
            refine ok_mono (ih x7v x8v x9v x10v vx120 δ I (show 0 ≤ (x1).toInt by first | assumption | omega) (show (x1).toInt < (x2).toInt by first | assumption | omega) (show (x2).toInt ≤ (q_I δ 3 1 nu).toInt by first | assumption | omega) (show 2 ≤ (x4).toInt by first | assumption | omega) (show (x4).toInt ≤ 16 by first | assumption | omega) (show (x4).toInt ≤ K by first | assumption | omega) (show 0 ≤ (vx120).toInt by first | assumption | omega) (show (vx120).toInt ≤ (x7v).toInt by first | assumption | omega) (show (x7v).toInt ≤ (x2).toInt by first | assumption | omega) (show 0 ≤ (x10v).toInt by first | assumption | omega) (show 1 ≤ (x8v).toInt by first | assumption | omega) (show (x8v).toInt < (x4).toInt by first | assumption | omega) (show (x7v).toInt - (vx120).toInt < _ by omega)) (fun r126 hr127 => ?_)
            have i128 := hr127
            have f129 := ti_b r126.1
            exact by assumption
          · have c130 : (1 : Int) ≠ (0 : Int) := o_ne h118
            refine ok_bind (hT a0 x10v (x11v + (1 : Int32)) x3 x8v δ nu k_a0 hnu knu (show 0 ≤ (x10v).toInt by first | assumption | omega) (show ((x11v + (1 : Int32))).toInt ≤ (q_I δ 3 1 nu).toInt by first | assumption | omega) (show 0 ≤ (x8v).toInt by first | assumption | omega) (show (x8v).toInt ≤ 16 by first | assumption | omega) (show (x8v).toInt < _ by first | assumption | omega) I) (fun r131 hr132 => ?_)
            have i133 := hr132
            try rw [i133]
            have f134 := ti_b r131.1
            have f137 := ti_b x9v
            refine ok_biv (fun vx135 e136 => ?_)
            first | (have q138 := te_add x9v r131.1 (by omega) (by omega); rw [← e136] at q138; obtain ⟨f139, f140, f141⟩ := q138) | (obtain ⟨q138, f139, f140, f141⟩ : ∃ q : Int, vx135.toInt = x9v.toInt + r131.1.toInt + 4294967296 * q ∧ -2147483648 ≤ vx135.toInt ∧ vx135.toInt ≤ 2147483647 := by rw [e136]; exact ti_add x9v r131.1)
            refine ok_biv (fun vx142 e143 => ?_)
            first | (have q144 := te_addc (c := 1) (n := 1) rfl x11v (by omega) (by omega); rw [← e143] at q144; obtain ⟨f145, f146, f147⟩ := q144) | (obtain ⟨q144, f145, f146, f147⟩ : ∃ q : Int, vx142.toInt = x11v.toInt + (1 : Int) + 4294967296 * q ∧ -2147483648 ≤ vx142.toInt ∧ vx142.toInt ≤ 2147483647 := by rw [e143]; exact ti_addc (c := 1) (n := 1) rfl x11v)
            unfold J_X1_cellsOf_244
            refine ok_biv (fun vx148 e149 => ?_)
            first | (have q150 := te_addc (c := 1) (n := 1) rfl x11v (by omega) (by omega); rw [← e149] at q150; obtain ⟨f151, f152, f153⟩ := q150) | (obtain ⟨q150, f151, f152, f153⟩ : ∃ q : Int, vx148.toInt = x11v.toInt + (1 : Int) + 4294967296 * q ∧ -2147483648 ≤ vx148.toInt ∧ vx148.toInt ≤ 2147483647 := by rw [e149]; exact ti_addc (c := 1) (n := 1) rfl x11v)
            refine ok_mono (ih x7v x8v vx135 vx142 vx148 δ I (show 0 ≤ (x1).toInt by first | assumption | omega) (show (x1).toInt < (x2).toInt by first | assumption | omega) (show (x2).toInt ≤ (q_I δ 3 1 nu).toInt by first | assumption | omega) (show 2 ≤ (x4).toInt by first | assumption | omega) (show (x4).toInt ≤ 16 by first | assumption | omega) (show (x4).toInt ≤ K by first | assumption | omega) (show 0 ≤ (vx148).toInt by first | assumption | omega) (show (vx148).toInt ≤ (x7v).toInt by first | assumption | omega) (show (x7v).toInt ≤ (x2).toInt by first | assumption | omega) (show 0 ≤ (vx142).toInt by first | assumption | omega) (show 1 ≤ (x8v).toInt by first | assumption | omega) (show (x8v).toInt < (x4).toInt by first | assumption | omega) (show (x7v).toInt - (vx148).toInt < _ by omega)) (fun r154 hr155 => ?_)
            have i156 := hr155
            have f157 := ti_b r154.1
            exact by assumption
set_option maxHeartbeats 4000000 in
theorem kl_X1_cellsOf_80 {ad : List Nat} {h : hp} (L : Lay TLx ad h) {δ0 : dp} {N : Nat} (hN : 10000000 ≤ N) {T : Nat → Int32 → Int32 → Int32 → Int32 → dp → Option (Int32 × dp)} {K : Int} (hT : ∀ (a0 : Nat) (x1 : Int32) (x2 : Int32) (x3 : Int32) (x4 : Int32) (δ : dp) (nu : Nat), q_K h.1 a0 = 1 → q_O h.1 1 1 a0 = some nu → q_K h.1 nu = 3 → 0 ≤ (x1).toInt → (x2).toInt ≤ (q_I δ 3 1 nu).toInt → 0 ≤ (x4).toInt → (x4).toInt ≤ 16 → (x4).toInt < K → CI ad h.1 δ0 δ → ok (T a0 x1 x2 x3 x4 δ) (fun r => r.2 = δ)) {a0 : Nat} {x1 : Int32} {x2 : Int32} {x3 : Int32} {x4 : Int32} {nu : Nat} (k_a0 : q_K h.1 a0 = 1) (hnu : q_O h.1 1 1 a0 = some nu) (knu : q_K h.1 nu = 3) : ∀ (n : Nat) (x5v : Int32) (x6v : Int32) (x7v : Int32) (δ : dp), CI ad h.1 δ0 δ → 0 ≤ (x1).toInt → (x1).toInt < (x2).toInt → (x2).toInt ≤ (q_I δ 3 1 nu).toInt → 2 ≤ (x4).toInt → (x4).toInt ≤ 16 → (x4).toInt ≤ K → (x1).toInt ≤ (x6v).toInt → (x6v).toInt ≤ (x7v).toInt → (x7v).toInt ≤ (x2).toInt → (x7v).toInt - (x6v).toInt < (n : Int) → ok (L_X1_cellsOf_80 N h.1 T a0 x1 x2 x3 x4 n x5v x6v x7v δ) (fun r => r.2 = δ) := by
  intro n
  induction n with
  | zero =>
    intro x5v x6v x7v δ I j0 j1 j2 j3 j4 j5 j6 j7 j8 hm
    have f1 := ti_b x1
    have f2 := ti_b x2
    obtain ⟨b3, o4, k5, ⟨n6, n7⟩, w8⟩ := gO_3_0 L knu
    have f9 := cb_3_1 I knu o4
    have f10 := ti_b x4
    have f11 := ti_b x6v
    have f12 := ti_b x7v
    exfalso; omega
  | succ n ih =>
    intro x5v x6v x7v δ I j0 j1 j2 j3 j4 j5 j6 j7 j8 hm
    unfold L_X1_cellsOf_80
    have f1 := ti_b x1
    have f2 := ti_b x2
    obtain ⟨b3, o4, k5, ⟨n6, n7⟩, w8⟩ := gO_3_0 L knu
    have f9 := cb_3_1 I knu o4
    have f10 := ti_b x4
    have f11 := ti_b x6v
    have f12 := ti_b x7v
    refine ok_ite (fun h13 => ?_) (fun h13 => ?_)
    · have c14 : x7v.toInt ≤ x6v.toInt := o_le h13
      unfold J_X1_cellsOf_123
      obtain ⟨b15, o16, k17⟩ := gO_1_0 L k_a0
      refine ok_at o16 ?_
      refine ok_bind (k_X5_lowerBits L hN (a0 := b15) (x1 := x4) k17 I) (fun r18 hr19 => ?_)
      obtain ⟨i20, p21⟩ := hr19
      try rw [i20]
      have f22 := ti_b r18.1
      have f23 := ti_b r18.1
      first | (have q27 := te_sub x4 r18.1 (by omega) (by omega); obtain ⟨f28, f29, f30⟩ := q27) | (obtain ⟨q27, f28, f29, f30⟩ := ti_sub x4 r18.1)
      refine ok_bind (hT a0 x6v x7v (x3 + r18.1) (x4 - r18.1) δ nu k_a0 hnu knu (show 0 ≤ (x6v).toInt by first | assumption | omega) (show (x7v).toInt ≤ (q_I δ 3 1 nu).toInt by first | assumption | omega) (show 0 ≤ ((x4 - r18.1)).toInt by first | assumption | omega) (show ((x4 - r18.1)).toInt ≤ 16 by first | assumption | omega) (show ((x4 - r18.1)).toInt < _ by first | assumption | omega) I) (fun r24 hr25 => ?_)
      have i31 := hr25
      try rw [i31]
      have f32 := ti_b r24.1
      refine ok_biv (fun vx33 e34 => ?_)
      first | (have q35 := te_cadd (c := 2) (n := 2) rfl r24.1 (by omega) (by omega); rw [← e34] at q35; obtain ⟨f36, f37, f38⟩ := q35) | (obtain ⟨q35, f36, f37, f38⟩ : ∃ q : Int, vx33.toInt = (2 : Int) + r24.1.toInt + 4294967296 * q ∧ -2147483648 ≤ vx33.toInt ∧ vx33.toInt ≤ 2147483647 := by rw [e34]; exact ti_cadd (c := 2) (n := 2) rfl r24.1)
      refine ok_mono (kl_X1_cellsOf_163 L hN   hT k_a0 hnu knu _ x7v r18.1 vx33 x6v x6v δ I (show 0 ≤ (x1).toInt by first | assumption | omega) (show (x1).toInt < (x2).toInt by first | assumption | omega) (show (x2).toInt ≤ (q_I δ 3 1 nu).toInt by first | assumption | omega) (show 2 ≤ (x4).toInt by first | assumption | omega) (show (x4).toInt ≤ 16 by first | assumption | omega) (show (x4).toInt ≤ K by first | assumption | omega) (show 0 ≤ (x6v).toInt by first | assumption | omega) (show (x6v).toInt ≤ (x7v).toInt by first | assumption | omega) (show (x7v).toInt ≤ (x2).toInt by first | assumption | omega) (show 0 ≤ (x6v).toInt by first | assumption | omega) (show 1 ≤ (r18.1).toInt by first | assumption | omega) (show (r18.1).toInt < (x4).toInt by first | assumption | omega) (show (x7v).toInt - (x6v).toInt < _ by omega)) (fun r39 hr40 => ?_)
      have i41 := hr40
      have f42 := ti_b r39.1
      exact by assumption
    · have c43 : x6v.toInt < x7v.toInt := o_nle h13
      have o44 := gH L k_a0 hnu o4
      refine ok_at o44 ?_
      first | (have q46 := te_subc (c := 1) (n := 1) rfl x7v (by omega) (by omega); obtain ⟨f47, f48, f49⟩ := q46) | (obtain ⟨q46, f47, f48, f49⟩ := ti_subc (c := 1) (n := 1) rfl x7v)
      have t50 := ti_tn (x7v - (1 : Int32))
      refine ok_gd (fun hc51 => ?_) ?_
      · rcases hc51 with hc51 | hc51
        · have c52 : (x7v - (1 : Int32)).toInt < (0 : Int) := o_lt hc51
          omega
        · omega
      refine ok_at o44 ?_
      first | (have q54 := te_subc (c := 1) (n := 1) rfl x2 (by omega) (by omega); obtain ⟨f55, f56, f57⟩ := q54) | (obtain ⟨q54, f55, f56, f57⟩ := ti_subc (c := 1) (n := 1) rfl x2)
      have t58 := ti_tn (x2 - (1 : Int32))
      refine ok_gd (fun hc59 => ?_) ?_
      · rcases hc59 with hc59 | hc59
        · have c60 : (x2 - (1 : Int32)).toInt < (0 : Int) := o_lt hc59
          omega
        · omega
      have f61 := ti_b (((q_R δ b3 (x7v - (1 : Int32)).toNatClampNeg) >>> (x3 &&& 31)) &&& x5v)
      have f62 := ti_b (((q_R δ b3 (x2 - (1 : Int32)).toNatClampNeg) >>> (x3 &&& 31)) &&& x5v)
      refine ok_ite (fun h63 => ?_) (fun h63 => ?_)
      · have c64 : (((q_R δ b3 (x7v - (1 : Int32)).toNatClampNeg) >>> (x3 &&& 31)) &&& x5v).toInt = (((q_R δ b3 (x2 - (1 : Int32)).toNatClampNeg) >>> (x3 &&& 31)) &&& x5v).toInt := o_eq h63
        refine ok_biv (fun vx65 e66 => ?_)
        first | (have q67 := te_addc (c := -1) (n := -1) (by decide) x7v (by omega) (by omega); rw [← e66] at q67; obtain ⟨f68, f69, f70⟩ := q67) | (obtain ⟨q67, f68, f69, f70⟩ : ∃ q : Int, vx65.toInt = x7v.toInt + (-1 : Int) + 4294967296 * q ∧ -2147483648 ≤ vx65.toInt ∧ vx65.toInt ≤ 2147483647 := by rw [e66]; exact ti_addc (c := -1) (n := -1) (by decide) x7v)
        refine ok_mono (ih x5v x6v vx65 δ I (show 0 ≤ (x1).toInt by first | assumption | omega) (show (x1).toInt < (x2).toInt by first | assumption | omega) (show (x2).toInt ≤ (q_I δ 3 1 nu).toInt by first | assumption | omega) (show 2 ≤ (x4).toInt by first | assumption | omega) (show (x4).toInt ≤ 16 by first | assumption | omega) (show (x4).toInt ≤ K by first | assumption | omega) (show (x1).toInt ≤ (x6v).toInt by first | assumption | omega) (show (x6v).toInt ≤ (vx65).toInt by first | assumption | omega) (show (vx65).toInt ≤ (x2).toInt by first | assumption | omega) (show (vx65).toInt - (x6v).toInt < _ by omega)) (fun r71 hr72 => ?_)
        have i73 := hr72
        have f74 := ti_b r71.1
        exact by assumption
      · have c75 : (((q_R δ b3 (x7v - (1 : Int32)).toNatClampNeg) >>> (x3 &&& 31)) &&& x5v).toInt ≠ (((q_R δ b3 (x2 - (1 : Int32)).toNatClampNeg) >>> (x3 &&& 31)) &&& x5v).toInt := o_ne h63
        unfold J_X1_cellsOf_123
        obtain ⟨b76, o77, k78⟩ := gO_1_0 L k_a0
        refine ok_at o77 ?_
        refine ok_bind (k_X5_lowerBits L hN (a0 := b76) (x1 := x4) k78 I) (fun r79 hr80 => ?_)
        obtain ⟨i81, p82⟩ := hr80
        try rw [i81]
        have f83 := ti_b r79.1
        have f84 := ti_b r79.1
        first | (have q88 := te_sub x4 r79.1 (by omega) (by omega); obtain ⟨f89, f90, f91⟩ := q88) | (obtain ⟨q88, f89, f90, f91⟩ := ti_sub x4 r79.1)
        refine ok_bind (hT a0 x6v x7v (x3 + r79.1) (x4 - r79.1) δ nu k_a0 hnu knu (show 0 ≤ (x6v).toInt by first | assumption | omega) (show (x7v).toInt ≤ (q_I δ 3 1 nu).toInt by first | assumption | omega) (show 0 ≤ ((x4 - r79.1)).toInt by first | assumption | omega) (show ((x4 - r79.1)).toInt ≤ 16 by first | assumption | omega) (show ((x4 - r79.1)).toInt < _ by first | assumption | omega) I) (fun r85 hr86 => ?_)
        have i92 := hr86
        try rw [i92]
        have f93 := ti_b r85.1
        refine ok_biv (fun vx94 e95 => ?_)
        first | (have q96 := te_cadd (c := 2) (n := 2) rfl r85.1 (by omega) (by omega); rw [← e95] at q96; obtain ⟨f97, f98, f99⟩ := q96) | (obtain ⟨q96, f97, f98, f99⟩ : ∃ q : Int, vx94.toInt = (2 : Int) + r85.1.toInt + 4294967296 * q ∧ -2147483648 ≤ vx94.toInt ∧ vx94.toInt ≤ 2147483647 := by rw [e95]; exact ti_cadd (c := 2) (n := 2) rfl r85.1)
        refine ok_mono (kl_X1_cellsOf_163 L hN   hT k_a0 hnu knu _ x7v r79.1 vx94 x6v x6v δ I (show 0 ≤ (x1).toInt by first | assumption | omega) (show (x1).toInt < (x2).toInt by first | assumption | omega) (show (x2).toInt ≤ (q_I δ 3 1 nu).toInt by first | assumption | omega) (show 2 ≤ (x4).toInt by first | assumption | omega) (show (x4).toInt ≤ 16 by first | assumption | omega) (show (x4).toInt ≤ K by first | assumption | omega) (show 0 ≤ (x6v).toInt by first | assumption | omega) (show (x6v).toInt ≤ (x7v).toInt by first | assumption | omega) (show (x7v).toInt ≤ (x2).toInt by first | assumption | omega) (show 0 ≤ (x6v).toInt by first | assumption | omega) (show 1 ≤ (r79.1).toInt by first | assumption | omega) (show (r79.1).toInt < (x4).toInt by first | assumption | omega) (show (x7v).toInt - (x6v).toInt < _ by omega)) (fun r100 hr101 => ?_)
        have i102 := hr101
        have f103 := ti_b r100.1
        exact by assumption
set_option maxHeartbeats 4000000 in
theorem kl_X1_cellsOf_39 {ad : List Nat} {h : hp} (L : Lay TLx ad h) {δ0 : dp} {N : Nat} (hN : 10000000 ≤ N) {T : Nat → Int32 → Int32 → Int32 → Int32 → dp → Option (Int32 × dp)} {K : Int} (hT : ∀ (a0 : Nat) (x1 : Int32) (x2 : Int32) (x3 : Int32) (x4 : Int32) (δ : dp) (nu : Nat), q_K h.1 a0 = 1 → q_O h.1 1 1 a0 = some nu → q_K h.1 nu = 3 → 0 ≤ (x1).toInt → (x2).toInt ≤ (q_I δ 3 1 nu).toInt → 0 ≤ (x4).toInt → (x4).toInt ≤ 16 → (x4).toInt < K → CI ad h.1 δ0 δ → ok (T a0 x1 x2 x3 x4 δ) (fun r => r.2 = δ)) {a0 : Nat} {x1 : Int32} {x2 : Int32} {x3 : Int32} {x4 : Int32} {nu : Nat} (k_a0 : q_K h.1 a0 = 1) (hnu : q_O h.1 1 1 a0 = some nu) (knu : q_K h.1 nu = 3) : ∀ (n : Nat) (x5v : Int32) (x6v : Int32) (δ : dp), CI ad h.1 δ0 δ → 0 ≤ (x1).toInt → (x1).toInt < (x2).toInt → (x2).toInt ≤ (q_I δ 3 1 nu).toInt → 2 ≤ (x4).toInt → (x4).toInt ≤ 16 → (x4).toInt ≤ K → (x1).toInt ≤ (x6v).toInt → (x6v).toInt ≤ (x2).toInt → (x2).toInt - (x6v).toInt < (n : Int) → ok (L_X1_cellsOf_39 N h.1 T a0 x1 x2 x3 x4 n x5v x6v δ) (fun r => r.2 = δ) := by
  intro n
  induction n with
  | zero =>
    intro x5v x6v δ I j0 j1 j2 j3 j4 j5 j6 j7 hm
    have f1 := ti_b x1
    have f2 := ti_b x2
    obtain ⟨b3, o4, k5, ⟨n6, n7⟩, w8⟩ := gO_3_0 L knu
    have f9 := cb_3_1 I knu o4
    have f10 := ti_b x4
    have f11 := ti_b x6v
    exfalso; omega
  | succ n ih =>
    intro x5v x6v δ I j0 j1 j2 j3 j4 j5 j6 j7 hm
    unfold L_X1_cellsOf_39
    have f1 := ti_b x1
    have f2 := ti_b x2
    obtain ⟨b3, o4, k5, ⟨n6, n7⟩, w8⟩ := gO_3_0 L knu
    have f9 := cb_3_1 I knu o4
    have f10 := ti_b x4
    have f11 := ti_b x6v
    refine ok_ite (fun h12 => ?_) (fun h12 => ?_)
    · have c13 : x2.toInt ≤ x6v.toInt := o_le h12
      unfold J_X1_cellsOf_77
      refine ok_mono (kl_X1_cellsOf_80 L hN   hT k_a0 hnu knu _ x5v x6v x2 δ I (show 0 ≤ (x1).toInt by first | assumption | omega) (show (x1).toInt < (x2).toInt by first | assumption | omega) (show (x2).toInt ≤ (q_I δ 3 1 nu).toInt by first | assumption | omega) (show 2 ≤ (x4).toInt by first | assumption | omega) (show (x4).toInt ≤ 16 by first | assumption | omega) (show (x4).toInt ≤ K by first | assumption | omega) (show (x1).toInt ≤ (x6v).toInt by first | assumption | omega) (show (x6v).toInt ≤ (x2).toInt by first | assumption | omega) (show (x2).toInt ≤ (x2).toInt by first | assumption | omega) (show (x2).toInt - (x6v).toInt < _ by omega)) (fun r14 hr15 => ?_)
      have i16 := hr15
      have f17 := ti_b r14.1
      exact by assumption
    · have c18 : x6v.toInt < x2.toInt := o_nle h12
      have o19 := gH L k_a0 hnu o4
      refine ok_at o19 ?_
      have t20 := ti_tn x6v
      refine ok_gd (fun hc21 => ?_) ?_
      · rcases hc21 with hc21 | hc21
        · have c22 : x6v.toInt < (0 : Int) := o_lt hc21
          omega
        · omega
      refine ok_at o19 ?_
      have t23 := ti_tn x1
      refine ok_gd (fun hc24 => ?_) ?_
      · rcases hc24 with hc24 | hc24
        · have c25 : x1.toInt < (0 : Int) := o_lt hc24
          omega
        · omega
      have f26 := ti_b (((q_R δ b3 x6v.toNatClampNeg) >>> (x3 &&& 31)) &&& x5v)
      have f27 := ti_b (((q_R δ b3 x1.toNatClampNeg) >>> (x3 &&& 31)) &&& x5v)
      refine ok_ite (fun h28 => ?_) (fun h28 => ?_)
      · have c29 : (((q_R δ b3 x6v.toNatClampNeg) >>> (x3 &&& 31)) &&& x5v).toInt = (((q_R δ b3 x1.toNatClampNeg) >>> (x3 &&& 31)) &&& x5v).toInt := o_eq h28
        refine ok_biv (fun vx30 e31 => ?_)
        first | (have q32 := te_addc (c := 1) (n := 1) rfl x6v (by omega) (by omega); rw [← e31] at q32; obtain ⟨f33, f34, f35⟩ := q32) | (obtain ⟨q32, f33, f34, f35⟩ : ∃ q : Int, vx30.toInt = x6v.toInt + (1 : Int) + 4294967296 * q ∧ -2147483648 ≤ vx30.toInt ∧ vx30.toInt ≤ 2147483647 := by rw [e31]; exact ti_addc (c := 1) (n := 1) rfl x6v)
        refine ok_mono (ih x5v vx30 δ I (show 0 ≤ (x1).toInt by first | assumption | omega) (show (x1).toInt < (x2).toInt by first | assumption | omega) (show (x2).toInt ≤ (q_I δ 3 1 nu).toInt by first | assumption | omega) (show 2 ≤ (x4).toInt by first | assumption | omega) (show (x4).toInt ≤ 16 by first | assumption | omega) (show (x4).toInt ≤ K by first | assumption | omega) (show (x1).toInt ≤ (vx30).toInt by first | assumption | omega) (show (vx30).toInt ≤ (x2).toInt by first | assumption | omega) (show (x2).toInt - (vx30).toInt < _ by omega)) (fun r36 hr37 => ?_)
        have i38 := hr37
        have f39 := ti_b r36.1
        exact by assumption
      · have c40 : (((q_R δ b3 x6v.toNatClampNeg) >>> (x3 &&& 31)) &&& x5v).toInt ≠ (((q_R δ b3 x1.toNatClampNeg) >>> (x3 &&& 31)) &&& x5v).toInt := o_ne h28
        unfold J_X1_cellsOf_77
        refine ok_mono (kl_X1_cellsOf_80 L hN   hT k_a0 hnu knu _ x5v x6v x2 δ I (show 0 ≤ (x1).toInt by first | assumption | omega) (show (x1).toInt < (x2).toInt by first | assumption | omega) (show (x2).toInt ≤ (q_I δ 3 1 nu).toInt by first | assumption | omega) (show 2 ≤ (x4).toInt by first | assumption | omega) (show (x4).toInt ≤ 16 by first | assumption | omega) (show (x4).toInt ≤ K by first | assumption | omega) (show (x1).toInt ≤ (x6v).toInt by first | assumption | omega) (show (x6v).toInt ≤ (x2).toInt by first | assumption | omega) (show (x2).toInt ≤ (x2).toInt by first | assumption | omega) (show (x2).toInt - (x6v).toInt < _ by omega)) (fun r41 hr42 => ?_)
        have i43 := hr42
        have f44 := ti_b r41.1
        exact by assumption
set_option maxHeartbeats 4000000 in
theorem ke_X1_cellsOf {ad : List Nat} {h : hp} (L : Lay TLx ad h) {δ0 : dp} {N : Nat} (hN : 10000000 ≤ N) : ∀ (k : Nat), ∀ (a0 : Nat) (x1 : Int32) (x2 : Int32) (x3 : Int32) (x4 : Int32) (δ : dp) (nu : Nat), q_K h.1 a0 = 1 → q_O h.1 1 1 a0 = some nu → q_K h.1 nu = 3 → 0 ≤ (x1).toInt → (x2).toInt ≤ (q_I δ 3 1 nu).toInt → 0 ≤ (x4).toInt → (x4).toInt ≤ 16 → (x4).toInt < (k : Int) → CI ad h.1 δ0 δ → ok (E_X1_cellsOf N h.1 k a0 x1 x2 x3 x4 δ) (fun r => r.2 = δ) := by
  intro k
  induction k with
  | zero =>
    intro a0 x1 x2 x3 x4 δ nu k_a0 hnu knu z0 z1 z2 z3 hd I
    exfalso; omega
  | succ k ih =>
    intro a0 x1 x2 x3 x4 δ nu k_a0 hnu knu z0 z1 z2 z3 hd I
    unfold E_X1_cellsOf B_X1_cellsOf
    have f1 := ti_b x1
    have f2 := ti_b x2
    obtain ⟨b3, o4, k5, ⟨n6, n7⟩, w8⟩ := gO_3_0 L knu
    have f9 := cb_3_1 I knu o4
    have f10 := ti_b x4
    refine ok_ite (fun h11 => ?_) (fun h11 => ?_)
    · have c12 : x2.toInt ≤ x1.toInt := o_le h11
      unfold J_X1_cellsOf_17
      refine ok_ite (fun h13 => ?_) (fun h13 => ?_)
      · have c14 : x1.toInt < x2.toInt := o_lt h13
        unfold J_X1_cellsOf_27
        exact ok_some (show δ = δ from rfl)
      · have c15 : x2.toInt ≤ x1.toInt := o_nlt h13
        unfold J_X1_cellsOf_27
        exact ok_some (show δ = δ from rfl)
    · have c16 : x1.toInt < x2.toInt := o_nle h11
      obtain ⟨b17, o18, k19⟩ := gO_1_0 L k_a0
      refine ok_at o18 ?_
      have f20 := cb_5_2 I k19
      refine ok_ite (fun h21 => ?_) (fun h21 => ?_)
      · have c22 : (q_I δ 5 2 b17).toInt < x4.toInt := o_lt h21
        have f25 := sh_b x4
        have f26 := ti_b ((1 : Int32) <<< (x4 &&& 31))
        refine ok_biv (fun vx23 e24 => ?_)
        first | (have q27 := te_subc (c := 1) (n := 1) rfl ((1 : Int32) <<< (x4 &&& 31)) (by omega) (by omega); rw [← e24] at q27; obtain ⟨f28, f29, f30⟩ := q27) | (obtain ⟨q27, f28, f29, f30⟩ : ∃ q : Int, vx23.toInt = ((1 : Int32) <<< (x4 &&& 31)).toInt - (1 : Int) + 4294967296 * q ∧ -2147483648 ≤ vx23.toInt ∧ vx23.toInt ≤ 2147483647 := by rw [e24]; exact ti_subc (c := 1) (n := 1) rfl ((1 : Int32) <<< (x4 &&& 31)))
        refine ok_mono (kl_X1_cellsOf_39 L hN   ih k_a0 hnu knu _ vx23 x1 δ I (show 0 ≤ (x1).toInt by first | assumption | omega) (show (x1).toInt < (x2).toInt by first | assumption | omega) (show (x2).toInt ≤ (q_I δ 3 1 nu).toInt by first | assumption | omega) (show 2 ≤ (x4).toInt by first | assumption | omega) (show (x4).toInt ≤ 16 by first | assumption | omega) (show (x4).toInt ≤ (k : Int) by first | assumption | omega) (show (x1).toInt ≤ (x1).toInt by first | assumption | omega) (show (x1).toInt ≤ (x2).toInt by first | assumption | omega) (show (x2).toInt - (x1).toInt < _ by omega)) (fun r31 hr32 => ?_)
        have i33 := hr32
        have f34 := ti_b r31.1
        exact by assumption
      · have c35 : x4.toInt ≤ (q_I δ 5 2 b17).toInt := o_nlt h21
        unfold J_X1_cellsOf_17
        refine ok_ite (fun h36 => ?_) (fun h36 => ?_)
        · have c37 : x1.toInt < x2.toInt := o_lt h36
          unfold J_X1_cellsOf_27
          exact ok_some (show δ = δ from rfl)
        · have c38 : x2.toInt ≤ x1.toInt := o_nlt h36
          unfold J_X1_cellsOf_27
          exact ok_some (show δ = δ from rfl)
set_option maxHeartbeats 4000000 in
theorem k_X1_cellsOf {ad : List Nat} {h : hp} (L : Lay TLx ad h) {δ0 : dp} {N : Nat} (hN : 10000000 ≤ N) {a0 : Nat} {x1 : Int32} {x2 : Int32} {x3 : Int32} {x4 : Int32} {nu : Nat} (k_a0 : q_K h.1 a0 = 1) (hnu : q_O h.1 1 1 a0 = some nu) (knu : q_K h.1 nu = 3) {δ : dp} (z0 : 0 ≤ (x1).toInt) (z1 : (x2).toInt ≤ (q_I δ 3 1 nu).toInt) (z2 : 0 ≤ (x4).toInt) (z3 : (x4).toInt ≤ 16) (hd : (x4).toInt < 20) (I : CI ad h.1 δ0 δ) : ok (D_X1_cellsOf N h.1 a0 x1 x2 x3 x4 δ) (fun r => r.2 = δ) := ke_X1_cellsOf L hN 20 a0 x1 x2 x3 x4 δ nu k_a0 hnu knu z0 z1 z2 z3 hd I
set_option maxHeartbeats 4000000 in
theorem k_X1_allCells {ad : List Nat} {h : hp} (L : Lay TLx ad h) {δ0 : dp} {N : Nat} (hN : 10000000 ≤ N) {a0 : Nat} (k_a0 : q_K h.1 a0 = 1) {δ : dp} (I : CI ad h.1 δ0 δ) : ok (D_X1_allCells N h.1 a0 δ) (fun r => r.2 = δ) := by
  unfold D_X1_allCells
  obtain ⟨b1, o2, k3⟩ := gO_1_1 L k_a0
  refine ok_at o2 ?_
  obtain ⟨b4, o5, k6⟩ := gO_1_0 L k_a0
  refine ok_at o5 ?_
  obtain ⟨b9, o10, k11, ⟨n12, n13⟩, w14⟩ := gO_3_0 L k3
  have f15 := cb_3_1 I k3 o10
  have f16 := cb_5_0 I k6
  refine ok_bind (k_X1_cellsOf L hN (a0 := a0) (x1 := (0 : Int32)) (x2 := (q_I δ 3 1 b1)) (x3 := (0 : Int32)) (x4 := (q_I δ 5 0 b4)) k_a0 o2 k3 (show 0 ≤ (0 : Int) by first | assumption | omega) (show ((q_I δ 3 1 b1)).toInt ≤ (q_I δ 3 1 b1).toInt by first | assumption | omega) (show 0 ≤ ((q_I δ 5 0 b4)).toInt by first | assumption | omega) (show ((q_I δ 5 0 b4)).toInt ≤ 16 by first | assumption | omega) (show ((q_I δ 5 0 b4)).toInt < 20 by first | assumption | omega) I) (fun r7 hr8 => ?_)
  have i17 := hr8
  try rw [i17]
  have f18 := ti_b r7.1
  exact ok_some (show δ = δ from rfl)
