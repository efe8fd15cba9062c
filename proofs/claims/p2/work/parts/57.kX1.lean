/-! 57.kX1 (by gen_safe.py) -/
set_option maxHeartbeats 4000000 in
theorem k_X1_valueAt {ad : List Nat} {h : hp} (L : Lay TLx ad h) {δ0 : dp} {N : Nat} (hN : 10000000 ≤ N) {a0 : Nat} {x1 : Int32} {nu : Nat} (k_a0 : q_K h.1 a0 = 1) (hnu : q_O h.1 1 1 a0 = some nu) (knu : q_K h.1 nu = 3) {δ : dp} (z0 : 0 ≤ (x1).toInt) (z1 : (x1).toInt < (q_I δ 3 1 nu).toInt) (I : CI ad h.1 δ0 δ) : ok (D_X1_valueAt N h.1 a0 x1 δ) (fun r => r.2 = δ) := by
  unfold D_X1_valueAt
  have f1 := ti_b x1
  obtain ⟨b2, o3, k4, ⟨n5, n6⟩, w7⟩ := gO_3_0 L knu
  have f8 := cb_3_1 I knu o3
  have o9 := gH L k_a0 hnu o3
  refine ok_at o9 ?_
  have t10 := ti_tn x1
  refine ok_gd (fun hc11 => ?_) ?_
  · rcases hc11 with hc11 | hc11
    · have c12 : x1.toInt < (0 : Int) := o_lt hc11
      omega
    · omega
  exact ok_some (show δ = δ from rfl)
set_option maxHeartbeats 4000000 in
theorem kl_X1_firstFrom_10 {ad : List Nat} {h : hp} (L : Lay TLx ad h) {δ0 : dp} {N : Nat} (hN : 10000000 ≤ N) {a0 : Nat} {x3 : Int32} {nu : Nat} (k_a0 : q_K h.1 a0 = 1) (hnu : q_O h.1 1 1 a0 = some nu) (knu : q_K h.1 nu = 3) : ∀ (n : Nat) (x1v : Int32) (x2v : Int32) (x4v : Int32) (δ : dp), CI ad h.1 δ0 δ → 0 ≤ (x1v).toInt → (x1v).toInt ≤ (x2v).toInt → (x2v).toInt ≤ (q_I δ 3 1 nu).toInt → (x2v).toInt - (x1v).toInt < (n : Int) → ok (L_X1_firstFrom_10 N h.1 a0 x3 n x1v x2v x4v δ) (fun r => r.2 = δ ∧ (x1v).toInt ≤ (r.1).toInt ∧ (r.1).toInt ≤ (x2v).toInt) := by
  intro n
  induction n with
  | zero =>
    intro x1v x2v x4v δ I j0 j1 j2 hm
    have f1 := ti_b x1v
    have f2 := ti_b x2v
    obtain ⟨b3, o4, k5, ⟨n6, n7⟩, w8⟩ := gO_3_0 L knu
    have f9 := cb_3_1 I knu o4
    exfalso; omega
  | succ n ih =>
    intro x1v x2v x4v δ I j0 j1 j2 hm
    unfold L_X1_firstFrom_10
    have f1 := ti_b x1v
    have f2 := ti_b x2v
    obtain ⟨b3, o4, k5, ⟨n6, n7⟩, w8⟩ := gO_3_0 L knu
    have f9 := cb_3_1 I knu o4
    refine ok_ite (fun h10 => ?_) (fun h10 => ?_)
    · have c11 : x2v.toInt ≤ x1v.toInt := o_le h10
      exact ok_some (show δ = δ ∧ (x1v).toInt ≤ (x1v).toInt ∧ (x1v).toInt ≤ (x2v).toInt from ⟨rfl, by first | assumption | omega, by first | assumption | omega⟩)
    · have c12 : x1v.toInt < x2v.toInt := o_nle h10
      first | (have q16 := te_add x1v x2v (by omega) (by omega); obtain ⟨f17, f18, f19⟩ := q16) | (obtain ⟨q16, f17, f18, f19⟩ := ti_add x1v x2v)
      have f20 := ti_div (c := 2) (n := 2) rfl (by decide) (x1v + x2v)
      have f21 := ti_b ((x1v + x2v) / (2 : Int32))
      refine ok_biv (fun vx13 e14 => ?_)
      have f22 : vx13.toInt = ((x1v + x2v) / (2 : Int32)).toInt := congrArg Int32.toInt e14
      have o23 := gH L k_a0 hnu o4
      refine ok_at o23 ?_
      have t24 := ti_tn vx13
      refine ok_gd (fun hc25 => ?_) ?_
      · rcases hc25 with hc25 | hc25
        · have c26 : vx13.toInt < (0 : Int) := o_lt hc25
          omega
        · omega
      have f27 := ti_b x3
      have f28 := ti_b (((q_R δ b3 vx13.toNatClampNeg) >>> ((q_I δ 1 5 a0) &&& 31)) &&& x4v)
      refine ok_ite (fun h29 => ?_) (fun h29 => ?_)
      · have c30 : x3.toInt ≤ (((q_R δ b3 vx13.toNatClampNeg) >>> ((q_I δ 1 5 a0) &&& 31)) &&& x4v).toInt := o_le h29
        unfold J_X1_firstFrom_52
        refine ok_mono (ih x1v vx13 x4v δ I (show 0 ≤ (x1v).toInt by first | assumption | omega) (show (x1v).toInt ≤ (vx13).toInt by first | assumption | omega) (show (vx13).toInt ≤ (q_I δ 3 1 nu).toInt by first | assumption | omega) (show (vx13).toInt - (x1v).toInt < _ by omega)) (fun r31 hr32 => ?_)
        obtain ⟨i33, p34, p35⟩ := hr32
        have f36 := ti_b r31.1
        have f37 := ti_b r31.1
        exact ⟨by assumption, by first | assumption | omega, by first | assumption | omega⟩
      · have c38 : (((q_R δ b3 vx13.toNatClampNeg) >>> ((q_I δ 1 5 a0) &&& 31)) &&& x4v).toInt < x3.toInt := o_nle h29
        refine ok_biv (fun vx39 e40 => ?_)
        first | (have q41 := te_addc (c := 1) (n := 1) rfl vx13 (by omega) (by omega); rw [← e40] at q41; obtain ⟨f42, f43, f44⟩ := q41) | (obtain ⟨q41, f42, f43, f44⟩ : ∃ q : Int, vx39.toInt = vx13.toInt + (1 : Int) + 4294967296 * q ∧ -2147483648 ≤ vx39.toInt ∧ vx39.toInt ≤ 2147483647 := by rw [e40]; exact ti_addc (c := 1) (n := 1) rfl vx13)
        unfold J_X1_firstFrom_52
        refine ok_mono (ih vx39 x2v x4v δ I (show 0 ≤ (vx39).toInt by first | assumption | omega) (show (vx39).toInt ≤ (x2v).toInt by first | assumption | omega) (show (x2v).toInt ≤ (q_I δ 3 1 nu).toInt by first | assumption | omega) (show (x2v).toInt - (vx39).toInt < _ by omega)) (fun r45 hr46 => ?_)
        obtain ⟨i47, p48, p49⟩ := hr46
        have f50 := ti_b r45.1
        have f51 := ti_b r45.1
        exact ⟨by assumption, by first | assumption | omega, by first | assumption | omega⟩
set_option maxHeartbeats 4000000 in
theorem k_X1_firstFrom {ad : List Nat} {h : hp} (L : Lay TLx ad h) {δ0 : dp} {N : Nat} (hN : 10000000 ≤ N) {a0 : Nat} {x1 : Int32} {x2 : Int32} {x3 : Int32} {nu : Nat} (k_a0 : q_K h.1 a0 = 1) (hnu : q_O h.1 1 1 a0 = some nu) (knu : q_K h.1 nu = 3) {δ : dp} (z0 : 0 ≤ (x1).toInt) (z1 : (x1).toInt ≤ (x2).toInt) (z2 : (x2).toInt ≤ (q_I δ 3 1 nu).toInt) (I : CI ad h.1 δ0 δ) : ok (D_X1_firstFrom N h.1 a0 x1 x2 x3 δ) (fun r => r.2 = δ ∧ (x1).toInt ≤ (r.1).toInt ∧ (r.1).toInt ≤ (x2).toInt) := by
  unfold D_X1_firstFrom
  have f1 := ti_b x1
  have f2 := ti_b x2
  obtain ⟨b3, o4, k5, ⟨n6, n7⟩, w8⟩ := gO_3_0 L knu
  have f9 := cb_3_1 I knu o4
  have f12 := ti_b (q_I δ 1 6 a0)
  have f13 := sh_b (q_I δ 1 6 a0)
  have f14 := ti_b ((1 : Int32) <<< ((q_I δ 1 6 a0) &&& 31))
  refine ok_biv (fun vx10 e11 => ?_)
  first | (have q15 := te_subc (c := 1) (n := 1) rfl ((1 : Int32) <<< ((q_I δ 1 6 a0) &&& 31)) (by omega) (by omega); rw [← e11] at q15; obtain ⟨f16, f17, f18⟩ := q15) | (obtain ⟨q15, f16, f17, f18⟩ : ∃ q : Int, vx10.toInt = ((1 : Int32) <<< ((q_I δ 1 6 a0) &&& 31)).toInt - (1 : Int) + 4294967296 * q ∧ -2147483648 ≤ vx10.toInt ∧ vx10.toInt ≤ 2147483647 := by rw [e11]; exact ti_subc (c := 1) (n := 1) rfl ((1 : Int32) <<< ((q_I δ 1 6 a0) &&& 31)))
  refine ok_mono (kl_X1_firstFrom_10 L hN k_a0 hnu knu _ x1 x2 vx10 δ I (show 0 ≤ (x1).toInt by first | assumption | omega) (show (x1).toInt ≤ (x2).toInt by first | assumption | omega) (show (x2).toInt ≤ (q_I δ 3 1 nu).toInt by first | assumption | omega) (show (x2).toInt - (x1).toInt < _ by omega)) (fun r19 hr20 => ?_)
  obtain ⟨i21, p22, p23⟩ := hr20
  have f24 := ti_b r19.1
  have f25 := ti_b r19.1
  exact ⟨by assumption, by first | assumption | omega, by first | assumption | omega⟩
set_option maxHeartbeats 4000000 in
theorem k_X1_look {ad : List Nat} {h : hp} (L : Lay TLx ad h) {δ0 : dp} {N : Nat} (hN : 10000000 ≤ N) {a0 : Nat} {nu : Nat} (k_a0 : q_K h.1 a0 = 1) (hnu : q_O h.1 1 1 a0 = some nu) (knu : q_K h.1 nu = 3) {δ : dp} (z0 : 0 ≤ (q_I δ 1 3 a0).toInt) (z1 : (q_I δ 1 4 a0).toInt ≤ (q_I δ 3 1 nu).toInt) (I : CI ad h.1 δ0 δ) : ok (D_X1_look N h.1 a0 δ) (fun r => CI ad h.1 δ0 r ∧ (kp [(1, 7), (1, 9), (1, 10), (1, 11), (1, 12), (1, 15)] δ r ∧ q_V r = q_V δ) ∧ ((q_I r 1 15 a0).toInt = 0 → 0 ≤ (q_I r 1 11 a0).toInt ∧ (q_I r 1 11 a0).toInt ≤ (q_I r 1 12 a0).toInt ∧ (q_I r 1 12 a0).toInt ≤ (q_I δ 3 1 nu).toInt)) := by
  unfold D_X1_look
  have f1 := ti_b (q_I δ 1 3 a0)
  have f2 := ti_b (q_I δ 1 4 a0)
  obtain ⟨b3, o4, k5, ⟨n6, n7⟩, w8⟩ := gO_3_0 L knu
  have f9 := cb_3_1 I knu o4
  obtain ⟨b10, o11, k12⟩ := gO_1_0 L k_a0
  refine ok_at o11 ?_
  have f13 := ti_b (q_I δ 1 6 a0)
  have f14 := cb_5_2 I k12
  refine ok_ite (fun h15 => ?_) (fun h15 => ?_)
  · have c16 : (q_I δ 1 6 a0).toInt ≤ (q_I δ 5 2 b10).toInt := o_le h15
    unfold J_X1_look_26
    unfold J_X1_look_31
    refine ok_gp (by decide) ?_
    refine ok_bdv (fun d17 e18 => ?_)
    have i19 : CI ad h.1 δ0 d17 := by rw [e18]; exact cs_1_15 L I k_a0 (show 0 ≤ (1 : Int) by omega) (show (1 : Int) ≤ 1 by omega)
    have u20 := kp_I kp_r e18
    have v21 : q_V d17 = q_V δ := (show q_V d17 = q_V δ by rw [e18]; rfl).trans rfl
    have f22 := cb_1_15 i19 k_a0
    have f23 : (q_I d17 1 15 a0).toInt = (1 : Int) := congrArg Int32.toInt (show q_I d17 1 15 a0 = (1 : Int32) by rw [e18]; exact rI_s)
    refine ok_ite (fun h24 => ?_) (fun h24 => ?_)
    · have c25 : (q_I d17 1 15 a0).toInt = (0 : Int) := o_eq h24
      have f28 := ti_b (q_I d17 1 3 a0)
      have f29 : (q_I d17 1 3 a0).toInt = (q_I δ 1 3 a0).toInt := congrArg Int32.toInt (by rw [e18]; exact rI_o (by decide))
      have f30 := cb_3_1 i19 knu o4
      have f31 : (q_I d17 3 1 nu).toInt = (q_I δ 3 1 nu).toInt := congrArg Int32.toInt (by rw [e18]; exact rI_o (by decide))
      refine ok_bind (k_X1_valueAt L hN (a0 := a0) (x1 := (q_I d17 1 3 a0)) k_a0 hnu knu (show 0 ≤ ((q_I d17 1 3 a0)).toInt by first | assumption | omega) (show ((q_I d17 1 3 a0)).toInt < (q_I d17 3 1 nu).toInt by first | assumption | omega) i19) (fun r26 hr27 => ?_)
      have i32 := hr27
      try rw [i32]
      have f33 := ti_b r26.1
      refine ok_bdv (fun d34 e35 => ?_)
      have i36 : CI ad h.1 δ0 d34 := by rw [e35]; exact cs_1_9 L i19
      have u37 := kp_I u20 e35
      have v38 : q_V d34 = q_V δ := (show q_V d34 = q_V d17 by rw [e35]; rfl).trans v21
      have f41 := ti_b (q_I d34 1 4 a0)
      have f42 : (q_I d34 1 4 a0).toInt = (q_I d17 1 4 a0).toInt := congrArg Int32.toInt (by rw [e35]; exact rI_o (by decide))
      have f43 := ti_b (q_I d17 1 4 a0)
      have f44 : (q_I d17 1 4 a0).toInt = (q_I δ 1 4 a0).toInt := congrArg Int32.toInt (by rw [e18]; exact rI_o (by decide))
      first | (have q46 := te_subc (c := 1) (n := 1) rfl (q_I d34 1 4 a0) (by omega) (by omega); obtain ⟨f47, f48, f49⟩ := q46) | (obtain ⟨q46, f47, f48, f49⟩ := ti_subc (c := 1) (n := 1) rfl (q_I d34 1 4 a0))
      have f50 := cb_3_1 i36 knu o4
      have f51 : (q_I d34 3 1 nu).toInt = (q_I d17 3 1 nu).toInt := congrArg Int32.toInt (by rw [e35]; exact rI_o (by decide))
      refine ok_bind (k_X1_valueAt L hN (a0 := a0) (x1 := ((q_I d34 1 4 a0) - (1 : Int32))) k_a0 hnu knu (show 0 ≤ (((q_I d34 1 4 a0) - (1 : Int32))).toInt by first | assumption | omega) (show (((q_I d34 1 4 a0) - (1 : Int32))).toInt < (q_I d34 3 1 nu).toInt by first | assumption | omega) i36) (fun r39 hr40 => ?_)
      have i52 := hr40
      try rw [i52]
      have f53 := ti_b r39.1
      refine ok_bdv (fun d54 e55 => ?_)
      have i56 : CI ad h.1 δ0 d54 := by rw [e55]; exact cs_1_10 L i36
      have u57 := kp_I u37 e55
      have v58 : q_V d54 = q_V δ := (show q_V d54 = q_V d34 by rw [e55]; rfl).trans v38
      have f59 := ti_b (q_I d54 1 9 a0)
      have f60 : (q_I d54 1 9 a0).toInt = (q_I d34 1 9 a0).toInt := congrArg Int32.toInt (by rw [e55]; exact rI_o (by decide))
      have f61 := ti_b (q_I d34 1 9 a0)
      have f62 : (q_I d34 1 9 a0).toInt = r26.1.toInt := congrArg Int32.toInt (show q_I d34 1 9 a0 = r26.1 by rw [e35]; exact rI_s)
      have f63 := ti_b (q_I d54 1 10 a0)
      have f64 : (q_I d54 1 10 a0).toInt = r39.1.toInt := congrArg Int32.toInt (show q_I d54 1 10 a0 = r39.1 by rw [e55]; exact rI_s)
      refine ok_ite (fun h65 => ?_) (fun h65 => ?_)
      · have c66 : (q_I d54 1 9 a0).toInt = (q_I d54 1 10 a0).toInt := o_eq h65
        unfold J_X1_look_85
        refine ok_gp (by decide) ?_
        refine ok_bdv (fun d67 e68 => ?_)
        have i69 : CI ad h.1 δ0 d67 := by rw [e68]; exact cs_1_15 L i56 k_a0 (show 0 ≤ (1 : Int) by omega) (show (1 : Int) ≤ 1 by omega)
        have u70 := kp_I u57 e68
        have v71 : q_V d67 = q_V δ := (show q_V d67 = q_V d54 by rw [e68]; rfl).trans v58
        have f72 := cb_1_15 i69 k_a0
        have f73 : (q_I d67 1 15 a0).toInt = (1 : Int) := congrArg Int32.toInt (show q_I d67 1 15 a0 = (1 : Int32) by rw [e68]; exact rI_s)
        refine ok_ite (fun h74 => ?_) (fun h74 => ?_)
        · have c75 : (q_I d67 1 15 a0).toInt = (0 : Int) := o_eq h74
          refine ok_at o11 ?_
          refine ok_bind (k_X5_lowerBits L hN (a0 := b10) (x1 := (q_I d67 1 6 a0)) k12 i69) (fun r76 hr77 => ?_)
          obtain ⟨i78, p79⟩ := hr77
          try rw [i78]
          have f80 := ti_b (q_I d67 1 6 a0)
          have f81 : (q_I d67 1 6 a0).toInt = (q_I d54 1 6 a0).toInt := congrArg Int32.toInt (by rw [e68]; exact rI_o (by decide))
          have f82 := ti_b (q_I d54 1 6 a0)
          have f83 : (q_I d54 1 6 a0).toInt = (q_I d34 1 6 a0).toInt := congrArg Int32.toInt (by rw [e55]; exact rI_o (by decide))
          have f84 := ti_b (q_I d34 1 6 a0)
          have f85 : (q_I d34 1 6 a0).toInt = (q_I d17 1 6 a0).toInt := congrArg Int32.toInt (by rw [e35]; exact rI_o (by decide))
          have f86 := ti_b (q_I d17 1 6 a0)
          have f87 : (q_I d17 1 6 a0).toInt = (q_I δ 1 6 a0).toInt := congrArg Int32.toInt (by rw [e18]; exact rI_o (by decide))
          have f88 := ti_b r76.1
          have f89 := ti_b r76.1
          refine ok_bdv (fun d90 e91 => ?_)
          have i92 : CI ad h.1 δ0 d90 := by rw [e91]; exact cs_1_7 L i69
          have u93 := kp_I u70 e91
          have v94 : q_V d90 = q_V δ := (show q_V d90 = q_V d67 by rw [e91]; rfl).trans v71
          have f97 := ti_b (q_I d90 1 3 a0)
          have f98 : (q_I d90 1 3 a0).toInt = (q_I d67 1 3 a0).toInt := congrArg Int32.toInt (by rw [e91]; exact rI_o (by decide))
          have f99 := ti_b (q_I d67 1 3 a0)
          have f100 : (q_I d67 1 3 a0).toInt = (q_I d54 1 3 a0).toInt := congrArg Int32.toInt (by rw [e68]; exact rI_o (by decide))
          have f101 := ti_b (q_I d54 1 3 a0)
          have f102 : (q_I d54 1 3 a0).toInt = (q_I d34 1 3 a0).toInt := congrArg Int32.toInt (by rw [e55]; exact rI_o (by decide))
          have f103 := ti_b (q_I d34 1 3 a0)
          have f104 : (q_I d34 1 3 a0).toInt = (q_I d17 1 3 a0).toInt := congrArg Int32.toInt (by rw [e35]; exact rI_o (by decide))
          first | (have q106 := te_addc (c := 1) (n := 1) rfl (q_I d90 1 3 a0) (by omega) (by omega); obtain ⟨f107, f108, f109⟩ := q106) | (obtain ⟨q106, f107, f108, f109⟩ := ti_addc (c := 1) (n := 1) rfl (q_I d90 1 3 a0))
          have f110 := ti_b (q_I d90 1 4 a0)
          have f111 : (q_I d90 1 4 a0).toInt = (q_I d67 1 4 a0).toInt := congrArg Int32.toInt (by rw [e91]; exact rI_o (by decide))
          have f112 := ti_b (q_I d67 1 4 a0)
          have f113 : (q_I d67 1 4 a0).toInt = (q_I d54 1 4 a0).toInt := congrArg Int32.toInt (by rw [e68]; exact rI_o (by decide))
          have f114 := ti_b (q_I d54 1 4 a0)
          have f115 : (q_I d54 1 4 a0).toInt = (q_I d34 1 4 a0).toInt := congrArg Int32.toInt (by rw [e55]; exact rI_o (by decide))
          have f116 := cb_3_1 i92 knu o4
          have f117 : (q_I d90 3 1 nu).toInt = (q_I d67 3 1 nu).toInt := congrArg Int32.toInt (by rw [e91]; exact rI_o (by decide))
          have f118 := cb_3_1 i69 knu o4
          have f119 : (q_I d67 3 1 nu).toInt = (q_I d54 3 1 nu).toInt := congrArg Int32.toInt (by rw [e68]; exact rI_o (by decide))
          have f120 := cb_3_1 i56 knu o4
          have f121 : (q_I d54 3 1 nu).toInt = (q_I d34 3 1 nu).toInt := congrArg Int32.toInt (by rw [e55]; exact rI_o (by decide))
          refine ok_bind (k_X1_firstFrom L hN (a0 := a0) (x1 := ((q_I d90 1 3 a0) + (1 : Int32))) (x2 := (q_I d90 1 4 a0)) (x3 := ((q_I d90 1 9 a0) + (1 : Int32))) k_a0 hnu knu (show 0 ≤ (((q_I d90 1 3 a0) + (1 : Int32))).toInt by first | assumption | omega) (show (((q_I d90 1 3 a0) + (1 : Int32))).toInt ≤ ((q_I d90 1 4 a0)).toInt by first | assumption | omega) (show ((q_I d90 1 4 a0)).toInt ≤ (q_I d90 3 1 nu).toInt by first | assumption | omega) i92) (fun r95 hr96 => ?_)
          obtain ⟨i122, p123, p124⟩ := hr96
          try rw [i122]
          have f125 := ti_b r95.1
          have f126 := ti_b r95.1
          refine ok_bdv (fun d127 e128 => ?_)
          have i129 : CI ad h.1 δ0 d127 := by rw [e128]; exact cs_1_11 L i92
          have u130 := kp_I u93 e128
          have v131 : q_V d127 = q_V δ := (show q_V d127 = q_V d90 by rw [e128]; rfl).trans v94
          have f134 := ti_b (q_I d127 1 11 a0)
          have f135 : (q_I d127 1 11 a0).toInt = r95.1.toInt := congrArg Int32.toInt (show q_I d127 1 11 a0 = r95.1 by rw [e128]; exact rI_s)
          have f136 := ti_b (q_I d127 1 4 a0)
          have f137 : (q_I d127 1 4 a0).toInt = (q_I d90 1 4 a0).toInt := congrArg Int32.toInt (by rw [e128]; exact rI_o (by decide))
          have f138 := cb_3_1 i129 knu o4
          have f139 : (q_I d127 3 1 nu).toInt = (q_I d90 3 1 nu).toInt := congrArg Int32.toInt (by rw [e128]; exact rI_o (by decide))
          refine ok_bind (k_X1_firstFrom L hN (a0 := a0) (x1 := (q_I d127 1 11 a0)) (x2 := (q_I d127 1 4 a0)) (x3 := (q_I d127 1 10 a0)) k_a0 hnu knu (show 0 ≤ ((q_I d127 1 11 a0)).toInt by first | assumption | omega) (show ((q_I d127 1 11 a0)).toInt ≤ ((q_I d127 1 4 a0)).toInt by first | assumption | omega) (show ((q_I d127 1 4 a0)).toInt ≤ (q_I d127 3 1 nu).toInt by first | assumption | omega) i129) (fun r132 hr133 => ?_)
          obtain ⟨i140, p141, p142⟩ := hr133
          try rw [i140]
          have f143 := ti_b r132.1
          have f144 := ti_b r132.1
          refine ok_bdv (fun d145 e146 => ?_)
          have i147 : CI ad h.1 δ0 d145 := by rw [e146]; exact cs_1_12 L i129
          have u148 := kp_I u130 e146
          have v149 : q_V d145 = q_V δ := (show q_V d145 = q_V d127 by rw [e146]; rfl).trans v131
          unfold J_X1_look_154
          have f150 := cb_1_15 i147 k_a0
          have f151 : (q_I d145 1 15 a0).toInt = (q_I d127 1 15 a0).toInt := congrArg Int32.toInt (by rw [e146]; exact rI_o (by decide))
          have f152 := cb_1_15 i129 k_a0
          have f153 : (q_I d127 1 15 a0).toInt = (q_I d90 1 15 a0).toInt := congrArg Int32.toInt (by rw [e128]; exact rI_o (by decide))
          have f154 := cb_1_15 i92 k_a0
          have f155 : (q_I d90 1 15 a0).toInt = (q_I d67 1 15 a0).toInt := congrArg Int32.toInt (by rw [e91]; exact rI_o (by decide))
          have f156 := ti_b (q_I d145 1 11 a0)
          have f157 : (q_I d145 1 11 a0).toInt = (q_I d127 1 11 a0).toInt := congrArg Int32.toInt (by rw [e146]; exact rI_o (by decide))
          have f158 := ti_b (q_I d145 1 12 a0)
          have f159 : (q_I d145 1 12 a0).toInt = r132.1.toInt := congrArg Int32.toInt (show q_I d145 1 12 a0 = r132.1 by rw [e146]; exact rI_s)
          exact ok_some (show CI ad h.1 δ0 d145 ∧ (kp [(1, 7), (1, 9), (1, 10), (1, 11), (1, 12), (1, 15)] δ d145 ∧ q_V d145 = q_V δ) ∧ ((q_I d145 1 15 a0).toInt = 0 → 0 ≤ (q_I d145 1 11 a0).toInt ∧ (q_I d145 1 11 a0).toInt ≤ (q_I d145 1 12 a0).toInt ∧ (q_I d145 1 12 a0).toInt ≤ (q_I δ 3 1 nu).toInt) from ⟨i147, ⟨kp_w (by decide) u148, v149⟩, by first | assumption | omega⟩)
        · have c160 : (q_I d67 1 15 a0).toInt ≠ (0 : Int) := o_ne h74
          unfold J_X1_look_154
          have f161 := ti_b (q_I d67 1 11 a0)
          have f162 : (q_I d67 1 11 a0).toInt = (q_I d54 1 11 a0).toInt := congrArg Int32.toInt (by rw [e68]; exact rI_o (by decide))
          have f163 := ti_b (q_I d54 1 11 a0)
          have f164 : (q_I d54 1 11 a0).toInt = (q_I d34 1 11 a0).toInt := congrArg Int32.toInt (by rw [e55]; exact rI_o (by decide))
          have f165 := ti_b (q_I d34 1 11 a0)
          have f166 : (q_I d34 1 11 a0).toInt = (q_I d17 1 11 a0).toInt := congrArg Int32.toInt (by rw [e35]; exact rI_o (by decide))
          have f167 := ti_b (q_I d17 1 11 a0)
          have f168 : (q_I d17 1 11 a0).toInt = (q_I δ 1 11 a0).toInt := congrArg Int32.toInt (by rw [e18]; exact rI_o (by decide))
          have f169 := ti_b (q_I δ 1 11 a0)
          have f170 := ti_b (q_I d67 1 12 a0)
          have f171 : (q_I d67 1 12 a0).toInt = (q_I d54 1 12 a0).toInt := congrArg Int32.toInt (by rw [e68]; exact rI_o (by decide))
          have f172 := ti_b (q_I d54 1 12 a0)
          have f173 : (q_I d54 1 12 a0).toInt = (q_I d34 1 12 a0).toInt := congrArg Int32.toInt (by rw [e55]; exact rI_o (by decide))
          have f174 := ti_b (q_I d34 1 12 a0)
          have f175 : (q_I d34 1 12 a0).toInt = (q_I d17 1 12 a0).toInt := congrArg Int32.toInt (by rw [e35]; exact rI_o (by decide))
          have f176 := ti_b (q_I d17 1 12 a0)
          have f177 : (q_I d17 1 12 a0).toInt = (q_I δ 1 12 a0).toInt := congrArg Int32.toInt (by rw [e18]; exact rI_o (by decide))
          have f178 := ti_b (q_I δ 1 12 a0)
          exact ok_some (show CI ad h.1 δ0 d67 ∧ (kp [(1, 7), (1, 9), (1, 10), (1, 11), (1, 12), (1, 15)] δ d67 ∧ q_V d67 = q_V δ) ∧ ((q_I d67 1 15 a0).toInt = 0 → 0 ≤ (q_I d67 1 11 a0).toInt ∧ (q_I d67 1 11 a0).toInt ≤ (q_I d67 1 12 a0).toInt ∧ (q_I d67 1 12 a0).toInt ≤ (q_I δ 3 1 nu).toInt) from ⟨i69, ⟨kp_w (by decide) u70, v71⟩, by first | assumption | omega⟩)
      · have c179 : (q_I d54 1 9 a0).toInt ≠ (q_I d54 1 10 a0).toInt := o_ne h65
        unfold J_X1_look_85
        refine ok_gp (by decide) ?_
        refine ok_bdv (fun d180 e181 => ?_)
        have i182 : CI ad h.1 δ0 d180 := by rw [e181]; exact cs_1_15 L i56 k_a0 (show 0 ≤ (0 : Int) by omega) (show (0 : Int) ≤ 1 by omega)
        have u183 := kp_I u57 e181
        have v184 : q_V d180 = q_V δ := (show q_V d180 = q_V d54 by rw [e181]; rfl).trans v58
        have f185 := cb_1_15 i182 k_a0
        have f186 : (q_I d180 1 15 a0).toInt = (0 : Int) := congrArg Int32.toInt (show q_I d180 1 15 a0 = (0 : Int32) by rw [e181]; exact rI_s)
        refine ok_ite (fun h187 => ?_) (fun h187 => ?_)
        · have c188 : (q_I d180 1 15 a0).toInt = (0 : Int) := o_eq h187
          refine ok_at o11 ?_
          refine ok_bind (k_X5_lowerBits L hN (a0 := b10) (x1 := (q_I d180 1 6 a0)) k12 i182) (fun r189 hr190 => ?_)
          obtain ⟨i191, p192⟩ := hr190
          try rw [i191]
          have f193 := ti_b (q_I d180 1 6 a0)
          have f194 : (q_I d180 1 6 a0).toInt = (q_I d54 1 6 a0).toInt := congrArg Int32.toInt (by rw [e181]; exact rI_o (by decide))
          have f195 := ti_b (q_I d54 1 6 a0)
          have f196 : (q_I d54 1 6 a0).toInt = (q_I d34 1 6 a0).toInt := congrArg Int32.toInt (by rw [e55]; exact rI_o (by decide))
          have f197 := ti_b (q_I d34 1 6 a0)
          have f198 : (q_I d34 1 6 a0).toInt = (q_I d17 1 6 a0).toInt := congrArg Int32.toInt (by rw [e35]; exact rI_o (by decide))
          have f199 := ti_b (q_I d17 1 6 a0)
          have f200 : (q_I d17 1 6 a0).toInt = (q_I δ 1 6 a0).toInt := congrArg Int32.toInt (by rw [e18]; exact rI_o (by decide))
          have f201 := ti_b r189.1
          have f202 := ti_b r189.1
          refine ok_bdv (fun d203 e204 => ?_)
          have i205 : CI ad h.1 δ0 d203 := by rw [e204]; exact cs_1_7 L i182
          have u206 := kp_I u183 e204
          have v207 : q_V d203 = q_V δ := (show q_V d203 = q_V d180 by rw [e204]; rfl).trans v184
          have f210 := ti_b (q_I d203 1 3 a0)
          have f211 : (q_I d203 1 3 a0).toInt = (q_I d180 1 3 a0).toInt := congrArg Int32.toInt (by rw [e204]; exact rI_o (by decide))
          have f212 := ti_b (q_I d180 1 3 a0)
          have f213 : (q_I d180 1 3 a0).toInt = (q_I d54 1 3 a0).toInt := congrArg Int32.toInt (by rw [e181]; exact rI_o (by decide))
          have f214 := ti_b (q_I d54 1 3 a0)
          have f215 : (q_I d54 1 3 a0).toInt = (q_I d34 1 3 a0).toInt := congrArg Int32.toInt (by rw [e55]; exact rI_o (by decide))
          have f216 := ti_b (q_I d34 1 3 a0)
          have f217 : (q_I d34 1 3 a0).toInt = (q_I d17 1 3 a0).toInt := congrArg Int32.toInt (by rw [e35]; exact rI_o (by decide))
          first | (have q219 := te_addc (c := 1) (n := 1) rfl (q_I d203 1 3 a0) (by omega) (by omega); obtain ⟨f220, f221, f222⟩ := q219) | (obtain ⟨q219, f220, f221, f222⟩ := ti_addc (c := 1) (n := 1) rfl (q_I d203 1 3 a0))
          have f223 := ti_b (q_I d203 1 4 a0)
          have f224 : (q_I d203 1 4 a0).toInt = (q_I d180 1 4 a0).toInt := congrArg Int32.toInt (by rw [e204]; exact rI_o (by decide))
          have f225 := ti_b (q_I d180 1 4 a0)
          have f226 : (q_I d180 1 4 a0).toInt = (q_I d54 1 4 a0).toInt := congrArg Int32.toInt (by rw [e181]; exact rI_o (by decide))
          have f227 := ti_b (q_I d54 1 4 a0)
          have f228 : (q_I d54 1 4 a0).toInt = (q_I d34 1 4 a0).toInt := congrArg Int32.toInt (by rw [e55]; exact rI_o (by decide))
          have f229 := cb_3_1 i205 knu o4
          have f230 : (q_I d203 3 1 nu).toInt = (q_I d180 3 1 nu).toInt := congrArg Int32.toInt (by rw [e204]; exact rI_o (by decide))
          have f231 := cb_3_1 i182 knu o4
          have f232 : (q_I d180 3 1 nu).toInt = (q_I d54 3 1 nu).toInt := congrArg Int32.toInt (by rw [e181]; exact rI_o (by decide))
          have f233 := cb_3_1 i56 knu o4
          have f234 : (q_I d54 3 1 nu).toInt = (q_I d34 3 1 nu).toInt := congrArg Int32.toInt (by rw [e55]; exact rI_o (by decide))
          refine ok_bind (k_X1_firstFrom L hN (a0 := a0) (x1 := ((q_I d203 1 3 a0) + (1 : Int32))) (x2 := (q_I d203 1 4 a0)) (x3 := ((q_I d203 1 9 a0) + (1 : Int32))) k_a0 hnu knu (show 0 ≤ (((q_I d203 1 3 a0) + (1 : Int32))).toInt by first | assumption | omega) (show (((q_I d203 1 3 a0) + (1 : Int32))).toInt ≤ ((q_I d203 1 4 a0)).toInt by first | assumption | omega) (show ((q_I d203 1 4 a0)).toInt ≤ (q_I d203 3 1 nu).toInt by first | assumption | omega) i205) (fun r208 hr209 => ?_)
          obtain ⟨i235, p236, p237⟩ := hr209
          try rw [i235]
          have f238 := ti_b r208.1
          have f239 := ti_b r208.1
          refine ok_bdv (fun d240 e241 => ?_)
          have i242 : CI ad h.1 δ0 d240 := by rw [e241]; exact cs_1_11 L i205
          have u243 := kp_I u206 e241
          have v244 : q_V d240 = q_V δ := (show q_V d240 = q_V d203 by rw [e241]; rfl).trans v207
          have f247 := ti_b (q_I d240 1 11 a0)
          have f248 : (q_I d240 1 11 a0).toInt = r208.1.toInt := congrArg Int32.toInt (show q_I d240 1 11 a0 = r208.1 by rw [e241]; exact rI_s)
          have f249 := ti_b (q_I d240 1 4 a0)
          have f250 : (q_I d240 1 4 a0).toInt = (q_I d203 1 4 a0).toInt := congrArg Int32.toInt (by rw [e241]; exact rI_o (by decide))
          have f251 := cb_3_1 i242 knu o4
          have f252 : (q_I d240 3 1 nu).toInt = (q_I d203 3 1 nu).toInt := congrArg Int32.toInt (by rw [e241]; exact rI_o (by decide))
          refine ok_bind (k_X1_firstFrom L hN (a0 := a0) (x1 := (q_I d240 1 11 a0)) (x2 := (q_I d240 1 4 a0)) (x3 := (q_I d240 1 10 a0)) k_a0 hnu knu (show 0 ≤ ((q_I d240 1 11 a0)).toInt by first | assumption | omega) (show ((q_I d240 1 11 a0)).toInt ≤ ((q_I d240 1 4 a0)).toInt by first | assumption | omega) (show ((q_I d240 1 4 a0)).toInt ≤ (q_I d240 3 1 nu).toInt by first | assumption | omega) i242) (fun r245 hr246 => ?_)
          obtain ⟨i253, p254, p255⟩ := hr246
          try rw [i253]
          have f256 := ti_b r245.1
          have f257 := ti_b r245.1
          refine ok_bdv (fun d258 e259 => ?_)
          have i260 : CI ad h.1 δ0 d258 := by rw [e259]; exact cs_1_12 L i242
          have u261 := kp_I u243 e259
          have v262 : q_V d258 = q_V δ := (show q_V d258 = q_V d240 by rw [e259]; rfl).trans v244
          unfold J_X1_look_154
          have f263 := cb_1_15 i260 k_a0
          have f264 : (q_I d258 1 15 a0).toInt = (q_I d240 1 15 a0).toInt := congrArg Int32.toInt (by rw [e259]; exact rI_o (by decide))
          have f265 := cb_1_15 i242 k_a0
          have f266 : (q_I d240 1 15 a0).toInt = (q_I d203 1 15 a0).toInt := congrArg Int32.toInt (by rw [e241]; exact rI_o (by decide))
          have f267 := cb_1_15 i205 k_a0
          have f268 : (q_I d203 1 15 a0).toInt = (q_I d180 1 15 a0).toInt := congrArg Int32.toInt (by rw [e204]; exact rI_o (by decide))
          have f269 := ti_b (q_I d258 1 11 a0)
          have f270 : (q_I d258 1 11 a0).toInt = (q_I d240 1 11 a0).toInt := congrArg Int32.toInt (by rw [e259]; exact rI_o (by decide))
          have f271 := ti_b (q_I d258 1 12 a0)
          have f272 : (q_I d258 1 12 a0).toInt = r245.1.toInt := congrArg Int32.toInt (show q_I d258 1 12 a0 = r245.1 by rw [e259]; exact rI_s)
          exact ok_some (show CI ad h.1 δ0 d258 ∧ (kp [(1, 7), (1, 9), (1, 10), (1, 11), (1, 12), (1, 15)] δ d258 ∧ q_V d258 = q_V δ) ∧ ((q_I d258 1 15 a0).toInt = 0 → 0 ≤ (q_I d258 1 11 a0).toInt ∧ (q_I d258 1 11 a0).toInt ≤ (q_I d258 1 12 a0).toInt ∧ (q_I d258 1 12 a0).toInt ≤ (q_I δ 3 1 nu).toInt) from ⟨i260, ⟨kp_w (by decide) u261, v262⟩, by first | assumption | omega⟩)
        · have c273 : (q_I d180 1 15 a0).toInt ≠ (0 : Int) := o_ne h187
          unfold J_X1_look_154
          have f274 := ti_b (q_I d180 1 11 a0)
          have f275 : (q_I d180 1 11 a0).toInt = (q_I d54 1 11 a0).toInt := congrArg Int32.toInt (by rw [e181]; exact rI_o (by decide))
          have f276 := ti_b (q_I d54 1 11 a0)
          have f277 : (q_I d54 1 11 a0).toInt = (q_I d34 1 11 a0).toInt := congrArg Int32.toInt (by rw [e55]; exact rI_o (by decide))
          have f278 := ti_b (q_I d34 1 11 a0)
          have f279 : (q_I d34 1 11 a0).toInt = (q_I d17 1 11 a0).toInt := congrArg Int32.toInt (by rw [e35]; exact rI_o (by decide))
          have f280 := ti_b (q_I d17 1 11 a0)
          have f281 : (q_I d17 1 11 a0).toInt = (q_I δ 1 11 a0).toInt := congrArg Int32.toInt (by rw [e18]; exact rI_o (by decide))
          have f282 := ti_b (q_I δ 1 11 a0)
          have f283 := ti_b (q_I d180 1 12 a0)
          have f284 : (q_I d180 1 12 a0).toInt = (q_I d54 1 12 a0).toInt := congrArg Int32.toInt (by rw [e181]; exact rI_o (by decide))
          have f285 := ti_b (q_I d54 1 12 a0)
          have f286 : (q_I d54 1 12 a0).toInt = (q_I d34 1 12 a0).toInt := congrArg Int32.toInt (by rw [e55]; exact rI_o (by decide))
          have f287 := ti_b (q_I d34 1 12 a0)
          have f288 : (q_I d34 1 12 a0).toInt = (q_I d17 1 12 a0).toInt := congrArg Int32.toInt (by rw [e35]; exact rI_o (by decide))
          have f289 := ti_b (q_I d17 1 12 a0)
          have f290 : (q_I d17 1 12 a0).toInt = (q_I δ 1 12 a0).toInt := congrArg Int32.toInt (by rw [e18]; exact rI_o (by decide))
          have f291 := ti_b (q_I δ 1 12 a0)
          exact ok_some (show CI ad h.1 δ0 d180 ∧ (kp [(1, 7), (1, 9), (1, 10), (1, 11), (1, 12), (1, 15)] δ d180 ∧ q_V d180 = q_V δ) ∧ ((q_I d180 1 15 a0).toInt = 0 → 0 ≤ (q_I d180 1 11 a0).toInt ∧ (q_I d180 1 11 a0).toInt ≤ (q_I d180 1 12 a0).toInt ∧ (q_I d180 1 12 a0).toInt ≤ (q_I δ 3 1 nu).toInt) from ⟨i182, ⟨kp_w (by decide) u183, v184⟩, by first | assumption | omega⟩)
    · have c292 : (q_I d17 1 15 a0).toInt ≠ (0 : Int) := o_ne h24
      have f293 := ti_b (q_I d17 1 11 a0)
      have f294 : (q_I d17 1 11 a0).toInt = (q_I δ 1 11 a0).toInt := congrArg Int32.toInt (by rw [e18]; exact rI_o (by decide))
      have f295 := ti_b (q_I δ 1 11 a0)
      have f296 := ti_b (q_I d17 1 12 a0)
      have f297 : (q_I d17 1 12 a0).toInt = (q_I δ 1 12 a0).toInt := congrArg Int32.toInt (by rw [e18]; exact rI_o (by decide))
      have f298 := ti_b (q_I δ 1 12 a0)
      exact ok_some (show CI ad h.1 δ0 d17 ∧ (kp [(1, 7), (1, 9), (1, 10), (1, 11), (1, 12), (1, 15)] δ d17 ∧ q_V d17 = q_V δ) ∧ ((q_I d17 1 15 a0).toInt = 0 → 0 ≤ (q_I d17 1 11 a0).toInt ∧ (q_I d17 1 11 a0).toInt ≤ (q_I d17 1 12 a0).toInt ∧ (q_I d17 1 12 a0).toInt ≤ (q_I δ 3 1 nu).toInt) from ⟨i19, ⟨kp_w (by decide) u20, v21⟩, by first | assumption | omega⟩)
  · have c299 : (q_I δ 5 2 b10).toInt < (q_I δ 1 6 a0).toInt := o_nle h15
    refine ok_ite (fun h300 => ?_) (fun h300 => ?_)
    · have c301 : (q_I δ 1 3 a0).toInt < (q_I δ 1 4 a0).toInt := o_lt h300
      unfold J_X1_look_31
      refine ok_gp (by decide) ?_
      refine ok_bdv (fun d302 e303 => ?_)
      have i304 : CI ad h.1 δ0 d302 := by rw [e303]; exact cs_1_15 L I k_a0 (show 0 ≤ (0 : Int) by omega) (show (0 : Int) ≤ 1 by omega)
      have u305 := kp_I kp_r e303
      have v306 : q_V d302 = q_V δ := (show q_V d302 = q_V δ by rw [e303]; rfl).trans rfl
      have f307 := cb_1_15 i304 k_a0
      have f308 : (q_I d302 1 15 a0).toInt = (0 : Int) := congrArg Int32.toInt (show q_I d302 1 15 a0 = (0 : Int32) by rw [e303]; exact rI_s)
      refine ok_ite (fun h309 => ?_) (fun h309 => ?_)
      · have c310 : (q_I d302 1 15 a0).toInt = (0 : Int) := o_eq h309
        have f313 := ti_b (q_I d302 1 3 a0)
        have f314 : (q_I d302 1 3 a0).toInt = (q_I δ 1 3 a0).toInt := congrArg Int32.toInt (by rw [e303]; exact rI_o (by decide))
        have f315 := cb_3_1 i304 knu o4
        have f316 : (q_I d302 3 1 nu).toInt = (q_I δ 3 1 nu).toInt := congrArg Int32.toInt (by rw [e303]; exact rI_o (by decide))
        refine ok_bind (k_X1_valueAt L hN (a0 := a0) (x1 := (q_I d302 1 3 a0)) k_a0 hnu knu (show 0 ≤ ((q_I d302 1 3 a0)).toInt by first | assumption | omega) (show ((q_I d302 1 3 a0)).toInt < (q_I d302 3 1 nu).toInt by first | assumption | omega) i304) (fun r311 hr312 => ?_)
        have i317 := hr312
        try rw [i317]
        have f318 := ti_b r311.1
        refine ok_bdv (fun d319 e320 => ?_)
        have i321 : CI ad h.1 δ0 d319 := by rw [e320]; exact cs_1_9 L i304
        have u322 := kp_I u305 e320
        have v323 : q_V d319 = q_V δ := (show q_V d319 = q_V d302 by rw [e320]; rfl).trans v306
        have f326 := ti_b (q_I d319 1 4 a0)
        have f327 : (q_I d319 1 4 a0).toInt = (q_I d302 1 4 a0).toInt := congrArg Int32.toInt (by rw [e320]; exact rI_o (by decide))
        have f328 := ti_b (q_I d302 1 4 a0)
        have f329 : (q_I d302 1 4 a0).toInt = (q_I δ 1 4 a0).toInt := congrArg Int32.toInt (by rw [e303]; exact rI_o (by decide))
        first | (have q331 := te_subc (c := 1) (n := 1) rfl (q_I d319 1 4 a0) (by omega) (by omega); obtain ⟨f332, f333, f334⟩ := q331) | (obtain ⟨q331, f332, f333, f334⟩ := ti_subc (c := 1) (n := 1) rfl (q_I d319 1 4 a0))
        have f335 := cb_3_1 i321 knu o4
        have f336 : (q_I d319 3 1 nu).toInt = (q_I d302 3 1 nu).toInt := congrArg Int32.toInt (by rw [e320]; exact rI_o (by decide))
        refine ok_bind (k_X1_valueAt L hN (a0 := a0) (x1 := ((q_I d319 1 4 a0) - (1 : Int32))) k_a0 hnu knu (show 0 ≤ (((q_I d319 1 4 a0) - (1 : Int32))).toInt by first | assumption | omega) (show (((q_I d319 1 4 a0) - (1 : Int32))).toInt < (q_I d319 3 1 nu).toInt by first | assumption | omega) i321) (fun r324 hr325 => ?_)
        have i337 := hr325
        try rw [i337]
        have f338 := ti_b r324.1
        refine ok_bdv (fun d339 e340 => ?_)
        have i341 : CI ad h.1 δ0 d339 := by rw [e340]; exact cs_1_10 L i321
        have u342 := kp_I u322 e340
        have v343 : q_V d339 = q_V δ := (show q_V d339 = q_V d319 by rw [e340]; rfl).trans v323
        have f344 := ti_b (q_I d339 1 9 a0)
        have f345 : (q_I d339 1 9 a0).toInt = (q_I d319 1 9 a0).toInt := congrArg Int32.toInt (by rw [e340]; exact rI_o (by decide))
        have f346 := ti_b (q_I d319 1 9 a0)
        have f347 : (q_I d319 1 9 a0).toInt = r311.1.toInt := congrArg Int32.toInt (show q_I d319 1 9 a0 = r311.1 by rw [e320]; exact rI_s)
        have f348 := ti_b (q_I d339 1 10 a0)
        have f349 : (q_I d339 1 10 a0).toInt = r324.1.toInt := congrArg Int32.toInt (show q_I d339 1 10 a0 = r324.1 by rw [e340]; exact rI_s)
        refine ok_ite (fun h350 => ?_) (fun h350 => ?_)
        · have c351 : (q_I d339 1 9 a0).toInt = (q_I d339 1 10 a0).toInt := o_eq h350
          unfold J_X1_look_85
          refine ok_gp (by decide) ?_
          refine ok_bdv (fun d352 e353 => ?_)
          have i354 : CI ad h.1 δ0 d352 := by rw [e353]; exact cs_1_15 L i341 k_a0 (show 0 ≤ (1 : Int) by omega) (show (1 : Int) ≤ 1 by omega)
          have u355 := kp_I u342 e353
          have v356 : q_V d352 = q_V δ := (show q_V d352 = q_V d339 by rw [e353]; rfl).trans v343
          have f357 := cb_1_15 i354 k_a0
          have f358 : (q_I d352 1 15 a0).toInt = (1 : Int) := congrArg Int32.toInt (show q_I d352 1 15 a0 = (1 : Int32) by rw [e353]; exact rI_s)
          refine ok_ite (fun h359 => ?_) (fun h359 => ?_)
          · have c360 : (q_I d352 1 15 a0).toInt = (0 : Int) := o_eq h359
            refine ok_at o11 ?_
            refine ok_bind (k_X5_lowerBits L hN (a0 := b10) (x1 := (q_I d352 1 6 a0)) k12 i354) (fun r361 hr362 => ?_)
            obtain ⟨i363, p364⟩ := hr362
            try rw [i363]
            have f365 := ti_b (q_I d352 1 6 a0)
            have f366 : (q_I d352 1 6 a0).toInt = (q_I d339 1 6 a0).toInt := congrArg Int32.toInt (by rw [e353]; exact rI_o (by decide))
            have f367 := ti_b (q_I d339 1 6 a0)
            have f368 : (q_I d339 1 6 a0).toInt = (q_I d319 1 6 a0).toInt := congrArg Int32.toInt (by rw [e340]; exact rI_o (by decide))
            have f369 := ti_b (q_I d319 1 6 a0)
            have f370 : (q_I d319 1 6 a0).toInt = (q_I d302 1 6 a0).toInt := congrArg Int32.toInt (by rw [e320]; exact rI_o (by decide))
            have f371 := ti_b (q_I d302 1 6 a0)
            have f372 : (q_I d302 1 6 a0).toInt = (q_I δ 1 6 a0).toInt := congrArg Int32.toInt (by rw [e303]; exact rI_o (by decide))
            have f373 := ti_b r361.1
            have f374 := ti_b r361.1
            refine ok_bdv (fun d375 e376 => ?_)
            have i377 : CI ad h.1 δ0 d375 := by rw [e376]; exact cs_1_7 L i354
            have u378 := kp_I u355 e376
            have v379 : q_V d375 = q_V δ := (show q_V d375 = q_V d352 by rw [e376]; rfl).trans v356
            have f382 := ti_b (q_I d375 1 3 a0)
            have f383 : (q_I d375 1 3 a0).toInt = (q_I d352 1 3 a0).toInt := congrArg Int32.toInt (by rw [e376]; exact rI_o (by decide))
            have f384 := ti_b (q_I d352 1 3 a0)
            have f385 : (q_I d352 1 3 a0).toInt = (q_I d339 1 3 a0).toInt := congrArg Int32.toInt (by rw [e353]; exact rI_o (by decide))
            have f386 := ti_b (q_I d339 1 3 a0)
            have f387 : (q_I d339 1 3 a0).toInt = (q_I d319 1 3 a0).toInt := congrArg Int32.toInt (by rw [e340]; exact rI_o (by decide))
            have f388 := ti_b (q_I d319 1 3 a0)
            have f389 : (q_I d319 1 3 a0).toInt = (q_I d302 1 3 a0).toInt := congrArg Int32.toInt (by rw [e320]; exact rI_o (by decide))
            first | (have q391 := te_addc (c := 1) (n := 1) rfl (q_I d375 1 3 a0) (by omega) (by omega); obtain ⟨f392, f393, f394⟩ := q391) | (obtain ⟨q391, f392, f393, f394⟩ := ti_addc (c := 1) (n := 1) rfl (q_I d375 1 3 a0))
            have f395 := ti_b (q_I d375 1 4 a0)
            have f396 : (q_I d375 1 4 a0).toInt = (q_I d352 1 4 a0).toInt := congrArg Int32.toInt (by rw [e376]; exact rI_o (by decide))
            have f397 := ti_b (q_I d352 1 4 a0)
            have f398 : (q_I d352 1 4 a0).toInt = (q_I d339 1 4 a0).toInt := congrArg Int32.toInt (by rw [e353]; exact rI_o (by decide))
            have f399 := ti_b (q_I d339 1 4 a0)
            have f400 : (q_I d339 1 4 a0).toInt = (q_I d319 1 4 a0).toInt := congrArg Int32.toInt (by rw [e340]; exact rI_o (by decide))
            have f401 := cb_3_1 i377 knu o4
            have f402 : (q_I d375 3 1 nu).toInt = (q_I d352 3 1 nu).toInt := congrArg Int32.toInt (by rw [e376]; exact rI_o (by decide))
            have f403 := cb_3_1 i354 knu o4
            have f404 : (q_I d352 3 1 nu).toInt = (q_I d339 3 1 nu).toInt := congrArg Int32.toInt (by rw [e353]; exact rI_o (by decide))
            have f405 := cb_3_1 i341 knu o4
            have f406 : (q_I d339 3 1 nu).toInt = (q_I d319 3 1 nu).toInt := congrArg Int32.toInt (by rw [e340]; exact rI_o (by decide))
            refine ok_bind (k_X1_firstFrom L hN (a0 := a0) (x1 := ((q_I d375 1 3 a0) + (1 : Int32))) (x2 := (q_I d375 1 4 a0)) (x3 := ((q_I d375 1 9 a0) + (1 : Int32))) k_a0 hnu knu (show 0 ≤ (((q_I d375 1 3 a0) + (1 : Int32))).toInt by first | assumption | omega) (show (((q_I d375 1 3 a0) + (1 : Int32))).toInt ≤ ((q_I d375 1 4 a0)).toInt by first | assumption | omega) (show ((q_I d375 1 4 a0)).toInt ≤ (q_I d375 3 1 nu).toInt by first | assumption | omega) i377) (fun r380 hr381 => ?_)
            obtain ⟨i407, p408, p409⟩ := hr381
            try rw [i407]
            have f410 := ti_b r380.1
            have f411 := ti_b r380.1
            refine ok_bdv (fun d412 e413 => ?_)
            have i414 : CI ad h.1 δ0 d412 := by rw [e413]; exact cs_1_11 L i377
            have u415 := kp_I u378 e413
            have v416 : q_V d412 = q_V δ := (show q_V d412 = q_V d375 by rw [e413]; rfl).trans v379
            have f419 := ti_b (q_I d412 1 11 a0)
            have f420 : (q_I d412 1 11 a0).toInt = r380.1.toInt := congrArg Int32.toInt (show q_I d412 1 11 a0 = r380.1 by rw [e413]; exact rI_s)
            have f421 := ti_b (q_I d412 1 4 a0)
            have f422 : (q_I d412 1 4 a0).toInt = (q_I d375 1 4 a0).toInt := congrArg Int32.toInt (by rw [e413]; exact rI_o (by decide))
            have f423 := cb_3_1 i414 knu o4
            have f424 : (q_I d412 3 1 nu).toInt = (q_I d375 3 1 nu).toInt := congrArg Int32.toInt (by rw [e413]; exact rI_o (by decide))
            refine ok_bind (k_X1_firstFrom L hN (a0 := a0) (x1 := (q_I d412 1 11 a0)) (x2 := (q_I d412 1 4 a0)) (x3 := (q_I d412 1 10 a0)) k_a0 hnu knu (show 0 ≤ ((q_I d412 1 11 a0)).toInt by first | assumption | omega) (show ((q_I d412 1 11 a0)).toInt ≤ ((q_I d412 1 4 a0)).toInt by first | assumption | omega) (show ((q_I d412 1 4 a0)).toInt ≤ (q_I d412 3 1 nu).toInt by first | assumption | omega) i414) (fun r417 hr418 => ?_)
            obtain ⟨i425, p426, p427⟩ := hr418
            try rw [i425]
            have f428 := ti_b r417.1
            have f429 := ti_b r417.1
            refine ok_bdv (fun d430 e431 => ?_)
            have i432 : CI ad h.1 δ0 d430 := by rw [e431]; exact cs_1_12 L i414
            have u433 := kp_I u415 e431
            have v434 : q_V d430 = q_V δ := (show q_V d430 = q_V d412 by rw [e431]; rfl).trans v416
            unfold J_X1_look_154
            have f435 := cb_1_15 i432 k_a0
            have f436 : (q_I d430 1 15 a0).toInt = (q_I d412 1 15 a0).toInt := congrArg Int32.toInt (by rw [e431]; exact rI_o (by decide))
            have f437 := cb_1_15 i414 k_a0
            have f438 : (q_I d412 1 15 a0).toInt = (q_I d375 1 15 a0).toInt := congrArg Int32.toInt (by rw [e413]; exact rI_o (by decide))
            have f439 := cb_1_15 i377 k_a0
            have f440 : (q_I d375 1 15 a0).toInt = (q_I d352 1 15 a0).toInt := congrArg Int32.toInt (by rw [e376]; exact rI_o (by decide))
            have f441 := ti_b (q_I d430 1 11 a0)
            have f442 : (q_I d430 1 11 a0).toInt = (q_I d412 1 11 a0).toInt := congrArg Int32.toInt (by rw [e431]; exact rI_o (by decide))
            have f443 := ti_b (q_I d430 1 12 a0)
            have f444 : (q_I d430 1 12 a0).toInt = r417.1.toInt := congrArg Int32.toInt (show q_I d430 1 12 a0 = r417.1 by rw [e431]; exact rI_s)
            exact ok_some (show CI ad h.1 δ0 d430 ∧ (kp [(1, 7), (1, 9), (1, 10), (1, 11), (1, 12), (1, 15)] δ d430 ∧ q_V d430 = q_V δ) ∧ ((q_I d430 1 15 a0).toInt = 0 → 0 ≤ (q_I d430 1 11 a0).toInt ∧ (q_I d430 1 11 a0).toInt ≤ (q_I d430 1 12 a0).toInt ∧ (q_I d430 1 12 a0).toInt ≤ (q_I δ 3 1 nu).toInt) from ⟨i432, ⟨kp_w (by decide) u433, v434⟩, by first | assumption | omega⟩)
          · have c445 : (q_I d352 1 15 a0).toInt ≠ (0 : Int) := o_ne h359
            unfold J_X1_look_154
            have f446 := ti_b (q_I d352 1 11 a0)
            have f447 : (q_I d352 1 11 a0).toInt = (q_I d339 1 11 a0).toInt := congrArg Int32.toInt (by rw [e353]; exact rI_o (by decide))
            have f448 := ti_b (q_I d339 1 11 a0)
            have f449 : (q_I d339 1 11 a0).toInt = (q_I d319 1 11 a0).toInt := congrArg Int32.toInt (by rw [e340]; exact rI_o (by decide))
            have f450 := ti_b (q_I d319 1 11 a0)
            have f451 : (q_I d319 1 11 a0).toInt = (q_I d302 1 11 a0).toInt := congrArg Int32.toInt (by rw [e320]; exact rI_o (by decide))
            have f452 := ti_b (q_I d302 1 11 a0)
            have f453 : (q_I d302 1 11 a0).toInt = (q_I δ 1 11 a0).toInt := congrArg Int32.toInt (by rw [e303]; exact rI_o (by decide))
            have f454 := ti_b (q_I δ 1 11 a0)
            have f455 := ti_b (q_I d352 1 12 a0)
            have f456 : (q_I d352 1 12 a0).toInt = (q_I d339 1 12 a0).toInt := congrArg Int32.toInt (by rw [e353]; exact rI_o (by decide))
            have f457 := ti_b (q_I d339 1 12 a0)
            have f458 : (q_I d339 1 12 a0).toInt = (q_I d319 1 12 a0).toInt := congrArg Int32.toInt (by rw [e340]; exact rI_o (by decide))
            have f459 := ti_b (q_I d319 1 12 a0)
            have f460 : (q_I d319 1 12 a0).toInt = (q_I d302 1 12 a0).toInt := congrArg Int32.toInt (by rw [e320]; exact rI_o (by decide))
            have f461 := ti_b (q_I d302 1 12 a0)
            have f462 : (q_I d302 1 12 a0).toInt = (q_I δ 1 12 a0).toInt := congrArg Int32.toInt (by rw [e303]; exact rI_o (by decide))
            have f463 := ti_b (q_I δ 1 12 a0)
            exact ok_some (show CI ad h.1 δ0 d352 ∧ (kp [(1, 7), (1, 9), (1, 10), (1, 11), (1, 12), (1, 15)] δ d352 ∧ q_V d352 = q_V δ) ∧ ((q_I d352 1 15 a0).toInt = 0 → 0 ≤ (q_I d352 1 11 a0).toInt ∧ (q_I d352 1 11 a0).toInt ≤ (q_I d352 1 12 a0).toInt ∧ (q_I d352 1 12 a0).toInt ≤ (q_I δ 3 1 nu).toInt) from ⟨i354, ⟨kp_w (by decide) u355, v356⟩, by first | assumption | omega⟩)
        · have c464 : (q_I d339 1 9 a0).toInt ≠ (q_I d339 1 10 a0).toInt := o_ne h350
          unfold J_X1_look_85
          refine ok_gp (by decide) ?_
          refine ok_bdv (fun d465 e466 => ?_)
          have i467 : CI ad h.1 δ0 d465 := by rw [e466]; exact cs_1_15 L i341 k_a0 (show 0 ≤ (0 : Int) by omega) (show (0 : Int) ≤ 1 by omega)
          have u468 := kp_I u342 e466
          have v469 : q_V d465 = q_V δ := (show q_V d465 = q_V d339 by rw [e466]; rfl).trans v343
          have f470 := cb_1_15 i467 k_a0
          have f471 : (q_I d465 1 15 a0).toInt = (0 : Int) := congrArg Int32.toInt (show q_I d465 1 15 a0 = (0 : Int32) by rw [e466]; exact rI_s)
          refine ok_ite (fun h472 => ?_) (fun h472 => ?_)
          · have c473 : (q_I d465 1 15 a0).toInt = (0 : Int) := o_eq h472
            refine ok_at o11 ?_
            refine ok_bind (k_X5_lowerBits L hN (a0 := b10) (x1 := (q_I d465 1 6 a0)) k12 i467) (fun r474 hr475 => ?_)
            obtain ⟨i476, p477⟩ := hr475
            try rw [i476]
            have f478 := ti_b (q_I d465 1 6 a0)
            have f479 : (q_I d465 1 6 a0).toInt = (q_I d339 1 6 a0).toInt := congrArg Int32.toInt (by rw [e466]; exact rI_o (by decide))
            have f480 := ti_b (q_I d339 1 6 a0)
            have f481 : (q_I d339 1 6 a0).toInt = (q_I d319 1 6 a0).toInt := congrArg Int32.toInt (by rw [e340]; exact rI_o (by decide))
            have f482 := ti_b (q_I d319 1 6 a0)
            have f483 : (q_I d319 1 6 a0).toInt = (q_I d302 1 6 a0).toInt := congrArg Int32.toInt (by rw [e320]; exact rI_o (by decide))
            have f484 := ti_b (q_I d302 1 6 a0)
            have f485 : (q_I d302 1 6 a0).toInt = (q_I δ 1 6 a0).toInt := congrArg Int32.toInt (by rw [e303]; exact rI_o (by decide))
            have f486 := ti_b r474.1
            have f487 := ti_b r474.1
            refine ok_bdv (fun d488 e489 => ?_)
            have i490 : CI ad h.1 δ0 d488 := by rw [e489]; exact cs_1_7 L i467
            have u491 := kp_I u468 e489
            have v492 : q_V d488 = q_V δ := (show q_V d488 = q_V d465 by rw [e489]; rfl).trans v469
            have f495 := ti_b (q_I d488 1 3 a0)
            have f496 : (q_I d488 1 3 a0).toInt = (q_I d465 1 3 a0).toInt := congrArg Int32.toInt (by rw [e489]; exact rI_o (by decide))
            have f497 := ti_b (q_I d465 1 3 a0)
            have f498 : (q_I d465 1 3 a0).toInt = (q_I d339 1 3 a0).toInt := congrArg Int32.toInt (by rw [e466]; exact rI_o (by decide))
            have f499 := ti_b (q_I d339 1 3 a0)
            have f500 : (q_I d339 1 3 a0).toInt = (q_I d319 1 3 a0).toInt := congrArg Int32.toInt (by rw [e340]; exact rI_o (by decide))
            have f501 := ti_b (q_I d319 1 3 a0)
            have f502 : (q_I d319 1 3 a0).toInt = (q_I d302 1 3 a0).toInt := congrArg Int32.toInt (by rw [e320]; exact rI_o (by decide))
            first | (have q504 := te_addc (c := 1) (n := 1) rfl (q_I d488 1 3 a0) (by omega) (by omega); obtain ⟨f505, f506, f507⟩ := q504) | (obtain ⟨q504, f505, f506, f507⟩ := ti_addc (c := 1) (n := 1) rfl (q_I d488 1 3 a0))
            have f508 := ti_b (q_I d488 1 4 a0)
            have f509 : (q_I d488 1 4 a0).toInt = (q_I d465 1 4 a0).toInt := congrArg Int32.toInt (by rw [e489]; exact rI_o (by decide))
            have f510 := ti_b (q_I d465 1 4 a0)
            have f511 : (q_I d465 1 4 a0).toInt = (q_I d339 1 4 a0).toInt := congrArg Int32.toInt (by rw [e466]; exact rI_o (by decide))
            have f512 := ti_b (q_I d339 1 4 a0)
            have f513 : (q_I d339 1 4 a0).toInt = (q_I d319 1 4 a0).toInt := congrArg Int32.toInt (by rw [e340]; exact rI_o (by decide))
            have f514 := cb_3_1 i490 knu o4
            have f515 : (q_I d488 3 1 nu).toInt = (q_I d465 3 1 nu).toInt := congrArg Int32.toInt (by rw [e489]; exact rI_o (by decide))
            have f516 := cb_3_1 i467 knu o4
            have f517 : (q_I d465 3 1 nu).toInt = (q_I d339 3 1 nu).toInt := congrArg Int32.toInt (by rw [e466]; exact rI_o (by decide))
            have f518 := cb_3_1 i341 knu o4
            have f519 : (q_I d339 3 1 nu).toInt = (q_I d319 3 1 nu).toInt := congrArg Int32.toInt (by rw [e340]; exact rI_o (by decide))
            refine ok_bind (k_X1_firstFrom L hN (a0 := a0) (x1 := ((q_I d488 1 3 a0) + (1 : Int32))) (x2 := (q_I d488 1 4 a0)) (x3 := ((q_I d488 1 9 a0) + (1 : Int32))) k_a0 hnu knu (show 0 ≤ (((q_I d488 1 3 a0) + (1 : Int32))).toInt by first | assumption | omega) (show (((q_I d488 1 3 a0) + (1 : Int32))).toInt ≤ ((q_I d488 1 4 a0)).toInt by first | assumption | omega) (show ((q_I d488 1 4 a0)).toInt ≤ (q_I d488 3 1 nu).toInt by first | assumption | omega) i490) (fun r493 hr494 => ?_)
            obtain ⟨i520, p521, p522⟩ := hr494
            try rw [i520]
            have f523 := ti_b r493.1
            have f524 := ti_b r493.1
            refine ok_bdv (fun d525 e526 => ?_)
            have i527 : CI ad h.1 δ0 d525 := by rw [e526]; exact cs_1_11 L i490
            have u528 := kp_I u491 e526
            have v529 : q_V d525 = q_V δ := (show q_V d525 = q_V d488 by rw [e526]; rfl).trans v492
            have f532 := ti_b (q_I d525 1 11 a0)
            have f533 : (q_I d525 1 11 a0).toInt = r493.1.toInt := congrArg Int32.toInt (show q_I d525 1 11 a0 = r493.1 by rw [e526]; exact rI_s)
            have f534 := ti_b (q_I d525 1 4 a0)
            have f535 : (q_I d525 1 4 a0).toInt = (q_I d488 1 4 a0).toInt := congrArg Int32.toInt (by rw [e526]; exact rI_o (by decide))
            have f536 := cb_3_1 i527 knu o4
            have f537 : (q_I d525 3 1 nu).toInt = (q_I d488 3 1 nu).toInt := congrArg Int32.toInt (by rw [e526]; exact rI_o (by decide))
            refine ok_bind (k_X1_firstFrom L hN (a0 := a0) (x1 := (q_I d525 1 11 a0)) (x2 := (q_I d525 1 4 a0)) (x3 := (q_I d525 1 10 a0)) k_a0 hnu knu (show 0 ≤ ((q_I d525 1 11 a0)).toInt by first | assumption | omega) (show ((q_I d525 1 11 a0)).toInt ≤ ((q_I d525 1 4 a0)).toInt by first | assumption | omega) (show ((q_I d525 1 4 a0)).toInt ≤ (q_I d525 3 1 nu).toInt by first | assumption | omega) i527) (fun r530 hr531 => ?_)
            obtain ⟨i538, p539, p540⟩ := hr531
            try rw [i538]
            have f541 := ti_b r530.1
            have f542 := ti_b r530.1
            refine ok_bdv (fun d543 e544 => ?_)
            have i545 : CI ad h.1 δ0 d543 := by rw [e544]; exact cs_1_12 L i527
            have u546 := kp_I u528 e544
            have v547 : q_V d543 = q_V δ := (show q_V d543 = q_V d525 by rw [e544]; rfl).trans v529
            unfold J_X1_look_154
            have f548 := cb_1_15 i545 k_a0
            have f549 : (q_I d543 1 15 a0).toInt = (q_I d525 1 15 a0).toInt := congrArg Int32.toInt (by rw [e544]; exact rI_o (by decide))
            have f550 := cb_1_15 i527 k_a0
            have f551 : (q_I d525 1 15 a0).toInt = (q_I d488 1 15 a0).toInt := congrArg Int32.toInt (by rw [e526]; exact rI_o (by decide))
            have f552 := cb_1_15 i490 k_a0
            have f553 : (q_I d488 1 15 a0).toInt = (q_I d465 1 15 a0).toInt := congrArg Int32.toInt (by rw [e489]; exact rI_o (by decide))
            have f554 := ti_b (q_I d543 1 11 a0)
            have f555 : (q_I d543 1 11 a0).toInt = (q_I d525 1 11 a0).toInt := congrArg Int32.toInt (by rw [e544]; exact rI_o (by decide))
            have f556 := ti_b (q_I d543 1 12 a0)
            have f557 : (q_I d543 1 12 a0).toInt = r530.1.toInt := congrArg Int32.toInt (show q_I d543 1 12 a0 = r530.1 by rw [e544]; exact rI_s)
            exact ok_some (show CI ad h.1 δ0 d543 ∧ (kp [(1, 7), (1, 9), (1, 10), (1, 11), (1, 12), (1, 15)] δ d543 ∧ q_V d543 = q_V δ) ∧ ((q_I d543 1 15 a0).toInt = 0 → 0 ≤ (q_I d543 1 11 a0).toInt ∧ (q_I d543 1 11 a0).toInt ≤ (q_I d543 1 12 a0).toInt ∧ (q_I d543 1 12 a0).toInt ≤ (q_I δ 3 1 nu).toInt) from ⟨i545, ⟨kp_w (by decide) u546, v547⟩, by first | assumption | omega⟩)
          · have c558 : (q_I d465 1 15 a0).toInt ≠ (0 : Int) := o_ne h472
            unfold J_X1_look_154
            have f559 := ti_b (q_I d465 1 11 a0)
            have f560 : (q_I d465 1 11 a0).toInt = (q_I d339 1 11 a0).toInt := congrArg Int32.toInt (by rw [e466]; exact rI_o (by decide))
            have f561 := ti_b (q_I d339 1 11 a0)
            have f562 : (q_I d339 1 11 a0).toInt = (q_I d319 1 11 a0).toInt := congrArg Int32.toInt (by rw [e340]; exact rI_o (by decide))
            have f563 := ti_b (q_I d319 1 11 a0)
            have f564 : (q_I d319 1 11 a0).toInt = (q_I d302 1 11 a0).toInt := congrArg Int32.toInt (by rw [e320]; exact rI_o (by decide))
            have f565 := ti_b (q_I d302 1 11 a0)
            have f566 : (q_I d302 1 11 a0).toInt = (q_I δ 1 11 a0).toInt := congrArg Int32.toInt (by rw [e303]; exact rI_o (by decide))
            have f567 := ti_b (q_I δ 1 11 a0)
            have f568 := ti_b (q_I d465 1 12 a0)
            have f569 : (q_I d465 1 12 a0).toInt = (q_I d339 1 12 a0).toInt := congrArg Int32.toInt (by rw [e466]; exact rI_o (by decide))
            have f570 := ti_b (q_I d339 1 12 a0)
            have f571 : (q_I d339 1 12 a0).toInt = (q_I d319 1 12 a0).toInt := congrArg Int32.toInt (by rw [e340]; exact rI_o (by decide))
            have f572 := ti_b (q_I d319 1 12 a0)
            have f573 : (q_I d319 1 12 a0).toInt = (q_I d302 1 12 a0).toInt := congrArg Int32.toInt (by rw [e320]; exact rI_o (by decide))
            have f574 := ti_b (q_I d302 1 12 a0)
            have f575 : (q_I d302 1 12 a0).toInt = (q_I δ 1 12 a0).toInt := congrArg Int32.toInt (by rw [e303]; exact rI_o (by decide))
            have f576 := ti_b (q_I δ 1 12 a0)
            exact ok_some (show CI ad h.1 δ0 d465 ∧ (kp [(1, 7), (1, 9), (1, 10), (1, 11), (1, 12), (1, 15)] δ d465 ∧ q_V d465 = q_V δ) ∧ ((q_I d465 1 15 a0).toInt = 0 → 0 ≤ (q_I d465 1 11 a0).toInt ∧ (q_I d465 1 11 a0).toInt ≤ (q_I d465 1 12 a0).toInt ∧ (q_I d465 1 12 a0).toInt ≤ (q_I δ 3 1 nu).toInt) from ⟨i467, ⟨kp_w (by decide) u468, v469⟩, by first | assumption | omega⟩)
      · have c577 : (q_I d302 1 15 a0).toInt ≠ (0 : Int) := o_ne h309
        have f578 := ti_b (q_I d302 1 11 a0)
        have f579 : (q_I d302 1 11 a0).toInt = (q_I δ 1 11 a0).toInt := congrArg Int32.toInt (by rw [e303]; exact rI_o (by decide))
        have f580 := ti_b (q_I δ 1 11 a0)
        have f581 := ti_b (q_I d302 1 12 a0)
        have f582 : (q_I d302 1 12 a0).toInt = (q_I δ 1 12 a0).toInt := congrArg Int32.toInt (by rw [e303]; exact rI_o (by decide))
        have f583 := ti_b (q_I δ 1 12 a0)
        exact ok_some (show CI ad h.1 δ0 d302 ∧ (kp [(1, 7), (1, 9), (1, 10), (1, 11), (1, 12), (1, 15)] δ d302 ∧ q_V d302 = q_V δ) ∧ ((q_I d302 1 15 a0).toInt = 0 → 0 ≤ (q_I d302 1 11 a0).toInt ∧ (q_I d302 1 11 a0).toInt ≤ (q_I d302 1 12 a0).toInt ∧ (q_I d302 1 12 a0).toInt ≤ (q_I δ 3 1 nu).toInt) from ⟨i304, ⟨kp_w (by decide) u305, v306⟩, by first | assumption | omega⟩)
    · have c584 : (q_I δ 1 4 a0).toInt ≤ (q_I δ 1 3 a0).toInt := o_nlt h300
      unfold J_X1_look_26
      unfold J_X1_look_31
      refine ok_gp (by decide) ?_
      refine ok_bdv (fun d585 e586 => ?_)
      have i587 : CI ad h.1 δ0 d585 := by rw [e586]; exact cs_1_15 L I k_a0 (show 0 ≤ (1 : Int) by omega) (show (1 : Int) ≤ 1 by omega)
      have u588 := kp_I kp_r e586
      have v589 : q_V d585 = q_V δ := (show q_V d585 = q_V δ by rw [e586]; rfl).trans rfl
      have f590 := cb_1_15 i587 k_a0
      have f591 : (q_I d585 1 15 a0).toInt = (1 : Int) := congrArg Int32.toInt (show q_I d585 1 15 a0 = (1 : Int32) by rw [e586]; exact rI_s)
      refine ok_ite (fun h592 => ?_) (fun h592 => ?_)
      · have c593 : (q_I d585 1 15 a0).toInt = (0 : Int) := o_eq h592
        have f596 := ti_b (q_I d585 1 3 a0)
        have f597 : (q_I d585 1 3 a0).toInt = (q_I δ 1 3 a0).toInt := congrArg Int32.toInt (by rw [e586]; exact rI_o (by decide))
        have f598 := cb_3_1 i587 knu o4
        have f599 : (q_I d585 3 1 nu).toInt = (q_I δ 3 1 nu).toInt := congrArg Int32.toInt (by rw [e586]; exact rI_o (by decide))
        refine ok_bind (k_X1_valueAt L hN (a0 := a0) (x1 := (q_I d585 1 3 a0)) k_a0 hnu knu (show 0 ≤ ((q_I d585 1 3 a0)).toInt by first | assumption | omega) (show ((q_I d585 1 3 a0)).toInt < (q_I d585 3 1 nu).toInt by first | assumption | omega) i587) (fun r594 hr595 => ?_)
        have i600 := hr595
        try rw [i600]
        have f601 := ti_b r594.1
        refine ok_bdv (fun d602 e603 => ?_)
        have i604 : CI ad h.1 δ0 d602 := by rw [e603]; exact cs_1_9 L i587
        have u605 := kp_I u588 e603
        have v606 : q_V d602 = q_V δ := (show q_V d602 = q_V d585 by rw [e603]; rfl).trans v589
        have f609 := ti_b (q_I d602 1 4 a0)
        have f610 : (q_I d602 1 4 a0).toInt = (q_I d585 1 4 a0).toInt := congrArg Int32.toInt (by rw [e603]; exact rI_o (by decide))
        have f611 := ti_b (q_I d585 1 4 a0)
        have f612 : (q_I d585 1 4 a0).toInt = (q_I δ 1 4 a0).toInt := congrArg Int32.toInt (by rw [e586]; exact rI_o (by decide))
        first | (have q614 := te_subc (c := 1) (n := 1) rfl (q_I d602 1 4 a0) (by omega) (by omega); obtain ⟨f615, f616, f617⟩ := q614) | (obtain ⟨q614, f615, f616, f617⟩ := ti_subc (c := 1) (n := 1) rfl (q_I d602 1 4 a0))
        have f618 := cb_3_1 i604 knu o4
        have f619 : (q_I d602 3 1 nu).toInt = (q_I d585 3 1 nu).toInt := congrArg Int32.toInt (by rw [e603]; exact rI_o (by decide))
        refine ok_bind (k_X1_valueAt L hN (a0 := a0) (x1 := ((q_I d602 1 4 a0) - (1 : Int32))) k_a0 hnu knu (show 0 ≤ (((q_I d602 1 4 a0) - (1 : Int32))).toInt by first | assumption | omega) (show (((q_I d602 1 4 a0) - (1 : Int32))).toInt < (q_I d602 3 1 nu).toInt by first | assumption | omega) i604) (fun r607 hr608 => ?_)
        have i620 := hr608
        try rw [i620]
        have f621 := ti_b r607.1
        refine ok_bdv (fun d622 e623 => ?_)
        have i624 : CI ad h.1 δ0 d622 := by rw [e623]; exact cs_1_10 L i604
        have u625 := kp_I u605 e623
        have v626 : q_V d622 = q_V δ := (show q_V d622 = q_V d602 by rw [e623]; rfl).trans v606
        have f627 := ti_b (q_I d622 1 9 a0)
        have f628 : (q_I d622 1 9 a0).toInt = (q_I d602 1 9 a0).toInt := congrArg Int32.toInt (by rw [e623]; exact rI_o (by decide))
        have f629 := ti_b (q_I d602 1 9 a0)
        have f630 : (q_I d602 1 9 a0).toInt = r594.1.toInt := congrArg Int32.toInt (show q_I d602 1 9 a0 = r594.1 by rw [e603]; exact rI_s)
        have f631 := ti_b (q_I d622 1 10 a0)
        have f632 : (q_I d622 1 10 a0).toInt = r607.1.toInt := congrArg Int32.toInt (show q_I d622 1 10 a0 = r607.1 by rw [e623]; exact rI_s)
        refine ok_ite (fun h633 => ?_) (fun h633 => ?_)
        · have c634 : (q_I d622 1 9 a0).toInt = (q_I d622 1 10 a0).toInt := o_eq h633
          unfold J_X1_look_85
          refine ok_gp (by decide) ?_
          refine ok_bdv (fun d635 e636 => ?_)
          have i637 : CI ad h.1 δ0 d635 := by rw [e636]; exact cs_1_15 L i624 k_a0 (show 0 ≤ (1 : Int) by omega) (show (1 : Int) ≤ 1 by omega)
          have u638 := kp_I u625 e636
          have v639 : q_V d635 = q_V δ := (show q_V d635 = q_V d622 by rw [e636]; rfl).trans v626
          have f640 := cb_1_15 i637 k_a0
          have f641 : (q_I d635 1 15 a0).toInt = (1 : Int) := congrArg Int32.toInt (show q_I d635 1 15 a0 = (1 : Int32) by rw [e636]; exact rI_s)
          refine ok_ite (fun h642 => ?_) (fun h642 => ?_)
          · have c643 : (q_I d635 1 15 a0).toInt = (0 : Int) := o_eq h642
            refine ok_at o11 ?_
            refine ok_bind (k_X5_lowerBits L hN (a0 := b10) (x1 := (q_I d635 1 6 a0)) k12 i637) (fun r644 hr645 => ?_)
            obtain ⟨i646, p647⟩ := hr645
            try rw [i646]
            have f648 := ti_b (q_I d635 1 6 a0)
            have f649 : (q_I d635 1 6 a0).toInt = (q_I d622 1 6 a0).toInt := congrArg Int32.toInt (by rw [e636]; exact rI_o (by decide))
            have f650 := ti_b (q_I d622 1 6 a0)
            have f651 : (q_I d622 1 6 a0).toInt = (q_I d602 1 6 a0).toInt := congrArg Int32.toInt (by rw [e623]; exact rI_o (by decide))
            have f652 := ti_b (q_I d602 1 6 a0)
            have f653 : (q_I d602 1 6 a0).toInt = (q_I d585 1 6 a0).toInt := congrArg Int32.toInt (by rw [e603]; exact rI_o (by decide))
            have f654 := ti_b (q_I d585 1 6 a0)
            have f655 : (q_I d585 1 6 a0).toInt = (q_I δ 1 6 a0).toInt := congrArg Int32.toInt (by rw [e586]; exact rI_o (by decide))
            have f656 := ti_b r644.1
            have f657 := ti_b r644.1
            refine ok_bdv (fun d658 e659 => ?_)
            have i660 : CI ad h.1 δ0 d658 := by rw [e659]; exact cs_1_7 L i637
            have u661 := kp_I u638 e659
            have v662 : q_V d658 = q_V δ := (show q_V d658 = q_V d635 by rw [e659]; rfl).trans v639
            have f665 := ti_b (q_I d658 1 3 a0)
            have f666 : (q_I d658 1 3 a0).toInt = (q_I d635 1 3 a0).toInt := congrArg Int32.toInt (by rw [e659]; exact rI_o (by decide))
            have f667 := ti_b (q_I d635 1 3 a0)
            have f668 : (q_I d635 1 3 a0).toInt = (q_I d622 1 3 a0).toInt := congrArg Int32.toInt (by rw [e636]; exact rI_o (by decide))
            have f669 := ti_b (q_I d622 1 3 a0)
            have f670 : (q_I d622 1 3 a0).toInt = (q_I d602 1 3 a0).toInt := congrArg Int32.toInt (by rw [e623]; exact rI_o (by decide))
            have f671 := ti_b (q_I d602 1 3 a0)
            have f672 : (q_I d602 1 3 a0).toInt = (q_I d585 1 3 a0).toInt := congrArg Int32.toInt (by rw [e603]; exact rI_o (by decide))
            first | (have q674 := te_addc (c := 1) (n := 1) rfl (q_I d658 1 3 a0) (by omega) (by omega); obtain ⟨f675, f676, f677⟩ := q674) | (obtain ⟨q674, f675, f676, f677⟩ := ti_addc (c := 1) (n := 1) rfl (q_I d658 1 3 a0))
            have f678 := ti_b (q_I d658 1 4 a0)
            have f679 : (q_I d658 1 4 a0).toInt = (q_I d635 1 4 a0).toInt := congrArg Int32.toInt (by rw [e659]; exact rI_o (by decide))
            have f680 := ti_b (q_I d635 1 4 a0)
            have f681 : (q_I d635 1 4 a0).toInt = (q_I d622 1 4 a0).toInt := congrArg Int32.toInt (by rw [e636]; exact rI_o (by decide))
            have f682 := ti_b (q_I d622 1 4 a0)
            have f683 : (q_I d622 1 4 a0).toInt = (q_I d602 1 4 a0).toInt := congrArg Int32.toInt (by rw [e623]; exact rI_o (by decide))
            have f684 := cb_3_1 i660 knu o4
            have f685 : (q_I d658 3 1 nu).toInt = (q_I d635 3 1 nu).toInt := congrArg Int32.toInt (by rw [e659]; exact rI_o (by decide))
            have f686 := cb_3_1 i637 knu o4
            have f687 : (q_I d635 3 1 nu).toInt = (q_I d622 3 1 nu).toInt := congrArg Int32.toInt (by rw [e636]; exact rI_o (by decide))
            have f688 := cb_3_1 i624 knu o4
            have f689 : (q_I d622 3 1 nu).toInt = (q_I d602 3 1 nu).toInt := congrArg Int32.toInt (by rw [e623]; exact rI_o (by decide))
            refine ok_bind (k_X1_firstFrom L hN (a0 := a0) (x1 := ((q_I d658 1 3 a0) + (1 : Int32))) (x2 := (q_I d658 1 4 a0)) (x3 := ((q_I d658 1 9 a0) + (1 : Int32))) k_a0 hnu knu (show 0 ≤ (((q_I d658 1 3 a0) + (1 : Int32))).toInt by first | assumption | omega) (show (((q_I d658 1 3 a0) + (1 : Int32))).toInt ≤ ((q_I d658 1 4 a0)).toInt by first | assumption | omega) (show ((q_I d658 1 4 a0)).toInt ≤ (q_I d658 3 1 nu).toInt by first | assumption | omega) i660) (fun r663 hr664 => ?_)
            obtain ⟨i690, p691, p692⟩ := hr664
            try rw [i690]
            have f693 := ti_b r663.1
            have f694 := ti_b r663.1
            refine ok_bdv (fun d695 e696 => ?_)
            have i697 : CI ad h.1 δ0 d695 := by rw [e696]; exact cs_1_11 L i660
            have u698 := kp_I u661 e696
            have v699 : q_V d695 = q_V δ := (show q_V d695 = q_V d658 by rw [e696]; rfl).trans v662
            have f702 := ti_b (q_I d695 1 11 a0)
            have f703 : (q_I d695 1 11 a0).toInt = r663.1.toInt := congrArg Int32.toInt (show q_I d695 1 11 a0 = r663.1 by rw [e696]; exact rI_s)
            have f704 := ti_b (q_I d695 1 4 a0)
            have f705 : (q_I d695 1 4 a0).toInt = (q_I d658 1 4 a0).toInt := congrArg Int32.toInt (by rw [e696]; exact rI_o (by decide))
            have f706 := cb_3_1 i697 knu o4
            have f707 : (q_I d695 3 1 nu).toInt = (q_I d658 3 1 nu).toInt := congrArg Int32.toInt (by rw [e696]; exact rI_o (by decide))
            refine ok_bind (k_X1_firstFrom L hN (a0 := a0) (x1 := (q_I d695 1 11 a0)) (x2 := (q_I d695 1 4 a0)) (x3 := (q_I d695 1 10 a0)) k_a0 hnu knu (show 0 ≤ ((q_I d695 1 11 a0)).toInt by first | assumption | omega) (show ((q_I d695 1 11 a0)).toInt ≤ ((q_I d695 1 4 a0)).toInt by first | assumption | omega) (show ((q_I d695 1 4 a0)).toInt ≤ (q_I d695 3 1 nu).toInt by first | assumption | omega) i697) (fun r700 hr701 => ?_)
            obtain ⟨i708, p709, p710⟩ := hr701
            try rw [i708]
            have f711 := ti_b r700.1
            have f712 := ti_b r700.1
            refine ok_bdv (fun d713 e714 => ?_)
            have i715 : CI ad h.1 δ0 d713 := by rw [e714]; exact cs_1_12 L i697
            have u716 := kp_I u698 e714
            have v717 : q_V d713 = q_V δ := (show q_V d713 = q_V d695 by rw [e714]; rfl).trans v699
            unfold J_X1_look_154
            have f718 := cb_1_15 i715 k_a0
            have f719 : (q_I d713 1 15 a0).toInt = (q_I d695 1 15 a0).toInt := congrArg Int32.toInt (by rw [e714]; exact rI_o (by decide))
            have f720 := cb_1_15 i697 k_a0
            have f721 : (q_I d695 1 15 a0).toInt = (q_I d658 1 15 a0).toInt := congrArg Int32.toInt (by rw [e696]; exact rI_o (by decide))
            have f722 := cb_1_15 i660 k_a0
            have f723 : (q_I d658 1 15 a0).toInt = (q_I d635 1 15 a0).toInt := congrArg Int32.toInt (by rw [e659]; exact rI_o (by decide))
            have f724 := ti_b (q_I d713 1 11 a0)
            have f725 : (q_I d713 1 11 a0).toInt = (q_I d695 1 11 a0).toInt := congrArg Int32.toInt (by rw [e714]; exact rI_o (by decide))
            have f726 := ti_b (q_I d713 1 12 a0)
            have f727 : (q_I d713 1 12 a0).toInt = r700.1.toInt := congrArg Int32.toInt (show q_I d713 1 12 a0 = r700.1 by rw [e714]; exact rI_s)
            exact ok_some (show CI ad h.1 δ0 d713 ∧ (kp [(1, 7), (1, 9), (1, 10), (1, 11), (1, 12), (1, 15)] δ d713 ∧ q_V d713 = q_V δ) ∧ ((q_I d713 1 15 a0).toInt = 0 → 0 ≤ (q_I d713 1 11 a0).toInt ∧ (q_I d713 1 11 a0).toInt ≤ (q_I d713 1 12 a0).toInt ∧ (q_I d713 1 12 a0).toInt ≤ (q_I δ 3 1 nu).toInt) from ⟨i715, ⟨kp_w (by decide) u716, v717⟩, by first | assumption | omega⟩)
          · have c728 : (q_I d635 1 15 a0).toInt ≠ (0 : Int) := o_ne h642
            unfold J_X1_look_154
            have f729 := ti_b (q_I d635 1 11 a0)
            have f730 : (q_I d635 1 11 a0).toInt = (q_I d622 1 11 a0).toInt := congrArg Int32.toInt (by rw [e636]; exact rI_o (by decide))
            have f731 := ti_b (q_I d622 1 11 a0)
            have f732 : (q_I d622 1 11 a0).toInt = (q_I d602 1 11 a0).toInt := congrArg Int32.toInt (by rw [e623]; exact rI_o (by decide))
            have f733 := ti_b (q_I d602 1 11 a0)
            have f734 : (q_I d602 1 11 a0).toInt = (q_I d585 1 11 a0).toInt := congrArg Int32.toInt (by rw [e603]; exact rI_o (by decide))
            have f735 := ti_b (q_I d585 1 11 a0)
            have f736 : (q_I d585 1 11 a0).toInt = (q_I δ 1 11 a0).toInt := congrArg Int32.toInt (by rw [e586]; exact rI_o (by decide))
            have f737 := ti_b (q_I δ 1 11 a0)
            have f738 := ti_b (q_I d635 1 12 a0)
            have f739 : (q_I d635 1 12 a0).toInt = (q_I d622 1 12 a0).toInt := congrArg Int32.toInt (by rw [e636]; exact rI_o (by decide))
            have f740 := ti_b (q_I d622 1 12 a0)
            have f741 : (q_I d622 1 12 a0).toInt = (q_I d602 1 12 a0).toInt := congrArg Int32.toInt (by rw [e623]; exact rI_o (by decide))
            have f742 := ti_b (q_I d602 1 12 a0)
            have f743 : (q_I d602 1 12 a0).toInt = (q_I d585 1 12 a0).toInt := congrArg Int32.toInt (by rw [e603]; exact rI_o (by decide))
            have f744 := ti_b (q_I d585 1 12 a0)
            have f745 : (q_I d585 1 12 a0).toInt = (q_I δ 1 12 a0).toInt := congrArg Int32.toInt (by rw [e586]; exact rI_o (by decide))
            have f746 := ti_b (q_I δ 1 12 a0)
            exact ok_some (show CI ad h.1 δ0 d635 ∧ (kp [(1, 7), (1, 9), (1, 10), (1, 11), (1, 12), (1, 15)] δ d635 ∧ q_V d635 = q_V δ) ∧ ((q_I d635 1 15 a0).toInt = 0 → 0 ≤ (q_I d635 1 11 a0).toInt ∧ (q_I d635 1 11 a0).toInt ≤ (q_I d635 1 12 a0).toInt ∧ (q_I d635 1 12 a0).toInt ≤ (q_I δ 3 1 nu).toInt) from ⟨i637, ⟨kp_w (by decide) u638, v639⟩, by first | assumption | omega⟩)
        · have c747 : (q_I d622 1 9 a0).toInt ≠ (q_I d622 1 10 a0).toInt := o_ne h633
          unfold J_X1_look_85
          refine ok_gp (by decide) ?_
          refine ok_bdv (fun d748 e749 => ?_)
          have i750 : CI ad h.1 δ0 d748 := by rw [e749]; exact cs_1_15 L i624 k_a0 (show 0 ≤ (0 : Int) by omega) (show (0 : Int) ≤ 1 by omega)
          have u751 := kp_I u625 e749
          have v752 : q_V d748 = q_V δ := (show q_V d748 = q_V d622 by rw [e749]; rfl).trans v626
          have f753 := cb_1_15 i750 k_a0
          have f754 : (q_I d748 1 15 a0).toInt = (0 : Int) := congrArg Int32.toInt (show q_I d748 1 15 a0 = (0 : Int32) by rw [e749]; exact rI_s)
          refine ok_ite (fun h755 => ?_) (fun h755 => ?_)
          · have c756 : (q_I d748 1 15 a0).toInt = (0 : Int) := o_eq h755
            refine ok_at o11 ?_
            refine ok_bind (k_X5_lowerBits L hN (a0 := b10) (x1 := (q_I d748 1 6 a0)) k12 i750) (fun r757 hr758 => ?_)
            obtain ⟨i759, p760⟩ := hr758
            try rw [i759]
            have f761 := ti_b (q_I d748 1 6 a0)
            have f762 : (q_I d748 1 6 a0).toInt = (q_I d622 1 6 a0).toInt := congrArg Int32.toInt (by rw [e749]; exact rI_o (by decide))
            have f763 := ti_b (q_I d622 1 6 a0)
            have f764 : (q_I d622 1 6 a0).toInt = (q_I d602 1 6 a0).toInt := congrArg Int32.toInt (by rw [e623]; exact rI_o (by decide))
            have f765 := ti_b (q_I d602 1 6 a0)
            have f766 : (q_I d602 1 6 a0).toInt = (q_I d585 1 6 a0).toInt := congrArg Int32.toInt (by rw [e603]; exact rI_o (by decide))
            have f767 := ti_b (q_I d585 1 6 a0)
            have f768 : (q_I d585 1 6 a0).toInt = (q_I δ 1 6 a0).toInt := congrArg Int32.toInt (by rw [e586]; exact rI_o (by decide))
            have f769 := ti_b r757.1
            have f770 := ti_b r757.1
            refine ok_bdv (fun d771 e772 => ?_)
            have i773 : CI ad h.1 δ0 d771 := by rw [e772]; exact cs_1_7 L i750
            have u774 := kp_I u751 e772
            have v775 : q_V d771 = q_V δ := (show q_V d771 = q_V d748 by rw [e772]; rfl).trans v752
            have f778 := ti_b (q_I d771 1 3 a0)
            have f779 : (q_I d771 1 3 a0).toInt = (q_I d748 1 3 a0).toInt := congrArg Int32.toInt (by rw [e772]; exact rI_o (by decide))
            have f780 := ti_b (q_I d748 1 3 a0)
            have f781 : (q_I d748 1 3 a0).toInt = (q_I d622 1 3 a0).toInt := congrArg Int32.toInt (by rw [e749]; exact rI_o (by decide))
            have f782 := ti_b (q_I d622 1 3 a0)
            have f783 : (q_I d622 1 3 a0).toInt = (q_I d602 1 3 a0).toInt := congrArg Int32.toInt (by rw [e623]; exact rI_o (by decide))
            have f784 := ti_b (q_I d602 1 3 a0)
            have f785 : (q_I d602 1 3 a0).toInt = (q_I d585 1 3 a0).toInt := congrArg Int32.toInt (by rw [e603]; exact rI_o (by decide))
            first | (have q787 := te_addc (c := 1) (n := 1) rfl (q_I d771 1 3 a0) (by omega) (by omega); obtain ⟨f788, f789, f790⟩ := q787) | (obtain ⟨q787, f788, f789, f790⟩ := ti_addc (c := 1) (n := 1) rfl (q_I d771 1 3 a0))
            have f791 := ti_b (q_I d771 1 4 a0)
            have f792 : (q_I d771 1 4 a0).toInt = (q_I d748 1 4 a0).toInt := congrArg Int32.toInt (by rw [e772]; exact rI_o (by decide))
            have f793 := ti_b (q_I d748 1 4 a0)
            have f794 : (q_I d748 1 4 a0).toInt = (q_I d622 1 4 a0).toInt := congrArg Int32.toInt (by rw [e749]; exact rI_o (by decide))
            have f795 := ti_b (q_I d622 1 4 a0)
            have f796 : (q_I d622 1 4 a0).toInt = (q_I d602 1 4 a0).toInt := congrArg Int32.toInt (by rw [e623]; exact rI_o (by decide))
            have f797 := cb_3_1 i773 knu o4
            have f798 : (q_I d771 3 1 nu).toInt = (q_I d748 3 1 nu).toInt := congrArg Int32.toInt (by rw [e772]; exact rI_o (by decide))
            have f799 := cb_3_1 i750 knu o4
            have f800 : (q_I d748 3 1 nu).toInt = (q_I d622 3 1 nu).toInt := congrArg Int32.toInt (by rw [e749]; exact rI_o (by decide))
            have f801 := cb_3_1 i624 knu o4
            have f802 : (q_I d622 3 1 nu).toInt = (q_I d602 3 1 nu).toInt := congrArg Int32.toInt (by rw [e623]; exact rI_o (by decide))
            refine ok_bind (k_X1_firstFrom L hN (a0 := a0) (x1 := ((q_I d771 1 3 a0) + (1 : Int32))) (x2 := (q_I d771 1 4 a0)) (x3 := ((q_I d771 1 9 a0) + (1 : Int32))) k_a0 hnu knu (show 0 ≤ (((q_I d771 1 3 a0) + (1 : Int32))).toInt by first | assumption | omega) (show (((q_I d771 1 3 a0) + (1 : Int32))).toInt ≤ ((q_I d771 1 4 a0)).toInt by first | assumption | omega) (show ((q_I d771 1 4 a0)).toInt ≤ (q_I d771 3 1 nu).toInt by first | assumption | omega) i773) (fun r776 hr777 => ?_)
            obtain ⟨i803, p804, p805⟩ := hr777
            try rw [i803]
            have f806 := ti_b r776.1
            have f807 := ti_b r776.1
            refine ok_bdv (fun d808 e809 => ?_)
            have i810 : CI ad h.1 δ0 d808 := by rw [e809]; exact cs_1_11 L i773
            have u811 := kp_I u774 e809
            have v812 : q_V d808 = q_V δ := (show q_V d808 = q_V d771 by rw [e809]; rfl).trans v775
            have f815 := ti_b (q_I d808 1 11 a0)
            have f816 : (q_I d808 1 11 a0).toInt = r776.1.toInt := congrArg Int32.toInt (show q_I d808 1 11 a0 = r776.1 by rw [e809]; exact rI_s)
            have f817 := ti_b (q_I d808 1 4 a0)
            have f818 : (q_I d808 1 4 a0).toInt = (q_I d771 1 4 a0).toInt := congrArg Int32.toInt (by rw [e809]; exact rI_o (by decide))
            have f819 := cb_3_1 i810 knu o4
            have f820 : (q_I d808 3 1 nu).toInt = (q_I d771 3 1 nu).toInt := congrArg Int32.toInt (by rw [e809]; exact rI_o (by decide))
            refine ok_bind (k_X1_firstFrom L hN (a0 := a0) (x1 := (q_I d808 1 11 a0)) (x2 := (q_I d808 1 4 a0)) (x3 := (q_I d808 1 10 a0)) k_a0 hnu knu (show 0 ≤ ((q_I d808 1 11 a0)).toInt by first | assumption | omega) (show ((q_I d808 1 11 a0)).toInt ≤ ((q_I d808 1 4 a0)).toInt by first | assumption | omega) (show ((q_I d808 1 4 a0)).toInt ≤ (q_I d808 3 1 nu).toInt by first | assumption | omega) i810) (fun r813 hr814 => ?_)
            obtain ⟨i821, p822, p823⟩ := hr814
            try rw [i821]
            have f824 := ti_b r813.1
            have f825 := ti_b r813.1
            refine ok_bdv (fun d826 e827 => ?_)
            have i828 : CI ad h.1 δ0 d826 := by rw [e827]; exact cs_1_12 L i810
            have u829 := kp_I u811 e827
            have v830 : q_V d826 = q_V δ := (show q_V d826 = q_V d808 by rw [e827]; rfl).trans v812
            unfold J_X1_look_154
            have f831 := cb_1_15 i828 k_a0
            have f832 : (q_I d826 1 15 a0).toInt = (q_I d808 1 15 a0).toInt := congrArg Int32.toInt (by rw [e827]; exact rI_o (by decide))
            have f833 := cb_1_15 i810 k_a0
            have f834 : (q_I d808 1 15 a0).toInt = (q_I d771 1 15 a0).toInt := congrArg Int32.toInt (by rw [e809]; exact rI_o (by decide))
            have f835 := cb_1_15 i773 k_a0
            have f836 : (q_I d771 1 15 a0).toInt = (q_I d748 1 15 a0).toInt := congrArg Int32.toInt (by rw [e772]; exact rI_o (by decide))
            have f837 := ti_b (q_I d826 1 11 a0)
            have f838 : (q_I d826 1 11 a0).toInt = (q_I d808 1 11 a0).toInt := congrArg Int32.toInt (by rw [e827]; exact rI_o (by decide))
            have f839 := ti_b (q_I d826 1 12 a0)
            have f840 : (q_I d826 1 12 a0).toInt = r813.1.toInt := congrArg Int32.toInt (show q_I d826 1 12 a0 = r813.1 by rw [e827]; exact rI_s)
            exact ok_some (show CI ad h.1 δ0 d826 ∧ (kp [(1, 7), (1, 9), (1, 10), (1, 11), (1, 12), (1, 15)] δ d826 ∧ q_V d826 = q_V δ) ∧ ((q_I d826 1 15 a0).toInt = 0 → 0 ≤ (q_I d826 1 11 a0).toInt ∧ (q_I d826 1 11 a0).toInt ≤ (q_I d826 1 12 a0).toInt ∧ (q_I d826 1 12 a0).toInt ≤ (q_I δ 3 1 nu).toInt) from ⟨i828, ⟨kp_w (by decide) u829, v830⟩, by first | assumption | omega⟩)
          · have c841 : (q_I d748 1 15 a0).toInt ≠ (0 : Int) := o_ne h755
            unfold J_X1_look_154
            have f842 := ti_b (q_I d748 1 11 a0)
            have f843 : (q_I d748 1 11 a0).toInt = (q_I d622 1 11 a0).toInt := congrArg Int32.toInt (by rw [e749]; exact rI_o (by decide))
            have f844 := ti_b (q_I d622 1 11 a0)
            have f845 : (q_I d622 1 11 a0).toInt = (q_I d602 1 11 a0).toInt := congrArg Int32.toInt (by rw [e623]; exact rI_o (by decide))
            have f846 := ti_b (q_I d602 1 11 a0)
            have f847 : (q_I d602 1 11 a0).toInt = (q_I d585 1 11 a0).toInt := congrArg Int32.toInt (by rw [e603]; exact rI_o (by decide))
            have f848 := ti_b (q_I d585 1 11 a0)
            have f849 : (q_I d585 1 11 a0).toInt = (q_I δ 1 11 a0).toInt := congrArg Int32.toInt (by rw [e586]; exact rI_o (by decide))
            have f850 := ti_b (q_I δ 1 11 a0)
            have f851 := ti_b (q_I d748 1 12 a0)
            have f852 : (q_I d748 1 12 a0).toInt = (q_I d622 1 12 a0).toInt := congrArg Int32.toInt (by rw [e749]; exact rI_o (by decide))
            have f853 := ti_b (q_I d622 1 12 a0)
            have f854 : (q_I d622 1 12 a0).toInt = (q_I d602 1 12 a0).toInt := congrArg Int32.toInt (by rw [e623]; exact rI_o (by decide))
            have f855 := ti_b (q_I d602 1 12 a0)
            have f856 : (q_I d602 1 12 a0).toInt = (q_I d585 1 12 a0).toInt := congrArg Int32.toInt (by rw [e603]; exact rI_o (by decide))
            have f857 := ti_b (q_I d585 1 12 a0)
            have f858 : (q_I d585 1 12 a0).toInt = (q_I δ 1 12 a0).toInt := congrArg Int32.toInt (by rw [e586]; exact rI_o (by decide))
            have f859 := ti_b (q_I δ 1 12 a0)
            exact ok_some (show CI ad h.1 δ0 d748 ∧ (kp [(1, 7), (1, 9), (1, 10), (1, 11), (1, 12), (1, 15)] δ d748 ∧ q_V d748 = q_V δ) ∧ ((q_I d748 1 15 a0).toInt = 0 → 0 ≤ (q_I d748 1 11 a0).toInt ∧ (q_I d748 1 11 a0).toInt ≤ (q_I d748 1 12 a0).toInt ∧ (q_I d748 1 12 a0).toInt ≤ (q_I δ 3 1 nu).toInt) from ⟨i750, ⟨kp_w (by decide) u751, v752⟩, by first | assumption | omega⟩)
      · have c860 : (q_I d585 1 15 a0).toInt ≠ (0 : Int) := o_ne h592
        have f861 := ti_b (q_I d585 1 11 a0)
        have f862 : (q_I d585 1 11 a0).toInt = (q_I δ 1 11 a0).toInt := congrArg Int32.toInt (by rw [e586]; exact rI_o (by decide))
        have f863 := ti_b (q_I δ 1 11 a0)
        have f864 := ti_b (q_I d585 1 12 a0)
        have f865 : (q_I d585 1 12 a0).toInt = (q_I δ 1 12 a0).toInt := congrArg Int32.toInt (by rw [e586]; exact rI_o (by decide))
        have f866 := ti_b (q_I δ 1 12 a0)
        exact ok_some (show CI ad h.1 δ0 d585 ∧ (kp [(1, 7), (1, 9), (1, 10), (1, 11), (1, 12), (1, 15)] δ d585 ∧ q_V d585 = q_V δ) ∧ ((q_I d585 1 15 a0).toInt = 0 → 0 ≤ (q_I d585 1 11 a0).toInt ∧ (q_I d585 1 11 a0).toInt ≤ (q_I d585 1 12 a0).toInt ∧ (q_I d585 1 12 a0).toInt ≤ (q_I δ 3 1 nu).toInt) from ⟨i587, ⟨kp_w (by decide) u588, v589⟩, by first | assumption | omega⟩)
set_option maxHeartbeats 4000000 in
theorem k_X1_findRoom {ad : List Nat} {h : hp} (L : Lay TLx ad h) {δ0 : dp} {N : Nat} (hN : 10000000 ≤ N) {a0 : Nat} {x1 : Int32} {nu : Nat} (k_a0 : q_K h.1 a0 = 1) (hnu : q_O h.1 1 1 a0 = some nu) (knu : q_K h.1 nu = 3) {δ : dp} (z0 : 0 ≤ (q_I δ 1 11 a0).toInt) (z1 : (q_I δ 1 11 a0).toInt ≤ (q_I δ 1 12 a0).toInt) (z2 : (q_I δ 1 12 a0).toInt ≤ (q_I δ 3 1 nu).toInt) (I : CI ad h.1 δ0 δ) : ok (D_X1_findRoom N h.1 a0 x1 δ) (fun r => CI ad h.1 δ0 r.2 ∧ (kp [(1, 13), (1, 14)] δ r.2 ∧ q_V r.2 = q_V δ) ∧ bo (r.1) ∧ (q_I δ 1 11 a0).toInt ≤ (q_I r.2 1 13 a0).toInt ∧ (q_I r.2 1 13 a0).toInt ≤ (q_I r.2 1 14 a0).toInt ∧ (q_I r.2 1 14 a0).toInt ≤ (q_I δ 1 12 a0).toInt ∧ ((r.1).toInt = 1 → (q_I r.2 1 13 a0).toInt < (q_I r.2 1 14 a0).toInt)) := by
  unfold D_X1_findRoom
  have f1 := ti_b (q_I δ 1 11 a0)
  have f2 := ti_b (q_I δ 1 12 a0)
  obtain ⟨b3, o4, k5, ⟨n6, n7⟩, w8⟩ := gO_3_0 L knu
  have f9 := cb_3_1 I knu o4
  have f12 := ti_b ((x1 >>> ((q_I δ 1 7 a0) &&& 31)) <<< ((q_I δ 1 7 a0) &&& 31))
  refine ok_biv (fun vx10 e11 => ?_)
  have f13 : vx10.toInt = ((x1 >>> ((q_I δ 1 7 a0) &&& 31)) <<< ((q_I δ 1 7 a0) &&& 31)).toInt := congrArg Int32.toInt e11
  refine ok_bind (k_X1_firstFrom L hN (a0 := a0) (x1 := (q_I δ 1 11 a0)) (x2 := (q_I δ 1 12 a0)) (x3 := vx10) k_a0 hnu knu (show 0 ≤ ((q_I δ 1 11 a0)).toInt by first | assumption | omega) (show ((q_I δ 1 11 a0)).toInt ≤ ((q_I δ 1 12 a0)).toInt by first | assumption | omega) (show ((q_I δ 1 12 a0)).toInt ≤ (q_I δ 3 1 nu).toInt by first | assumption | omega) I) (fun r14 hr15 => ?_)
  obtain ⟨i16, p17, p18⟩ := hr15
  try rw [i16]
  have f19 := ti_b r14.1
  have f20 := ti_b r14.1
  refine ok_bdv (fun d21 e22 => ?_)
  have i23 : CI ad h.1 δ0 d21 := by rw [e22]; exact cs_1_13 L I
  have u24 := kp_I kp_r e22
  have v25 : q_V d21 = q_V δ := (show q_V d21 = q_V δ by rw [e22]; rfl).trans rfl
  have f28 := ti_b (q_I d21 1 13 a0)
  have f29 : (q_I d21 1 13 a0).toInt = r14.1.toInt := congrArg Int32.toInt (show q_I d21 1 13 a0 = r14.1 by rw [e22]; exact rI_s)
  have f30 := ti_b (q_I d21 1 12 a0)
  have f31 : (q_I d21 1 12 a0).toInt = (q_I δ 1 12 a0).toInt := congrArg Int32.toInt (by rw [e22]; exact rI_o (by decide))
  have f32 := cb_3_1 i23 knu o4
  have f33 : (q_I d21 3 1 nu).toInt = (q_I δ 3 1 nu).toInt := congrArg Int32.toInt (by rw [e22]; exact rI_o (by decide))
  refine ok_bind (k_X1_firstFrom L hN (a0 := a0) (x1 := (q_I d21 1 13 a0)) (x2 := (q_I d21 1 12 a0)) (x3 := (vx10 + ((1 : Int32) <<< ((q_I d21 1 7 a0) &&& 31)))) k_a0 hnu knu (show 0 ≤ ((q_I d21 1 13 a0)).toInt by first | assumption | omega) (show ((q_I d21 1 13 a0)).toInt ≤ ((q_I d21 1 12 a0)).toInt by first | assumption | omega) (show ((q_I d21 1 12 a0)).toInt ≤ (q_I d21 3 1 nu).toInt by first | assumption | omega) i23) (fun r26 hr27 => ?_)
  obtain ⟨i34, p35, p36⟩ := hr27
  try rw [i34]
  have f37 := ti_b r26.1
  have f38 := ti_b r26.1
  refine ok_bdv (fun d39 e40 => ?_)
  have i41 : CI ad h.1 δ0 d39 := by rw [e40]; exact cs_1_14 L i23
  have u42 := kp_I u24 e40
  have v43 : q_V d39 = q_V δ := (show q_V d39 = q_V d21 by rw [e40]; rfl).trans v25
  have f44 := ti_b (q_I d39 1 14 a0)
  have f45 : (q_I d39 1 14 a0).toInt = r26.1.toInt := congrArg Int32.toInt (show q_I d39 1 14 a0 = r26.1 by rw [e40]; exact rI_s)
  have f46 := ti_b (q_I d39 1 13 a0)
  have f47 : (q_I d39 1 13 a0).toInt = (q_I d21 1 13 a0).toInt := congrArg Int32.toInt (by rw [e40]; exact rI_o (by decide))
  refine ok_ite (fun h48 => ?_) (fun h48 => ?_)
  · have c49 : (q_I d39 1 14 a0).toInt ≤ (q_I d39 1 13 a0).toInt := o_le h48
    unfold J_X1_findRoom_69
    refine ok_gp (by decide) ?_
    exact ok_some (show CI ad h.1 δ0 d39 ∧ (kp [(1, 13), (1, 14)] δ d39 ∧ q_V d39 = q_V δ) ∧ bo ((0 : Int32)) ∧ (q_I δ 1 11 a0).toInt ≤ (q_I d39 1 13 a0).toInt ∧ (q_I d39 1 13 a0).toInt ≤ (q_I d39 1 14 a0).toInt ∧ (q_I d39 1 14 a0).toInt ≤ (q_I δ 1 12 a0).toInt ∧ ((0 : Int) = 1 → (q_I d39 1 13 a0).toInt < (q_I d39 1 14 a0).toInt) from ⟨i41, ⟨kp_w (by decide) u42, v43⟩, bo_0, by first | assumption | omega, by first | assumption | omega, by first | assumption | omega, by first | assumption | omega⟩)
  · have c50 : (q_I d39 1 13 a0).toInt < (q_I d39 1 14 a0).toInt := o_nle h48
    unfold J_X1_findRoom_69
    refine ok_gp (by decide) ?_
    exact ok_some (show CI ad h.1 δ0 d39 ∧ (kp [(1, 13), (1, 14)] δ d39 ∧ q_V d39 = q_V δ) ∧ bo ((1 : Int32)) ∧ (q_I δ 1 11 a0).toInt ≤ (q_I d39 1 13 a0).toInt ∧ (q_I d39 1 13 a0).toInt ≤ (q_I d39 1 14 a0).toInt ∧ (q_I d39 1 14 a0).toInt ≤ (q_I δ 1 12 a0).toInt ∧ ((1 : Int) = 1 → (q_I d39 1 13 a0).toInt < (q_I d39 1 14 a0).toInt) from ⟨i41, ⟨kp_w (by decide) u42, v43⟩, bo_1, by first | assumption | omega, by first | assumption | omega, by first | assumption | omega, by first | assumption | omega⟩)
set_option maxHeartbeats 4000000 in
theorem k_X1_enterRoom {ad : List Nat} {h : hp} (L : Lay TLx ad h) {δ0 : dp} {N : Nat} (hN : 10000000 ≤ N) {a0 : Nat} {x1 : Int32} (k_a0 : q_K h.1 a0 = 1) {δ : dp} (I : CI ad h.1 δ0 δ) : ok (D_X1_enterRoom N h.1 a0 x1 δ) (fun r => CI ad h.1 δ0 r ∧ (kp [(1, 3), (1, 4), (1, 6), (1, 8)] δ r ∧ q_V r = q_V δ) ∧ (q_I r 1 3 a0).toInt = (q_I δ 1 13 a0).toInt ∧ (q_I r 1 4 a0).toInt = (q_I δ 1 14 a0).toInt) := by
  unfold D_X1_enterRoom
  have f4 := ti_b (q_I δ 1 13 a0)
  refine ok_bdv (fun d1 e2 => ?_)
  have i3 : CI ad h.1 δ0 d1 := by rw [e2]; exact cs_1_3 L I
  have u5 := kp_I kp_r e2
  have v6 : q_V d1 = q_V δ := (show q_V d1 = q_V δ by rw [e2]; rfl).trans rfl
  have f10 := ti_b (q_I d1 1 14 a0)
  have f11 : (q_I d1 1 14 a0).toInt = (q_I δ 1 14 a0).toInt := congrArg Int32.toInt (by rw [e2]; exact rI_o (by decide))
  have f12 := ti_b (q_I δ 1 14 a0)
  refine ok_bdv (fun d7 e8 => ?_)
  have i9 : CI ad h.1 δ0 d7 := by rw [e8]; exact cs_1_4 L i3
  have u13 := kp_I u5 e8
  have v14 : q_V d7 = q_V δ := (show q_V d7 = q_V d1 by rw [e8]; rfl).trans v6
  have f18 := ti_b (q_I d7 1 7 a0)
  have f19 : (q_I d7 1 7 a0).toInt = (q_I d1 1 7 a0).toInt := congrArg Int32.toInt (by rw [e8]; exact rI_o (by decide))
  have f20 := ti_b (q_I d1 1 7 a0)
  have f21 : (q_I d1 1 7 a0).toInt = (q_I δ 1 7 a0).toInt := congrArg Int32.toInt (by rw [e2]; exact rI_o (by decide))
  have f22 := ti_b (q_I δ 1 7 a0)
  refine ok_bdv (fun d15 e16 => ?_)
  have i17 : CI ad h.1 δ0 d15 := by rw [e16]; exact cs_1_6 L i9
  have u23 := kp_I u13 e16
  have v24 : q_V d15 = q_V δ := (show q_V d15 = q_V d7 by rw [e16]; rfl).trans v14
  have f28 := ti_b (x1 &&& (((1 : Int32) <<< ((q_I d15 1 7 a0) &&& 31)) - (1 : Int32)))
  refine ok_bdv (fun d25 e26 => ?_)
  have i27 : CI ad h.1 δ0 d25 := by rw [e26]; exact cs_1_8 L i17
  have u29 := kp_I u23 e26
  have v30 : q_V d25 = q_V δ := (show q_V d25 = q_V d15 by rw [e26]; rfl).trans v24
  have f31 := ti_b (q_I d25 1 3 a0)
  have f32 : (q_I d25 1 3 a0).toInt = (q_I d15 1 3 a0).toInt := congrArg Int32.toInt (by rw [e26]; exact rI_o (by decide))
  have f33 := ti_b (q_I d15 1 3 a0)
  have f34 : (q_I d15 1 3 a0).toInt = (q_I d7 1 3 a0).toInt := congrArg Int32.toInt (by rw [e16]; exact rI_o (by decide))
  have f35 := ti_b (q_I d7 1 3 a0)
  have f36 : (q_I d7 1 3 a0).toInt = (q_I d1 1 3 a0).toInt := congrArg Int32.toInt (by rw [e8]; exact rI_o (by decide))
  have f37 := ti_b (q_I d1 1 3 a0)
  have f38 : (q_I d1 1 3 a0).toInt = (q_I δ 1 13 a0).toInt := congrArg Int32.toInt (show q_I d1 1 3 a0 = (q_I δ 1 13 a0) by rw [e2]; exact rI_s)
  have f39 := ti_b (q_I d25 1 4 a0)
  have f40 : (q_I d25 1 4 a0).toInt = (q_I d15 1 4 a0).toInt := congrArg Int32.toInt (by rw [e26]; exact rI_o (by decide))
  have f41 := ti_b (q_I d15 1 4 a0)
  have f42 : (q_I d15 1 4 a0).toInt = (q_I d7 1 4 a0).toInt := congrArg Int32.toInt (by rw [e16]; exact rI_o (by decide))
  have f43 := ti_b (q_I d7 1 4 a0)
  have f44 : (q_I d7 1 4 a0).toInt = (q_I d1 1 14 a0).toInt := congrArg Int32.toInt (show q_I d7 1 4 a0 = (q_I d1 1 14 a0) by rw [e8]; exact rI_s)
  exact ok_some (show CI ad h.1 δ0 d25 ∧ (kp [(1, 3), (1, 4), (1, 6), (1, 8)] δ d25 ∧ q_V d25 = q_V δ) ∧ (q_I d25 1 3 a0).toInt = (q_I δ 1 13 a0).toInt ∧ (q_I d25 1 4 a0).toInt = (q_I δ 1 14 a0).toInt from ⟨i27, ⟨kp_w (by decide) u29, v30⟩, by first | assumption | omega, by first | assumption | omega⟩)
set_option maxHeartbeats 4000000 in
theorem k_X1_enterList {ad : List Nat} {h : hp} (L : Lay TLx ad h) {δ0 : dp} {N : Nat} (hN : 10000000 ≤ N) {a0 : Nat} {x1 : Int32} (k_a0 : q_K h.1 a0 = 1) {δ : dp} (I : CI ad h.1 δ0 δ) : ok (D_X1_enterList N h.1 a0 x1 δ) (fun r => CI ad h.1 δ0 r ∧ (kp [(1, 3), (1, 4), (1, 5), (1, 6), (1, 8)] δ r ∧ q_V r = q_V δ) ∧ (q_I r 1 3 a0).toInt = (q_I δ 1 11 a0).toInt ∧ (q_I r 1 4 a0).toInt = (q_I δ 1 12 a0).toInt) := by
  unfold D_X1_enterList
  have f4 := ti_b (q_I δ 1 11 a0)
  refine ok_bdv (fun d1 e2 => ?_)
  have i3 : CI ad h.1 δ0 d1 := by rw [e2]; exact cs_1_3 L I
  have u5 := kp_I kp_r e2
  have v6 : q_V d1 = q_V δ := (show q_V d1 = q_V δ by rw [e2]; rfl).trans rfl
  have f10 := ti_b (q_I d1 1 12 a0)
  have f11 : (q_I d1 1 12 a0).toInt = (q_I δ 1 12 a0).toInt := congrArg Int32.toInt (by rw [e2]; exact rI_o (by decide))
  have f12 := ti_b (q_I δ 1 12 a0)
  refine ok_bdv (fun d7 e8 => ?_)
  have i9 : CI ad h.1 δ0 d7 := by rw [e8]; exact cs_1_4 L i3
  have u13 := kp_I u5 e8
  have v14 : q_V d7 = q_V δ := (show q_V d7 = q_V d1 by rw [e8]; rfl).trans v6
  have f18 := ti_b (q_I d7 1 5 a0)
  have f19 : (q_I d7 1 5 a0).toInt = (q_I d1 1 5 a0).toInt := congrArg Int32.toInt (by rw [e8]; exact rI_o (by decide))
  have f20 := ti_b (q_I d1 1 5 a0)
  have f21 : (q_I d1 1 5 a0).toInt = (q_I δ 1 5 a0).toInt := congrArg Int32.toInt (by rw [e2]; exact rI_o (by decide))
  have f22 := ti_b (q_I δ 1 5 a0)
  have f23 := ti_b (q_I d7 1 7 a0)
  have f24 : (q_I d7 1 7 a0).toInt = (q_I d1 1 7 a0).toInt := congrArg Int32.toInt (by rw [e8]; exact rI_o (by decide))
  have f25 := ti_b (q_I d1 1 7 a0)
  have f26 : (q_I d1 1 7 a0).toInt = (q_I δ 1 7 a0).toInt := congrArg Int32.toInt (by rw [e2]; exact rI_o (by decide))
  have f27 := ti_b (q_I δ 1 7 a0)
  first | (have q29 := te_add (q_I d7 1 5 a0) (q_I d7 1 7 a0) (by omega) (by omega); obtain ⟨f30, f31, f32⟩ := q29) | (obtain ⟨q29, f30, f31, f32⟩ := ti_add (q_I d7 1 5 a0) (q_I d7 1 7 a0))
  refine ok_bdv (fun d15 e16 => ?_)
  have i17 : CI ad h.1 δ0 d15 := by rw [e16]; exact cs_1_5 L i9
  have u33 := kp_I u13 e16
  have v34 : q_V d15 = q_V δ := (show q_V d15 = q_V d7 by rw [e16]; rfl).trans v14
  have f38 := ti_b (q_I d15 1 6 a0)
  have f39 : (q_I d15 1 6 a0).toInt = (q_I d7 1 6 a0).toInt := congrArg Int32.toInt (by rw [e16]; exact rI_o (by decide))
  have f40 := ti_b (q_I d7 1 6 a0)
  have f41 : (q_I d7 1 6 a0).toInt = (q_I d1 1 6 a0).toInt := congrArg Int32.toInt (by rw [e8]; exact rI_o (by decide))
  have f42 := ti_b (q_I d1 1 6 a0)
  have f43 : (q_I d1 1 6 a0).toInt = (q_I δ 1 6 a0).toInt := congrArg Int32.toInt (by rw [e2]; exact rI_o (by decide))
  have f44 := ti_b (q_I δ 1 6 a0)
  have f45 := ti_b (q_I d15 1 7 a0)
  have f46 : (q_I d15 1 7 a0).toInt = (q_I d7 1 7 a0).toInt := congrArg Int32.toInt (by rw [e16]; exact rI_o (by decide))
  first | (have q48 := te_sub (q_I d15 1 6 a0) (q_I d15 1 7 a0) (by omega) (by omega); obtain ⟨f49, f50, f51⟩ := q48) | (obtain ⟨q48, f49, f50, f51⟩ := ti_sub (q_I d15 1 6 a0) (q_I d15 1 7 a0))
  refine ok_bdv (fun d35 e36 => ?_)
  have i37 : CI ad h.1 δ0 d35 := by rw [e36]; exact cs_1_6 L i17
  have u52 := kp_I u33 e36
  have v53 : q_V d35 = q_V δ := (show q_V d35 = q_V d15 by rw [e36]; rfl).trans v34
  have f57 := ti_b (x1 >>> ((q_I d35 1 7 a0) &&& 31))
  refine ok_bdv (fun d54 e55 => ?_)
  have i56 : CI ad h.1 δ0 d54 := by rw [e55]; exact cs_1_8 L i37
  have u58 := kp_I u52 e55
  have v59 : q_V d54 = q_V δ := (show q_V d54 = q_V d35 by rw [e55]; rfl).trans v53
  have f60 := ti_b (q_I d54 1 3 a0)
  have f61 : (q_I d54 1 3 a0).toInt = (q_I d35 1 3 a0).toInt := congrArg Int32.toInt (by rw [e55]; exact rI_o (by decide))
  have f62 := ti_b (q_I d35 1 3 a0)
  have f63 : (q_I d35 1 3 a0).toInt = (q_I d15 1 3 a0).toInt := congrArg Int32.toInt (by rw [e36]; exact rI_o (by decide))
  have f64 := ti_b (q_I d15 1 3 a0)
  have f65 : (q_I d15 1 3 a0).toInt = (q_I d7 1 3 a0).toInt := congrArg Int32.toInt (by rw [e16]; exact rI_o (by decide))
  have f66 := ti_b (q_I d7 1 3 a0)
  have f67 : (q_I d7 1 3 a0).toInt = (q_I d1 1 3 a0).toInt := congrArg Int32.toInt (by rw [e8]; exact rI_o (by decide))
  have f68 := ti_b (q_I d1 1 3 a0)
  have f69 : (q_I d1 1 3 a0).toInt = (q_I δ 1 11 a0).toInt := congrArg Int32.toInt (show q_I d1 1 3 a0 = (q_I δ 1 11 a0) by rw [e2]; exact rI_s)
  have f70 := ti_b (q_I d54 1 4 a0)
  have f71 : (q_I d54 1 4 a0).toInt = (q_I d35 1 4 a0).toInt := congrArg Int32.toInt (by rw [e55]; exact rI_o (by decide))
  have f72 := ti_b (q_I d35 1 4 a0)
  have f73 : (q_I d35 1 4 a0).toInt = (q_I d15 1 4 a0).toInt := congrArg Int32.toInt (by rw [e36]; exact rI_o (by decide))
  have f74 := ti_b (q_I d15 1 4 a0)
  have f75 : (q_I d15 1 4 a0).toInt = (q_I d7 1 4 a0).toInt := congrArg Int32.toInt (by rw [e16]; exact rI_o (by decide))
  have f76 := ti_b (q_I d7 1 4 a0)
  have f77 : (q_I d7 1 4 a0).toInt = (q_I d1 1 12 a0).toInt := congrArg Int32.toInt (show q_I d7 1 4 a0 = (q_I d1 1 12 a0) by rw [e8]; exact rI_s)
  exact ok_some (show CI ad h.1 δ0 d54 ∧ (kp [(1, 3), (1, 4), (1, 5), (1, 6), (1, 8)] δ d54 ∧ q_V d54 = q_V δ) ∧ (q_I d54 1 3 a0).toInt = (q_I δ 1 11 a0).toInt ∧ (q_I d54 1 4 a0).toInt = (q_I δ 1 12 a0).toInt from ⟨i56, ⟨kp_w (by decide) u58, v59⟩, by first | assumption | omega, by first | assumption | omega⟩)
set_option maxHeartbeats 4000000 in
theorem k_X1_goOnPutting {ad : List Nat} {h : hp} (L : Lay TLx ad h) {δ0 : dp} {N : Nat} (hN : 10000000 ≤ N) {a0 : Nat} {nu : Nat} (k_a0 : q_K h.1 a0 = 1) (hnu : q_O h.1 1 1 a0 = some nu) (knu : q_K h.1 nu = 3) {δ : dp} (z0 : 0 ≤ (q_I δ 1 11 a0).toInt) (z1 : (q_I δ 1 11 a0).toInt ≤ (q_I δ 1 12 a0).toInt) (z2 : (q_I δ 1 12 a0).toInt ≤ (q_I δ 3 1 nu).toInt) (z3 : 0 ≤ (q_I δ 1 3 a0).toInt) (z4 : (q_I δ 1 4 a0).toInt ≤ (q_I δ 3 1 nu).toInt) (I : CI ad h.1 δ0 δ) : ok (D_X1_goOnPutting N h.1 a0 δ) (fun r => CI ad h.1 δ0 r.2 ∧ (kp [(1, 3), (1, 4), (1, 5), (1, 6), (1, 8), (1, 13), (1, 14), (1, 15)] δ r.2 ∧ q_V r.2 = q_V δ) ∧ 0 ≤ (q_I r.2 1 3 a0).toInt ∧ (q_I r.2 1 4 a0).toInt ≤ (q_I δ 3 1 nu).toInt) := by
  unfold D_X1_goOnPutting
  have f1 := ti_b (q_I δ 1 11 a0)
  have f2 := ti_b (q_I δ 1 12 a0)
  obtain ⟨b3, o4, k5, ⟨n6, n7⟩, w8⟩ := gO_3_0 L knu
  have f9 := cb_3_1 I knu o4
  have f10 := ti_b (q_I δ 1 3 a0)
  have f11 := ti_b (q_I δ 1 4 a0)
  have f12 := ti_b (q_I δ 1 8 a0)
  have f13 := ti_b (q_I δ 1 9 a0)
  refine ok_ite (fun h14 => ?_) (fun h14 => ?_)
  · have c15 : (q_I δ 1 8 a0).toInt = (q_I δ 1 9 a0).toInt := o_eq h14
    unfold J_X1_goOnPutting_22
    refine ok_bdv (fun d16 e17 => ?_)
    have i18 : CI ad h.1 δ0 d16 := by rw [e17]; exact cs_1_15 L I k_a0 (show 0 ≤ (1 : Int) by omega) (show (1 : Int) ≤ 1 by omega)
    have u19 := kp_I kp_r e17
    have v20 : q_V d16 = q_V δ := (show q_V d16 = q_V δ by rw [e17]; rfl).trans rfl
    have f21 := ti_b (q_I d16 1 3 a0)
    have f22 : (q_I d16 1 3 a0).toInt = (q_I δ 1 3 a0).toInt := congrArg Int32.toInt (by rw [e17]; exact rI_o (by decide))
    have f23 := ti_b (q_I d16 1 4 a0)
    have f24 : (q_I d16 1 4 a0).toInt = (q_I δ 1 4 a0).toInt := congrArg Int32.toInt (by rw [e17]; exact rI_o (by decide))
    exact ok_some (show CI ad h.1 δ0 d16 ∧ (kp [(1, 3), (1, 4), (1, 5), (1, 6), (1, 8), (1, 13), (1, 14), (1, 15)] δ d16 ∧ q_V d16 = q_V δ) ∧ 0 ≤ (q_I d16 1 3 a0).toInt ∧ (q_I d16 1 4 a0).toInt ≤ (q_I δ 3 1 nu).toInt from ⟨i18, ⟨kp_w (by decide) u19, v20⟩, by first | assumption | omega, by first | assumption | omega⟩)
  · have c25 : (q_I δ 1 8 a0).toInt ≠ (q_I δ 1 9 a0).toInt := o_ne h14
    have f26 := ti_b (q_I δ 1 10 a0)
    refine ok_ite (fun h27 => ?_) (fun h27 => ?_)
    · have c28 : (q_I δ 1 8 a0).toInt = (q_I δ 1 10 a0).toInt := o_eq h27
      unfold J_X1_goOnPutting_22
      refine ok_bdv (fun d29 e30 => ?_)
      have i31 : CI ad h.1 δ0 d29 := by rw [e30]; exact cs_1_15 L I k_a0 (show 0 ≤ (1 : Int) by omega) (show (1 : Int) ≤ 1 by omega)
      have u32 := kp_I kp_r e30
      have v33 : q_V d29 = q_V δ := (show q_V d29 = q_V δ by rw [e30]; rfl).trans rfl
      have f34 := ti_b (q_I d29 1 3 a0)
      have f35 : (q_I d29 1 3 a0).toInt = (q_I δ 1 3 a0).toInt := congrArg Int32.toInt (by rw [e30]; exact rI_o (by decide))
      have f36 := ti_b (q_I d29 1 4 a0)
      have f37 : (q_I d29 1 4 a0).toInt = (q_I δ 1 4 a0).toInt := congrArg Int32.toInt (by rw [e30]; exact rI_o (by decide))
      exact ok_some (show CI ad h.1 δ0 d29 ∧ (kp [(1, 3), (1, 4), (1, 5), (1, 6), (1, 8), (1, 13), (1, 14), (1, 15)] δ d29 ∧ q_V d29 = q_V δ) ∧ 0 ≤ (q_I d29 1 3 a0).toInt ∧ (q_I d29 1 4 a0).toInt ≤ (q_I δ 3 1 nu).toInt from ⟨i31, ⟨kp_w (by decide) u32, v33⟩, by first | assumption | omega, by first | assumption | omega⟩)
    · have c38 : (q_I δ 1 8 a0).toInt ≠ (q_I δ 1 10 a0).toInt := o_ne h27
      refine ok_bind (k_J9_max_7cf53 L hN (x0 := (q_I δ 1 8 a0)) (x1 := (q_I δ 1 9 a0))  I) (fun r39 hr40 => ?_)
      have i41 := hr40
      try rw [i41]
      have f42 := ti_b r39.1
      refine ok_bind (k_J9_min_7cf53 L hN (x0 := r39.1) (x1 := (q_I δ 1 10 a0))  I) (fun r43 hr44 => ?_)
      obtain ⟨i45, p46, p47, p48⟩ := hr44
      try rw [i45]
      have f49 := ti_b r43.1
      have f50 := ti_b r43.1
      refine ok_bind (k_X1_findRoom L hN (a0 := a0) (x1 := r43.1) k_a0 hnu knu (show 0 ≤ (q_I δ 1 11 a0).toInt by first | assumption | omega) (show (q_I δ 1 11 a0).toInt ≤ (q_I δ 1 12 a0).toInt by first | assumption | omega) (show (q_I δ 1 12 a0).toInt ≤ (q_I δ 3 1 nu).toInt by first | assumption | omega) I) (fun r51 hr52 => ?_)
      obtain ⟨i53, ⟨u59, v60⟩, p54, p55, p56, p57, p58⟩ := hr52
      have u61 := kp_t kp_r u59
      have v62 := v60.trans rfl
      have f63 := bo_t p54
      have f64 := ti_b (q_I r51.2 1 13 a0)
      have f65 := ti_b (q_I r51.2 1 14 a0)
      have f66 := ti_b r51.1
      have f67 := ti_b r51.1
      refine ok_ite (fun h68 => ?_) (fun h68 => ?_)
      · have c69 : r51.1.toInt = (0 : Int) := o_eq h68
        refine ok_bind (k_X1_enterList L hN (a0 := a0) (x1 := r43.1) k_a0 i53) (fun r70 hr71 => ?_)
        obtain ⟨i72, ⟨u75, v76⟩, p73, p74⟩ := hr71
        have u77 := kp_t u61 u75
        have v78 := v76.trans v62
        have f79 := ti_b (q_I r70 1 3 a0)
        have f80 := ti_b (q_I r51.2 1 11 a0)
        have f81 : (q_I r51.2 1 11 a0).toInt = (q_I δ 1 11 a0).toInt := congrArg Int32.toInt (u59 1 11 a0 (by decide))
        have f82 := ti_b (q_I r70 1 4 a0)
        have f83 := ti_b (q_I r51.2 1 12 a0)
        have f84 : (q_I r51.2 1 12 a0).toInt = (q_I δ 1 12 a0).toInt := congrArg Int32.toInt (u59 1 12 a0 (by decide))
        exact ok_some (show CI ad h.1 δ0 r70 ∧ (kp [(1, 3), (1, 4), (1, 5), (1, 6), (1, 8), (1, 13), (1, 14), (1, 15)] δ r70 ∧ q_V r70 = q_V δ) ∧ 0 ≤ (q_I r70 1 3 a0).toInt ∧ (q_I r70 1 4 a0).toInt ≤ (q_I δ 3 1 nu).toInt from ⟨i72, ⟨kp_w (by decide) u77, v78⟩, by first | assumption | omega, by first | assumption | omega⟩)
      · have c85 : r51.1.toInt ≠ (0 : Int) := o_ne h68
        refine ok_bind (k_X1_enterRoom L hN (a0 := a0) (x1 := r43.1) k_a0 i53) (fun r86 hr87 => ?_)
        obtain ⟨i88, ⟨u91, v92⟩, p89, p90⟩ := hr87
        have u93 := kp_t u61 u91
        have v94 := v92.trans v62
        have f95 := ti_b (q_I r86 1 3 a0)
        have f96 := ti_b (q_I r86 1 4 a0)
        exact ok_some (show CI ad h.1 δ0 r86 ∧ (kp [(1, 3), (1, 4), (1, 5), (1, 6), (1, 8), (1, 13), (1, 14), (1, 15)] δ r86 ∧ q_V r86 = q_V δ) ∧ 0 ≤ (q_I r86 1 3 a0).toInt ∧ (q_I r86 1 4 a0).toInt ≤ (q_I δ 3 1 nu).toInt from ⟨i88, ⟨kp_w (by decide) u93, v94⟩, by first | assumption | omega, by first | assumption | omega⟩)
set_option maxHeartbeats 4000000 in
theorem k_X1_goOnDropping {ad : List Nat} {h : hp} (L : Lay TLx ad h) {δ0 : dp} {N : Nat} (hN : 10000000 ≤ N) {a0 : Nat} {nu : Nat} (k_a0 : q_K h.1 a0 = 1) (hnu : q_O h.1 1 1 a0 = some nu) (knu : q_K h.1 nu = 3) {δ : dp} (z0 : 0 ≤ (q_I δ 1 11 a0).toInt) (z1 : (q_I δ 1 11 a0).toInt ≤ (q_I δ 1 12 a0).toInt) (z2 : (q_I δ 1 12 a0).toInt ≤ (q_I δ 3 1 nu).toInt) (z3 : 0 ≤ (q_I δ 1 3 a0).toInt) (z4 : (q_I δ 1 4 a0).toInt ≤ (q_I δ 3 1 nu).toInt) (I : CI ad h.1 δ0 δ) : ok (D_X1_goOnDropping N h.1 a0 δ) (fun r => CI ad h.1 δ0 r.2 ∧ (kp [(1, 3), (1, 4), (1, 5), (1, 6), (1, 8), (1, 13), (1, 14), (1, 15)] δ r.2 ∧ q_V r.2 = q_V δ) ∧ 0 ≤ (q_I r.2 1 3 a0).toInt ∧ (q_I r.2 1 4 a0).toInt ≤ (q_I δ 3 1 nu).toInt) := by
  unfold D_X1_goOnDropping
  have f1 := ti_b (q_I δ 1 11 a0)
  have f2 := ti_b (q_I δ 1 12 a0)
  obtain ⟨b3, o4, k5, ⟨n6, n7⟩, w8⟩ := gO_3_0 L knu
  have f9 := cb_3_1 I knu o4
  have f10 := ti_b (q_I δ 1 3 a0)
  have f11 := ti_b (q_I δ 1 4 a0)
  have f12 := ti_b (q_I δ 1 8 a0)
  have f13 := ti_b (q_I δ 1 9 a0)
  refine ok_ite (fun h14 => ?_) (fun h14 => ?_)
  · have c15 : (q_I δ 1 8 a0).toInt = (q_I δ 1 9 a0).toInt := o_eq h14
    unfold J_X1_goOnDropping_22
    unfold J_X1_goOnDropping_27
    refine ok_ite (fun h16 => ?_) (fun h16 => ?_)
    · have c17 : (q_I δ 1 8 a0).toInt < (q_I δ 1 9 a0).toInt := o_lt h16
      unfold J_X1_goOnDropping_65
      refine ok_bdv (fun d18 e19 => ?_)
      have i20 : CI ad h.1 δ0 d18 := by rw [e19]; exact cs_1_15 L I k_a0 (show 0 ≤ (1 : Int) by omega) (show (1 : Int) ≤ 1 by omega)
      have u21 := kp_I kp_r e19
      have v22 : q_V d18 = q_V δ := (show q_V d18 = q_V δ by rw [e19]; rfl).trans rfl
      have f23 := ti_b (q_I d18 1 3 a0)
      have f24 : (q_I d18 1 3 a0).toInt = (q_I δ 1 3 a0).toInt := congrArg Int32.toInt (by rw [e19]; exact rI_o (by decide))
      have f25 := ti_b (q_I d18 1 4 a0)
      have f26 : (q_I d18 1 4 a0).toInt = (q_I δ 1 4 a0).toInt := congrArg Int32.toInt (by rw [e19]; exact rI_o (by decide))
      exact ok_some (show CI ad h.1 δ0 d18 ∧ (kp [(1, 3), (1, 4), (1, 5), (1, 6), (1, 8), (1, 13), (1, 14), (1, 15)] δ d18 ∧ q_V d18 = q_V δ) ∧ 0 ≤ (q_I d18 1 3 a0).toInt ∧ (q_I d18 1 4 a0).toInt ≤ (q_I δ 3 1 nu).toInt from ⟨i20, ⟨kp_w (by decide) u21, v22⟩, by first | assumption | omega, by first | assumption | omega⟩)
    · have c27 : (q_I δ 1 9 a0).toInt ≤ (q_I δ 1 8 a0).toInt := o_nlt h16
      have f28 := ti_b (q_I δ 1 10 a0)
      refine ok_ite (fun h29 => ?_) (fun h29 => ?_)
      · have c30 : (q_I δ 1 10 a0).toInt < (q_I δ 1 8 a0).toInt := o_lt h29
        unfold J_X1_goOnDropping_65
        refine ok_bdv (fun d31 e32 => ?_)
        have i33 : CI ad h.1 δ0 d31 := by rw [e32]; exact cs_1_15 L I k_a0 (show 0 ≤ (1 : Int) by omega) (show (1 : Int) ≤ 1 by omega)
        have u34 := kp_I kp_r e32
        have v35 : q_V d31 = q_V δ := (show q_V d31 = q_V δ by rw [e32]; rfl).trans rfl
        have f36 := ti_b (q_I d31 1 3 a0)
        have f37 : (q_I d31 1 3 a0).toInt = (q_I δ 1 3 a0).toInt := congrArg Int32.toInt (by rw [e32]; exact rI_o (by decide))
        have f38 := ti_b (q_I d31 1 4 a0)
        have f39 : (q_I d31 1 4 a0).toInt = (q_I δ 1 4 a0).toInt := congrArg Int32.toInt (by rw [e32]; exact rI_o (by decide))
        exact ok_some (show CI ad h.1 δ0 d31 ∧ (kp [(1, 3), (1, 4), (1, 5), (1, 6), (1, 8), (1, 13), (1, 14), (1, 15)] δ d31 ∧ q_V d31 = q_V δ) ∧ 0 ≤ (q_I d31 1 3 a0).toInt ∧ (q_I d31 1 4 a0).toInt ≤ (q_I δ 3 1 nu).toInt from ⟨i33, ⟨kp_w (by decide) u34, v35⟩, by first | assumption | omega, by first | assumption | omega⟩)
      · have c40 : (q_I δ 1 8 a0).toInt ≤ (q_I δ 1 10 a0).toInt := o_nlt h29
        refine ok_ite (fun h41 => ?_) (fun h41 => ?_)
        · have c42 : (1 : Int) = (0 : Int) := o_eq h41
          unfold J_X1_goOnDropping_72
          refine ok_ite (fun h43 => ?_) (fun h43 => ?_)
          · have c44 : (1 : Int) = (0 : Int) := o_eq h43
            unfold J_X1_goOnDropping_81
            refine ok_ite (fun h45 => ?_) (fun h45 => ?_)
            · have c46 : (1 : Int) = (0 : Int) := o_eq h45
              unfold J_X1_goOnDropping_121
              refine ok_bind (k_X1_findRoom L hN (a0 := a0) (x1 := (q_I δ 1 8 a0)) k_a0 hnu knu (show 0 ≤ (q_I δ 1 11 a0).toInt by first | assumption | omega) (show (q_I δ 1 11 a0).toInt ≤ (q_I δ 1 12 a0).toInt by first | assumption | omega) (show (q_I δ 1 12 a0).toInt ≤ (q_I δ 3 1 nu).toInt by first | assumption | omega) I) (fun r47 hr48 => ?_)
              obtain ⟨i49, ⟨u55, v56⟩, p50, p51, p52, p53, p54⟩ := hr48
              have u57 := kp_t kp_r u55
              have v58 := v56.trans rfl
              have f59 := bo_t p50
              have f60 := ti_b (q_I r47.2 1 13 a0)
              have f61 := ti_b (q_I r47.2 1 14 a0)
              have f62 := ti_b r47.1
              have f63 := ti_b r47.1
              refine ok_ite (fun h64 => ?_) (fun h64 => ?_)
              · have c65 : r47.1.toInt = (0 : Int) := o_eq h64
                refine ok_bdv (fun d66 e67 => ?_)
                have i68 : CI ad h.1 δ0 d66 := by rw [e67]; exact cs_1_15 L i49 k_a0 (show 0 ≤ (1 : Int) by omega) (show (1 : Int) ≤ 1 by omega)
                have u69 := kp_I u57 e67
                have v70 : q_V d66 = q_V δ := (show q_V d66 = q_V r47.2 by rw [e67]; rfl).trans v58
                have f71 := ti_b (q_I d66 1 3 a0)
                have f72 : (q_I d66 1 3 a0).toInt = (q_I r47.2 1 3 a0).toInt := congrArg Int32.toInt (by rw [e67]; exact rI_o (by decide))
                have f73 := ti_b (q_I r47.2 1 3 a0)
                have f74 : (q_I r47.2 1 3 a0).toInt = (q_I δ 1 3 a0).toInt := congrArg Int32.toInt (u55 1 3 a0 (by decide))
                have f75 := ti_b (q_I d66 1 4 a0)
                have f76 : (q_I d66 1 4 a0).toInt = (q_I r47.2 1 4 a0).toInt := congrArg Int32.toInt (by rw [e67]; exact rI_o (by decide))
                have f77 := ti_b (q_I r47.2 1 4 a0)
                have f78 : (q_I r47.2 1 4 a0).toInt = (q_I δ 1 4 a0).toInt := congrArg Int32.toInt (u55 1 4 a0 (by decide))
                exact ok_some (show CI ad h.1 δ0 d66 ∧ (kp [(1, 3), (1, 4), (1, 5), (1, 6), (1, 8), (1, 13), (1, 14), (1, 15)] δ d66 ∧ q_V d66 = q_V δ) ∧ 0 ≤ (q_I d66 1 3 a0).toInt ∧ (q_I d66 1 4 a0).toInt ≤ (q_I δ 3 1 nu).toInt from ⟨i68, ⟨kp_w (by decide) u69, v70⟩, by first | assumption | omega, by first | assumption | omega⟩)
              · have c79 : r47.1.toInt ≠ (0 : Int) := o_ne h64
                have f82 := cb_3_1 i49 knu o4
                have f83 : (q_I r47.2 3 1 nu).toInt = (q_I δ 3 1 nu).toInt := congrArg Int32.toInt (u55 3 1 nu (by decide))
                refine ok_bind (k_X1_valueAt L hN (a0 := a0) (x1 := (q_I r47.2 1 13 a0)) k_a0 hnu knu (show 0 ≤ ((q_I r47.2 1 13 a0)).toInt by first | assumption | omega) (show ((q_I r47.2 1 13 a0)).toInt < (q_I r47.2 3 1 nu).toInt by first | assumption | omega) i49) (fun r80 hr81 => ?_)
                have i84 := hr81
                try rw [i84]
                have f85 := ti_b r80.1
                refine ok_ite (fun h86 => ?_) (fun h86 => ?_)
                · have c87 : r80.1.toInt = (q_I δ 1 8 a0).toInt := o_eq h86
                  first | (have q91 := te_subc (c := 1) (n := 1) rfl (q_I r47.2 1 14 a0) (by omega) (by omega); obtain ⟨f92, f93, f94⟩ := q91) | (obtain ⟨q91, f92, f93, f94⟩ := ti_subc (c := 1) (n := 1) rfl (q_I r47.2 1 14 a0))
                  refine ok_bind (k_X1_valueAt L hN (a0 := a0) (x1 := ((q_I r47.2 1 14 a0) - (1 : Int32))) k_a0 hnu knu (show 0 ≤ (((q_I r47.2 1 14 a0) - (1 : Int32))).toInt by first | assumption | omega) (show (((q_I r47.2 1 14 a0) - (1 : Int32))).toInt < (q_I r47.2 3 1 nu).toInt by first | assumption | omega) i49) (fun r88 hr89 => ?_)
                  have i95 := hr89
                  try rw [i95]
                  have f96 := ti_b r88.1
                  refine ok_ite (fun h97 => ?_) (fun h97 => ?_)
                  · have c98 : r88.1.toInt = (q_I δ 1 8 a0).toInt := o_eq h97
                    refine ok_bind (k_X1_enterList L hN (a0 := a0) (x1 := (q_I δ 1 8 a0)) k_a0 i49) (fun r99 hr100 => ?_)
                    obtain ⟨i101, ⟨u104, v105⟩, p102, p103⟩ := hr100
                    have u106 := kp_t u57 u104
                    have v107 := v105.trans v58
                    have f108 := ti_b (q_I r99 1 3 a0)
                    have f109 := ti_b (q_I r47.2 1 11 a0)
                    have f110 : (q_I r47.2 1 11 a0).toInt = (q_I δ 1 11 a0).toInt := congrArg Int32.toInt (u55 1 11 a0 (by decide))
                    have f111 := ti_b (q_I r99 1 4 a0)
                    have f112 := ti_b (q_I r47.2 1 12 a0)
                    have f113 : (q_I r47.2 1 12 a0).toInt = (q_I δ 1 12 a0).toInt := congrArg Int32.toInt (u55 1 12 a0 (by decide))
                    exact ok_some (show CI ad h.1 δ0 r99 ∧ (kp [(1, 3), (1, 4), (1, 5), (1, 6), (1, 8), (1, 13), (1, 14), (1, 15)] δ r99 ∧ q_V r99 = q_V δ) ∧ 0 ≤ (q_I r99 1 3 a0).toInt ∧ (q_I r99 1 4 a0).toInt ≤ (q_I δ 3 1 nu).toInt from ⟨i101, ⟨kp_w (by decide) u106, v107⟩, by first | assumption | omega, by first | assumption | omega⟩)
                  · have c114 : r88.1.toInt ≠ (q_I δ 1 8 a0).toInt := o_ne h97
                    unfold J_X1_goOnDropping_172
                    refine ok_bind (k_X1_enterRoom L hN (a0 := a0) (x1 := (q_I δ 1 8 a0)) k_a0 i49) (fun r115 hr116 => ?_)
                    obtain ⟨i117, ⟨u120, v121⟩, p118, p119⟩ := hr116
                    have u122 := kp_t u57 u120
                    have v123 := v121.trans v58
                    have f124 := ti_b (q_I r115 1 3 a0)
                    have f125 := ti_b (q_I r115 1 4 a0)
                    exact ok_some (show CI ad h.1 δ0 r115 ∧ (kp [(1, 3), (1, 4), (1, 5), (1, 6), (1, 8), (1, 13), (1, 14), (1, 15)] δ r115 ∧ q_V r115 = q_V δ) ∧ 0 ≤ (q_I r115 1 3 a0).toInt ∧ (q_I r115 1 4 a0).toInt ≤ (q_I δ 3 1 nu).toInt from ⟨i117, ⟨kp_w (by decide) u122, v123⟩, by first | assumption | omega, by first | assumption | omega⟩)
                · have c126 : r80.1.toInt ≠ (q_I δ 1 8 a0).toInt := o_ne h86
                  unfold J_X1_goOnDropping_172
                  refine ok_bind (k_X1_enterRoom L hN (a0 := a0) (x1 := (q_I δ 1 8 a0)) k_a0 i49) (fun r127 hr128 => ?_)
                  obtain ⟨i129, ⟨u132, v133⟩, p130, p131⟩ := hr128
                  have u134 := kp_t u57 u132
                  have v135 := v133.trans v58
                  have f136 := ti_b (q_I r127 1 3 a0)
                  have f137 := ti_b (q_I r127 1 4 a0)
                  exact ok_some (show CI ad h.1 δ0 r127 ∧ (kp [(1, 3), (1, 4), (1, 5), (1, 6), (1, 8), (1, 13), (1, 14), (1, 15)] δ r127 ∧ q_V r127 = q_V δ) ∧ 0 ≤ (q_I r127 1 3 a0).toInt ∧ (q_I r127 1 4 a0).toInt ≤ (q_I δ 3 1 nu).toInt from ⟨i129, ⟨kp_w (by decide) u134, v135⟩, by first | assumption | omega, by first | assumption | omega⟩)
            · have c138 : (1 : Int) ≠ (0 : Int) := o_ne h45
              refine ok_ite (fun h139 => ?_) (fun h139 => ?_)
              · have c140 : (q_I δ 1 8 a0).toInt = (q_I δ 1 9 a0).toInt := o_eq h139
                unfold J_X1_goOnDropping_118
                refine ok_bind (k_X1_valueAt L hN (a0 := a0) (x1 := (q_I δ 1 11 a0)) k_a0 hnu knu (show 0 ≤ ((q_I δ 1 11 a0)).toInt by first | assumption | omega) (show ((q_I δ 1 11 a0)).toInt < (q_I δ 3 1 nu).toInt by first | assumption | omega) I) (fun r141 hr142 => ?_)
                have i143 := hr142
                try rw [i143]
                have f144 := ti_b r141.1
                unfold J_X1_goOnDropping_121
                refine ok_bind (k_X1_findRoom L hN (a0 := a0) (x1 := r141.1) k_a0 hnu knu (show 0 ≤ (q_I δ 1 11 a0).toInt by first | assumption | omega) (show (q_I δ 1 11 a0).toInt ≤ (q_I δ 1 12 a0).toInt by first | assumption | omega) (show (q_I δ 1 12 a0).toInt ≤ (q_I δ 3 1 nu).toInt by first | assumption | omega) I) (fun r145 hr146 => ?_)
                obtain ⟨i147, ⟨u153, v154⟩, p148, p149, p150, p151, p152⟩ := hr146
                have u155 := kp_t kp_r u153
                have v156 := v154.trans rfl
                have f157 := bo_t p148
                have f158 := ti_b (q_I r145.2 1 13 a0)
                have f159 := ti_b (q_I r145.2 1 14 a0)
                have f160 := ti_b r145.1
                have f161 := ti_b r145.1
                refine ok_ite (fun h162 => ?_) (fun h162 => ?_)
                · have c163 : r145.1.toInt = (0 : Int) := o_eq h162
                  refine ok_bdv (fun d164 e165 => ?_)
                  have i166 : CI ad h.1 δ0 d164 := by rw [e165]; exact cs_1_15 L i147 k_a0 (show 0 ≤ (1 : Int) by omega) (show (1 : Int) ≤ 1 by omega)
                  have u167 := kp_I u155 e165
                  have v168 : q_V d164 = q_V δ := (show q_V d164 = q_V r145.2 by rw [e165]; rfl).trans v156
                  have f169 := ti_b (q_I d164 1 3 a0)
                  have f170 : (q_I d164 1 3 a0).toInt = (q_I r145.2 1 3 a0).toInt := congrArg Int32.toInt (by rw [e165]; exact rI_o (by decide))
                  have f171 := ti_b (q_I r145.2 1 3 a0)
                  have f172 : (q_I r145.2 1 3 a0).toInt = (q_I δ 1 3 a0).toInt := congrArg Int32.toInt (u153 1 3 a0 (by decide))
                  have f173 := ti_b (q_I d164 1 4 a0)
                  have f174 : (q_I d164 1 4 a0).toInt = (q_I r145.2 1 4 a0).toInt := congrArg Int32.toInt (by rw [e165]; exact rI_o (by decide))
                  have f175 := ti_b (q_I r145.2 1 4 a0)
                  have f176 : (q_I r145.2 1 4 a0).toInt = (q_I δ 1 4 a0).toInt := congrArg Int32.toInt (u153 1 4 a0 (by decide))
                  exact ok_some (show CI ad h.1 δ0 d164 ∧ (kp [(1, 3), (1, 4), (1, 5), (1, 6), (1, 8), (1, 13), (1, 14), (1, 15)] δ d164 ∧ q_V d164 = q_V δ) ∧ 0 ≤ (q_I d164 1 3 a0).toInt ∧ (q_I d164 1 4 a0).toInt ≤ (q_I δ 3 1 nu).toInt from ⟨i166, ⟨kp_w (by decide) u167, v168⟩, by first | assumption | omega, by first | assumption | omega⟩)
                · have c177 : r145.1.toInt ≠ (0 : Int) := o_ne h162
                  have f180 := cb_3_1 i147 knu o4
                  have f181 : (q_I r145.2 3 1 nu).toInt = (q_I δ 3 1 nu).toInt := congrArg Int32.toInt (u153 3 1 nu (by decide))
                  refine ok_bind (k_X1_valueAt L hN (a0 := a0) (x1 := (q_I r145.2 1 13 a0)) k_a0 hnu knu (show 0 ≤ ((q_I r145.2 1 13 a0)).toInt by first | assumption | omega) (show ((q_I r145.2 1 13 a0)).toInt < (q_I r145.2 3 1 nu).toInt by first | assumption | omega) i147) (fun r178 hr179 => ?_)
                  have i182 := hr179
                  try rw [i182]
                  have f183 := ti_b r178.1
                  refine ok_ite (fun h184 => ?_) (fun h184 => ?_)
                  · have c185 : r178.1.toInt = r141.1.toInt := o_eq h184
                    first | (have q189 := te_subc (c := 1) (n := 1) rfl (q_I r145.2 1 14 a0) (by omega) (by omega); obtain ⟨f190, f191, f192⟩ := q189) | (obtain ⟨q189, f190, f191, f192⟩ := ti_subc (c := 1) (n := 1) rfl (q_I r145.2 1 14 a0))
                    refine ok_bind (k_X1_valueAt L hN (a0 := a0) (x1 := ((q_I r145.2 1 14 a0) - (1 : Int32))) k_a0 hnu knu (show 0 ≤ (((q_I r145.2 1 14 a0) - (1 : Int32))).toInt by first | assumption | omega) (show (((q_I r145.2 1 14 a0) - (1 : Int32))).toInt < (q_I r145.2 3 1 nu).toInt by first | assumption | omega) i147) (fun r186 hr187 => ?_)
                    have i193 := hr187
                    try rw [i193]
                    have f194 := ti_b r186.1
                    refine ok_ite (fun h195 => ?_) (fun h195 => ?_)
                    · have c196 : r186.1.toInt = r141.1.toInt := o_eq h195
                      refine ok_bind (k_X1_enterList L hN (a0 := a0) (x1 := r141.1) k_a0 i147) (fun r197 hr198 => ?_)
                      obtain ⟨i199, ⟨u202, v203⟩, p200, p201⟩ := hr198
                      have u204 := kp_t u155 u202
                      have v205 := v203.trans v156
                      have f206 := ti_b (q_I r197 1 3 a0)
                      have f207 := ti_b (q_I r145.2 1 11 a0)
                      have f208 : (q_I r145.2 1 11 a0).toInt = (q_I δ 1 11 a0).toInt := congrArg Int32.toInt (u153 1 11 a0 (by decide))
                      have f209 := ti_b (q_I r197 1 4 a0)
                      have f210 := ti_b (q_I r145.2 1 12 a0)
                      have f211 : (q_I r145.2 1 12 a0).toInt = (q_I δ 1 12 a0).toInt := congrArg Int32.toInt (u153 1 12 a0 (by decide))
                      exact ok_some (show CI ad h.1 δ0 r197 ∧ (kp [(1, 3), (1, 4), (1, 5), (1, 6), (1, 8), (1, 13), (1, 14), (1, 15)] δ r197 ∧ q_V r197 = q_V δ) ∧ 0 ≤ (q_I r197 1 3 a0).toInt ∧ (q_I r197 1 4 a0).toInt ≤ (q_I δ 3 1 nu).toInt from ⟨i199, ⟨kp_w (by decide) u204, v205⟩, by first | assumption | omega, by first | assumption | omega⟩)
                    · have c212 : r186.1.toInt ≠ r141.1.toInt := o_ne h195
                      unfold J_X1_goOnDropping_172
                      refine ok_bind (k_X1_enterRoom L hN (a0 := a0) (x1 := r141.1) k_a0 i147) (fun r213 hr214 => ?_)
                      obtain ⟨i215, ⟨u218, v219⟩, p216, p217⟩ := hr214
                      have u220 := kp_t u155 u218
                      have v221 := v219.trans v156
                      have f222 := ti_b (q_I r213 1 3 a0)
                      have f223 := ti_b (q_I r213 1 4 a0)
                      exact ok_some (show CI ad h.1 δ0 r213 ∧ (kp [(1, 3), (1, 4), (1, 5), (1, 6), (1, 8), (1, 13), (1, 14), (1, 15)] δ r213 ∧ q_V r213 = q_V δ) ∧ 0 ≤ (q_I r213 1 3 a0).toInt ∧ (q_I r213 1 4 a0).toInt ≤ (q_I δ 3 1 nu).toInt from ⟨i215, ⟨kp_w (by decide) u220, v221⟩, by first | assumption | omega, by first | assumption | omega⟩)
                  · have c224 : r178.1.toInt ≠ r141.1.toInt := o_ne h184
                    unfold J_X1_goOnDropping_172
                    refine ok_bind (k_X1_enterRoom L hN (a0 := a0) (x1 := r141.1) k_a0 i147) (fun r225 hr226 => ?_)
                    obtain ⟨i227, ⟨u230, v231⟩, p228, p229⟩ := hr226
                    have u232 := kp_t u155 u230
                    have v233 := v231.trans v156
                    have f234 := ti_b (q_I r225 1 3 a0)
                    have f235 := ti_b (q_I r225 1 4 a0)
                    exact ok_some (show CI ad h.1 δ0 r225 ∧ (kp [(1, 3), (1, 4), (1, 5), (1, 6), (1, 8), (1, 13), (1, 14), (1, 15)] δ r225 ∧ q_V r225 = q_V δ) ∧ 0 ≤ (q_I r225 1 3 a0).toInt ∧ (q_I r225 1 4 a0).toInt ≤ (q_I δ 3 1 nu).toInt from ⟨i227, ⟨kp_w (by decide) u232, v233⟩, by first | assumption | omega, by first | assumption | omega⟩)
              · have c236 : (q_I δ 1 8 a0).toInt ≠ (q_I δ 1 9 a0).toInt := o_ne h139
                unfold J_X1_goOnDropping_118
                first | (have q240 := te_subc (c := 1) (n := 1) rfl (q_I δ 1 12 a0) (by omega) (by omega); obtain ⟨f241, f242, f243⟩ := q240) | (obtain ⟨q240, f241, f242, f243⟩ := ti_subc (c := 1) (n := 1) rfl (q_I δ 1 12 a0))
                refine ok_bind (k_X1_valueAt L hN (a0 := a0) (x1 := ((q_I δ 1 12 a0) - (1 : Int32))) k_a0 hnu knu (show 0 ≤ (((q_I δ 1 12 a0) - (1 : Int32))).toInt by first | assumption | omega) (show (((q_I δ 1 12 a0) - (1 : Int32))).toInt < (q_I δ 3 1 nu).toInt by first | assumption | omega) I) (fun r237 hr238 => ?_)
                have i244 := hr238
                try rw [i244]
                have f245 := ti_b r237.1
                unfold J_X1_goOnDropping_121
                refine ok_bind (k_X1_findRoom L hN (a0 := a0) (x1 := r237.1) k_a0 hnu knu (show 0 ≤ (q_I δ 1 11 a0).toInt by first | assumption | omega) (show (q_I δ 1 11 a0).toInt ≤ (q_I δ 1 12 a0).toInt by first | assumption | omega) (show (q_I δ 1 12 a0).toInt ≤ (q_I δ 3 1 nu).toInt by first | assumption | omega) I) (fun r246 hr247 => ?_)
                obtain ⟨i248, ⟨u254, v255⟩, p249, p250, p251, p252, p253⟩ := hr247
                have u256 := kp_t kp_r u254
                have v257 := v255.trans rfl
                have f258 := bo_t p249
                have f259 := ti_b (q_I r246.2 1 13 a0)
                have f260 := ti_b (q_I r246.2 1 14 a0)
                have f261 := ti_b r246.1
                have f262 := ti_b r246.1
                refine ok_ite (fun h263 => ?_) (fun h263 => ?_)
                · have c264 : r246.1.toInt = (0 : Int) := o_eq h263
                  refine ok_bdv (fun d265 e266 => ?_)
                  have i267 : CI ad h.1 δ0 d265 := by rw [e266]; exact cs_1_15 L i248 k_a0 (show 0 ≤ (1 : Int) by omega) (show (1 : Int) ≤ 1 by omega)
                  have u268 := kp_I u256 e266
                  have v269 : q_V d265 = q_V δ := (show q_V d265 = q_V r246.2 by rw [e266]; rfl).trans v257
                  have f270 := ti_b (q_I d265 1 3 a0)
                  have f271 : (q_I d265 1 3 a0).toInt = (q_I r246.2 1 3 a0).toInt := congrArg Int32.toInt (by rw [e266]; exact rI_o (by decide))
                  have f272 := ti_b (q_I r246.2 1 3 a0)
                  have f273 : (q_I r246.2 1 3 a0).toInt = (q_I δ 1 3 a0).toInt := congrArg Int32.toInt (u254 1 3 a0 (by decide))
                  have f274 := ti_b (q_I d265 1 4 a0)
                  have f275 : (q_I d265 1 4 a0).toInt = (q_I r246.2 1 4 a0).toInt := congrArg Int32.toInt (by rw [e266]; exact rI_o (by decide))
                  have f276 := ti_b (q_I r246.2 1 4 a0)
                  have f277 : (q_I r246.2 1 4 a0).toInt = (q_I δ 1 4 a0).toInt := congrArg Int32.toInt (u254 1 4 a0 (by decide))
                  exact ok_some (show CI ad h.1 δ0 d265 ∧ (kp [(1, 3), (1, 4), (1, 5), (1, 6), (1, 8), (1, 13), (1, 14), (1, 15)] δ d265 ∧ q_V d265 = q_V δ) ∧ 0 ≤ (q_I d265 1 3 a0).toInt ∧ (q_I d265 1 4 a0).toInt ≤ (q_I δ 3 1 nu).toInt from ⟨i267, ⟨kp_w (by decide) u268, v269⟩, by first | assumption | omega, by first | assumption | omega⟩)
                · have c278 : r246.1.toInt ≠ (0 : Int) := o_ne h263
                  have f281 := cb_3_1 i248 knu o4
                  have f282 : (q_I r246.2 3 1 nu).toInt = (q_I δ 3 1 nu).toInt := congrArg Int32.toInt (u254 3 1 nu (by decide))
                  refine ok_bind (k_X1_valueAt L hN (a0 := a0) (x1 := (q_I r246.2 1 13 a0)) k_a0 hnu knu (show 0 ≤ ((q_I r246.2 1 13 a0)).toInt by first | assumption | omega) (show ((q_I r246.2 1 13 a0)).toInt < (q_I r246.2 3 1 nu).toInt by first | assumption | omega) i248) (fun r279 hr280 => ?_)
                  have i283 := hr280
                  try rw [i283]
                  have f284 := ti_b r279.1
                  refine ok_ite (fun h285 => ?_) (fun h285 => ?_)
                  · have c286 : r279.1.toInt = r237.1.toInt := o_eq h285
                    first | (have q290 := te_subc (c := 1) (n := 1) rfl (q_I r246.2 1 14 a0) (by omega) (by omega); obtain ⟨f291, f292, f293⟩ := q290) | (obtain ⟨q290, f291, f292, f293⟩ := ti_subc (c := 1) (n := 1) rfl (q_I r246.2 1 14 a0))
                    refine ok_bind (k_X1_valueAt L hN (a0 := a0) (x1 := ((q_I r246.2 1 14 a0) - (1 : Int32))) k_a0 hnu knu (show 0 ≤ (((q_I r246.2 1 14 a0) - (1 : Int32))).toInt by first | assumption | omega) (show (((q_I r246.2 1 14 a0) - (1 : Int32))).toInt < (q_I r246.2 3 1 nu).toInt by first | assumption | omega) i248) (fun r287 hr288 => ?_)
                    have i294 := hr288
                    try rw [i294]
                    have f295 := ti_b r287.1
                    refine ok_ite (fun h296 => ?_) (fun h296 => ?_)
                    · have c297 : r287.1.toInt = r237.1.toInt := o_eq h296
                      refine ok_bind (k_X1_enterList L hN (a0 := a0) (x1 := r237.1) k_a0 i248) (fun r298 hr299 => ?_)
                      obtain ⟨i300, ⟨u303, v304⟩, p301, p302⟩ := hr299
                      have u305 := kp_t u256 u303
                      have v306 := v304.trans v257
                      have f307 := ti_b (q_I r298 1 3 a0)
                      have f308 := ti_b (q_I r246.2 1 11 a0)
                      have f309 : (q_I r246.2 1 11 a0).toInt = (q_I δ 1 11 a0).toInt := congrArg Int32.toInt (u254 1 11 a0 (by decide))
                      have f310 := ti_b (q_I r298 1 4 a0)
                      have f311 := ti_b (q_I r246.2 1 12 a0)
                      have f312 : (q_I r246.2 1 12 a0).toInt = (q_I δ 1 12 a0).toInt := congrArg Int32.toInt (u254 1 12 a0 (by decide))
                      exact ok_some (show CI ad h.1 δ0 r298 ∧ (kp [(1, 3), (1, 4), (1, 5), (1, 6), (1, 8), (1, 13), (1, 14), (1, 15)] δ r298 ∧ q_V r298 = q_V δ) ∧ 0 ≤ (q_I r298 1 3 a0).toInt ∧ (q_I r298 1 4 a0).toInt ≤ (q_I δ 3 1 nu).toInt from ⟨i300, ⟨kp_w (by decide) u305, v306⟩, by first | assumption | omega, by first | assumption | omega⟩)
                    · have c313 : r287.1.toInt ≠ r237.1.toInt := o_ne h296
                      unfold J_X1_goOnDropping_172
                      refine ok_bind (k_X1_enterRoom L hN (a0 := a0) (x1 := r237.1) k_a0 i248) (fun r314 hr315 => ?_)
                      obtain ⟨i316, ⟨u319, v320⟩, p317, p318⟩ := hr315
                      have u321 := kp_t u256 u319
                      have v322 := v320.trans v257
                      have f323 := ti_b (q_I r314 1 3 a0)
                      have f324 := ti_b (q_I r314 1 4 a0)
                      exact ok_some (show CI ad h.1 δ0 r314 ∧ (kp [(1, 3), (1, 4), (1, 5), (1, 6), (1, 8), (1, 13), (1, 14), (1, 15)] δ r314 ∧ q_V r314 = q_V δ) ∧ 0 ≤ (q_I r314 1 3 a0).toInt ∧ (q_I r314 1 4 a0).toInt ≤ (q_I δ 3 1 nu).toInt from ⟨i316, ⟨kp_w (by decide) u321, v322⟩, by first | assumption | omega, by first | assumption | omega⟩)
                  · have c325 : r279.1.toInt ≠ r237.1.toInt := o_ne h285
                    unfold J_X1_goOnDropping_172
                    refine ok_bind (k_X1_enterRoom L hN (a0 := a0) (x1 := r237.1) k_a0 i248) (fun r326 hr327 => ?_)
                    obtain ⟨i328, ⟨u331, v332⟩, p329, p330⟩ := hr327
                    have u333 := kp_t u256 u331
                    have v334 := v332.trans v257
                    have f335 := ti_b (q_I r326 1 3 a0)
                    have f336 := ti_b (q_I r326 1 4 a0)
                    exact ok_some (show CI ad h.1 δ0 r326 ∧ (kp [(1, 3), (1, 4), (1, 5), (1, 6), (1, 8), (1, 13), (1, 14), (1, 15)] δ r326 ∧ q_V r326 = q_V δ) ∧ 0 ≤ (q_I r326 1 3 a0).toInt ∧ (q_I r326 1 4 a0).toInt ≤ (q_I δ 3 1 nu).toInt from ⟨i328, ⟨kp_w (by decide) u333, v334⟩, by first | assumption | omega, by first | assumption | omega⟩)
          · have c337 : (1 : Int) ≠ (0 : Int) := o_ne h43
            unfold J_X1_goOnDropping_81
            refine ok_ite (fun h338 => ?_) (fun h338 => ?_)
            · have c339 : (1 : Int) = (0 : Int) := o_eq h338
              unfold J_X1_goOnDropping_121
              refine ok_bind (k_X1_findRoom L hN (a0 := a0) (x1 := (q_I δ 1 8 a0)) k_a0 hnu knu (show 0 ≤ (q_I δ 1 11 a0).toInt by first | assumption | omega) (show (q_I δ 1 11 a0).toInt ≤ (q_I δ 1 12 a0).toInt by first | assumption | omega) (show (q_I δ 1 12 a0).toInt ≤ (q_I δ 3 1 nu).toInt by first | assumption | omega) I) (fun r340 hr341 => ?_)
              obtain ⟨i342, ⟨u348, v349⟩, p343, p344, p345, p346, p347⟩ := hr341
              have u350 := kp_t kp_r u348
              have v351 := v349.trans rfl
              have f352 := bo_t p343
              have f353 := ti_b (q_I r340.2 1 13 a0)
              have f354 := ti_b (q_I r340.2 1 14 a0)
              have f355 := ti_b r340.1
              have f356 := ti_b r340.1
              refine ok_ite (fun h357 => ?_) (fun h357 => ?_)
              · have c358 : r340.1.toInt = (0 : Int) := o_eq h357
                refine ok_bdv (fun d359 e360 => ?_)
                have i361 : CI ad h.1 δ0 d359 := by rw [e360]; exact cs_1_15 L i342 k_a0 (show 0 ≤ (1 : Int) by omega) (show (1 : Int) ≤ 1 by omega)
                have u362 := kp_I u350 e360
                have v363 : q_V d359 = q_V δ := (show q_V d359 = q_V r340.2 by rw [e360]; rfl).trans v351
                have f364 := ti_b (q_I d359 1 3 a0)
                have f365 : (q_I d359 1 3 a0).toInt = (q_I r340.2 1 3 a0).toInt := congrArg Int32.toInt (by rw [e360]; exact rI_o (by decide))
                have f366 := ti_b (q_I r340.2 1 3 a0)
                have f367 : (q_I r340.2 1 3 a0).toInt = (q_I δ 1 3 a0).toInt := congrArg Int32.toInt (u348 1 3 a0 (by decide))
                have f368 := ti_b (q_I d359 1 4 a0)
                have f369 : (q_I d359 1 4 a0).toInt = (q_I r340.2 1 4 a0).toInt := congrArg Int32.toInt (by rw [e360]; exact rI_o (by decide))
                have f370 := ti_b (q_I r340.2 1 4 a0)
                have f371 : (q_I r340.2 1 4 a0).toInt = (q_I δ 1 4 a0).toInt := congrArg Int32.toInt (u348 1 4 a0 (by decide))
                exact ok_some (show CI ad h.1 δ0 d359 ∧ (kp [(1, 3), (1, 4), (1, 5), (1, 6), (1, 8), (1, 13), (1, 14), (1, 15)] δ d359 ∧ q_V d359 = q_V δ) ∧ 0 ≤ (q_I d359 1 3 a0).toInt ∧ (q_I d359 1 4 a0).toInt ≤ (q_I δ 3 1 nu).toInt from ⟨i361, ⟨kp_w (by decide) u362, v363⟩, by first | assumption | omega, by first | assumption | omega⟩)
              · have c372 : r340.1.toInt ≠ (0 : Int) := o_ne h357
                have f375 := cb_3_1 i342 knu o4
                have f376 : (q_I r340.2 3 1 nu).toInt = (q_I δ 3 1 nu).toInt := congrArg Int32.toInt (u348 3 1 nu (by decide))
                refine ok_bind (k_X1_valueAt L hN (a0 := a0) (x1 := (q_I r340.2 1 13 a0)) k_a0 hnu knu (show 0 ≤ ((q_I r340.2 1 13 a0)).toInt by first | assumption | omega) (show ((q_I r340.2 1 13 a0)).toInt < (q_I r340.2 3 1 nu).toInt by first | assumption | omega) i342) (fun r373 hr374 => ?_)
                have i377 := hr374
                try rw [i377]
                have f378 := ti_b r373.1
                refine ok_ite (fun h379 => ?_) (fun h379 => ?_)
                · have c380 : r373.1.toInt = (q_I δ 1 8 a0).toInt := o_eq h379
                  first | (have q384 := te_subc (c := 1) (n := 1) rfl (q_I r340.2 1 14 a0) (by omega) (by omega); obtain ⟨f385, f386, f387⟩ := q384) | (obtain ⟨q384, f385, f386, f387⟩ := ti_subc (c := 1) (n := 1) rfl (q_I r340.2 1 14 a0))
                  refine ok_bind (k_X1_valueAt L hN (a0 := a0) (x1 := ((q_I r340.2 1 14 a0) - (1 : Int32))) k_a0 hnu knu (show 0 ≤ (((q_I r340.2 1 14 a0) - (1 : Int32))).toInt by first | assumption | omega) (show (((q_I r340.2 1 14 a0) - (1 : Int32))).toInt < (q_I r340.2 3 1 nu).toInt by first | assumption | omega) i342) (fun r381 hr382 => ?_)
                  have i388 := hr382
                  try rw [i388]
                  have f389 := ti_b r381.1
                  refine ok_ite (fun h390 => ?_) (fun h390 => ?_)
                  · have c391 : r381.1.toInt = (q_I δ 1 8 a0).toInt := o_eq h390
                    refine ok_bind (k_X1_enterList L hN (a0 := a0) (x1 := (q_I δ 1 8 a0)) k_a0 i342) (fun r392 hr393 => ?_)
                    obtain ⟨i394, ⟨u397, v398⟩, p395, p396⟩ := hr393
                    have u399 := kp_t u350 u397
                    have v400 := v398.trans v351
                    have f401 := ti_b (q_I r392 1 3 a0)
                    have f402 := ti_b (q_I r340.2 1 11 a0)
                    have f403 : (q_I r340.2 1 11 a0).toInt = (q_I δ 1 11 a0).toInt := congrArg Int32.toInt (u348 1 11 a0 (by decide))
                    have f404 := ti_b (q_I r392 1 4 a0)
                    have f405 := ti_b (q_I r340.2 1 12 a0)
                    have f406 : (q_I r340.2 1 12 a0).toInt = (q_I δ 1 12 a0).toInt := congrArg Int32.toInt (u348 1 12 a0 (by decide))
                    exact ok_some (show CI ad h.1 δ0 r392 ∧ (kp [(1, 3), (1, 4), (1, 5), (1, 6), (1, 8), (1, 13), (1, 14), (1, 15)] δ r392 ∧ q_V r392 = q_V δ) ∧ 0 ≤ (q_I r392 1 3 a0).toInt ∧ (q_I r392 1 4 a0).toInt ≤ (q_I δ 3 1 nu).toInt from ⟨i394, ⟨kp_w (by decide) u399, v400⟩, by first | assumption | omega, by first | assumption | omega⟩)
                  · have c407 : r381.1.toInt ≠ (q_I δ 1 8 a0).toInt := o_ne h390
                    unfold J_X1_goOnDropping_172
                    refine ok_bind (k_X1_enterRoom L hN (a0 := a0) (x1 := (q_I δ 1 8 a0)) k_a0 i342) (fun r408 hr409 => ?_)
                    obtain ⟨i410, ⟨u413, v414⟩, p411, p412⟩ := hr409
                    have u415 := kp_t u350 u413
                    have v416 := v414.trans v351
                    have f417 := ti_b (q_I r408 1 3 a0)
                    have f418 := ti_b (q_I r408 1 4 a0)
                    exact ok_some (show CI ad h.1 δ0 r408 ∧ (kp [(1, 3), (1, 4), (1, 5), (1, 6), (1, 8), (1, 13), (1, 14), (1, 15)] δ r408 ∧ q_V r408 = q_V δ) ∧ 0 ≤ (q_I r408 1 3 a0).toInt ∧ (q_I r408 1 4 a0).toInt ≤ (q_I δ 3 1 nu).toInt from ⟨i410, ⟨kp_w (by decide) u415, v416⟩, by first | assumption | omega, by first | assumption | omega⟩)
                · have c419 : r373.1.toInt ≠ (q_I δ 1 8 a0).toInt := o_ne h379
                  unfold J_X1_goOnDropping_172
                  refine ok_bind (k_X1_enterRoom L hN (a0 := a0) (x1 := (q_I δ 1 8 a0)) k_a0 i342) (fun r420 hr421 => ?_)
                  obtain ⟨i422, ⟨u425, v426⟩, p423, p424⟩ := hr421
                  have u427 := kp_t u350 u425
                  have v428 := v426.trans v351
                  have f429 := ti_b (q_I r420 1 3 a0)
                  have f430 := ti_b (q_I r420 1 4 a0)
                  exact ok_some (show CI ad h.1 δ0 r420 ∧ (kp [(1, 3), (1, 4), (1, 5), (1, 6), (1, 8), (1, 13), (1, 14), (1, 15)] δ r420 ∧ q_V r420 = q_V δ) ∧ 0 ≤ (q_I r420 1 3 a0).toInt ∧ (q_I r420 1 4 a0).toInt ≤ (q_I δ 3 1 nu).toInt from ⟨i422, ⟨kp_w (by decide) u427, v428⟩, by first | assumption | omega, by first | assumption | omega⟩)
            · have c431 : (1 : Int) ≠ (0 : Int) := o_ne h338
              refine ok_ite (fun h432 => ?_) (fun h432 => ?_)
              · have c433 : (q_I δ 1 8 a0).toInt = (q_I δ 1 9 a0).toInt := o_eq h432
                unfold J_X1_goOnDropping_118
                refine ok_bind (k_X1_valueAt L hN (a0 := a0) (x1 := (q_I δ 1 11 a0)) k_a0 hnu knu (show 0 ≤ ((q_I δ 1 11 a0)).toInt by first | assumption | omega) (show ((q_I δ 1 11 a0)).toInt < (q_I δ 3 1 nu).toInt by first | assumption | omega) I) (fun r434 hr435 => ?_)
                have i436 := hr435
                try rw [i436]
                have f437 := ti_b r434.1
                unfold J_X1_goOnDropping_121
                refine ok_bind (k_X1_findRoom L hN (a0 := a0) (x1 := r434.1) k_a0 hnu knu (show 0 ≤ (q_I δ 1 11 a0).toInt by first | assumption | omega) (show (q_I δ 1 11 a0).toInt ≤ (q_I δ 1 12 a0).toInt by first | assumption | omega) (show (q_I δ 1 12 a0).toInt ≤ (q_I δ 3 1 nu).toInt by first | assumption | omega) I) (fun r438 hr439 => ?_)
                obtain ⟨i440, ⟨u446, v447⟩, p441, p442, p443, p444, p445⟩ := hr439
                have u448 := kp_t kp_r u446
                have v449 := v447.trans rfl
                have f450 := bo_t p441
                have f451 := ti_b (q_I r438.2 1 13 a0)
                have f452 := ti_b (q_I r438.2 1 14 a0)
                have f453 := ti_b r438.1
                have f454 := ti_b r438.1
                refine ok_ite (fun h455 => ?_) (fun h455 => ?_)
                · have c456 : r438.1.toInt = (0 : Int) := o_eq h455
                  refine ok_bdv (fun d457 e458 => ?_)
                  have i459 : CI ad h.1 δ0 d457 := by rw [e458]; exact cs_1_15 L i440 k_a0 (show 0 ≤ (1 : Int) by omega) (show (1 : Int) ≤ 1 by omega)
                  have u460 := kp_I u448 e458
                  have v461 : q_V d457 = q_V δ := (show q_V d457 = q_V r438.2 by rw [e458]; rfl).trans v449
                  have f462 := ti_b (q_I d457 1 3 a0)
                  have f463 : (q_I d457 1 3 a0).toInt = (q_I r438.2 1 3 a0).toInt := congrArg Int32.toInt (by rw [e458]; exact rI_o (by decide))
                  have f464 := ti_b (q_I r438.2 1 3 a0)
                  have f465 : (q_I r438.2 1 3 a0).toInt = (q_I δ 1 3 a0).toInt := congrArg Int32.toInt (u446 1 3 a0 (by decide))
                  have f466 := ti_b (q_I d457 1 4 a0)
                  have f467 : (q_I d457 1 4 a0).toInt = (q_I r438.2 1 4 a0).toInt := congrArg Int32.toInt (by rw [e458]; exact rI_o (by decide))
                  have f468 := ti_b (q_I r438.2 1 4 a0)
                  have f469 : (q_I r438.2 1 4 a0).toInt = (q_I δ 1 4 a0).toInt := congrArg Int32.toInt (u446 1 4 a0 (by decide))
                  exact ok_some (show CI ad h.1 δ0 d457 ∧ (kp [(1, 3), (1, 4), (1, 5), (1, 6), (1, 8), (1, 13), (1, 14), (1, 15)] δ d457 ∧ q_V d457 = q_V δ) ∧ 0 ≤ (q_I d457 1 3 a0).toInt ∧ (q_I d457 1 4 a0).toInt ≤ (q_I δ 3 1 nu).toInt from ⟨i459, ⟨kp_w (by decide) u460, v461⟩, by first | assumption | omega, by first | assumption | omega⟩)
                · have c470 : r438.1.toInt ≠ (0 : Int) := o_ne h455
                  have f473 := cb_3_1 i440 knu o4
                  have f474 : (q_I r438.2 3 1 nu).toInt = (q_I δ 3 1 nu).toInt := congrArg Int32.toInt (u446 3 1 nu (by decide))
                  refine ok_bind (k_X1_valueAt L hN (a0 := a0) (x1 := (q_I r438.2 1 13 a0)) k_a0 hnu knu (show 0 ≤ ((q_I r438.2 1 13 a0)).toInt by first | assumption | omega) (show ((q_I r438.2 1 13 a0)).toInt < (q_I r438.2 3 1 nu).toInt by first | assumption | omega) i440) (fun r471 hr472 => ?_)
                  have i475 := hr472
                  try rw [i475]
                  have f476 := ti_b r471.1
                  refine ok_ite (fun h477 => ?_) (fun h477 => ?_)
                  · have c478 : r471.1.toInt = r434.1.toInt := o_eq h477
                    first | (have q482 := te_subc (c := 1) (n := 1) rfl (q_I r438.2 1 14 a0) (by omega) (by omega); obtain ⟨f483, f484, f485⟩ := q482) | (obtain ⟨q482, f483, f484, f485⟩ := ti_subc (c := 1) (n := 1) rfl (q_I r438.2 1 14 a0))
                    refine ok_bind (k_X1_valueAt L hN (a0 := a0) (x1 := ((q_I r438.2 1 14 a0) - (1 : Int32))) k_a0 hnu knu (show 0 ≤ (((q_I r438.2 1 14 a0) - (1 : Int32))).toInt by first | assumption | omega) (show (((q_I r438.2 1 14 a0) - (1 : Int32))).toInt < (q_I r438.2 3 1 nu).toInt by first | assumption | omega) i440) (fun r479 hr480 => ?_)
                    have i486 := hr480
                    try rw [i486]
                    have f487 := ti_b r479.1
                    refine ok_ite (fun h488 => ?_) (fun h488 => ?_)
                    · have c489 : r479.1.toInt = r434.1.toInt := o_eq h488
                      refine ok_bind (k_X1_enterList L hN (a0 := a0) (x1 := r434.1) k_a0 i440) (fun r490 hr491 => ?_)
                      obtain ⟨i492, ⟨u495, v496⟩, p493, p494⟩ := hr491
                      have u497 := kp_t u448 u495
                      have v498 := v496.trans v449
                      have f499 := ti_b (q_I r490 1 3 a0)
                      have f500 := ti_b (q_I r438.2 1 11 a0)
                      have f501 : (q_I r438.2 1 11 a0).toInt = (q_I δ 1 11 a0).toInt := congrArg Int32.toInt (u446 1 11 a0 (by decide))
                      have f502 := ti_b (q_I r490 1 4 a0)
                      have f503 := ti_b (q_I r438.2 1 12 a0)
                      have f504 : (q_I r438.2 1 12 a0).toInt = (q_I δ 1 12 a0).toInt := congrArg Int32.toInt (u446 1 12 a0 (by decide))
                      exact ok_some (show CI ad h.1 δ0 r490 ∧ (kp [(1, 3), (1, 4), (1, 5), (1, 6), (1, 8), (1, 13), (1, 14), (1, 15)] δ r490 ∧ q_V r490 = q_V δ) ∧ 0 ≤ (q_I r490 1 3 a0).toInt ∧ (q_I r490 1 4 a0).toInt ≤ (q_I δ 3 1 nu).toInt from ⟨i492, ⟨kp_w (by decide) u497, v498⟩, by first | assumption | omega, by first | assumption | omega⟩)
                    · have c505 : r479.1.toInt ≠ r434.1.toInt := o_ne h488
                      unfold J_X1_goOnDropping_172
                      refine ok_bind (k_X1_enterRoom L hN (a0 := a0) (x1 := r434.1) k_a0 i440) (fun r506 hr507 => ?_)
                      obtain ⟨i508, ⟨u511, v512⟩, p509, p510⟩ := hr507
                      have u513 := kp_t u448 u511
                      have v514 := v512.trans v449
                      have f515 := ti_b (q_I r506 1 3 a0)
                      have f516 := ti_b (q_I r506 1 4 a0)
                      exact ok_some (show CI ad h.1 δ0 r506 ∧ (kp [(1, 3), (1, 4), (1, 5), (1, 6), (1, 8), (1, 13), (1, 14), (1, 15)] δ r506 ∧ q_V r506 = q_V δ) ∧ 0 ≤ (q_I r506 1 3 a0).toInt ∧ (q_I r506 1 4 a0).toInt ≤ (q_I δ 3 1 nu).toInt from ⟨i508, ⟨kp_w (by decide) u513, v514⟩, by first | assumption | omega, by first | assumption | omega⟩)
                  · have c517 : r471.1.toInt ≠ r434.1.toInt := o_ne h477
                    unfold J_X1_goOnDropping_172
                    refine ok_bind (k_X1_enterRoom L hN (a0 := a0) (x1 := r434.1) k_a0 i440) (fun r518 hr519 => ?_)
                    obtain ⟨i520, ⟨u523, v524⟩, p521, p522⟩ := hr519
                    have u525 := kp_t u448 u523
                    have v526 := v524.trans v449
                    have f527 := ti_b (q_I r518 1 3 a0)
                    have f528 := ti_b (q_I r518 1 4 a0)
                    exact ok_some (show CI ad h.1 δ0 r518 ∧ (kp [(1, 3), (1, 4), (1, 5), (1, 6), (1, 8), (1, 13), (1, 14), (1, 15)] δ r518 ∧ q_V r518 = q_V δ) ∧ 0 ≤ (q_I r518 1 3 a0).toInt ∧ (q_I r518 1 4 a0).toInt ≤ (q_I δ 3 1 nu).toInt from ⟨i520, ⟨kp_w (by decide) u525, v526⟩, by first | assumption | omega, by first | assumption | omega⟩)
              · have c529 : (q_I δ 1 8 a0).toInt ≠ (q_I δ 1 9 a0).toInt := o_ne h432
                unfold J_X1_goOnDropping_118
                first | (have q533 := te_subc (c := 1) (n := 1) rfl (q_I δ 1 12 a0) (by omega) (by omega); obtain ⟨f534, f535, f536⟩ := q533) | (obtain ⟨q533, f534, f535, f536⟩ := ti_subc (c := 1) (n := 1) rfl (q_I δ 1 12 a0))
                refine ok_bind (k_X1_valueAt L hN (a0 := a0) (x1 := ((q_I δ 1 12 a0) - (1 : Int32))) k_a0 hnu knu (show 0 ≤ (((q_I δ 1 12 a0) - (1 : Int32))).toInt by first | assumption | omega) (show (((q_I δ 1 12 a0) - (1 : Int32))).toInt < (q_I δ 3 1 nu).toInt by first | assumption | omega) I) (fun r530 hr531 => ?_)
                have i537 := hr531
                try rw [i537]
                have f538 := ti_b r530.1
                unfold J_X1_goOnDropping_121
                refine ok_bind (k_X1_findRoom L hN (a0 := a0) (x1 := r530.1) k_a0 hnu knu (show 0 ≤ (q_I δ 1 11 a0).toInt by first | assumption | omega) (show (q_I δ 1 11 a0).toInt ≤ (q_I δ 1 12 a0).toInt by first | assumption | omega) (show (q_I δ 1 12 a0).toInt ≤ (q_I δ 3 1 nu).toInt by first | assumption | omega) I) (fun r539 hr540 => ?_)
                obtain ⟨i541, ⟨u547, v548⟩, p542, p543, p544, p545, p546⟩ := hr540
                have u549 := kp_t kp_r u547
                have v550 := v548.trans rfl
                have f551 := bo_t p542
                have f552 := ti_b (q_I r539.2 1 13 a0)
                have f553 := ti_b (q_I r539.2 1 14 a0)
                have f554 := ti_b r539.1
                have f555 := ti_b r539.1
                refine ok_ite (fun h556 => ?_) (fun h556 => ?_)
                · have c557 : r539.1.toInt = (0 : Int) := o_eq h556
                  refine ok_bdv (fun d558 e559 => ?_)
                  have i560 : CI ad h.1 δ0 d558 := by rw [e559]; exact cs_1_15 L i541 k_a0 (show 0 ≤ (1 : Int) by omega) (show (1 : Int) ≤ 1 by omega)
                  have u561 := kp_I u549 e559
                  have v562 : q_V d558 = q_V δ := (show q_V d558 = q_V r539.2 by rw [e559]; rfl).trans v550
                  have f563 := ti_b (q_I d558 1 3 a0)
                  have f564 : (q_I d558 1 3 a0).toInt = (q_I r539.2 1 3 a0).toInt := congrArg Int32.toInt (by rw [e559]; exact rI_o (by decide))
                  have f565 := ti_b (q_I r539.2 1 3 a0)
                  have f566 : (q_I r539.2 1 3 a0).toInt = (q_I δ 1 3 a0).toInt := congrArg Int32.toInt (u547 1 3 a0 (by decide))
                  have f567 := ti_b (q_I d558 1 4 a0)
                  have f568 : (q_I d558 1 4 a0).toInt = (q_I r539.2 1 4 a0).toInt := congrArg Int32.toInt (by rw [e559]; exact rI_o (by decide))
                  have f569 := ti_b (q_I r539.2 1 4 a0)
                  have f570 : (q_I r539.2 1 4 a0).toInt = (q_I δ 1 4 a0).toInt := congrArg Int32.toInt (u547 1 4 a0 (by decide))
                  exact ok_some (show CI ad h.1 δ0 d558 ∧ (kp [(1, 3), (1, 4), (1, 5), (1, 6), (1, 8), (1, 13), (1, 14), (1, 15)] δ d558 ∧ q_V d558 = q_V δ) ∧ 0 ≤ (q_I d558 1 3 a0).toInt ∧ (q_I d558 1 4 a0).toInt ≤ (q_I δ 3 1 nu).toInt from ⟨i560, ⟨kp_w (by decide) u561, v562⟩, by first | assumption | omega, by first | assumption | omega⟩)
                · have c571 : r539.1.toInt ≠ (0 : Int) := o_ne h556
                  have f574 := cb_3_1 i541 knu o4
                  have f575 : (q_I r539.2 3 1 nu).toInt = (q_I δ 3 1 nu).toInt := congrArg Int32.toInt (u547 3 1 nu (by decide))
                  refine ok_bind (k_X1_valueAt L hN (a0 := a0) (x1 := (q_I r539.2 1 13 a0)) k_a0 hnu knu (show 0 ≤ ((q_I r539.2 1 13 a0)).toInt by first | assumption | omega) (show ((q_I r539.2 1 13 a0)).toInt < (q_I r539.2 3 1 nu).toInt by first | assumption | omega) i541) (fun r572 hr573 => ?_)
                  have i576 := hr573
                  try rw [i576]
                  have f577 := ti_b r572.1
                  refine ok_ite (fun h578 => ?_) (fun h578 => ?_)
                  · have c579 : r572.1.toInt = r530.1.toInt := o_eq h578
                    first | (have q583 := te_subc (c := 1) (n := 1) rfl (q_I r539.2 1 14 a0) (by omega) (by omega); obtain ⟨f584, f585, f586⟩ := q583) | (obtain ⟨q583, f584, f585, f586⟩ := ti_subc (c := 1) (n := 1) rfl (q_I r539.2 1 14 a0))
                    refine ok_bind (k_X1_valueAt L hN (a0 := a0) (x1 := ((q_I r539.2 1 14 a0) - (1 : Int32))) k_a0 hnu knu (show 0 ≤ (((q_I r539.2 1 14 a0) - (1 : Int32))).toInt by first | assumption | omega) (show (((q_I r539.2 1 14 a0) - (1 : Int32))).toInt < (q_I r539.2 3 1 nu).toInt by first | assumption | omega) i541) (fun r580 hr581 => ?_)
                    have i587 := hr581
                    try rw [i587]
                    have f588 := ti_b r580.1
                    refine ok_ite (fun h589 => ?_) (fun h589 => ?_)
                    · have c590 : r580.1.toInt = r530.1.toInt := o_eq h589
                      refine ok_bind (k_X1_enterList L hN (a0 := a0) (x1 := r530.1) k_a0 i541) (fun r591 hr592 => ?_)
                      obtain ⟨i593, ⟨u596, v597⟩, p594, p595⟩ := hr592
                      have u598 := kp_t u549 u596
                      have v599 := v597.trans v550
                      have f600 := ti_b (q_I r591 1 3 a0)
                      have f601 := ti_b (q_I r539.2 1 11 a0)
                      have f602 : (q_I r539.2 1 11 a0).toInt = (q_I δ 1 11 a0).toInt := congrArg Int32.toInt (u547 1 11 a0 (by decide))
                      have f603 := ti_b (q_I r591 1 4 a0)
                      have f604 := ti_b (q_I r539.2 1 12 a0)
                      have f605 : (q_I r539.2 1 12 a0).toInt = (q_I δ 1 12 a0).toInt := congrArg Int32.toInt (u547 1 12 a0 (by decide))
                      exact ok_some (show CI ad h.1 δ0 r591 ∧ (kp [(1, 3), (1, 4), (1, 5), (1, 6), (1, 8), (1, 13), (1, 14), (1, 15)] δ r591 ∧ q_V r591 = q_V δ) ∧ 0 ≤ (q_I r591 1 3 a0).toInt ∧ (q_I r591 1 4 a0).toInt ≤ (q_I δ 3 1 nu).toInt from ⟨i593, ⟨kp_w (by decide) u598, v599⟩, by first | assumption | omega, by first | assumption | omega⟩)
                    · have c606 : r580.1.toInt ≠ r530.1.toInt := o_ne h589
                      unfold J_X1_goOnDropping_172
                      refine ok_bind (k_X1_enterRoom L hN (a0 := a0) (x1 := r530.1) k_a0 i541) (fun r607 hr608 => ?_)
                      obtain ⟨i609, ⟨u612, v613⟩, p610, p611⟩ := hr608
                      have u614 := kp_t u549 u612
                      have v615 := v613.trans v550
                      have f616 := ti_b (q_I r607 1 3 a0)
                      have f617 := ti_b (q_I r607 1 4 a0)
                      exact ok_some (show CI ad h.1 δ0 r607 ∧ (kp [(1, 3), (1, 4), (1, 5), (1, 6), (1, 8), (1, 13), (1, 14), (1, 15)] δ r607 ∧ q_V r607 = q_V δ) ∧ 0 ≤ (q_I r607 1 3 a0).toInt ∧ (q_I r607 1 4 a0).toInt ≤ (q_I δ 3 1 nu).toInt from ⟨i609, ⟨kp_w (by decide) u614, v615⟩, by first | assumption | omega, by first | assumption | omega⟩)
                  · have c618 : r572.1.toInt ≠ r530.1.toInt := o_ne h578
                    unfold J_X1_goOnDropping_172
                    refine ok_bind (k_X1_enterRoom L hN (a0 := a0) (x1 := r530.1) k_a0 i541) (fun r619 hr620 => ?_)
                    obtain ⟨i621, ⟨u624, v625⟩, p622, p623⟩ := hr620
                    have u626 := kp_t u549 u624
                    have v627 := v625.trans v550
                    have f628 := ti_b (q_I r619 1 3 a0)
                    have f629 := ti_b (q_I r619 1 4 a0)
                    exact ok_some (show CI ad h.1 δ0 r619 ∧ (kp [(1, 3), (1, 4), (1, 5), (1, 6), (1, 8), (1, 13), (1, 14), (1, 15)] δ r619 ∧ q_V r619 = q_V δ) ∧ 0 ≤ (q_I r619 1 3 a0).toInt ∧ (q_I r619 1 4 a0).toInt ≤ (q_I δ 3 1 nu).toInt from ⟨i621, ⟨kp_w (by decide) u626, v627⟩, by first | assumption | omega, by first | assumption | omega⟩)
        · have c630 : (1 : Int) ≠ (0 : Int) := o_ne h41
          refine ok_ite (fun h631 => ?_) (fun h631 => ?_)
          · have c632 : (q_I δ 1 11 a0).toInt < (q_I δ 1 12 a0).toInt := o_lt h631
            unfold J_X1_goOnDropping_72
            refine ok_ite (fun h633 => ?_) (fun h633 => ?_)
            · have c634 : (1 : Int) = (0 : Int) := o_eq h633
              unfold J_X1_goOnDropping_81
              refine ok_ite (fun h635 => ?_) (fun h635 => ?_)
              · have c636 : (1 : Int) = (0 : Int) := o_eq h635
                unfold J_X1_goOnDropping_121
                refine ok_bind (k_X1_findRoom L hN (a0 := a0) (x1 := (q_I δ 1 8 a0)) k_a0 hnu knu (show 0 ≤ (q_I δ 1 11 a0).toInt by first | assumption | omega) (show (q_I δ 1 11 a0).toInt ≤ (q_I δ 1 12 a0).toInt by first | assumption | omega) (show (q_I δ 1 12 a0).toInt ≤ (q_I δ 3 1 nu).toInt by first | assumption | omega) I) (fun r637 hr638 => ?_)
                obtain ⟨i639, ⟨u645, v646⟩, p640, p641, p642, p643, p644⟩ := hr638
                have u647 := kp_t kp_r u645
                have v648 := v646.trans rfl
                have f649 := bo_t p640
                have f650 := ti_b (q_I r637.2 1 13 a0)
                have f651 := ti_b (q_I r637.2 1 14 a0)
                have f652 := ti_b r637.1
                have f653 := ti_b r637.1
                refine ok_ite (fun h654 => ?_) (fun h654 => ?_)
                · have c655 : r637.1.toInt = (0 : Int) := o_eq h654
                  refine ok_bdv (fun d656 e657 => ?_)
                  have i658 : CI ad h.1 δ0 d656 := by rw [e657]; exact cs_1_15 L i639 k_a0 (show 0 ≤ (1 : Int) by omega) (show (1 : Int) ≤ 1 by omega)
                  have u659 := kp_I u647 e657
                  have v660 : q_V d656 = q_V δ := (show q_V d656 = q_V r637.2 by rw [e657]; rfl).trans v648
                  have f661 := ti_b (q_I d656 1 3 a0)
                  have f662 : (q_I d656 1 3 a0).toInt = (q_I r637.2 1 3 a0).toInt := congrArg Int32.toInt (by rw [e657]; exact rI_o (by decide))
                  have f663 := ti_b (q_I r637.2 1 3 a0)
                  have f664 : (q_I r637.2 1 3 a0).toInt = (q_I δ 1 3 a0).toInt := congrArg Int32.toInt (u645 1 3 a0 (by decide))
                  have f665 := ti_b (q_I d656 1 4 a0)
                  have f666 : (q_I d656 1 4 a0).toInt = (q_I r637.2 1 4 a0).toInt := congrArg Int32.toInt (by rw [e657]; exact rI_o (by decide))
                  have f667 := ti_b (q_I r637.2 1 4 a0)
                  have f668 : (q_I r637.2 1 4 a0).toInt = (q_I δ 1 4 a0).toInt := congrArg Int32.toInt (u645 1 4 a0 (by decide))
                  exact ok_some (show CI ad h.1 δ0 d656 ∧ (kp [(1, 3), (1, 4), (1, 5), (1, 6), (1, 8), (1, 13), (1, 14), (1, 15)] δ d656 ∧ q_V d656 = q_V δ) ∧ 0 ≤ (q_I d656 1 3 a0).toInt ∧ (q_I d656 1 4 a0).toInt ≤ (q_I δ 3 1 nu).toInt from ⟨i658, ⟨kp_w (by decide) u659, v660⟩, by first | assumption | omega, by first | assumption | omega⟩)
                · have c669 : r637.1.toInt ≠ (0 : Int) := o_ne h654
                  have f672 := cb_3_1 i639 knu o4
                  have f673 : (q_I r637.2 3 1 nu).toInt = (q_I δ 3 1 nu).toInt := congrArg Int32.toInt (u645 3 1 nu (by decide))
                  refine ok_bind (k_X1_valueAt L hN (a0 := a0) (x1 := (q_I r637.2 1 13 a0)) k_a0 hnu knu (show 0 ≤ ((q_I r637.2 1 13 a0)).toInt by first | assumption | omega) (show ((q_I r637.2 1 13 a0)).toInt < (q_I r637.2 3 1 nu).toInt by first | assumption | omega) i639) (fun r670 hr671 => ?_)
                  have i674 := hr671
                  try rw [i674]
                  have f675 := ti_b r670.1
                  refine ok_ite (fun h676 => ?_) (fun h676 => ?_)
                  · have c677 : r670.1.toInt = (q_I δ 1 8 a0).toInt := o_eq h676
                    first | (have q681 := te_subc (c := 1) (n := 1) rfl (q_I r637.2 1 14 a0) (by omega) (by omega); obtain ⟨f682, f683, f684⟩ := q681) | (obtain ⟨q681, f682, f683, f684⟩ := ti_subc (c := 1) (n := 1) rfl (q_I r637.2 1 14 a0))
                    refine ok_bind (k_X1_valueAt L hN (a0 := a0) (x1 := ((q_I r637.2 1 14 a0) - (1 : Int32))) k_a0 hnu knu (show 0 ≤ (((q_I r637.2 1 14 a0) - (1 : Int32))).toInt by first | assumption | omega) (show (((q_I r637.2 1 14 a0) - (1 : Int32))).toInt < (q_I r637.2 3 1 nu).toInt by first | assumption | omega) i639) (fun r678 hr679 => ?_)
                    have i685 := hr679
                    try rw [i685]
                    have f686 := ti_b r678.1
                    refine ok_ite (fun h687 => ?_) (fun h687 => ?_)
                    · have c688 : r678.1.toInt = (q_I δ 1 8 a0).toInt := o_eq h687
                      refine ok_bind (k_X1_enterList L hN (a0 := a0) (x1 := (q_I δ 1 8 a0)) k_a0 i639) (fun r689 hr690 => ?_)
                      obtain ⟨i691, ⟨u694, v695⟩, p692, p693⟩ := hr690
                      have u696 := kp_t u647 u694
                      have v697 := v695.trans v648
                      have f698 := ti_b (q_I r689 1 3 a0)
                      have f699 := ti_b (q_I r637.2 1 11 a0)
                      have f700 : (q_I r637.2 1 11 a0).toInt = (q_I δ 1 11 a0).toInt := congrArg Int32.toInt (u645 1 11 a0 (by decide))
                      have f701 := ti_b (q_I r689 1 4 a0)
                      have f702 := ti_b (q_I r637.2 1 12 a0)
                      have f703 : (q_I r637.2 1 12 a0).toInt = (q_I δ 1 12 a0).toInt := congrArg Int32.toInt (u645 1 12 a0 (by decide))
                      exact ok_some (show CI ad h.1 δ0 r689 ∧ (kp [(1, 3), (1, 4), (1, 5), (1, 6), (1, 8), (1, 13), (1, 14), (1, 15)] δ r689 ∧ q_V r689 = q_V δ) ∧ 0 ≤ (q_I r689 1 3 a0).toInt ∧ (q_I r689 1 4 a0).toInt ≤ (q_I δ 3 1 nu).toInt from ⟨i691, ⟨kp_w (by decide) u696, v697⟩, by first | assumption | omega, by first | assumption | omega⟩)
                    · have c704 : r678.1.toInt ≠ (q_I δ 1 8 a0).toInt := o_ne h687
                      unfold J_X1_goOnDropping_172
                      refine ok_bind (k_X1_enterRoom L hN (a0 := a0) (x1 := (q_I δ 1 8 a0)) k_a0 i639) (fun r705 hr706 => ?_)
                      obtain ⟨i707, ⟨u710, v711⟩, p708, p709⟩ := hr706
                      have u712 := kp_t u647 u710
                      have v713 := v711.trans v648
                      have f714 := ti_b (q_I r705 1 3 a0)
                      have f715 := ti_b (q_I r705 1 4 a0)
                      exact ok_some (show CI ad h.1 δ0 r705 ∧ (kp [(1, 3), (1, 4), (1, 5), (1, 6), (1, 8), (1, 13), (1, 14), (1, 15)] δ r705 ∧ q_V r705 = q_V δ) ∧ 0 ≤ (q_I r705 1 3 a0).toInt ∧ (q_I r705 1 4 a0).toInt ≤ (q_I δ 3 1 nu).toInt from ⟨i707, ⟨kp_w (by decide) u712, v713⟩, by first | assumption | omega, by first | assumption | omega⟩)
                  · have c716 : r670.1.toInt ≠ (q_I δ 1 8 a0).toInt := o_ne h676
                    unfold J_X1_goOnDropping_172
                    refine ok_bind (k_X1_enterRoom L hN (a0 := a0) (x1 := (q_I δ 1 8 a0)) k_a0 i639) (fun r717 hr718 => ?_)
                    obtain ⟨i719, ⟨u722, v723⟩, p720, p721⟩ := hr718
                    have u724 := kp_t u647 u722
                    have v725 := v723.trans v648
                    have f726 := ti_b (q_I r717 1 3 a0)
                    have f727 := ti_b (q_I r717 1 4 a0)
                    exact ok_some (show CI ad h.1 δ0 r717 ∧ (kp [(1, 3), (1, 4), (1, 5), (1, 6), (1, 8), (1, 13), (1, 14), (1, 15)] δ r717 ∧ q_V r717 = q_V δ) ∧ 0 ≤ (q_I r717 1 3 a0).toInt ∧ (q_I r717 1 4 a0).toInt ≤ (q_I δ 3 1 nu).toInt from ⟨i719, ⟨kp_w (by decide) u724, v725⟩, by first | assumption | omega, by first | assumption | omega⟩)
              · have c728 : (1 : Int) ≠ (0 : Int) := o_ne h635
                refine ok_ite (fun h729 => ?_) (fun h729 => ?_)
                · have c730 : (q_I δ 1 8 a0).toInt = (q_I δ 1 9 a0).toInt := o_eq h729
                  unfold J_X1_goOnDropping_118
                  refine ok_bind (k_X1_valueAt L hN (a0 := a0) (x1 := (q_I δ 1 11 a0)) k_a0 hnu knu (show 0 ≤ ((q_I δ 1 11 a0)).toInt by first | assumption | omega) (show ((q_I δ 1 11 a0)).toInt < (q_I δ 3 1 nu).toInt by first | assumption | omega) I) (fun r731 hr732 => ?_)
                  have i733 := hr732
                  try rw [i733]
                  have f734 := ti_b r731.1
                  unfold J_X1_goOnDropping_121
                  refine ok_bind (k_X1_findRoom L hN (a0 := a0) (x1 := r731.1) k_a0 hnu knu (show 0 ≤ (q_I δ 1 11 a0).toInt by first | assumption | omega) (show (q_I δ 1 11 a0).toInt ≤ (q_I δ 1 12 a0).toInt by first | assumption | omega) (show (q_I δ 1 12 a0).toInt ≤ (q_I δ 3 1 nu).toInt by first | assumption | omega) I) (fun r735 hr736 => ?_)
                  obtain ⟨i737, ⟨u743, v744⟩, p738, p739, p740, p741, p742⟩ := hr736
                  have u745 := kp_t kp_r u743
                  have v746 := v744.trans rfl
                  have f747 := bo_t p738
                  have f748 := ti_b (q_I r735.2 1 13 a0)
                  have f749 := ti_b (q_I r735.2 1 14 a0)
                  have f750 := ti_b r735.1
                  have f751 := ti_b r735.1
                  refine ok_ite (fun h752 => ?_) (fun h752 => ?_)
                  · have c753 : r735.1.toInt = (0 : Int) := o_eq h752
                    refine ok_bdv (fun d754 e755 => ?_)
                    have i756 : CI ad h.1 δ0 d754 := by rw [e755]; exact cs_1_15 L i737 k_a0 (show 0 ≤ (1 : Int) by omega) (show (1 : Int) ≤ 1 by omega)
                    have u757 := kp_I u745 e755
                    have v758 : q_V d754 = q_V δ := (show q_V d754 = q_V r735.2 by rw [e755]; rfl).trans v746
                    have f759 := ti_b (q_I d754 1 3 a0)
                    have f760 : (q_I d754 1 3 a0).toInt = (q_I r735.2 1 3 a0).toInt := congrArg Int32.toInt (by rw [e755]; exact rI_o (by decide))
                    have f761 := ti_b (q_I r735.2 1 3 a0)
                    have f762 : (q_I r735.2 1 3 a0).toInt = (q_I δ 1 3 a0).toInt := congrArg Int32.toInt (u743 1 3 a0 (by decide))
                    have f763 := ti_b (q_I d754 1 4 a0)
                    have f764 : (q_I d754 1 4 a0).toInt = (q_I r735.2 1 4 a0).toInt := congrArg Int32.toInt (by rw [e755]; exact rI_o (by decide))
                    have f765 := ti_b (q_I r735.2 1 4 a0)
                    have f766 : (q_I r735.2 1 4 a0).toInt = (q_I δ 1 4 a0).toInt := congrArg Int32.toInt (u743 1 4 a0 (by decide))
                    exact ok_some (show CI ad h.1 δ0 d754 ∧ (kp [(1, 3), (1, 4), (1, 5), (1, 6), (1, 8), (1, 13), (1, 14), (1, 15)] δ d754 ∧ q_V d754 = q_V δ) ∧ 0 ≤ (q_I d754 1 3 a0).toInt ∧ (q_I d754 1 4 a0).toInt ≤ (q_I δ 3 1 nu).toInt from ⟨i756, ⟨kp_w (by decide) u757, v758⟩, by first | assumption | omega, by first | assumption | omega⟩)
                  · have c767 : r735.1.toInt ≠ (0 : Int) := o_ne h752
                    have f770 := cb_3_1 i737 knu o4
                    have f771 : (q_I r735.2 3 1 nu).toInt = (q_I δ 3 1 nu).toInt := congrArg Int32.toInt (u743 3 1 nu (by decide))
                    refine ok_bind (k_X1_valueAt L hN (a0 := a0) (x1 := (q_I r735.2 1 13 a0)) k_a0 hnu knu (show 0 ≤ ((q_I r735.2 1 13 a0)).toInt by first | assumption | omega) (show ((q_I r735.2 1 13 a0)).toInt < (q_I r735.2 3 1 nu).toInt by first | assumption | omega) i737) (fun r768 hr769 => ?_)
                    have i772 := hr769
                    try rw [i772]
                    have f773 := ti_b r768.1
                    refine ok_ite (fun h774 => ?_) (fun h774 => ?_)
                    · have c775 : r768.1.toInt = r731.1.toInt := o_eq h774
                      first | (have q779 := te_subc (c := 1) (n := 1) rfl (q_I r735.2 1 14 a0) (by omega) (by omega); obtain ⟨f780, f781, f782⟩ := q779) | (obtain ⟨q779, f780, f781, f782⟩ := ti_subc (c := 1) (n := 1) rfl (q_I r735.2 1 14 a0))
                      refine ok_bind (k_X1_valueAt L hN (a0 := a0) (x1 := ((q_I r735.2 1 14 a0) - (1 : Int32))) k_a0 hnu knu (show 0 ≤ (((q_I r735.2 1 14 a0) - (1 : Int32))).toInt by first | assumption | omega) (show (((q_I r735.2 1 14 a0) - (1 : Int32))).toInt < (q_I r735.2 3 1 nu).toInt by first | assumption | omega) i737) (fun r776 hr777 => ?_)
                      have i783 := hr777
                      try rw [i783]
                      have f784 := ti_b r776.1
                      refine ok_ite (fun h785 => ?_) (fun h785 => ?_)
                      · have c786 : r776.1.toInt = r731.1.toInt := o_eq h785
                        refine ok_bind (k_X1_enterList L hN (a0 := a0) (x1 := r731.1) k_a0 i737) (fun r787 hr788 => ?_)
                        obtain ⟨i789, ⟨u792, v793⟩, p790, p791⟩ := hr788
                        have u794 := kp_t u745 u792
                        have v795 := v793.trans v746
                        have f796 := ti_b (q_I r787 1 3 a0)
                        have f797 := ti_b (q_I r735.2 1 11 a0)
                        have f798 : (q_I r735.2 1 11 a0).toInt = (q_I δ 1 11 a0).toInt := congrArg Int32.toInt (u743 1 11 a0 (by decide))
                        have f799 := ti_b (q_I r787 1 4 a0)
                        have f800 := ti_b (q_I r735.2 1 12 a0)
                        have f801 : (q_I r735.2 1 12 a0).toInt = (q_I δ 1 12 a0).toInt := congrArg Int32.toInt (u743 1 12 a0 (by decide))
                        exact ok_some (show CI ad h.1 δ0 r787 ∧ (kp [(1, 3), (1, 4), (1, 5), (1, 6), (1, 8), (1, 13), (1, 14), (1, 15)] δ r787 ∧ q_V r787 = q_V δ) ∧ 0 ≤ (q_I r787 1 3 a0).toInt ∧ (q_I r787 1 4 a0).toInt ≤ (q_I δ 3 1 nu).toInt from ⟨i789, ⟨kp_w (by decide) u794, v795⟩, by first | assumption | omega, by first | assumption | omega⟩)
                      · have c802 : r776.1.toInt ≠ r731.1.toInt := o_ne h785
                        unfold J_X1_goOnDropping_172
                        refine ok_bind (k_X1_enterRoom L hN (a0 := a0) (x1 := r731.1) k_a0 i737) (fun r803 hr804 => ?_)
                        obtain ⟨i805, ⟨u808, v809⟩, p806, p807⟩ := hr804
                        have u810 := kp_t u745 u808
                        have v811 := v809.trans v746
                        have f812 := ti_b (q_I r803 1 3 a0)
                        have f813 := ti_b (q_I r803 1 4 a0)
                        exact ok_some (show CI ad h.1 δ0 r803 ∧ (kp [(1, 3), (1, 4), (1, 5), (1, 6), (1, 8), (1, 13), (1, 14), (1, 15)] δ r803 ∧ q_V r803 = q_V δ) ∧ 0 ≤ (q_I r803 1 3 a0).toInt ∧ (q_I r803 1 4 a0).toInt ≤ (q_I δ 3 1 nu).toInt from ⟨i805, ⟨kp_w (by decide) u810, v811⟩, by first | assumption | omega, by first | assumption | omega⟩)
                    · have c814 : r768.1.toInt ≠ r731.1.toInt := o_ne h774
                      unfold J_X1_goOnDropping_172
                      refine ok_bind (k_X1_enterRoom L hN (a0 := a0) (x1 := r731.1) k_a0 i737) (fun r815 hr816 => ?_)
                      obtain ⟨i817, ⟨u820, v821⟩, p818, p819⟩ := hr816
                      have u822 := kp_t u745 u820
                      have v823 := v821.trans v746
                      have f824 := ti_b (q_I r815 1 3 a0)
                      have f825 := ti_b (q_I r815 1 4 a0)
                      exact ok_some (show CI ad h.1 δ0 r815 ∧ (kp [(1, 3), (1, 4), (1, 5), (1, 6), (1, 8), (1, 13), (1, 14), (1, 15)] δ r815 ∧ q_V r815 = q_V δ) ∧ 0 ≤ (q_I r815 1 3 a0).toInt ∧ (q_I r815 1 4 a0).toInt ≤ (q_I δ 3 1 nu).toInt from ⟨i817, ⟨kp_w (by decide) u822, v823⟩, by first | assumption | omega, by first | assumption | omega⟩)
                · have c826 : (q_I δ 1 8 a0).toInt ≠ (q_I δ 1 9 a0).toInt := o_ne h729
                  unfold J_X1_goOnDropping_118
                  first | (have q830 := te_subc (c := 1) (n := 1) rfl (q_I δ 1 12 a0) (by omega) (by omega); obtain ⟨f831, f832, f833⟩ := q830) | (obtain ⟨q830, f831, f832, f833⟩ := ti_subc (c := 1) (n := 1) rfl (q_I δ 1 12 a0))
                  refine ok_bind (k_X1_valueAt L hN (a0 := a0) (x1 := ((q_I δ 1 12 a0) - (1 : Int32))) k_a0 hnu knu (show 0 ≤ (((q_I δ 1 12 a0) - (1 : Int32))).toInt by first | assumption | omega) (show (((q_I δ 1 12 a0) - (1 : Int32))).toInt < (q_I δ 3 1 nu).toInt by first | assumption | omega) I) (fun r827 hr828 => ?_)
                  have i834 := hr828
                  try rw [i834]
                  have f835 := ti_b r827.1
                  unfold J_X1_goOnDropping_121
                  refine ok_bind (k_X1_findRoom L hN (a0 := a0) (x1 := r827.1) k_a0 hnu knu (show 0 ≤ (q_I δ 1 11 a0).toInt by first | assumption | omega) (show (q_I δ 1 11 a0).toInt ≤ (q_I δ 1 12 a0).toInt by first | assumption | omega) (show (q_I δ 1 12 a0).toInt ≤ (q_I δ 3 1 nu).toInt by first | assumption | omega) I) (fun r836 hr837 => ?_)
                  obtain ⟨i838, ⟨u844, v845⟩, p839, p840, p841, p842, p843⟩ := hr837
                  have u846 := kp_t kp_r u844
                  have v847 := v845.trans rfl
                  have f848 := bo_t p839
                  have f849 := ti_b (q_I r836.2 1 13 a0)
                  have f850 := ti_b (q_I r836.2 1 14 a0)
                  have f851 := ti_b r836.1
                  have f852 := ti_b r836.1
                  refine ok_ite (fun h853 => ?_) (fun h853 => ?_)
                  · have c854 : r836.1.toInt = (0 : Int) := o_eq h853
                    refine ok_bdv (fun d855 e856 => ?_)
                    have i857 : CI ad h.1 δ0 d855 := by rw [e856]; exact cs_1_15 L i838 k_a0 (show 0 ≤ (1 : Int) by omega) (show (1 : Int) ≤ 1 by omega)
                    have u858 := kp_I u846 e856
                    have v859 : q_V d855 = q_V δ := (show q_V d855 = q_V r836.2 by rw [e856]; rfl).trans v847
                    have f860 := ti_b (q_I d855 1 3 a0)
                    have f861 : (q_I d855 1 3 a0).toInt = (q_I r836.2 1 3 a0).toInt := congrArg Int32.toInt (by rw [e856]; exact rI_o (by decide))
                    have f862 := ti_b (q_I r836.2 1 3 a0)
                    have f863 : (q_I r836.2 1 3 a0).toInt = (q_I δ 1 3 a0).toInt := congrArg Int32.toInt (u844 1 3 a0 (by decide))
                    have f864 := ti_b (q_I d855 1 4 a0)
                    have f865 : (q_I d855 1 4 a0).toInt = (q_I r836.2 1 4 a0).toInt := congrArg Int32.toInt (by rw [e856]; exact rI_o (by decide))
                    have f866 := ti_b (q_I r836.2 1 4 a0)
                    have f867 : (q_I r836.2 1 4 a0).toInt = (q_I δ 1 4 a0).toInt := congrArg Int32.toInt (u844 1 4 a0 (by decide))
                    exact ok_some (show CI ad h.1 δ0 d855 ∧ (kp [(1, 3), (1, 4), (1, 5), (1, 6), (1, 8), (1, 13), (1, 14), (1, 15)] δ d855 ∧ q_V d855 = q_V δ) ∧ 0 ≤ (q_I d855 1 3 a0).toInt ∧ (q_I d855 1 4 a0).toInt ≤ (q_I δ 3 1 nu).toInt from ⟨i857, ⟨kp_w (by decide) u858, v859⟩, by first | assumption | omega, by first | assumption | omega⟩)
                  · have c868 : r836.1.toInt ≠ (0 : Int) := o_ne h853
                    have f871 := cb_3_1 i838 knu o4
                    have f872 : (q_I r836.2 3 1 nu).toInt = (q_I δ 3 1 nu).toInt := congrArg Int32.toInt (u844 3 1 nu (by decide))
                    refine ok_bind (k_X1_valueAt L hN (a0 := a0) (x1 := (q_I r836.2 1 13 a0)) k_a0 hnu knu (show 0 ≤ ((q_I r836.2 1 13 a0)).toInt by first | assumption | omega) (show ((q_I r836.2 1 13 a0)).toInt < (q_I r836.2 3 1 nu).toInt by first | assumption | omega) i838) (fun r869 hr870 => ?_)
                    have i873 := hr870
                    try rw [i873]
                    have f874 := ti_b r869.1
                    refine ok_ite (fun h875 => ?_) (fun h875 => ?_)
                    · have c876 : r869.1.toInt = r827.1.toInt := o_eq h875
                      first | (have q880 := te_subc (c := 1) (n := 1) rfl (q_I r836.2 1 14 a0) (by omega) (by omega); obtain ⟨f881, f882, f883⟩ := q880) | (obtain ⟨q880, f881, f882, f883⟩ := ti_subc (c := 1) (n := 1) rfl (q_I r836.2 1 14 a0))
                      refine ok_bind (k_X1_valueAt L hN (a0 := a0) (x1 := ((q_I r836.2 1 14 a0) - (1 : Int32))) k_a0 hnu knu (show 0 ≤ (((q_I r836.2 1 14 a0) - (1 : Int32))).toInt by first | assumption | omega) (show (((q_I r836.2 1 14 a0) - (1 : Int32))).toInt < (q_I r836.2 3 1 nu).toInt by first | assumption | omega) i838) (fun r877 hr878 => ?_)
                      have i884 := hr878
                      try rw [i884]
                      have f885 := ti_b r877.1
                      refine ok_ite (fun h886 => ?_) (fun h886 => ?_)
                      · have c887 : r877.1.toInt = r827.1.toInt := o_eq h886
                        refine ok_bind (k_X1_enterList L hN (a0 := a0) (x1 := r827.1) k_a0 i838) (fun r888 hr889 => ?_)
                        obtain ⟨i890, ⟨u893, v894⟩, p891, p892⟩ := hr889
                        have u895 := kp_t u846 u893
                        have v896 := v894.trans v847
                        have f897 := ti_b (q_I r888 1 3 a0)
                        have f898 := ti_b (q_I r836.2 1 11 a0)
                        have f899 : (q_I r836.2 1 11 a0).toInt = (q_I δ 1 11 a0).toInt := congrArg Int32.toInt (u844 1 11 a0 (by decide))
                        have f900 := ti_b (q_I r888 1 4 a0)
                        have f901 := ti_b (q_I r836.2 1 12 a0)
                        have f902 : (q_I r836.2 1 12 a0).toInt = (q_I δ 1 12 a0).toInt := congrArg Int32.toInt (u844 1 12 a0 (by decide))
                        exact ok_some (show CI ad h.1 δ0 r888 ∧ (kp [(1, 3), (1, 4), (1, 5), (1, 6), (1, 8), (1, 13), (1, 14), (1, 15)] δ r888 ∧ q_V r888 = q_V δ) ∧ 0 ≤ (q_I r888 1 3 a0).toInt ∧ (q_I r888 1 4 a0).toInt ≤ (q_I δ 3 1 nu).toInt from ⟨i890, ⟨kp_w (by decide) u895, v896⟩, by first | assumption | omega, by first | assumption | omega⟩)
                      · have c903 : r877.1.toInt ≠ r827.1.toInt := o_ne h886
                        unfold J_X1_goOnDropping_172
                        refine ok_bind (k_X1_enterRoom L hN (a0 := a0) (x1 := r827.1) k_a0 i838) (fun r904 hr905 => ?_)
                        obtain ⟨i906, ⟨u909, v910⟩, p907, p908⟩ := hr905
                        have u911 := kp_t u846 u909
                        have v912 := v910.trans v847
                        have f913 := ti_b (q_I r904 1 3 a0)
                        have f914 := ti_b (q_I r904 1 4 a0)
                        exact ok_some (show CI ad h.1 δ0 r904 ∧ (kp [(1, 3), (1, 4), (1, 5), (1, 6), (1, 8), (1, 13), (1, 14), (1, 15)] δ r904 ∧ q_V r904 = q_V δ) ∧ 0 ≤ (q_I r904 1 3 a0).toInt ∧ (q_I r904 1 4 a0).toInt ≤ (q_I δ 3 1 nu).toInt from ⟨i906, ⟨kp_w (by decide) u911, v912⟩, by first | assumption | omega, by first | assumption | omega⟩)
                    · have c915 : r869.1.toInt ≠ r827.1.toInt := o_ne h875
                      unfold J_X1_goOnDropping_172
                      refine ok_bind (k_X1_enterRoom L hN (a0 := a0) (x1 := r827.1) k_a0 i838) (fun r916 hr917 => ?_)
                      obtain ⟨i918, ⟨u921, v922⟩, p919, p920⟩ := hr917
                      have u923 := kp_t u846 u921
                      have v924 := v922.trans v847
                      have f925 := ti_b (q_I r916 1 3 a0)
                      have f926 := ti_b (q_I r916 1 4 a0)
                      exact ok_some (show CI ad h.1 δ0 r916 ∧ (kp [(1, 3), (1, 4), (1, 5), (1, 6), (1, 8), (1, 13), (1, 14), (1, 15)] δ r916 ∧ q_V r916 = q_V δ) ∧ 0 ≤ (q_I r916 1 3 a0).toInt ∧ (q_I r916 1 4 a0).toInt ≤ (q_I δ 3 1 nu).toInt from ⟨i918, ⟨kp_w (by decide) u923, v924⟩, by first | assumption | omega, by first | assumption | omega⟩)
            · have c927 : (1 : Int) ≠ (0 : Int) := o_ne h633
              unfold J_X1_goOnDropping_81
              refine ok_ite (fun h928 => ?_) (fun h928 => ?_)
              · have c929 : (1 : Int) = (0 : Int) := o_eq h928
                unfold J_X1_goOnDropping_121
                refine ok_bind (k_X1_findRoom L hN (a0 := a0) (x1 := (q_I δ 1 8 a0)) k_a0 hnu knu (show 0 ≤ (q_I δ 1 11 a0).toInt by first | assumption | omega) (show (q_I δ 1 11 a0).toInt ≤ (q_I δ 1 12 a0).toInt by first | assumption | omega) (show (q_I δ 1 12 a0).toInt ≤ (q_I δ 3 1 nu).toInt by first | assumption | omega) I) (fun r930 hr931 => ?_)
                obtain ⟨i932, ⟨u938, v939⟩, p933, p934, p935, p936, p937⟩ := hr931
                have u940 := kp_t kp_r u938
                have v941 := v939.trans rfl
                have f942 := bo_t p933
                have f943 := ti_b (q_I r930.2 1 13 a0)
                have f944 := ti_b (q_I r930.2 1 14 a0)
                have f945 := ti_b r930.1
                have f946 := ti_b r930.1
                refine ok_ite (fun h947 => ?_) (fun h947 => ?_)
                · have c948 : r930.1.toInt = (0 : Int) := o_eq h947
                  refine ok_bdv (fun d949 e950 => ?_)
                  have i951 : CI ad h.1 δ0 d949 := by rw [e950]; exact cs_1_15 L i932 k_a0 (show 0 ≤ (1 : Int) by omega) (show (1 : Int) ≤ 1 by omega)
                  have u952 := kp_I u940 e950
                  have v953 : q_V d949 = q_V δ := (show q_V d949 = q_V r930.2 by rw [e950]; rfl).trans v941
                  have f954 := ti_b (q_I d949 1 3 a0)
                  have f955 : (q_I d949 1 3 a0).toInt = (q_I r930.2 1 3 a0).toInt := congrArg Int32.toInt (by rw [e950]; exact rI_o (by decide))
                  have f956 := ti_b (q_I r930.2 1 3 a0)
                  have f957 : (q_I r930.2 1 3 a0).toInt = (q_I δ 1 3 a0).toInt := congrArg Int32.toInt (u938 1 3 a0 (by decide))
                  have f958 := ti_b (q_I d949 1 4 a0)
                  have f959 : (q_I d949 1 4 a0).toInt = (q_I r930.2 1 4 a0).toInt := congrArg Int32.toInt (by rw [e950]; exact rI_o (by decide))
                  have f960 := ti_b (q_I r930.2 1 4 a0)
                  have f961 : (q_I r930.2 1 4 a0).toInt = (q_I δ 1 4 a0).toInt := congrArg Int32.toInt (u938 1 4 a0 (by decide))
                  exact ok_some (show CI ad h.1 δ0 d949 ∧ (kp [(1, 3), (1, 4), (1, 5), (1, 6), (1, 8), (1, 13), (1, 14), (1, 15)] δ d949 ∧ q_V d949 = q_V δ) ∧ 0 ≤ (q_I d949 1 3 a0).toInt ∧ (q_I d949 1 4 a0).toInt ≤ (q_I δ 3 1 nu).toInt from ⟨i951, ⟨kp_w (by decide) u952, v953⟩, by first | assumption | omega, by first | assumption | omega⟩)
                · have c962 : r930.1.toInt ≠ (0 : Int) := o_ne h947
                  have f965 := cb_3_1 i932 knu o4
                  have f966 : (q_I r930.2 3 1 nu).toInt = (q_I δ 3 1 nu).toInt := congrArg Int32.toInt (u938 3 1 nu (by decide))
                  refine ok_bind (k_X1_valueAt L hN (a0 := a0) (x1 := (q_I r930.2 1 13 a0)) k_a0 hnu knu (show 0 ≤ ((q_I r930.2 1 13 a0)).toInt by first | assumption | omega) (show ((q_I r930.2 1 13 a0)).toInt < (q_I r930.2 3 1 nu).toInt by first | assumption | omega) i932) (fun r963 hr964 => ?_)
                  have i967 := hr964
                  try rw [i967]
                  have f968 := ti_b r963.1
                  refine ok_ite (fun h969 => ?_) (fun h969 => ?_)
                  · have c970 : r963.1.toInt = (q_I δ 1 8 a0).toInt := o_eq h969
                    first | (have q974 := te_subc (c := 1) (n := 1) rfl (q_I r930.2 1 14 a0) (by omega) (by omega); obtain ⟨f975, f976, f977⟩ := q974) | (obtain ⟨q974, f975, f976, f977⟩ := ti_subc (c := 1) (n := 1) rfl (q_I r930.2 1 14 a0))
                    refine ok_bind (k_X1_valueAt L hN (a0 := a0) (x1 := ((q_I r930.2 1 14 a0) - (1 : Int32))) k_a0 hnu knu (show 0 ≤ (((q_I r930.2 1 14 a0) - (1 : Int32))).toInt by first | assumption | omega) (show (((q_I r930.2 1 14 a0) - (1 : Int32))).toInt < (q_I r930.2 3 1 nu).toInt by first | assumption | omega) i932) (fun r971 hr972 => ?_)
                    have i978 := hr972
                    try rw [i978]
                    have f979 := ti_b r971.1
                    refine ok_ite (fun h980 => ?_) (fun h980 => ?_)
                    · have c981 : r971.1.toInt = (q_I δ 1 8 a0).toInt := o_eq h980
                      refine ok_bind (k_X1_enterList L hN (a0 := a0) (x1 := (q_I δ 1 8 a0)) k_a0 i932) (fun r982 hr983 => ?_)
                      obtain ⟨i984, ⟨u987, v988⟩, p985, p986⟩ := hr983
                      have u989 := kp_t u940 u987
                      have v990 := v988.trans v941
                      have f991 := ti_b (q_I r982 1 3 a0)
                      have f992 := ti_b (q_I r930.2 1 11 a0)
                      have f993 : (q_I r930.2 1 11 a0).toInt = (q_I δ 1 11 a0).toInt := congrArg Int32.toInt (u938 1 11 a0 (by decide))
                      have f994 := ti_b (q_I r982 1 4 a0)
                      have f995 := ti_b (q_I r930.2 1 12 a0)
                      have f996 : (q_I r930.2 1 12 a0).toInt = (q_I δ 1 12 a0).toInt := congrArg Int32.toInt (u938 1 12 a0 (by decide))
                      exact ok_some (show CI ad h.1 δ0 r982 ∧ (kp [(1, 3), (1, 4), (1, 5), (1, 6), (1, 8), (1, 13), (1, 14), (1, 15)] δ r982 ∧ q_V r982 = q_V δ) ∧ 0 ≤ (q_I r982 1 3 a0).toInt ∧ (q_I r982 1 4 a0).toInt ≤ (q_I δ 3 1 nu).toInt from ⟨i984, ⟨kp_w (by decide) u989, v990⟩, by first | assumption | omega, by first | assumption | omega⟩)
                    · have c997 : r971.1.toInt ≠ (q_I δ 1 8 a0).toInt := o_ne h980
                      unfold J_X1_goOnDropping_172
                      refine ok_bind (k_X1_enterRoom L hN (a0 := a0) (x1 := (q_I δ 1 8 a0)) k_a0 i932) (fun r998 hr999 => ?_)
                      obtain ⟨i1000, ⟨u1003, v1004⟩, p1001, p1002⟩ := hr999
                      have u1005 := kp_t u940 u1003
                      have v1006 := v1004.trans v941
                      have f1007 := ti_b (q_I r998 1 3 a0)
                      have f1008 := ti_b (q_I r998 1 4 a0)
                      exact ok_some (show CI ad h.1 δ0 r998 ∧ (kp [(1, 3), (1, 4), (1, 5), (1, 6), (1, 8), (1, 13), (1, 14), (1, 15)] δ r998 ∧ q_V r998 = q_V δ) ∧ 0 ≤ (q_I r998 1 3 a0).toInt ∧ (q_I r998 1 4 a0).toInt ≤ (q_I δ 3 1 nu).toInt from ⟨i1000, ⟨kp_w (by decide) u1005, v1006⟩, by first | assumption | omega, by first | assumption | omega⟩)
                  · have c1009 : r963.1.toInt ≠ (q_I δ 1 8 a0).toInt := o_ne h969
                    unfold J_X1_goOnDropping_172
                    refine ok_bind (k_X1_enterRoom L hN (a0 := a0) (x1 := (q_I δ 1 8 a0)) k_a0 i932) (fun r1010 hr1011 => ?_)
                    obtain ⟨i1012, ⟨u1015, v1016⟩, p1013, p1014⟩ := hr1011
                    have u1017 := kp_t u940 u1015
                    have v1018 := v1016.trans v941
                    have f1019 := ti_b (q_I r1010 1 3 a0)
                    have f1020 := ti_b (q_I r1010 1 4 a0)
                    exact ok_some (show CI ad h.1 δ0 r1010 ∧ (kp [(1, 3), (1, 4), (1, 5), (1, 6), (1, 8), (1, 13), (1, 14), (1, 15)] δ r1010 ∧ q_V r1010 = q_V δ) ∧ 0 ≤ (q_I r1010 1 3 a0).toInt ∧ (q_I r1010 1 4 a0).toInt ≤ (q_I δ 3 1 nu).toInt from ⟨i1012, ⟨kp_w (by decide) u1017, v1018⟩, by first | assumption | omega, by first | assumption | omega⟩)
              · have c1021 : (1 : Int) ≠ (0 : Int) := o_ne h928
                refine ok_ite (fun h1022 => ?_) (fun h1022 => ?_)
                · have c1023 : (q_I δ 1 8 a0).toInt = (q_I δ 1 9 a0).toInt := o_eq h1022
                  unfold J_X1_goOnDropping_118
                  refine ok_bind (k_X1_valueAt L hN (a0 := a0) (x1 := (q_I δ 1 11 a0)) k_a0 hnu knu (show 0 ≤ ((q_I δ 1 11 a0)).toInt by first | assumption | omega) (show ((q_I δ 1 11 a0)).toInt < (q_I δ 3 1 nu).toInt by first | assumption | omega) I) (fun r1024 hr1025 => ?_)
                  have i1026 := hr1025
                  try rw [i1026]
                  have f1027 := ti_b r1024.1
                  unfold J_X1_goOnDropping_121
                  refine ok_bind (k_X1_findRoom L hN (a0 := a0) (x1 := r1024.1) k_a0 hnu knu (show 0 ≤ (q_I δ 1 11 a0).toInt by first | assumption | omega) (show (q_I δ 1 11 a0).toInt ≤ (q_I δ 1 12 a0).toInt by first | assumption | omega) (show (q_I δ 1 12 a0).toInt ≤ (q_I δ 3 1 nu).toInt by first | assumption | omega) I) (fun r1028 hr1029 => ?_)
                  obtain ⟨i1030, ⟨u1036, v1037⟩, p1031, p1032, p1033, p1034, p1035⟩ := hr1029
                  have u1038 := kp_t kp_r u1036
                  have v1039 := v1037.trans rfl
                  have f1040 := bo_t p1031
                  have f1041 := ti_b (q_I r1028.2 1 13 a0)
                  have f1042 := ti_b (q_I r1028.2 1 14 a0)
                  have f1043 := ti_b r1028.1
                  have f1044 := ti_b r1028.1
                  refine ok_ite (fun h1045 => ?_) (fun h1045 => ?_)
                  · have c1046 : r1028.1.toInt = (0 : Int) := o_eq h1045
                    refine ok_bdv (fun d1047 e1048 => ?_)
                    have i1049 : CI ad h.1 δ0 d1047 := by rw [e1048]; exact cs_1_15 L i1030 k_a0 (show 0 ≤ (1 : Int) by omega) (show (1 : Int) ≤ 1 by omega)
                    have u1050 := kp_I u1038 e1048
                    have v1051 : q_V d1047 = q_V δ := (show q_V d1047 = q_V r1028.2 by rw [e1048]; rfl).trans v1039
                    have f1052 := ti_b (q_I d1047 1 3 a0)
                    have f1053 : (q_I d1047 1 3 a0).toInt = (q_I r1028.2 1 3 a0).toInt := congrArg Int32.toInt (by rw [e1048]; exact rI_o (by decide))
                    have f1054 := ti_b (q_I r1028.2 1 3 a0)
                    have f1055 : (q_I r1028.2 1 3 a0).toInt = (q_I δ 1 3 a0).toInt := congrArg Int32.toInt (u1036 1 3 a0 (by decide))
                    have f1056 := ti_b (q_I d1047 1 4 a0)
                    have f1057 : (q_I d1047 1 4 a0).toInt = (q_I r1028.2 1 4 a0).toInt := congrArg Int32.toInt (by rw [e1048]; exact rI_o (by decide))
                    have f1058 := ti_b (q_I r1028.2 1 4 a0)
                    have f1059 : (q_I r1028.2 1 4 a0).toInt = (q_I δ 1 4 a0).toInt := congrArg Int32.toInt (u1036 1 4 a0 (by decide))
                    exact ok_some (show CI ad h.1 δ0 d1047 ∧ (kp [(1, 3), (1, 4), (1, 5), (1, 6), (1, 8), (1, 13), (1, 14), (1, 15)] δ d1047 ∧ q_V d1047 = q_V δ) ∧ 0 ≤ (q_I d1047 1 3 a0).toInt ∧ (q_I d1047 1 4 a0).toInt ≤ (q_I δ 3 1 nu).toInt from ⟨i1049, ⟨kp_w (by decide) u1050, v1051⟩, by first | assumption | omega, by first | assumption | omega⟩)
                  · have c1060 : r1028.1.toInt ≠ (0 : Int) := o_ne h1045
                    have f1063 := cb_3_1 i1030 knu o4
                    have f1064 : (q_I r1028.2 3 1 nu).toInt = (q_I δ 3 1 nu).toInt := congrArg Int32.toInt (u1036 3 1 nu (by decide))
                    refine ok_bind (k_X1_valueAt L hN (a0 := a0) (x1 := (q_I r1028.2 1 13 a0)) k_a0 hnu knu (show 0 ≤ ((q_I r1028.2 1 13 a0)).toInt by first | assumption | omega) (show ((q_I r1028.2 1 13 a0)).toInt < (q_I r1028.2 3 1 nu).toInt by first | assumption | omega) i1030) (fun r1061 hr1062 => ?_)
                    have i1065 := hr1062
                    try rw [i1065]
                    have f1066 := ti_b r1061.1
                    refine ok_ite (fun h1067 => ?_) (fun h1067 => ?_)
                    · have c1068 : r1061.1.toInt = r1024.1.toInt := o_eq h1067
                      first | (have q1072 := te_subc (c := 1) (n := 1) rfl (q_I r1028.2 1 14 a0) (by omega) (by omega); obtain ⟨f1073, f1074, f1075⟩ := q1072) | (obtain ⟨q1072, f1073, f1074, f1075⟩ := ti_subc (c := 1) (n := 1) rfl (q_I r1028.2 1 14 a0))
                      refine ok_bind (k_X1_valueAt L hN (a0 := a0) (x1 := ((q_I r1028.2 1 14 a0) - (1 : Int32))) k_a0 hnu knu (show 0 ≤ (((q_I r1028.2 1 14 a0) - (1 : Int32))).toInt by first | assumption | omega) (show (((q_I r1028.2 1 14 a0) - (1 : Int32))).toInt < (q_I r1028.2 3 1 nu).toInt by first | assumption | omega) i1030) (fun r1069 hr1070 => ?_)
                      have i1076 := hr1070
                      try rw [i1076]
                      have f1077 := ti_b r1069.1
                      refine ok_ite (fun h1078 => ?_) (fun h1078 => ?_)
                      · have c1079 : r1069.1.toInt = r1024.1.toInt := o_eq h1078
                        refine ok_bind (k_X1_enterList L hN (a0 := a0) (x1 := r1024.1) k_a0 i1030) (fun r1080 hr1081 => ?_)
                        obtain ⟨i1082, ⟨u1085, v1086⟩, p1083, p1084⟩ := hr1081
                        have u1087 := kp_t u1038 u1085
                        have v1088 := v1086.trans v1039
                        have f1089 := ti_b (q_I r1080 1 3 a0)
                        have f1090 := ti_b (q_I r1028.2 1 11 a0)
                        have f1091 : (q_I r1028.2 1 11 a0).toInt = (q_I δ 1 11 a0).toInt := congrArg Int32.toInt (u1036 1 11 a0 (by decide))
                        have f1092 := ti_b (q_I r1080 1 4 a0)
                        have f1093 := ti_b (q_I r1028.2 1 12 a0)
                        have f1094 : (q_I r1028.2 1 12 a0).toInt = (q_I δ 1 12 a0).toInt := congrArg Int32.toInt (u1036 1 12 a0 (by decide))
                        exact ok_some (show CI ad h.1 δ0 r1080 ∧ (kp [(1, 3), (1, 4), (1, 5), (1, 6), (1, 8), (1, 13), (1, 14), (1, 15)] δ r1080 ∧ q_V r1080 = q_V δ) ∧ 0 ≤ (q_I r1080 1 3 a0).toInt ∧ (q_I r1080 1 4 a0).toInt ≤ (q_I δ 3 1 nu).toInt from ⟨i1082, ⟨kp_w (by decide) u1087, v1088⟩, by first | assumption | omega, by first | assumption | omega⟩)
                      · have c1095 : r1069.1.toInt ≠ r1024.1.toInt := o_ne h1078
                        unfold J_X1_goOnDropping_172
                        refine ok_bind (k_X1_enterRoom L hN (a0 := a0) (x1 := r1024.1) k_a0 i1030) (fun r1096 hr1097 => ?_)
                        obtain ⟨i1098, ⟨u1101, v1102⟩, p1099, p1100⟩ := hr1097
                        have u1103 := kp_t u1038 u1101
                        have v1104 := v1102.trans v1039
                        have f1105 := ti_b (q_I r1096 1 3 a0)
                        have f1106 := ti_b (q_I r1096 1 4 a0)
                        exact ok_some (show CI ad h.1 δ0 r1096 ∧ (kp [(1, 3), (1, 4), (1, 5), (1, 6), (1, 8), (1, 13), (1, 14), (1, 15)] δ r1096 ∧ q_V r1096 = q_V δ) ∧ 0 ≤ (q_I r1096 1 3 a0).toInt ∧ (q_I r1096 1 4 a0).toInt ≤ (q_I δ 3 1 nu).toInt from ⟨i1098, ⟨kp_w (by decide) u1103, v1104⟩, by first | assumption | omega, by first | assumption | omega⟩)
                    · have c1107 : r1061.1.toInt ≠ r1024.1.toInt := o_ne h1067
                      unfold J_X1_goOnDropping_172
                      refine ok_bind (k_X1_enterRoom L hN (a0 := a0) (x1 := r1024.1) k_a0 i1030) (fun r1108 hr1109 => ?_)
                      obtain ⟨i1110, ⟨u1113, v1114⟩, p1111, p1112⟩ := hr1109
                      have u1115 := kp_t u1038 u1113
                      have v1116 := v1114.trans v1039
                      have f1117 := ti_b (q_I r1108 1 3 a0)
                      have f1118 := ti_b (q_I r1108 1 4 a0)
                      exact ok_some (show CI ad h.1 δ0 r1108 ∧ (kp [(1, 3), (1, 4), (1, 5), (1, 6), (1, 8), (1, 13), (1, 14), (1, 15)] δ r1108 ∧ q_V r1108 = q_V δ) ∧ 0 ≤ (q_I r1108 1 3 a0).toInt ∧ (q_I r1108 1 4 a0).toInt ≤ (q_I δ 3 1 nu).toInt from ⟨i1110, ⟨kp_w (by decide) u1115, v1116⟩, by first | assumption | omega, by first | assumption | omega⟩)
                · have c1119 : (q_I δ 1 8 a0).toInt ≠ (q_I δ 1 9 a0).toInt := o_ne h1022
                  unfold J_X1_goOnDropping_118
                  first | (have q1123 := te_subc (c := 1) (n := 1) rfl (q_I δ 1 12 a0) (by omega) (by omega); obtain ⟨f1124, f1125, f1126⟩ := q1123) | (obtain ⟨q1123, f1124, f1125, f1126⟩ := ti_subc (c := 1) (n := 1) rfl (q_I δ 1 12 a0))
                  refine ok_bind (k_X1_valueAt L hN (a0 := a0) (x1 := ((q_I δ 1 12 a0) - (1 : Int32))) k_a0 hnu knu (show 0 ≤ (((q_I δ 1 12 a0) - (1 : Int32))).toInt by first | assumption | omega) (show (((q_I δ 1 12 a0) - (1 : Int32))).toInt < (q_I δ 3 1 nu).toInt by first | assumption | omega) I) (fun r1120 hr1121 => ?_)
                  have i1127 := hr1121
                  try rw [i1127]
                  have f1128 := ti_b r1120.1
                  unfold J_X1_goOnDropping_121
                  refine ok_bind (k_X1_findRoom L hN (a0 := a0) (x1 := r1120.1) k_a0 hnu knu (show 0 ≤ (q_I δ 1 11 a0).toInt by first | assumption | omega) (show (q_I δ 1 11 a0).toInt ≤ (q_I δ 1 12 a0).toInt by first | assumption | omega) (show (q_I δ 1 12 a0).toInt ≤ (q_I δ 3 1 nu).toInt by first | assumption | omega) I) (fun r1129 hr1130 => ?_)
                  obtain ⟨i1131, ⟨u1137, v1138⟩, p1132, p1133, p1134, p1135, p1136⟩ := hr1130
                  have u1139 := kp_t kp_r u1137
                  have v1140 := v1138.trans rfl
                  have f1141 := bo_t p1132
                  have f1142 := ti_b (q_I r1129.2 1 13 a0)
                  have f1143 := ti_b (q_I r1129.2 1 14 a0)
                  have f1144 := ti_b r1129.1
                  have f1145 := ti_b r1129.1
                  refine ok_ite (fun h1146 => ?_) (fun h1146 => ?_)
                  · have c1147 : r1129.1.toInt = (0 : Int) := o_eq h1146
                    refine ok_bdv (fun d1148 e1149 => ?_)
                    have i1150 : CI ad h.1 δ0 d1148 := by rw [e1149]; exact cs_1_15 L i1131 k_a0 (show 0 ≤ (1 : Int) by omega) (show (1 : Int) ≤ 1 by omega)
                    have u1151 := kp_I u1139 e1149
                    have v1152 : q_V d1148 = q_V δ := (show q_V d1148 = q_V r1129.2 by rw [e1149]; rfl).trans v1140
                    have f1153 := ti_b (q_I d1148 1 3 a0)
                    have f1154 : (q_I d1148 1 3 a0).toInt = (q_I r1129.2 1 3 a0).toInt := congrArg Int32.toInt (by rw [e1149]; exact rI_o (by decide))
                    have f1155 := ti_b (q_I r1129.2 1 3 a0)
                    have f1156 : (q_I r1129.2 1 3 a0).toInt = (q_I δ 1 3 a0).toInt := congrArg Int32.toInt (u1137 1 3 a0 (by decide))
                    have f1157 := ti_b (q_I d1148 1 4 a0)
                    have f1158 : (q_I d1148 1 4 a0).toInt = (q_I r1129.2 1 4 a0).toInt := congrArg Int32.toInt (by rw [e1149]; exact rI_o (by decide))
                    have f1159 := ti_b (q_I r1129.2 1 4 a0)
                    have f1160 : (q_I r1129.2 1 4 a0).toInt = (q_I δ 1 4 a0).toInt := congrArg Int32.toInt (u1137 1 4 a0 (by decide))
                    exact ok_some (show CI ad h.1 δ0 d1148 ∧ (kp [(1, 3), (1, 4), (1, 5), (1, 6), (1, 8), (1, 13), (1, 14), (1, 15)] δ d1148 ∧ q_V d1148 = q_V δ) ∧ 0 ≤ (q_I d1148 1 3 a0).toInt ∧ (q_I d1148 1 4 a0).toInt ≤ (q_I δ 3 1 nu).toInt from ⟨i1150, ⟨kp_w (by decide) u1151, v1152⟩, by first | assumption | omega, by first | assumption | omega⟩)
                  · have c1161 : r1129.1.toInt ≠ (0 : Int) := o_ne h1146
                    have f1164 := cb_3_1 i1131 knu o4
                    have f1165 : (q_I r1129.2 3 1 nu).toInt = (q_I δ 3 1 nu).toInt := congrArg Int32.toInt (u1137 3 1 nu (by decide))
                    refine ok_bind (k_X1_valueAt L hN (a0 := a0) (x1 := (q_I r1129.2 1 13 a0)) k_a0 hnu knu (show 0 ≤ ((q_I r1129.2 1 13 a0)).toInt by first | assumption | omega) (show ((q_I r1129.2 1 13 a0)).toInt < (q_I r1129.2 3 1 nu).toInt by first | assumption | omega) i1131) (fun r1162 hr1163 => ?_)
                    have i1166 := hr1163
                    try rw [i1166]
                    have f1167 := ti_b r1162.1
                    refine ok_ite (fun h1168 => ?_) (fun h1168 => ?_)
                    · have c1169 : r1162.1.toInt = r1120.1.toInt := o_eq h1168
                      first | (have q1173 := te_subc (c := 1) (n := 1) rfl (q_I r1129.2 1 14 a0) (by omega) (by omega); obtain ⟨f1174, f1175, f1176⟩ := q1173) | (obtain ⟨q1173, f1174, f1175, f1176⟩ := ti_subc (c := 1) (n := 1) rfl (q_I r1129.2 1 14 a0))
                      refine ok_bind (k_X1_valueAt L hN (a0 := a0) (x1 := ((q_I r1129.2 1 14 a0) - (1 : Int32))) k_a0 hnu knu (show 0 ≤ (((q_I r1129.2 1 14 a0) - (1 : Int32))).toInt by first | assumption | omega) (show (((q_I r1129.2 1 14 a0) - (1 : Int32))).toInt < (q_I r1129.2 3 1 nu).toInt by first | assumption | omega) i1131) (fun r1170 hr1171 => ?_)
                      have i1177 := hr1171
                      try rw [i1177]
                      have f1178 := ti_b r1170.1
                      refine ok_ite (fun h1179 => ?_) (fun h1179 => ?_)
                      · have c1180 : r1170.1.toInt = r1120.1.toInt := o_eq h1179
                        refine ok_bind (k_X1_enterList L hN (a0 := a0) (x1 := r1120.1) k_a0 i1131) (fun r1181 hr1182 => ?_)
                        obtain ⟨i1183, ⟨u1186, v1187⟩, p1184, p1185⟩ := hr1182
                        have u1188 := kp_t u1139 u1186
                        have v1189 := v1187.trans v1140
                        have f1190 := ti_b (q_I r1181 1 3 a0)
                        have f1191 := ti_b (q_I r1129.2 1 11 a0)
                        have f1192 : (q_I r1129.2 1 11 a0).toInt = (q_I δ 1 11 a0).toInt := congrArg Int32.toInt (u1137 1 11 a0 (by decide))
                        have f1193 := ti_b (q_I r1181 1 4 a0)
                        have f1194 := ti_b (q_I r1129.2 1 12 a0)
                        have f1195 : (q_I r1129.2 1 12 a0).toInt = (q_I δ 1 12 a0).toInt := congrArg Int32.toInt (u1137 1 12 a0 (by decide))
                        exact ok_some (show CI ad h.1 δ0 r1181 ∧ (kp [(1, 3), (1, 4), (1, 5), (1, 6), (1, 8), (1, 13), (1, 14), (1, 15)] δ r1181 ∧ q_V r1181 = q_V δ) ∧ 0 ≤ (q_I r1181 1 3 a0).toInt ∧ (q_I r1181 1 4 a0).toInt ≤ (q_I δ 3 1 nu).toInt from ⟨i1183, ⟨kp_w (by decide) u1188, v1189⟩, by first | assumption | omega, by first | assumption | omega⟩)
                      · have c1196 : r1170.1.toInt ≠ r1120.1.toInt := o_ne h1179
                        unfold J_X1_goOnDropping_172
                        refine ok_bind (k_X1_enterRoom L hN (a0 := a0) (x1 := r1120.1) k_a0 i1131) (fun r1197 hr1198 => ?_)
                        obtain ⟨i1199, ⟨u1202, v1203⟩, p1200, p1201⟩ := hr1198
                        have u1204 := kp_t u1139 u1202
                        have v1205 := v1203.trans v1140
                        have f1206 := ti_b (q_I r1197 1 3 a0)
                        have f1207 := ti_b (q_I r1197 1 4 a0)
                        exact ok_some (show CI ad h.1 δ0 r1197 ∧ (kp [(1, 3), (1, 4), (1, 5), (1, 6), (1, 8), (1, 13), (1, 14), (1, 15)] δ r1197 ∧ q_V r1197 = q_V δ) ∧ 0 ≤ (q_I r1197 1 3 a0).toInt ∧ (q_I r1197 1 4 a0).toInt ≤ (q_I δ 3 1 nu).toInt from ⟨i1199, ⟨kp_w (by decide) u1204, v1205⟩, by first | assumption | omega, by first | assumption | omega⟩)
                    · have c1208 : r1162.1.toInt ≠ r1120.1.toInt := o_ne h1168
                      unfold J_X1_goOnDropping_172
                      refine ok_bind (k_X1_enterRoom L hN (a0 := a0) (x1 := r1120.1) k_a0 i1131) (fun r1209 hr1210 => ?_)
                      obtain ⟨i1211, ⟨u1214, v1215⟩, p1212, p1213⟩ := hr1210
                      have u1216 := kp_t u1139 u1214
                      have v1217 := v1215.trans v1140
                      have f1218 := ti_b (q_I r1209 1 3 a0)
                      have f1219 := ti_b (q_I r1209 1 4 a0)
                      exact ok_some (show CI ad h.1 δ0 r1209 ∧ (kp [(1, 3), (1, 4), (1, 5), (1, 6), (1, 8), (1, 13), (1, 14), (1, 15)] δ r1209 ∧ q_V r1209 = q_V δ) ∧ 0 ≤ (q_I r1209 1 3 a0).toInt ∧ (q_I r1209 1 4 a0).toInt ≤ (q_I δ 3 1 nu).toInt from ⟨i1211, ⟨kp_w (by decide) u1216, v1217⟩, by first | assumption | omega, by first | assumption | omega⟩)
          · have c1220 : (q_I δ 1 12 a0).toInt ≤ (q_I δ 1 11 a0).toInt := o_nlt h631
            unfold J_X1_goOnDropping_65
            refine ok_bdv (fun d1221 e1222 => ?_)
            have i1223 : CI ad h.1 δ0 d1221 := by rw [e1222]; exact cs_1_15 L I k_a0 (show 0 ≤ (1 : Int) by omega) (show (1 : Int) ≤ 1 by omega)
            have u1224 := kp_I kp_r e1222
            have v1225 : q_V d1221 = q_V δ := (show q_V d1221 = q_V δ by rw [e1222]; rfl).trans rfl
            have f1226 := ti_b (q_I d1221 1 3 a0)
            have f1227 : (q_I d1221 1 3 a0).toInt = (q_I δ 1 3 a0).toInt := congrArg Int32.toInt (by rw [e1222]; exact rI_o (by decide))
            have f1228 := ti_b (q_I d1221 1 4 a0)
            have f1229 : (q_I d1221 1 4 a0).toInt = (q_I δ 1 4 a0).toInt := congrArg Int32.toInt (by rw [e1222]; exact rI_o (by decide))
            exact ok_some (show CI ad h.1 δ0 d1221 ∧ (kp [(1, 3), (1, 4), (1, 5), (1, 6), (1, 8), (1, 13), (1, 14), (1, 15)] δ d1221 ∧ q_V d1221 = q_V δ) ∧ 0 ≤ (q_I d1221 1 3 a0).toInt ∧ (q_I d1221 1 4 a0).toInt ≤ (q_I δ 3 1 nu).toInt from ⟨i1223, ⟨kp_w (by decide) u1224, v1225⟩, by first | assumption | omega, by first | assumption | omega⟩)
  · have c1230 : (q_I δ 1 8 a0).toInt ≠ (q_I δ 1 9 a0).toInt := o_ne h14
    have f1231 := ti_b (q_I δ 1 10 a0)
    refine ok_ite (fun h1232 => ?_) (fun h1232 => ?_)
    · have c1233 : (q_I δ 1 8 a0).toInt = (q_I δ 1 10 a0).toInt := o_eq h1232
      unfold J_X1_goOnDropping_22
      unfold J_X1_goOnDropping_27
      refine ok_ite (fun h1234 => ?_) (fun h1234 => ?_)
      · have c1235 : (q_I δ 1 8 a0).toInt < (q_I δ 1 9 a0).toInt := o_lt h1234
        unfold J_X1_goOnDropping_65
        refine ok_bdv (fun d1236 e1237 => ?_)
        have i1238 : CI ad h.1 δ0 d1236 := by rw [e1237]; exact cs_1_15 L I k_a0 (show 0 ≤ (1 : Int) by omega) (show (1 : Int) ≤ 1 by omega)
        have u1239 := kp_I kp_r e1237
        have v1240 : q_V d1236 = q_V δ := (show q_V d1236 = q_V δ by rw [e1237]; rfl).trans rfl
        have f1241 := ti_b (q_I d1236 1 3 a0)
        have f1242 : (q_I d1236 1 3 a0).toInt = (q_I δ 1 3 a0).toInt := congrArg Int32.toInt (by rw [e1237]; exact rI_o (by decide))
        have f1243 := ti_b (q_I d1236 1 4 a0)
        have f1244 : (q_I d1236 1 4 a0).toInt = (q_I δ 1 4 a0).toInt := congrArg Int32.toInt (by rw [e1237]; exact rI_o (by decide))
        exact ok_some (show CI ad h.1 δ0 d1236 ∧ (kp [(1, 3), (1, 4), (1, 5), (1, 6), (1, 8), (1, 13), (1, 14), (1, 15)] δ d1236 ∧ q_V d1236 = q_V δ) ∧ 0 ≤ (q_I d1236 1 3 a0).toInt ∧ (q_I d1236 1 4 a0).toInt ≤ (q_I δ 3 1 nu).toInt from ⟨i1238, ⟨kp_w (by decide) u1239, v1240⟩, by first | assumption | omega, by first | assumption | omega⟩)
      · have c1245 : (q_I δ 1 9 a0).toInt ≤ (q_I δ 1 8 a0).toInt := o_nlt h1234
        refine ok_ite (fun h1246 => ?_) (fun h1246 => ?_)
        · have c1247 : (q_I δ 1 10 a0).toInt < (q_I δ 1 8 a0).toInt := o_lt h1246
          unfold J_X1_goOnDropping_65
          refine ok_bdv (fun d1248 e1249 => ?_)
          have i1250 : CI ad h.1 δ0 d1248 := by rw [e1249]; exact cs_1_15 L I k_a0 (show 0 ≤ (1 : Int) by omega) (show (1 : Int) ≤ 1 by omega)
          have u1251 := kp_I kp_r e1249
          have v1252 : q_V d1248 = q_V δ := (show q_V d1248 = q_V δ by rw [e1249]; rfl).trans rfl
          have f1253 := ti_b (q_I d1248 1 3 a0)
          have f1254 : (q_I d1248 1 3 a0).toInt = (q_I δ 1 3 a0).toInt := congrArg Int32.toInt (by rw [e1249]; exact rI_o (by decide))
          have f1255 := ti_b (q_I d1248 1 4 a0)
          have f1256 : (q_I d1248 1 4 a0).toInt = (q_I δ 1 4 a0).toInt := congrArg Int32.toInt (by rw [e1249]; exact rI_o (by decide))
          exact ok_some (show CI ad h.1 δ0 d1248 ∧ (kp [(1, 3), (1, 4), (1, 5), (1, 6), (1, 8), (1, 13), (1, 14), (1, 15)] δ d1248 ∧ q_V d1248 = q_V δ) ∧ 0 ≤ (q_I d1248 1 3 a0).toInt ∧ (q_I d1248 1 4 a0).toInt ≤ (q_I δ 3 1 nu).toInt from ⟨i1250, ⟨kp_w (by decide) u1251, v1252⟩, by first | assumption | omega, by first | assumption | omega⟩)
        · have c1257 : (q_I δ 1 8 a0).toInt ≤ (q_I δ 1 10 a0).toInt := o_nlt h1246
          refine ok_ite (fun h1258 => ?_) (fun h1258 => ?_)
          · have c1259 : (1 : Int) = (0 : Int) := o_eq h1258
            unfold J_X1_goOnDropping_72
            refine ok_ite (fun h1260 => ?_) (fun h1260 => ?_)
            · have c1261 : (1 : Int) = (0 : Int) := o_eq h1260
              unfold J_X1_goOnDropping_81
              refine ok_ite (fun h1262 => ?_) (fun h1262 => ?_)
              · have c1263 : (1 : Int) = (0 : Int) := o_eq h1262
                unfold J_X1_goOnDropping_121
                refine ok_bind (k_X1_findRoom L hN (a0 := a0) (x1 := (q_I δ 1 8 a0)) k_a0 hnu knu (show 0 ≤ (q_I δ 1 11 a0).toInt by first | assumption | omega) (show (q_I δ 1 11 a0).toInt ≤ (q_I δ 1 12 a0).toInt by first | assumption | omega) (show (q_I δ 1 12 a0).toInt ≤ (q_I δ 3 1 nu).toInt by first | assumption | omega) I) (fun r1264 hr1265 => ?_)
                obtain ⟨i1266, ⟨u1272, v1273⟩, p1267, p1268, p1269, p1270, p1271⟩ := hr1265
                have u1274 := kp_t kp_r u1272
                have v1275 := v1273.trans rfl
                have f1276 := bo_t p1267
                have f1277 := ti_b (q_I r1264.2 1 13 a0)
                have f1278 := ti_b (q_I r1264.2 1 14 a0)
                have f1279 := ti_b r1264.1
                have f1280 := ti_b r1264.1
                refine ok_ite (fun h1281 => ?_) (fun h1281 => ?_)
                · have c1282 : r1264.1.toInt = (0 : Int) := o_eq h1281
                  refine ok_bdv (fun d1283 e1284 => ?_)
                  have i1285 : CI ad h.1 δ0 d1283 := by rw [e1284]; exact cs_1_15 L i1266 k_a0 (show 0 ≤ (1 : Int) by omega) (show (1 : Int) ≤ 1 by omega)
                  have u1286 := kp_I u1274 e1284
                  have v1287 : q_V d1283 = q_V δ := (show q_V d1283 = q_V r1264.2 by rw [e1284]; rfl).trans v1275
                  have f1288 := ti_b (q_I d1283 1 3 a0)
                  have f1289 : (q_I d1283 1 3 a0).toInt = (q_I r1264.2 1 3 a0).toInt := congrArg Int32.toInt (by rw [e1284]; exact rI_o (by decide))
                  have f1290 := ti_b (q_I r1264.2 1 3 a0)
                  have f1291 : (q_I r1264.2 1 3 a0).toInt = (q_I δ 1 3 a0).toInt := congrArg Int32.toInt (u1272 1 3 a0 (by decide))
                  have f1292 := ti_b (q_I d1283 1 4 a0)
                  have f1293 : (q_I d1283 1 4 a0).toInt = (q_I r1264.2 1 4 a0).toInt := congrArg Int32.toInt (by rw [e1284]; exact rI_o (by decide))
                  have f1294 := ti_b (q_I r1264.2 1 4 a0)
                  have f1295 : (q_I r1264.2 1 4 a0).toInt = (q_I δ 1 4 a0).toInt := congrArg Int32.toInt (u1272 1 4 a0 (by decide))
                  exact ok_some (show CI ad h.1 δ0 d1283 ∧ (kp [(1, 3), (1, 4), (1, 5), (1, 6), (1, 8), (1, 13), (1, 14), (1, 15)] δ d1283 ∧ q_V d1283 = q_V δ) ∧ 0 ≤ (q_I d1283 1 3 a0).toInt ∧ (q_I d1283 1 4 a0).toInt ≤ (q_I δ 3 1 nu).toInt from ⟨i1285, ⟨kp_w (by decide) u1286, v1287⟩, by first | assumption | omega, by first | assumption | omega⟩)
                · have c1296 : r1264.1.toInt ≠ (0 : Int) := o_ne h1281
                  have f1299 := cb_3_1 i1266 knu o4
                  have f1300 : (q_I r1264.2 3 1 nu).toInt = (q_I δ 3 1 nu).toInt := congrArg Int32.toInt (u1272 3 1 nu (by decide))
                  refine ok_bind (k_X1_valueAt L hN (a0 := a0) (x1 := (q_I r1264.2 1 13 a0)) k_a0 hnu knu (show 0 ≤ ((q_I r1264.2 1 13 a0)).toInt by first | assumption | omega) (show ((q_I r1264.2 1 13 a0)).toInt < (q_I r1264.2 3 1 nu).toInt by first | assumption | omega) i1266) (fun r1297 hr1298 => ?_)
                  have i1301 := hr1298
                  try rw [i1301]
                  have f1302 := ti_b r1297.1
                  refine ok_ite (fun h1303 => ?_) (fun h1303 => ?_)
                  · have c1304 : r1297.1.toInt = (q_I δ 1 8 a0).toInt := o_eq h1303
                    first | (have q1308 := te_subc (c := 1) (n := 1) rfl (q_I r1264.2 1 14 a0) (by omega) (by omega); obtain ⟨f1309, f1310, f1311⟩ := q1308) | (obtain ⟨q1308, f1309, f1310, f1311⟩ := ti_subc (c := 1) (n := 1) rfl (q_I r1264.2 1 14 a0))
                    refine ok_bind (k_X1_valueAt L hN (a0 := a0) (x1 := ((q_I r1264.2 1 14 a0) - (1 : Int32))) k_a0 hnu knu (show 0 ≤ (((q_I r1264.2 1 14 a0) - (1 : Int32))).toInt by first | assumption | omega) (show (((q_I r1264.2 1 14 a0) - (1 : Int32))).toInt < (q_I r1264.2 3 1 nu).toInt by first | assumption | omega) i1266) (fun r1305 hr1306 => ?_)
                    have i1312 := hr1306
                    try rw [i1312]
                    have f1313 := ti_b r1305.1
                    refine ok_ite (fun h1314 => ?_) (fun h1314 => ?_)
                    · have c1315 : r1305.1.toInt = (q_I δ 1 8 a0).toInt := o_eq h1314
                      refine ok_bind (k_X1_enterList L hN (a0 := a0) (x1 := (q_I δ 1 8 a0)) k_a0 i1266) (fun r1316 hr1317 => ?_)
                      obtain ⟨i1318, ⟨u1321, v1322⟩, p1319, p1320⟩ := hr1317
                      have u1323 := kp_t u1274 u1321
                      have v1324 := v1322.trans v1275
                      have f1325 := ti_b (q_I r1316 1 3 a0)
                      have f1326 := ti_b (q_I r1264.2 1 11 a0)
                      have f1327 : (q_I r1264.2 1 11 a0).toInt = (q_I δ 1 11 a0).toInt := congrArg Int32.toInt (u1272 1 11 a0 (by decide))
                      have f1328 := ti_b (q_I r1316 1 4 a0)
                      have f1329 := ti_b (q_I r1264.2 1 12 a0)
                      have f1330 : (q_I r1264.2 1 12 a0).toInt = (q_I δ 1 12 a0).toInt := congrArg Int32.toInt (u1272 1 12 a0 (by decide))
                      exact ok_some (show CI ad h.1 δ0 r1316 ∧ (kp [(1, 3), (1, 4), (1, 5), (1, 6), (1, 8), (1, 13), (1, 14), (1, 15)] δ r1316 ∧ q_V r1316 = q_V δ) ∧ 0 ≤ (q_I r1316 1 3 a0).toInt ∧ (q_I r1316 1 4 a0).toInt ≤ (q_I δ 3 1 nu).toInt from ⟨i1318, ⟨kp_w (by decide) u1323, v1324⟩, by first | assumption | omega, by first | assumption | omega⟩)
                    · have c1331 : r1305.1.toInt ≠ (q_I δ 1 8 a0).toInt := o_ne h1314
                      unfold J_X1_goOnDropping_172
                      refine ok_bind (k_X1_enterRoom L hN (a0 := a0) (x1 := (q_I δ 1 8 a0)) k_a0 i1266) (fun r1332 hr1333 => ?_)
                      obtain ⟨i1334, ⟨u1337, v1338⟩, p1335, p1336⟩ := hr1333
                      have u1339 := kp_t u1274 u1337
                      have v1340 := v1338.trans v1275
                      have f1341 := ti_b (q_I r1332 1 3 a0)
                      have f1342 := ti_b (q_I r1332 1 4 a0)
                      exact ok_some (show CI ad h.1 δ0 r1332 ∧ (kp [(1, 3), (1, 4), (1, 5), (1, 6), (1, 8), (1, 13), (1, 14), (1, 15)] δ r1332 ∧ q_V r1332 = q_V δ) ∧ 0 ≤ (q_I r1332 1 3 a0).toInt ∧ (q_I r1332 1 4 a0).toInt ≤ (q_I δ 3 1 nu).toInt from ⟨i1334, ⟨kp_w (by decide) u1339, v1340⟩, by first | assumption | omega, by first | assumption | omega⟩)
                  · have c1343 : r1297.1.toInt ≠ (q_I δ 1 8 a0).toInt := o_ne h1303
                    unfold J_X1_goOnDropping_172
                    refine ok_bind (k_X1_enterRoom L hN (a0 := a0) (x1 := (q_I δ 1 8 a0)) k_a0 i1266) (fun r1344 hr1345 => ?_)
                    obtain ⟨i1346, ⟨u1349, v1350⟩, p1347, p1348⟩ := hr1345
                    have u1351 := kp_t u1274 u1349
                    have v1352 := v1350.trans v1275
                    have f1353 := ti_b (q_I r1344 1 3 a0)
                    have f1354 := ti_b (q_I r1344 1 4 a0)
                    exact ok_some (show CI ad h.1 δ0 r1344 ∧ (kp [(1, 3), (1, 4), (1, 5), (1, 6), (1, 8), (1, 13), (1, 14), (1, 15)] δ r1344 ∧ q_V r1344 = q_V δ) ∧ 0 ≤ (q_I r1344 1 3 a0).toInt ∧ (q_I r1344 1 4 a0).toInt ≤ (q_I δ 3 1 nu).toInt from ⟨i1346, ⟨kp_w (by decide) u1351, v1352⟩, by first | assumption | omega, by first | assumption | omega⟩)
              · have c1355 : (1 : Int) ≠ (0 : Int) := o_ne h1262
                refine ok_ite (fun h1356 => ?_) (fun h1356 => ?_)
                · have c1357 : (q_I δ 1 8 a0).toInt = (q_I δ 1 9 a0).toInt := o_eq h1356
                  unfold J_X1_goOnDropping_118
                  refine ok_bind (k_X1_valueAt L hN (a0 := a0) (x1 := (q_I δ 1 11 a0)) k_a0 hnu knu (show 0 ≤ ((q_I δ 1 11 a0)).toInt by first | assumption | omega) (show ((q_I δ 1 11 a0)).toInt < (q_I δ 3 1 nu).toInt by first | assumption | omega) I) (fun r1358 hr1359 => ?_)
                  have i1360 := hr1359
                  try rw [i1360]
                  have f1361 := ti_b r1358.1
                  unfold J_X1_goOnDropping_121
                  refine ok_bind (k_X1_findRoom L hN (a0 := a0) (x1 := r1358.1) k_a0 hnu knu (show 0 ≤ (q_I δ 1 11 a0).toInt by first | assumption | omega) (show (q_I δ 1 11 a0).toInt ≤ (q_I δ 1 12 a0).toInt by first | assumption | omega) (show (q_I δ 1 12 a0).toInt ≤ (q_I δ 3 1 nu).toInt by first | assumption | omega) I) (fun r1362 hr1363 => ?_)
                  obtain ⟨i1364, ⟨u1370, v1371⟩, p1365, p1366, p1367, p1368, p1369⟩ := hr1363
                  have u1372 := kp_t kp_r u1370
                  have v1373 := v1371.trans rfl
                  have f1374 := bo_t p1365
                  have f1375 := ti_b (q_I r1362.2 1 13 a0)
                  have f1376 := ti_b (q_I r1362.2 1 14 a0)
                  have f1377 := ti_b r1362.1
                  have f1378 := ti_b r1362.1
                  refine ok_ite (fun h1379 => ?_) (fun h1379 => ?_)
                  · have c1380 : r1362.1.toInt = (0 : Int) := o_eq h1379
                    refine ok_bdv (fun d1381 e1382 => ?_)
                    have i1383 : CI ad h.1 δ0 d1381 := by rw [e1382]; exact cs_1_15 L i1364 k_a0 (show 0 ≤ (1 : Int) by omega) (show (1 : Int) ≤ 1 by omega)
                    have u1384 := kp_I u1372 e1382
                    have v1385 : q_V d1381 = q_V δ := (show q_V d1381 = q_V r1362.2 by rw [e1382]; rfl).trans v1373
                    have f1386 := ti_b (q_I d1381 1 3 a0)
                    have f1387 : (q_I d1381 1 3 a0).toInt = (q_I r1362.2 1 3 a0).toInt := congrArg Int32.toInt (by rw [e1382]; exact rI_o (by decide))
                    have f1388 := ti_b (q_I r1362.2 1 3 a0)
                    have f1389 : (q_I r1362.2 1 3 a0).toInt = (q_I δ 1 3 a0).toInt := congrArg Int32.toInt (u1370 1 3 a0 (by decide))
                    have f1390 := ti_b (q_I d1381 1 4 a0)
                    have f1391 : (q_I d1381 1 4 a0).toInt = (q_I r1362.2 1 4 a0).toInt := congrArg Int32.toInt (by rw [e1382]; exact rI_o (by decide))
                    have f1392 := ti_b (q_I r1362.2 1 4 a0)
                    have f1393 : (q_I r1362.2 1 4 a0).toInt = (q_I δ 1 4 a0).toInt := congrArg Int32.toInt (u1370 1 4 a0 (by decide))
                    exact ok_some (show CI ad h.1 δ0 d1381 ∧ (kp [(1, 3), (1, 4), (1, 5), (1, 6), (1, 8), (1, 13), (1, 14), (1, 15)] δ d1381 ∧ q_V d1381 = q_V δ) ∧ 0 ≤ (q_I d1381 1 3 a0).toInt ∧ (q_I d1381 1 4 a0).toInt ≤ (q_I δ 3 1 nu).toInt from ⟨i1383, ⟨kp_w (by decide) u1384, v1385⟩, by first | assumption | omega, by first | assumption | omega⟩)
                  · have c1394 : r1362.1.toInt ≠ (0 : Int) := o_ne h1379
                    have f1397 := cb_3_1 i1364 knu o4
                    have f1398 : (q_I r1362.2 3 1 nu).toInt = (q_I δ 3 1 nu).toInt := congrArg Int32.toInt (u1370 3 1 nu (by decide))
                    refine ok_bind (k_X1_valueAt L hN (a0 := a0) (x1 := (q_I r1362.2 1 13 a0)) k_a0 hnu knu (show 0 ≤ ((q_I r1362.2 1 13 a0)).toInt by first | assumption | omega) (show ((q_I r1362.2 1 13 a0)).toInt < (q_I r1362.2 3 1 nu).toInt by first | assumption | omega) i1364) (fun r1395 hr1396 => ?_)
                    have i1399 := hr1396
                    try rw [i1399]
                    have f1400 := ti_b r1395.1
                    refine ok_ite (fun h1401 => ?_) (fun h1401 => ?_)
                    · have c1402 : r1395.1.toInt = r1358.1.toInt := o_eq h1401
                      first | (have q1406 := te_subc (c := 1) (n := 1) rfl (q_I r1362.2 1 14 a0) (by omega) (by omega); obtain ⟨f1407, f1408, f1409⟩ := q1406) | (obtain ⟨q1406, f1407, f1408, f1409⟩ := ti_subc (c := 1) (n := 1) rfl (q_I r1362.2 1 14 a0))
                      refine ok_bind (k_X1_valueAt L hN (a0 := a0) (x1 := ((q_I r1362.2 1 14 a0) - (1 : Int32))) k_a0 hnu knu (show 0 ≤ (((q_I r1362.2 1 14 a0) - (1 : Int32))).toInt by first | assumption | omega) (show (((q_I r1362.2 1 14 a0) - (1 : Int32))).toInt < (q_I r1362.2 3 1 nu).toInt by first | assumption | omega) i1364) (fun r1403 hr1404 => ?_)
                      have i1410 := hr1404
                      try rw [i1410]
                      have f1411 := ti_b r1403.1
                      refine ok_ite (fun h1412 => ?_) (fun h1412 => ?_)
                      · have c1413 : r1403.1.toInt = r1358.1.toInt := o_eq h1412
                        refine ok_bind (k_X1_enterList L hN (a0 := a0) (x1 := r1358.1) k_a0 i1364) (fun r1414 hr1415 => ?_)
                        obtain ⟨i1416, ⟨u1419, v1420⟩, p1417, p1418⟩ := hr1415
                        have u1421 := kp_t u1372 u1419
                        have v1422 := v1420.trans v1373
                        have f1423 := ti_b (q_I r1414 1 3 a0)
                        have f1424 := ti_b (q_I r1362.2 1 11 a0)
                        have f1425 : (q_I r1362.2 1 11 a0).toInt = (q_I δ 1 11 a0).toInt := congrArg Int32.toInt (u1370 1 11 a0 (by decide))
                        have f1426 := ti_b (q_I r1414 1 4 a0)
                        have f1427 := ti_b (q_I r1362.2 1 12 a0)
                        have f1428 : (q_I r1362.2 1 12 a0).toInt = (q_I δ 1 12 a0).toInt := congrArg Int32.toInt (u1370 1 12 a0 (by decide))
                        exact ok_some (show CI ad h.1 δ0 r1414 ∧ (kp [(1, 3), (1, 4), (1, 5), (1, 6), (1, 8), (1, 13), (1, 14), (1, 15)] δ r1414 ∧ q_V r1414 = q_V δ) ∧ 0 ≤ (q_I r1414 1 3 a0).toInt ∧ (q_I r1414 1 4 a0).toInt ≤ (q_I δ 3 1 nu).toInt from ⟨i1416, ⟨kp_w (by decide) u1421, v1422⟩, by first | assumption | omega, by first | assumption | omega⟩)
                      · have c1429 : r1403.1.toInt ≠ r1358.1.toInt := o_ne h1412
                        unfold J_X1_goOnDropping_172
                        refine ok_bind (k_X1_enterRoom L hN (a0 := a0) (x1 := r1358.1) k_a0 i1364) (fun r1430 hr1431 => ?_)
                        obtain ⟨i1432, ⟨u1435, v1436⟩, p1433, p1434⟩ := hr1431
                        have u1437 := kp_t u1372 u1435
                        have v1438 := v1436.trans v1373
                        have f1439 := ti_b (q_I r1430 1 3 a0)
                        have f1440 := ti_b (q_I r1430 1 4 a0)
                        exact ok_some (show CI ad h.1 δ0 r1430 ∧ (kp [(1, 3), (1, 4), (1, 5), (1, 6), (1, 8), (1, 13), (1, 14), (1, 15)] δ r1430 ∧ q_V r1430 = q_V δ) ∧ 0 ≤ (q_I r1430 1 3 a0).toInt ∧ (q_I r1430 1 4 a0).toInt ≤ (q_I δ 3 1 nu).toInt from ⟨i1432, ⟨kp_w (by decide) u1437, v1438⟩, by first | assumption | omega, by first | assumption | omega⟩)
                    · have c1441 : r1395.1.toInt ≠ r1358.1.toInt := o_ne h1401
                      unfold J_X1_goOnDropping_172
                      refine ok_bind (k_X1_enterRoom L hN (a0 := a0) (x1 := r1358.1) k_a0 i1364) (fun r1442 hr1443 => ?_)
                      obtain ⟨i1444, ⟨u1447, v1448⟩, p1445, p1446⟩ := hr1443
                      have u1449 := kp_t u1372 u1447
                      have v1450 := v1448.trans v1373
                      have f1451 := ti_b (q_I r1442 1 3 a0)
                      have f1452 := ti_b (q_I r1442 1 4 a0)
                      exact ok_some (show CI ad h.1 δ0 r1442 ∧ (kp [(1, 3), (1, 4), (1, 5), (1, 6), (1, 8), (1, 13), (1, 14), (1, 15)] δ r1442 ∧ q_V r1442 = q_V δ) ∧ 0 ≤ (q_I r1442 1 3 a0).toInt ∧ (q_I r1442 1 4 a0).toInt ≤ (q_I δ 3 1 nu).toInt from ⟨i1444, ⟨kp_w (by decide) u1449, v1450⟩, by first | assumption | omega, by first | assumption | omega⟩)
                · have c1453 : (q_I δ 1 8 a0).toInt ≠ (q_I δ 1 9 a0).toInt := o_ne h1356
                  unfold J_X1_goOnDropping_118
                  first | (have q1457 := te_subc (c := 1) (n := 1) rfl (q_I δ 1 12 a0) (by omega) (by omega); obtain ⟨f1458, f1459, f1460⟩ := q1457) | (obtain ⟨q1457, f1458, f1459, f1460⟩ := ti_subc (c := 1) (n := 1) rfl (q_I δ 1 12 a0))
                  refine ok_bind (k_X1_valueAt L hN (a0 := a0) (x1 := ((q_I δ 1 12 a0) - (1 : Int32))) k_a0 hnu knu (show 0 ≤ (((q_I δ 1 12 a0) - (1 : Int32))).toInt by first | assumption | omega) (show (((q_I δ 1 12 a0) - (1 : Int32))).toInt < (q_I δ 3 1 nu).toInt by first | assumption | omega) I) (fun r1454 hr1455 => ?_)
                  have i1461 := hr1455
                  try rw [i1461]
                  have f1462 := ti_b r1454.1
                  unfold J_X1_goOnDropping_121
                  refine ok_bind (k_X1_findRoom L hN (a0 := a0) (x1 := r1454.1) k_a0 hnu knu (show 0 ≤ (q_I δ 1 11 a0).toInt by first | assumption | omega) (show (q_I δ 1 11 a0).toInt ≤ (q_I δ 1 12 a0).toInt by first | assumption | omega) (show (q_I δ 1 12 a0).toInt ≤ (q_I δ 3 1 nu).toInt by first | assumption | omega) I) (fun r1463 hr1464 => ?_)
                  obtain ⟨i1465, ⟨u1471, v1472⟩, p1466, p1467, p1468, p1469, p1470⟩ := hr1464
                  have u1473 := kp_t kp_r u1471
                  have v1474 := v1472.trans rfl
                  have f1475 := bo_t p1466
                  have f1476 := ti_b (q_I r1463.2 1 13 a0)
                  have f1477 := ti_b (q_I r1463.2 1 14 a0)
                  have f1478 := ti_b r1463.1
                  have f1479 := ti_b r1463.1
                  refine ok_ite (fun h1480 => ?_) (fun h1480 => ?_)
                  · have c1481 : r1463.1.toInt = (0 : Int) := o_eq h1480
                    refine ok_bdv (fun d1482 e1483 => ?_)
                    have i1484 : CI ad h.1 δ0 d1482 := by rw [e1483]; exact cs_1_15 L i1465 k_a0 (show 0 ≤ (1 : Int) by omega) (show (1 : Int) ≤ 1 by omega)
                    have u1485 := kp_I u1473 e1483
                    have v1486 : q_V d1482 = q_V δ := (show q_V d1482 = q_V r1463.2 by rw [e1483]; rfl).trans v1474
                    have f1487 := ti_b (q_I d1482 1 3 a0)
                    have f1488 : (q_I d1482 1 3 a0).toInt = (q_I r1463.2 1 3 a0).toInt := congrArg Int32.toInt (by rw [e1483]; exact rI_o (by decide))
                    have f1489 := ti_b (q_I r1463.2 1 3 a0)
                    have f1490 : (q_I r1463.2 1 3 a0).toInt = (q_I δ 1 3 a0).toInt := congrArg Int32.toInt (u1471 1 3 a0 (by decide))
                    have f1491 := ti_b (q_I d1482 1 4 a0)
                    have f1492 : (q_I d1482 1 4 a0).toInt = (q_I r1463.2 1 4 a0).toInt := congrArg Int32.toInt (by rw [e1483]; exact rI_o (by decide))
                    have f1493 := ti_b (q_I r1463.2 1 4 a0)
                    have f1494 : (q_I r1463.2 1 4 a0).toInt = (q_I δ 1 4 a0).toInt := congrArg Int32.toInt (u1471 1 4 a0 (by decide))
                    exact ok_some (show CI ad h.1 δ0 d1482 ∧ (kp [(1, 3), (1, 4), (1, 5), (1, 6), (1, 8), (1, 13), (1, 14), (1, 15)] δ d1482 ∧ q_V d1482 = q_V δ) ∧ 0 ≤ (q_I d1482 1 3 a0).toInt ∧ (q_I d1482 1 4 a0).toInt ≤ (q_I δ 3 1 nu).toInt from ⟨i1484, ⟨kp_w (by decide) u1485, v1486⟩, by first | assumption | omega, by first | assumption | omega⟩)
                  · have c1495 : r1463.1.toInt ≠ (0 : Int) := o_ne h1480
                    have f1498 := cb_3_1 i1465 knu o4
                    have f1499 : (q_I r1463.2 3 1 nu).toInt = (q_I δ 3 1 nu).toInt := congrArg Int32.toInt (u1471 3 1 nu (by decide))
                    refine ok_bind (k_X1_valueAt L hN (a0 := a0) (x1 := (q_I r1463.2 1 13 a0)) k_a0 hnu knu (show 0 ≤ ((q_I r1463.2 1 13 a0)).toInt by first | assumption | omega) (show ((q_I r1463.2 1 13 a0)).toInt < (q_I r1463.2 3 1 nu).toInt by first | assumption | omega) i1465) (fun r1496 hr1497 => ?_)
                    have i1500 := hr1497
                    try rw [i1500]
                    have f1501 := ti_b r1496.1
                    refine ok_ite (fun h1502 => ?_) (fun h1502 => ?_)
                    · have c1503 : r1496.1.toInt = r1454.1.toInt := o_eq h1502
                      first | (have q1507 := te_subc (c := 1) (n := 1) rfl (q_I r1463.2 1 14 a0) (by omega) (by omega); obtain ⟨f1508, f1509, f1510⟩ := q1507) | (obtain ⟨q1507, f1508, f1509, f1510⟩ := ti_subc (c := 1) (n := 1) rfl (q_I r1463.2 1 14 a0))
                      refine ok_bind (k_X1_valueAt L hN (a0 := a0) (x1 := ((q_I r1463.2 1 14 a0) - (1 : Int32))) k_a0 hnu knu (show 0 ≤ (((q_I r1463.2 1 14 a0) - (1 : Int32))).toInt by first | assumption | omega) (show (((q_I r1463.2 1 14 a0) - (1 : Int32))).toInt < (q_I r1463.2 3 1 nu).toInt by first | assumption | omega) i1465) (fun r1504 hr1505 => ?_)
                      have i1511 := hr1505
                      try rw [i1511]
                      have f1512 := ti_b r1504.1
                      refine ok_ite (fun h1513 => ?_) (fun h1513 => ?_)
                      · have c1514 : r1504.1.toInt = r1454.1.toInt := o_eq h1513
                        refine ok_bind (k_X1_enterList L hN (a0 := a0) (x1 := r1454.1) k_a0 i1465) (fun r1515 hr1516 => ?_)
                        obtain ⟨i1517, ⟨u1520, v1521⟩, p1518, p1519⟩ := hr1516
                        have u1522 := kp_t u1473 u1520
                        have v1523 := v1521.trans v1474
                        have f1524 := ti_b (q_I r1515 1 3 a0)
                        have f1525 := ti_b (q_I r1463.2 1 11 a0)
                        have f1526 : (q_I r1463.2 1 11 a0).toInt = (q_I δ 1 11 a0).toInt := congrArg Int32.toInt (u1471 1 11 a0 (by decide))
                        have f1527 := ti_b (q_I r1515 1 4 a0)
                        have f1528 := ti_b (q_I r1463.2 1 12 a0)
                        have f1529 : (q_I r1463.2 1 12 a0).toInt = (q_I δ 1 12 a0).toInt := congrArg Int32.toInt (u1471 1 12 a0 (by decide))
                        exact ok_some (show CI ad h.1 δ0 r1515 ∧ (kp [(1, 3), (1, 4), (1, 5), (1, 6), (1, 8), (1, 13), (1, 14), (1, 15)] δ r1515 ∧ q_V r1515 = q_V δ) ∧ 0 ≤ (q_I r1515 1 3 a0).toInt ∧ (q_I r1515 1 4 a0).toInt ≤ (q_I δ 3 1 nu).toInt from ⟨i1517, ⟨kp_w (by decide) u1522, v1523⟩, by first | assumption | omega, by first | assumption | omega⟩)
                      · have c1530 : r1504.1.toInt ≠ r1454.1.toInt := o_ne h1513
                        unfold J_X1_goOnDropping_172
                        refine ok_bind (k_X1_enterRoom L hN (a0 := a0) (x1 := r1454.1) k_a0 i1465) (fun r1531 hr1532 => ?_)
                        obtain ⟨i1533, ⟨u1536, v1537⟩, p1534, p1535⟩ := hr1532
                        have u1538 := kp_t u1473 u1536
                        have v1539 := v1537.trans v1474
                        have f1540 := ti_b (q_I r1531 1 3 a0)
                        have f1541 := ti_b (q_I r1531 1 4 a0)
                        exact ok_some (show CI ad h.1 δ0 r1531 ∧ (kp [(1, 3), (1, 4), (1, 5), (1, 6), (1, 8), (1, 13), (1, 14), (1, 15)] δ r1531 ∧ q_V r1531 = q_V δ) ∧ 0 ≤ (q_I r1531 1 3 a0).toInt ∧ (q_I r1531 1 4 a0).toInt ≤ (q_I δ 3 1 nu).toInt from ⟨i1533, ⟨kp_w (by decide) u1538, v1539⟩, by first | assumption | omega, by first | assumption | omega⟩)
                    · have c1542 : r1496.1.toInt ≠ r1454.1.toInt := o_ne h1502
                      unfold J_X1_goOnDropping_172
                      refine ok_bind (k_X1_enterRoom L hN (a0 := a0) (x1 := r1454.1) k_a0 i1465) (fun r1543 hr1544 => ?_)
                      obtain ⟨i1545, ⟨u1548, v1549⟩, p1546, p1547⟩ := hr1544
                      have u1550 := kp_t u1473 u1548
                      have v1551 := v1549.trans v1474
                      have f1552 := ti_b (q_I r1543 1 3 a0)
                      have f1553 := ti_b (q_I r1543 1 4 a0)
                      exact ok_some (show CI ad h.1 δ0 r1543 ∧ (kp [(1, 3), (1, 4), (1, 5), (1, 6), (1, 8), (1, 13), (1, 14), (1, 15)] δ r1543 ∧ q_V r1543 = q_V δ) ∧ 0 ≤ (q_I r1543 1 3 a0).toInt ∧ (q_I r1543 1 4 a0).toInt ≤ (q_I δ 3 1 nu).toInt from ⟨i1545, ⟨kp_w (by decide) u1550, v1551⟩, by first | assumption | omega, by first | assumption | omega⟩)
            · have c1554 : (1 : Int) ≠ (0 : Int) := o_ne h1260
              unfold J_X1_goOnDropping_81
              refine ok_ite (fun h1555 => ?_) (fun h1555 => ?_)
              · have c1556 : (1 : Int) = (0 : Int) := o_eq h1555
                unfold J_X1_goOnDropping_121
                refine ok_bind (k_X1_findRoom L hN (a0 := a0) (x1 := (q_I δ 1 8 a0)) k_a0 hnu knu (show 0 ≤ (q_I δ 1 11 a0).toInt by first | assumption | omega) (show (q_I δ 1 11 a0).toInt ≤ (q_I δ 1 12 a0).toInt by first | assumption | omega) (show (q_I δ 1 12 a0).toInt ≤ (q_I δ 3 1 nu).toInt by first | assumption | omega) I) (fun r1557 hr1558 => ?_)
                obtain ⟨i1559, ⟨u1565, v1566⟩, p1560, p1561, p1562, p1563, p1564⟩ := hr1558
                have u1567 := kp_t kp_r u1565
                have v1568 := v1566.trans rfl
                have f1569 := bo_t p1560
                have f1570 := ti_b (q_I r1557.2 1 13 a0)
                have f1571 := ti_b (q_I r1557.2 1 14 a0)
                have f1572 := ti_b r1557.1
                have f1573 := ti_b r1557.1
                refine ok_ite (fun h1574 => ?_) (fun h1574 => ?_)
                · have c1575 : r1557.1.toInt = (0 : Int) := o_eq h1574
                  refine ok_bdv (fun d1576 e1577 => ?_)
                  have i1578 : CI ad h.1 δ0 d1576 := by rw [e1577]; exact cs_1_15 L i1559 k_a0 (show 0 ≤ (1 : Int) by omega) (show (1 : Int) ≤ 1 by omega)
                  have u1579 := kp_I u1567 e1577
                  have v1580 : q_V d1576 = q_V δ := (show q_V d1576 = q_V r1557.2 by rw [e1577]; rfl).trans v1568
                  have f1581 := ti_b (q_I d1576 1 3 a0)
                  have f1582 : (q_I d1576 1 3 a0).toInt = (q_I r1557.2 1 3 a0).toInt := congrArg Int32.toInt (by rw [e1577]; exact rI_o (by decide))
                  have f1583 := ti_b (q_I r1557.2 1 3 a0)
                  have f1584 : (q_I r1557.2 1 3 a0).toInt = (q_I δ 1 3 a0).toInt := congrArg Int32.toInt (u1565 1 3 a0 (by decide))
                  have f1585 := ti_b (q_I d1576 1 4 a0)
                  have f1586 : (q_I d1576 1 4 a0).toInt = (q_I r1557.2 1 4 a0).toInt := congrArg Int32.toInt (by rw [e1577]; exact rI_o (by decide))
                  have f1587 := ti_b (q_I r1557.2 1 4 a0)
                  have f1588 : (q_I r1557.2 1 4 a0).toInt = (q_I δ 1 4 a0).toInt := congrArg Int32.toInt (u1565 1 4 a0 (by decide))
                  exact ok_some (show CI ad h.1 δ0 d1576 ∧ (kp [(1, 3), (1, 4), (1, 5), (1, 6), (1, 8), (1, 13), (1, 14), (1, 15)] δ d1576 ∧ q_V d1576 = q_V δ) ∧ 0 ≤ (q_I d1576 1 3 a0).toInt ∧ (q_I d1576 1 4 a0).toInt ≤ (q_I δ 3 1 nu).toInt from ⟨i1578, ⟨kp_w (by decide) u1579, v1580⟩, by first | assumption | omega, by first | assumption | omega⟩)
                · have c1589 : r1557.1.toInt ≠ (0 : Int) := o_ne h1574
                  have f1592 := cb_3_1 i1559 knu o4
                  have f1593 : (q_I r1557.2 3 1 nu).toInt = (q_I δ 3 1 nu).toInt := congrArg Int32.toInt (u1565 3 1 nu (by decide))
                  refine ok_bind (k_X1_valueAt L hN (a0 := a0) (x1 := (q_I r1557.2 1 13 a0)) k_a0 hnu knu (show 0 ≤ ((q_I r1557.2 1 13 a0)).toInt by first | assumption | omega) (show ((q_I r1557.2 1 13 a0)).toInt < (q_I r1557.2 3 1 nu).toInt by first | assumption | omega) i1559) (fun r1590 hr1591 => ?_)
                  have i1594 := hr1591
                  try rw [i1594]
                  have f1595 := ti_b r1590.1
                  refine ok_ite (fun h1596 => ?_) (fun h1596 => ?_)
                  · have c1597 : r1590.1.toInt = (q_I δ 1 8 a0).toInt := o_eq h1596
                    first | (have q1601 := te_subc (c := 1) (n := 1) rfl (q_I r1557.2 1 14 a0) (by omega) (by omega); obtain ⟨f1602, f1603, f1604⟩ := q1601) | (obtain ⟨q1601, f1602, f1603, f1604⟩ := ti_subc (c := 1) (n := 1) rfl (q_I r1557.2 1 14 a0))
                    refine ok_bind (k_X1_valueAt L hN (a0 := a0) (x1 := ((q_I r1557.2 1 14 a0) - (1 : Int32))) k_a0 hnu knu (show 0 ≤ (((q_I r1557.2 1 14 a0) - (1 : Int32))).toInt by first | assumption | omega) (show (((q_I r1557.2 1 14 a0) - (1 : Int32))).toInt < (q_I r1557.2 3 1 nu).toInt by first | assumption | omega) i1559) (fun r1598 hr1599 => ?_)
                    have i1605 := hr1599
                    try rw [i1605]
                    have f1606 := ti_b r1598.1
                    refine ok_ite (fun h1607 => ?_) (fun h1607 => ?_)
                    · have c1608 : r1598.1.toInt = (q_I δ 1 8 a0).toInt := o_eq h1607
                      refine ok_bind (k_X1_enterList L hN (a0 := a0) (x1 := (q_I δ 1 8 a0)) k_a0 i1559) (fun r1609 hr1610 => ?_)
                      obtain ⟨i1611, ⟨u1614, v1615⟩, p1612, p1613⟩ := hr1610
                      have u1616 := kp_t u1567 u1614
                      have v1617 := v1615.trans v1568
                      have f1618 := ti_b (q_I r1609 1 3 a0)
                      have f1619 := ti_b (q_I r1557.2 1 11 a0)
                      have f1620 : (q_I r1557.2 1 11 a0).toInt = (q_I δ 1 11 a0).toInt := congrArg Int32.toInt (u1565 1 11 a0 (by decide))
                      have f1621 := ti_b (q_I r1609 1 4 a0)
                      have f1622 := ti_b (q_I r1557.2 1 12 a0)
                      have f1623 : (q_I r1557.2 1 12 a0).toInt = (q_I δ 1 12 a0).toInt := congrArg Int32.toInt (u1565 1 12 a0 (by decide))
                      exact ok_some (show CI ad h.1 δ0 r1609 ∧ (kp [(1, 3), (1, 4), (1, 5), (1, 6), (1, 8), (1, 13), (1, 14), (1, 15)] δ r1609 ∧ q_V r1609 = q_V δ) ∧ 0 ≤ (q_I r1609 1 3 a0).toInt ∧ (q_I r1609 1 4 a0).toInt ≤ (q_I δ 3 1 nu).toInt from ⟨i1611, ⟨kp_w (by decide) u1616, v1617⟩, by first | assumption | omega, by first | assumption | omega⟩)
                    · have c1624 : r1598.1.toInt ≠ (q_I δ 1 8 a0).toInt := o_ne h1607
                      unfold J_X1_goOnDropping_172
                      refine ok_bind (k_X1_enterRoom L hN (a0 := a0) (x1 := (q_I δ 1 8 a0)) k_a0 i1559) (fun r1625 hr1626 => ?_)
                      obtain ⟨i1627, ⟨u1630, v1631⟩, p1628, p1629⟩ := hr1626
                      have u1632 := kp_t u1567 u1630
                      have v1633 := v1631.trans v1568
                      have f1634 := ti_b (q_I r1625 1 3 a0)
                      have f1635 := ti_b (q_I r1625 1 4 a0)
                      exact ok_some (show CI ad h.1 δ0 r1625 ∧ (kp [(1, 3), (1, 4), (1, 5), (1, 6), (1, 8), (1, 13), (1, 14), (1, 15)] δ r1625 ∧ q_V r1625 = q_V δ) ∧ 0 ≤ (q_I r1625 1 3 a0).toInt ∧ (q_I r1625 1 4 a0).toInt ≤ (q_I δ 3 1 nu).toInt from ⟨i1627, ⟨kp_w (by decide) u1632, v1633⟩, by first | assumption | omega, by first | assumption | omega⟩)
                  · have c1636 : r1590.1.toInt ≠ (q_I δ 1 8 a0).toInt := o_ne h1596
                    unfold J_X1_goOnDropping_172
                    refine ok_bind (k_X1_enterRoom L hN (a0 := a0) (x1 := (q_I δ 1 8 a0)) k_a0 i1559) (fun r1637 hr1638 => ?_)
                    obtain ⟨i1639, ⟨u1642, v1643⟩, p1640, p1641⟩ := hr1638
                    have u1644 := kp_t u1567 u1642
                    have v1645 := v1643.trans v1568
                    have f1646 := ti_b (q_I r1637 1 3 a0)
                    have f1647 := ti_b (q_I r1637 1 4 a0)
                    exact ok_some (show CI ad h.1 δ0 r1637 ∧ (kp [(1, 3), (1, 4), (1, 5), (1, 6), (1, 8), (1, 13), (1, 14), (1, 15)] δ r1637 ∧ q_V r1637 = q_V δ) ∧ 0 ≤ (q_I r1637 1 3 a0).toInt ∧ (q_I r1637 1 4 a0).toInt ≤ (q_I δ 3 1 nu).toInt from ⟨i1639, ⟨kp_w (by decide) u1644, v1645⟩, by first | assumption | omega, by first | assumption | omega⟩)
              · have c1648 : (1 : Int) ≠ (0 : Int) := o_ne h1555
                refine ok_ite (fun h1649 => ?_) (fun h1649 => ?_)
                · have c1650 : (q_I δ 1 8 a0).toInt = (q_I δ 1 9 a0).toInt := o_eq h1649
                  unfold J_X1_goOnDropping_118
                  refine ok_bind (k_X1_valueAt L hN (a0 := a0) (x1 := (q_I δ 1 11 a0)) k_a0 hnu knu (show 0 ≤ ((q_I δ 1 11 a0)).toInt by first | assumption | omega) (show ((q_I δ 1 11 a0)).toInt < (q_I δ 3 1 nu).toInt by first | assumption | omega) I) (fun r1651 hr1652 => ?_)
                  have i1653 := hr1652
                  try rw [i1653]
                  have f1654 := ti_b r1651.1
                  unfold J_X1_goOnDropping_121
                  refine ok_bind (k_X1_findRoom L hN (a0 := a0) (x1 := r1651.1) k_a0 hnu knu (show 0 ≤ (q_I δ 1 11 a0).toInt by first | assumption | omega) (show (q_I δ 1 11 a0).toInt ≤ (q_I δ 1 12 a0).toInt by first | assumption | omega) (show (q_I δ 1 12 a0).toInt ≤ (q_I δ 3 1 nu).toInt by first | assumption | omega) I) (fun r1655 hr1656 => ?_)
                  obtain ⟨i1657, ⟨u1663, v1664⟩, p1658, p1659, p1660, p1661, p1662⟩ := hr1656
                  have u1665 := kp_t kp_r u1663
                  have v1666 := v1664.trans rfl
                  have f1667 := bo_t p1658
                  have f1668 := ti_b (q_I r1655.2 1 13 a0)
                  have f1669 := ti_b (q_I r1655.2 1 14 a0)
                  have f1670 := ti_b r1655.1
                  have f1671 := ti_b r1655.1
                  refine ok_ite (fun h1672 => ?_) (fun h1672 => ?_)
                  · have c1673 : r1655.1.toInt = (0 : Int) := o_eq h1672
                    refine ok_bdv (fun d1674 e1675 => ?_)
                    have i1676 : CI ad h.1 δ0 d1674 := by rw [e1675]; exact cs_1_15 L i1657 k_a0 (show 0 ≤ (1 : Int) by omega) (show (1 : Int) ≤ 1 by omega)
                    have u1677 := kp_I u1665 e1675
                    have v1678 : q_V d1674 = q_V δ := (show q_V d1674 = q_V r1655.2 by rw [e1675]; rfl).trans v1666
                    have f1679 := ti_b (q_I d1674 1 3 a0)
                    have f1680 : (q_I d1674 1 3 a0).toInt = (q_I r1655.2 1 3 a0).toInt := congrArg Int32.toInt (by rw [e1675]; exact rI_o (by decide))
                    have f1681 := ti_b (q_I r1655.2 1 3 a0)
                    have f1682 : (q_I r1655.2 1 3 a0).toInt = (q_I δ 1 3 a0).toInt := congrArg Int32.toInt (u1663 1 3 a0 (by decide))
                    have f1683 := ti_b (q_I d1674 1 4 a0)
                    have f1684 : (q_I d1674 1 4 a0).toInt = (q_I r1655.2 1 4 a0).toInt := congrArg Int32.toInt (by rw [e1675]; exact rI_o (by decide))
                    have f1685 := ti_b (q_I r1655.2 1 4 a0)
                    have f1686 : (q_I r1655.2 1 4 a0).toInt = (q_I δ 1 4 a0).toInt := congrArg Int32.toInt (u1663 1 4 a0 (by decide))
                    exact ok_some (show CI ad h.1 δ0 d1674 ∧ (kp [(1, 3), (1, 4), (1, 5), (1, 6), (1, 8), (1, 13), (1, 14), (1, 15)] δ d1674 ∧ q_V d1674 = q_V δ) ∧ 0 ≤ (q_I d1674 1 3 a0).toInt ∧ (q_I d1674 1 4 a0).toInt ≤ (q_I δ 3 1 nu).toInt from ⟨i1676, ⟨kp_w (by decide) u1677, v1678⟩, by first | assumption | omega, by first | assumption | omega⟩)
                  · have c1687 : r1655.1.toInt ≠ (0 : Int) := o_ne h1672
                    have f1690 := cb_3_1 i1657 knu o4
                    have f1691 : (q_I r1655.2 3 1 nu).toInt = (q_I δ 3 1 nu).toInt := congrArg Int32.toInt (u1663 3 1 nu (by decide))
                    refine ok_bind (k_X1_valueAt L hN (a0 := a0) (x1 := (q_I r1655.2 1 13 a0)) k_a0 hnu knu (show 0 ≤ ((q_I r1655.2 1 13 a0)).toInt by first | assumption | omega) (show ((q_I r1655.2 1 13 a0)).toInt < (q_I r1655.2 3 1 nu).toInt by first | assumption | omega) i1657) (fun r1688 hr1689 => ?_)
                    have i1692 := hr1689
                    try rw [i1692]
                    have f1693 := ti_b r1688.1
                    refine ok_ite (fun h1694 => ?_) (fun h1694 => ?_)
                    · have c1695 : r1688.1.toInt = r1651.1.toInt := o_eq h1694
                      first | (have q1699 := te_subc (c := 1) (n := 1) rfl (q_I r1655.2 1 14 a0) (by omega) (by omega); obtain ⟨f1700, f1701, f1702⟩ := q1699) | (obtain ⟨q1699, f1700, f1701, f1702⟩ := ti_subc (c := 1) (n := 1) rfl (q_I r1655.2 1 14 a0))
                      refine ok_bind (k_X1_valueAt L hN (a0 := a0) (x1 := ((q_I r1655.2 1 14 a0) - (1 : Int32))) k_a0 hnu knu (show 0 ≤ (((q_I r1655.2 1 14 a0) - (1 : Int32))).toInt by first | assumption | omega) (show (((q_I r1655.2 1 14 a0) - (1 : Int32))).toInt < (q_I r1655.2 3 1 nu).toInt by first | assumption | omega) i1657) (fun r1696 hr1697 => ?_)
                      have i1703 := hr1697
                      try rw [i1703]
                      have f1704 := ti_b r1696.1
                      refine ok_ite (fun h1705 => ?_) (fun h1705 => ?_)
                      · have c1706 : r1696.1.toInt = r1651.1.toInt := o_eq h1705
                        refine ok_bind (k_X1_enterList L hN (a0 := a0) (x1 := r1651.1) k_a0 i1657) (fun r1707 hr1708 => ?_)
                        obtain ⟨i1709, ⟨u1712, v1713⟩, p1710, p1711⟩ := hr1708
                        have u1714 := kp_t u1665 u1712
                        have v1715 := v1713.trans v1666
                        have f1716 := ti_b (q_I r1707 1 3 a0)
                        have f1717 := ti_b (q_I r1655.2 1 11 a0)
                        have f1718 : (q_I r1655.2 1 11 a0).toInt = (q_I δ 1 11 a0).toInt := congrArg Int32.toInt (u1663 1 11 a0 (by decide))
                        have f1719 := ti_b (q_I r1707 1 4 a0)
                        have f1720 := ti_b (q_I r1655.2 1 12 a0)
                        have f1721 : (q_I r1655.2 1 12 a0).toInt = (q_I δ 1 12 a0).toInt := congrArg Int32.toInt (u1663 1 12 a0 (by decide))
                        exact ok_some (show CI ad h.1 δ0 r1707 ∧ (kp [(1, 3), (1, 4), (1, 5), (1, 6), (1, 8), (1, 13), (1, 14), (1, 15)] δ r1707 ∧ q_V r1707 = q_V δ) ∧ 0 ≤ (q_I r1707 1 3 a0).toInt ∧ (q_I r1707 1 4 a0).toInt ≤ (q_I δ 3 1 nu).toInt from ⟨i1709, ⟨kp_w (by decide) u1714, v1715⟩, by first | assumption | omega, by first | assumption | omega⟩)
                      · have c1722 : r1696.1.toInt ≠ r1651.1.toInt := o_ne h1705
                        unfold J_X1_goOnDropping_172
                        refine ok_bind (k_X1_enterRoom L hN (a0 := a0) (x1 := r1651.1) k_a0 i1657) (fun r1723 hr1724 => ?_)
                        obtain ⟨i1725, ⟨u1728, v1729⟩, p1726, p1727⟩ := hr1724
                        have u1730 := kp_t u1665 u1728
                        have v1731 := v1729.trans v1666
                        have f1732 := ti_b (q_I r1723 1 3 a0)
                        have f1733 := ti_b (q_I r1723 1 4 a0)
                        exact ok_some (show CI ad h.1 δ0 r1723 ∧ (kp [(1, 3), (1, 4), (1, 5), (1, 6), (1, 8), (1, 13), (1, 14), (1, 15)] δ r1723 ∧ q_V r1723 = q_V δ) ∧ 0 ≤ (q_I r1723 1 3 a0).toInt ∧ (q_I r1723 1 4 a0).toInt ≤ (q_I δ 3 1 nu).toInt from ⟨i1725, ⟨kp_w (by decide) u1730, v1731⟩, by first | assumption | omega, by first | assumption | omega⟩)
                    · have c1734 : r1688.1.toInt ≠ r1651.1.toInt := o_ne h1694
                      unfold J_X1_goOnDropping_172
                      refine ok_bind (k_X1_enterRoom L hN (a0 := a0) (x1 := r1651.1) k_a0 i1657) (fun r1735 hr1736 => ?_)
                      obtain ⟨i1737, ⟨u1740, v1741⟩, p1738, p1739⟩ := hr1736
                      have u1742 := kp_t u1665 u1740
                      have v1743 := v1741.trans v1666
                      have f1744 := ti_b (q_I r1735 1 3 a0)
                      have f1745 := ti_b (q_I r1735 1 4 a0)
                      exact ok_some (show CI ad h.1 δ0 r1735 ∧ (kp [(1, 3), (1, 4), (1, 5), (1, 6), (1, 8), (1, 13), (1, 14), (1, 15)] δ r1735 ∧ q_V r1735 = q_V δ) ∧ 0 ≤ (q_I r1735 1 3 a0).toInt ∧ (q_I r1735 1 4 a0).toInt ≤ (q_I δ 3 1 nu).toInt from ⟨i1737, ⟨kp_w (by decide) u1742, v1743⟩, by first | assumption | omega, by first | assumption | omega⟩)
                · have c1746 : (q_I δ 1 8 a0).toInt ≠ (q_I δ 1 9 a0).toInt := o_ne h1649
                  unfold J_X1_goOnDropping_118
                  first | (have q1750 := te_subc (c := 1) (n := 1) rfl (q_I δ 1 12 a0) (by omega) (by omega); obtain ⟨f1751, f1752, f1753⟩ := q1750) | (obtain ⟨q1750, f1751, f1752, f1753⟩ := ti_subc (c := 1) (n := 1) rfl (q_I δ 1 12 a0))
                  refine ok_bind (k_X1_valueAt L hN (a0 := a0) (x1 := ((q_I δ 1 12 a0) - (1 : Int32))) k_a0 hnu knu (show 0 ≤ (((q_I δ 1 12 a0) - (1 : Int32))).toInt by first | assumption | omega) (show (((q_I δ 1 12 a0) - (1 : Int32))).toInt < (q_I δ 3 1 nu).toInt by first | assumption | omega) I) (fun r1747 hr1748 => ?_)
                  have i1754 := hr1748
                  try rw [i1754]
                  have f1755 := ti_b r1747.1
                  unfold J_X1_goOnDropping_121
                  refine ok_bind (k_X1_findRoom L hN (a0 := a0) (x1 := r1747.1) k_a0 hnu knu (show 0 ≤ (q_I δ 1 11 a0).toInt by first | assumption | omega) (show (q_I δ 1 11 a0).toInt ≤ (q_I δ 1 12 a0).toInt by first | assumption | omega) (show (q_I δ 1 12 a0).toInt ≤ (q_I δ 3 1 nu).toInt by first | assumption | omega) I) (fun r1756 hr1757 => ?_)
                  obtain ⟨i1758, ⟨u1764, v1765⟩, p1759, p1760, p1761, p1762, p1763⟩ := hr1757
                  have u1766 := kp_t kp_r u1764
                  have v1767 := v1765.trans rfl
                  have f1768 := bo_t p1759
                  have f1769 := ti_b (q_I r1756.2 1 13 a0)
                  have f1770 := ti_b (q_I r1756.2 1 14 a0)
                  have f1771 := ti_b r1756.1
                  have f1772 := ti_b r1756.1
                  refine ok_ite (fun h1773 => ?_) (fun h1773 => ?_)
                  · have c1774 : r1756.1.toInt = (0 : Int) := o_eq h1773
                    refine ok_bdv (fun d1775 e1776 => ?_)
                    have i1777 : CI ad h.1 δ0 d1775 := by rw [e1776]; exact cs_1_15 L i1758 k_a0 (show 0 ≤ (1 : Int) by omega) (show (1 : Int) ≤ 1 by omega)
                    have u1778 := kp_I u1766 e1776
                    have v1779 : q_V d1775 = q_V δ := (show q_V d1775 = q_V r1756.2 by rw [e1776]; rfl).trans v1767
                    have f1780 := ti_b (q_I d1775 1 3 a0)
                    have f1781 : (q_I d1775 1 3 a0).toInt = (q_I r1756.2 1 3 a0).toInt := congrArg Int32.toInt (by rw [e1776]; exact rI_o (by decide))
                    have f1782 := ti_b (q_I r1756.2 1 3 a0)
                    have f1783 : (q_I r1756.2 1 3 a0).toInt = (q_I δ 1 3 a0).toInt := congrArg Int32.toInt (u1764 1 3 a0 (by decide))
                    have f1784 := ti_b (q_I d1775 1 4 a0)
                    have f1785 : (q_I d1775 1 4 a0).toInt = (q_I r1756.2 1 4 a0).toInt := congrArg Int32.toInt (by rw [e1776]; exact rI_o (by decide))
                    have f1786 := ti_b (q_I r1756.2 1 4 a0)
                    have f1787 : (q_I r1756.2 1 4 a0).toInt = (q_I δ 1 4 a0).toInt := congrArg Int32.toInt (u1764 1 4 a0 (by decide))
                    exact ok_some (show CI ad h.1 δ0 d1775 ∧ (kp [(1, 3), (1, 4), (1, 5), (1, 6), (1, 8), (1, 13), (1, 14), (1, 15)] δ d1775 ∧ q_V d1775 = q_V δ) ∧ 0 ≤ (q_I d1775 1 3 a0).toInt ∧ (q_I d1775 1 4 a0).toInt ≤ (q_I δ 3 1 nu).toInt from ⟨i1777, ⟨kp_w (by decide) u1778, v1779⟩, by first | assumption | omega, by first | assumption | omega⟩)
                  · have c1788 : r1756.1.toInt ≠ (0 : Int) := o_ne h1773
                    have f1791 := cb_3_1 i1758 knu o4
                    have f1792 : (q_I r1756.2 3 1 nu).toInt = (q_I δ 3 1 nu).toInt := congrArg Int32.toInt (u1764 3 1 nu (by decide))
                    refine ok_bind (k_X1_valueAt L hN (a0 := a0) (x1 := (q_I r1756.2 1 13 a0)) k_a0 hnu knu (show 0 ≤ ((q_I r1756.2 1 13 a0)).toInt by first | assumption | omega) (show ((q_I r1756.2 1 13 a0)).toInt < (q_I r1756.2 3 1 nu).toInt by first | assumption | omega) i1758) (fun r1789 hr1790 => ?_)
                    have i1793 := hr1790
                    try rw [i1793]
                    have f1794 := ti_b r1789.1
                    refine ok_ite (fun h1795 => ?_) (fun h1795 => ?_)
                    · have c1796 : r1789.1.toInt = r1747.1.toInt := o_eq h1795
                      first | (have q1800 := te_subc (c := 1) (n := 1) rfl (q_I r1756.2 1 14 a0) (by omega) (by omega); obtain ⟨f1801, f1802, f1803⟩ := q1800) | (obtain ⟨q1800, f1801, f1802, f1803⟩ := ti_subc (c := 1) (n := 1) rfl (q_I r1756.2 1 14 a0))
                      refine ok_bind (k_X1_valueAt L hN (a0 := a0) (x1 := ((q_I r1756.2 1 14 a0) - (1 : Int32))) k_a0 hnu knu (show 0 ≤ (((q_I r1756.2 1 14 a0) - (1 : Int32))).toInt by first | assumption | omega) (show (((q_I r1756.2 1 14 a0) - (1 : Int32))).toInt < (q_I r1756.2 3 1 nu).toInt by first | assumption | omega) i1758) (fun r1797 hr1798 => ?_)
                      have i1804 := hr1798
                      try rw [i1804]
                      have f1805 := ti_b r1797.1
                      refine ok_ite (fun h1806 => ?_) (fun h1806 => ?_)
                      · have c1807 : r1797.1.toInt = r1747.1.toInt := o_eq h1806
                        refine ok_bind (k_X1_enterList L hN (a0 := a0) (x1 := r1747.1) k_a0 i1758) (fun r1808 hr1809 => ?_)
                        obtain ⟨i1810, ⟨u1813, v1814⟩, p1811, p1812⟩ := hr1809
                        have u1815 := kp_t u1766 u1813
                        have v1816 := v1814.trans v1767
                        have f1817 := ti_b (q_I r1808 1 3 a0)
                        have f1818 := ti_b (q_I r1756.2 1 11 a0)
                        have f1819 : (q_I r1756.2 1 11 a0).toInt = (q_I δ 1 11 a0).toInt := congrArg Int32.toInt (u1764 1 11 a0 (by decide))
                        have f1820 := ti_b (q_I r1808 1 4 a0)
                        have f1821 := ti_b (q_I r1756.2 1 12 a0)
                        have f1822 : (q_I r1756.2 1 12 a0).toInt = (q_I δ 1 12 a0).toInt := congrArg Int32.toInt (u1764 1 12 a0 (by decide))
                        exact ok_some (show CI ad h.1 δ0 r1808 ∧ (kp [(1, 3), (1, 4), (1, 5), (1, 6), (1, 8), (1, 13), (1, 14), (1, 15)] δ r1808 ∧ q_V r1808 = q_V δ) ∧ 0 ≤ (q_I r1808 1 3 a0).toInt ∧ (q_I r1808 1 4 a0).toInt ≤ (q_I δ 3 1 nu).toInt from ⟨i1810, ⟨kp_w (by decide) u1815, v1816⟩, by first | assumption | omega, by first | assumption | omega⟩)
                      · have c1823 : r1797.1.toInt ≠ r1747.1.toInt := o_ne h1806
                        unfold J_X1_goOnDropping_172
                        refine ok_bind (k_X1_enterRoom L hN (a0 := a0) (x1 := r1747.1) k_a0 i1758) (fun r1824 hr1825 => ?_)
                        obtain ⟨i1826, ⟨u1829, v1830⟩, p1827, p1828⟩ := hr1825
                        have u1831 := kp_t u1766 u1829
                        have v1832 := v1830.trans v1767
                        have f1833 := ti_b (q_I r1824 1 3 a0)
                        have f1834 := ti_b (q_I r1824 1 4 a0)
                        exact ok_some (show CI ad h.1 δ0 r1824 ∧ (kp [(1, 3), (1, 4), (1, 5), (1, 6), (1, 8), (1, 13), (1, 14), (1, 15)] δ r1824 ∧ q_V r1824 = q_V δ) ∧ 0 ≤ (q_I r1824 1 3 a0).toInt ∧ (q_I r1824 1 4 a0).toInt ≤ (q_I δ 3 1 nu).toInt from ⟨i1826, ⟨kp_w (by decide) u1831, v1832⟩, by first | assumption | omega, by first | assumption | omega⟩)
                    · have c1835 : r1789.1.toInt ≠ r1747.1.toInt := o_ne h1795
                      unfold J_X1_goOnDropping_172
                      refine ok_bind (k_X1_enterRoom L hN (a0 := a0) (x1 := r1747.1) k_a0 i1758) (fun r1836 hr1837 => ?_)
                      obtain ⟨i1838, ⟨u1841, v1842⟩, p1839, p1840⟩ := hr1837
                      have u1843 := kp_t u1766 u1841
                      have v1844 := v1842.trans v1767
                      have f1845 := ti_b (q_I r1836 1 3 a0)
                      have f1846 := ti_b (q_I r1836 1 4 a0)
                      exact ok_some (show CI ad h.1 δ0 r1836 ∧ (kp [(1, 3), (1, 4), (1, 5), (1, 6), (1, 8), (1, 13), (1, 14), (1, 15)] δ r1836 ∧ q_V r1836 = q_V δ) ∧ 0 ≤ (q_I r1836 1 3 a0).toInt ∧ (q_I r1836 1 4 a0).toInt ≤ (q_I δ 3 1 nu).toInt from ⟨i1838, ⟨kp_w (by decide) u1843, v1844⟩, by first | assumption | omega, by first | assumption | omega⟩)
          · have c1847 : (1 : Int) ≠ (0 : Int) := o_ne h1258
            refine ok_ite (fun h1848 => ?_) (fun h1848 => ?_)
            · have c1849 : (q_I δ 1 11 a0).toInt < (q_I δ 1 12 a0).toInt := o_lt h1848
              unfold J_X1_goOnDropping_72
              refine ok_ite (fun h1850 => ?_) (fun h1850 => ?_)
              · have c1851 : (1 : Int) = (0 : Int) := o_eq h1850
                unfold J_X1_goOnDropping_81
                refine ok_ite (fun h1852 => ?_) (fun h1852 => ?_)
                · have c1853 : (1 : Int) = (0 : Int) := o_eq h1852
                  unfold J_X1_goOnDropping_121
                  refine ok_bind (k_X1_findRoom L hN (a0 := a0) (x1 := (q_I δ 1 8 a0)) k_a0 hnu knu (show 0 ≤ (q_I δ 1 11 a0).toInt by first | assumption | omega) (show (q_I δ 1 11 a0).toInt ≤ (q_I δ 1 12 a0).toInt by first | assumption | omega) (show (q_I δ 1 12 a0).toInt ≤ (q_I δ 3 1 nu).toInt by first | assumption | omega) I) (fun r1854 hr1855 => ?_)
                  obtain ⟨i1856, ⟨u1862, v1863⟩, p1857, p1858, p1859, p1860, p1861⟩ := hr1855
                  have u1864 := kp_t kp_r u1862
                  have v1865 := v1863.trans rfl
                  have f1866 := bo_t p1857
                  have f1867 := ti_b (q_I r1854.2 1 13 a0)
                  have f1868 := ti_b (q_I r1854.2 1 14 a0)
                  have f1869 := ti_b r1854.1
                  have f1870 := ti_b r1854.1
                  refine ok_ite (fun h1871 => ?_) (fun h1871 => ?_)
                  · have c1872 : r1854.1.toInt = (0 : Int) := o_eq h1871
                    refine ok_bdv (fun d1873 e1874 => ?_)
                    have i1875 : CI ad h.1 δ0 d1873 := by rw [e1874]; exact cs_1_15 L i1856 k_a0 (show 0 ≤ (1 : Int) by omega) (show (1 : Int) ≤ 1 by omega)
                    have u1876 := kp_I u1864 e1874
                    have v1877 : q_V d1873 = q_V δ := (show q_V d1873 = q_V r1854.2 by rw [e1874]; rfl).trans v1865
                    have f1878 := ti_b (q_I d1873 1 3 a0)
                    have f1879 : (q_I d1873 1 3 a0).toInt = (q_I r1854.2 1 3 a0).toInt := congrArg Int32.toInt (by rw [e1874]; exact rI_o (by decide))
                    have f1880 := ti_b (q_I r1854.2 1 3 a0)
                    have f1881 : (q_I r1854.2 1 3 a0).toInt = (q_I δ 1 3 a0).toInt := congrArg Int32.toInt (u1862 1 3 a0 (by decide))
                    have f1882 := ti_b (q_I d1873 1 4 a0)
                    have f1883 : (q_I d1873 1 4 a0).toInt = (q_I r1854.2 1 4 a0).toInt := congrArg Int32.toInt (by rw [e1874]; exact rI_o (by decide))
                    have f1884 := ti_b (q_I r1854.2 1 4 a0)
                    have f1885 : (q_I r1854.2 1 4 a0).toInt = (q_I δ 1 4 a0).toInt := congrArg Int32.toInt (u1862 1 4 a0 (by decide))
                    exact ok_some (show CI ad h.1 δ0 d1873 ∧ (kp [(1, 3), (1, 4), (1, 5), (1, 6), (1, 8), (1, 13), (1, 14), (1, 15)] δ d1873 ∧ q_V d1873 = q_V δ) ∧ 0 ≤ (q_I d1873 1 3 a0).toInt ∧ (q_I d1873 1 4 a0).toInt ≤ (q_I δ 3 1 nu).toInt from ⟨i1875, ⟨kp_w (by decide) u1876, v1877⟩, by first | assumption | omega, by first | assumption | omega⟩)
                  · have c1886 : r1854.1.toInt ≠ (0 : Int) := o_ne h1871
                    have f1889 := cb_3_1 i1856 knu o4
                    have f1890 : (q_I r1854.2 3 1 nu).toInt = (q_I δ 3 1 nu).toInt := congrArg Int32.toInt (u1862 3 1 nu (by decide))
                    refine ok_bind (k_X1_valueAt L hN (a0 := a0) (x1 := (q_I r1854.2 1 13 a0)) k_a0 hnu knu (show 0 ≤ ((q_I r1854.2 1 13 a0)).toInt by first | assumption | omega) (show ((q_I r1854.2 1 13 a0)).toInt < (q_I r1854.2 3 1 nu).toInt by first | assumption | omega) i1856) (fun r1887 hr1888 => ?_)
                    have i1891 := hr1888
                    try rw [i1891]
                    have f1892 := ti_b r1887.1
                    refine ok_ite (fun h1893 => ?_) (fun h1893 => ?_)
                    · have c1894 : r1887.1.toInt = (q_I δ 1 8 a0).toInt := o_eq h1893
                      first | (have q1898 := te_subc (c := 1) (n := 1) rfl (q_I r1854.2 1 14 a0) (by omega) (by omega); obtain ⟨f1899, f1900, f1901⟩ := q1898) | (obtain ⟨q1898, f1899, f1900, f1901⟩ := ti_subc (c := 1) (n := 1) rfl (q_I r1854.2 1 14 a0))
                      refine ok_bind (k_X1_valueAt L hN (a0 := a0) (x1 := ((q_I r1854.2 1 14 a0) - (1 : Int32))) k_a0 hnu knu (show 0 ≤ (((q_I r1854.2 1 14 a0) - (1 : Int32))).toInt by first | assumption | omega) (show (((q_I r1854.2 1 14 a0) - (1 : Int32))).toInt < (q_I r1854.2 3 1 nu).toInt by first | assumption | omega) i1856) (fun r1895 hr1896 => ?_)
                      have i1902 := hr1896
                      try rw [i1902]
                      have f1903 := ti_b r1895.1
                      refine ok_ite (fun h1904 => ?_) (fun h1904 => ?_)
                      · have c1905 : r1895.1.toInt = (q_I δ 1 8 a0).toInt := o_eq h1904
                        refine ok_bind (k_X1_enterList L hN (a0 := a0) (x1 := (q_I δ 1 8 a0)) k_a0 i1856) (fun r1906 hr1907 => ?_)
                        obtain ⟨i1908, ⟨u1911, v1912⟩, p1909, p1910⟩ := hr1907
                        have u1913 := kp_t u1864 u1911
                        have v1914 := v1912.trans v1865
                        have f1915 := ti_b (q_I r1906 1 3 a0)
                        have f1916 := ti_b (q_I r1854.2 1 11 a0)
                        have f1917 : (q_I r1854.2 1 11 a0).toInt = (q_I δ 1 11 a0).toInt := congrArg Int32.toInt (u1862 1 11 a0 (by decide))
                        have f1918 := ti_b (q_I r1906 1 4 a0)
                        have f1919 := ti_b (q_I r1854.2 1 12 a0)
                        have f1920 : (q_I r1854.2 1 12 a0).toInt = (q_I δ 1 12 a0).toInt := congrArg Int32.toInt (u1862 1 12 a0 (by decide))
                        exact ok_some (show CI ad h.1 δ0 r1906 ∧ (kp [(1, 3), (1, 4), (1, 5), (1, 6), (1, 8), (1, 13), (1, 14), (1, 15)] δ r1906 ∧ q_V r1906 = q_V δ) ∧ 0 ≤ (q_I r1906 1 3 a0).toInt ∧ (q_I r1906 1 4 a0).toInt ≤ (q_I δ 3 1 nu).toInt from ⟨i1908, ⟨kp_w (by decide) u1913, v1914⟩, by first | assumption | omega, by first | assumption | omega⟩)
                      · have c1921 : r1895.1.toInt ≠ (q_I δ 1 8 a0).toInt := o_ne h1904
                        unfold J_X1_goOnDropping_172
                        refine ok_bind (k_X1_enterRoom L hN (a0 := a0) (x1 := (q_I δ 1 8 a0)) k_a0 i1856) (fun r1922 hr1923 => ?_)
                        obtain ⟨i1924, ⟨u1927, v1928⟩, p1925, p1926⟩ := hr1923
                        have u1929 := kp_t u1864 u1927
                        have v1930 := v1928.trans v1865
                        have f1931 := ti_b (q_I r1922 1 3 a0)
                        have f1932 := ti_b (q_I r1922 1 4 a0)
                        exact ok_some (show CI ad h.1 δ0 r1922 ∧ (kp [(1, 3), (1, 4), (1, 5), (1, 6), (1, 8), (1, 13), (1, 14), (1, 15)] δ r1922 ∧ q_V r1922 = q_V δ) ∧ 0 ≤ (q_I r1922 1 3 a0).toInt ∧ (q_I r1922 1 4 a0).toInt ≤ (q_I δ 3 1 nu).toInt from ⟨i1924, ⟨kp_w (by decide) u1929, v1930⟩, by first | assumption | omega, by first | assumption | omega⟩)
                    · have c1933 : r1887.1.toInt ≠ (q_I δ 1 8 a0).toInt := o_ne h1893
                      unfold J_X1_goOnDropping_172
                      refine ok_bind (k_X1_enterRoom L hN (a0 := a0) (x1 := (q_I δ 1 8 a0)) k_a0 i1856) (fun r1934 hr1935 => ?_)
                      obtain ⟨i1936, ⟨u1939, v1940⟩, p1937, p1938⟩ := hr1935
                      have u1941 := kp_t u1864 u1939
                      have v1942 := v1940.trans v1865
                      have f1943 := ti_b (q_I r1934 1 3 a0)
                      have f1944 := ti_b (q_I r1934 1 4 a0)
                      exact ok_some (show CI ad h.1 δ0 r1934 ∧ (kp [(1, 3), (1, 4), (1, 5), (1, 6), (1, 8), (1, 13), (1, 14), (1, 15)] δ r1934 ∧ q_V r1934 = q_V δ) ∧ 0 ≤ (q_I r1934 1 3 a0).toInt ∧ (q_I r1934 1 4 a0).toInt ≤ (q_I δ 3 1 nu).toInt from ⟨i1936, ⟨kp_w (by decide) u1941, v1942⟩, by first | assumption | omega, by first | assumption | omega⟩)
                · have c1945 : (1 : Int) ≠ (0 : Int) := o_ne h1852
                  refine ok_ite (fun h1946 => ?_) (fun h1946 => ?_)
                  · have c1947 : (q_I δ 1 8 a0).toInt = (q_I δ 1 9 a0).toInt := o_eq h1946
                    unfold J_X1_goOnDropping_118
                    refine ok_bind (k_X1_valueAt L hN (a0 := a0) (x1 := (q_I δ 1 11 a0)) k_a0 hnu knu (show 0 ≤ ((q_I δ 1 11 a0)).toInt by first | assumption | omega) (show ((q_I δ 1 11 a0)).toInt < (q_I δ 3 1 nu).toInt by first | assumption | omega) I) (fun r1948 hr1949 => ?_)
                    have i1950 := hr1949
                    try rw [i1950]
                    have f1951 := ti_b r1948.1
                    unfold J_X1_goOnDropping_121
                    refine ok_bind (k_X1_findRoom L hN (a0 := a0) (x1 := r1948.1) k_a0 hnu knu (show 0 ≤ (q_I δ 1 11 a0).toInt by first | assumption | omega) (show (q_I δ 1 11 a0).toInt ≤ (q_I δ 1 12 a0).toInt by first | assumption | omega) (show (q_I δ 1 12 a0).toInt ≤ (q_I δ 3 1 nu).toInt by first | assumption | omega) I) (fun r1952 hr1953 => ?_)
                    obtain ⟨i1954, ⟨u1960, v1961⟩, p1955, p1956, p1957, p1958, p1959⟩ := hr1953
                    have u1962 := kp_t kp_r u1960
                    have v1963 := v1961.trans rfl
                    have f1964 := bo_t p1955
                    have f1965 := ti_b (q_I r1952.2 1 13 a0)
                    have f1966 := ti_b (q_I r1952.2 1 14 a0)
                    have f1967 := ti_b r1952.1
                    have f1968 := ti_b r1952.1
                    refine ok_ite (fun h1969 => ?_) (fun h1969 => ?_)
                    · have c1970 : r1952.1.toInt = (0 : Int) := o_eq h1969
                      refine ok_bdv (fun d1971 e1972 => ?_)
                      have i1973 : CI ad h.1 δ0 d1971 := by rw [e1972]; exact cs_1_15 L i1954 k_a0 (show 0 ≤ (1 : Int) by omega) (show (1 : Int) ≤ 1 by omega)
                      have u1974 := kp_I u1962 e1972
                      have v1975 : q_V d1971 = q_V δ := (show q_V d1971 = q_V r1952.2 by rw [e1972]; rfl).trans v1963
                      have f1976 := ti_b (q_I d1971 1 3 a0)
                      have f1977 : (q_I d1971 1 3 a0).toInt = (q_I r1952.2 1 3 a0).toInt := congrArg Int32.toInt (by rw [e1972]; exact rI_o (by decide))
                      have f1978 := ti_b (q_I r1952.2 1 3 a0)
                      have f1979 : (q_I r1952.2 1 3 a0).toInt = (q_I δ 1 3 a0).toInt := congrArg Int32.toInt (u1960 1 3 a0 (by decide))
                      have f1980 := ti_b (q_I d1971 1 4 a0)
                      have f1981 : (q_I d1971 1 4 a0).toInt = (q_I r1952.2 1 4 a0).toInt := congrArg Int32.toInt (by rw [e1972]; exact rI_o (by decide))
                      have f1982 := ti_b (q_I r1952.2 1 4 a0)
                      have f1983 : (q_I r1952.2 1 4 a0).toInt = (q_I δ 1 4 a0).toInt := congrArg Int32.toInt (u1960 1 4 a0 (by decide))
                      exact ok_some (show CI ad h.1 δ0 d1971 ∧ (kp [(1, 3), (1, 4), (1, 5), (1, 6), (1, 8), (1, 13), (1, 14), (1, 15)] δ d1971 ∧ q_V d1971 = q_V δ) ∧ 0 ≤ (q_I d1971 1 3 a0).toInt ∧ (q_I d1971 1 4 a0).toInt ≤ (q_I δ 3 1 nu).toInt from ⟨i1973, ⟨kp_w (by decide) u1974, v1975⟩, by first | assumption | omega, by first | assumption | omega⟩)
                    · have c1984 : r1952.1.toInt ≠ (0 : Int) := o_ne h1969
                      have f1987 := cb_3_1 i1954 knu o4
                      have f1988 : (q_I r1952.2 3 1 nu).toInt = (q_I δ 3 1 nu).toInt := congrArg Int32.toInt (u1960 3 1 nu (by decide))
                      refine ok_bind (k_X1_valueAt L hN (a0 := a0) (x1 := (q_I r1952.2 1 13 a0)) k_a0 hnu knu (show 0 ≤ ((q_I r1952.2 1 13 a0)).toInt by first | assumption | omega) (show ((q_I r1952.2 1 13 a0)).toInt < (q_I r1952.2 3 1 nu).toInt by first | assumption | omega) i1954) (fun r1985 hr1986 => ?_)
                      have i1989 := hr1986
                      try rw [i1989]
                      have f1990 := ti_b r1985.1
                      refine ok_ite (fun h1991 => ?_) (fun h1991 => ?_)
                      · have c1992 : r1985.1.toInt = r1948.1.toInt := o_eq h1991
                        first | (have q1996 := te_subc (c := 1) (n := 1) rfl (q_I r1952.2 1 14 a0) (by omega) (by omega); obtain ⟨f1997, f1998, f1999⟩ := q1996) | (obtain ⟨q1996, f1997, f1998, f1999⟩ := ti_subc (c := 1) (n := 1) rfl (q_I r1952.2 1 14 a0))
                        refine ok_bind (k_X1_valueAt L hN (a0 := a0) (x1 := ((q_I r1952.2 1 14 a0) - (1 : Int32))) k_a0 hnu knu (show 0 ≤ (((q_I r1952.2 1 14 a0) - (1 : Int32))).toInt by first | assumption | omega) (show (((q_I r1952.2 1 14 a0) - (1 : Int32))).toInt < (q_I r1952.2 3 1 nu).toInt by first | assumption | omega) i1954) (fun r1993 hr1994 => ?_)
                        have i2000 := hr1994
                        try rw [i2000]
                        have f2001 := ti_b r1993.1
                        refine ok_ite (fun h2002 => ?_) (fun h2002 => ?_)
                        · have c2003 : r1993.1.toInt = r1948.1.toInt := o_eq h2002
                          refine ok_bind (k_X1_enterList L hN (a0 := a0) (x1 := r1948.1) k_a0 i1954) (fun r2004 hr2005 => ?_)
                          obtain ⟨i2006, ⟨u2009, v2010⟩, p2007, p2008⟩ := hr2005
                          have u2011 := kp_t u1962 u2009
                          have v2012 := v2010.trans v1963
                          have f2013 := ti_b (q_I r2004 1 3 a0)
                          have f2014 := ti_b (q_I r1952.2 1 11 a0)
                          have f2015 : (q_I r1952.2 1 11 a0).toInt = (q_I δ 1 11 a0).toInt := congrArg Int32.toInt (u1960 1 11 a0 (by decide))
                          have f2016 := ti_b (q_I r2004 1 4 a0)
                          have f2017 := ti_b (q_I r1952.2 1 12 a0)
                          have f2018 : (q_I r1952.2 1 12 a0).toInt = (q_I δ 1 12 a0).toInt := congrArg Int32.toInt (u1960 1 12 a0 (by decide))
                          exact ok_some (show CI ad h.1 δ0 r2004 ∧ (kp [(1, 3), (1, 4), (1, 5), (1, 6), (1, 8), (1, 13), (1, 14), (1, 15)] δ r2004 ∧ q_V r2004 = q_V δ) ∧ 0 ≤ (q_I r2004 1 3 a0).toInt ∧ (q_I r2004 1 4 a0).toInt ≤ (q_I δ 3 1 nu).toInt from ⟨i2006, ⟨kp_w (by decide) u2011, v2012⟩, by first | assumption | omega, by first | assumption | omega⟩)
                        · have c2019 : r1993.1.toInt ≠ r1948.1.toInt := o_ne h2002
                          unfold J_X1_goOnDropping_172
                          refine ok_bind (k_X1_enterRoom L hN (a0 := a0) (x1 := r1948.1) k_a0 i1954) (fun r2020 hr2021 => ?_)
                          obtain ⟨i2022, ⟨u2025, v2026⟩, p2023, p2024⟩ := hr2021
                          have u2027 := kp_t u1962 u2025
                          have v2028 := v2026.trans v1963
                          have f2029 := ti_b (q_I r2020 1 3 a0)
                          have f2030 := ti_b (q_I r2020 1 4 a0)
                          exact ok_some (show CI ad h.1 δ0 r2020 ∧ (kp [(1, 3), (1, 4), (1, 5), (1, 6), (1, 8), (1, 13), (1, 14), (1, 15)] δ r2020 ∧ q_V r2020 = q_V δ) ∧ 0 ≤ (q_I r2020 1 3 a0).toInt ∧ (q_I r2020 1 4 a0).toInt ≤ (q_I δ 3 1 nu).toInt from ⟨i2022, ⟨kp_w (by decide) u2027, v2028⟩, by first | assumption | omega, by first | assumption | omega⟩)
                      · have c2031 : r1985.1.toInt ≠ r1948.1.toInt := o_ne h1991
                        unfold J_X1_goOnDropping_172
                        refine ok_bind (k_X1_enterRoom L hN (a0 := a0) (x1 := r1948.1) k_a0 i1954) (fun r2032 hr2033 => ?_)
                        obtain ⟨i2034, ⟨u2037, v2038⟩, p2035, p2036⟩ := hr2033
                        have u2039 := kp_t u1962 u2037
                        have v2040 := v2038.trans v1963
                        have f2041 := ti_b (q_I r2032 1 3 a0)
                        have f2042 := ti_b (q_I r2032 1 4 a0)
                        exact ok_some (show CI ad h.1 δ0 r2032 ∧ (kp [(1, 3), (1, 4), (1, 5), (1, 6), (1, 8), (1, 13), (1, 14), (1, 15)] δ r2032 ∧ q_V r2032 = q_V δ) ∧ 0 ≤ (q_I r2032 1 3 a0).toInt ∧ (q_I r2032 1 4 a0).toInt ≤ (q_I δ 3 1 nu).toInt from ⟨i2034, ⟨kp_w (by decide) u2039, v2040⟩, by first | assumption | omega, by first | assumption | omega⟩)
                  · have c2043 : (q_I δ 1 8 a0).toInt ≠ (q_I δ 1 9 a0).toInt := o_ne h1946
                    unfold J_X1_goOnDropping_118
                    first | (have q2047 := te_subc (c := 1) (n := 1) rfl (q_I δ 1 12 a0) (by omega) (by omega); obtain ⟨f2048, f2049, f2050⟩ := q2047) | (obtain ⟨q2047, f2048, f2049, f2050⟩ := ti_subc (c := 1) (n := 1) rfl (q_I δ 1 12 a0))
                    refine ok_bind (k_X1_valueAt L hN (a0 := a0) (x1 := ((q_I δ 1 12 a0) - (1 : Int32))) k_a0 hnu knu (show 0 ≤ (((q_I δ 1 12 a0) - (1 : Int32))).toInt by first | assumption | omega) (show (((q_I δ 1 12 a0) - (1 : Int32))).toInt < (q_I δ 3 1 nu).toInt by first | assumption | omega) I) (fun r2044 hr2045 => ?_)
                    have i2051 := hr2045
                    try rw [i2051]
                    have f2052 := ti_b r2044.1
                    unfold J_X1_goOnDropping_121
                    refine ok_bind (k_X1_findRoom L hN (a0 := a0) (x1 := r2044.1) k_a0 hnu knu (show 0 ≤ (q_I δ 1 11 a0).toInt by first | assumption | omega) (show (q_I δ 1 11 a0).toInt ≤ (q_I δ 1 12 a0).toInt by first | assumption | omega) (show (q_I δ 1 12 a0).toInt ≤ (q_I δ 3 1 nu).toInt by first | assumption | omega) I) (fun r2053 hr2054 => ?_)
                    obtain ⟨i2055, ⟨u2061, v2062⟩, p2056, p2057, p2058, p2059, p2060⟩ := hr2054
                    have u2063 := kp_t kp_r u2061
                    have v2064 := v2062.trans rfl
                    have f2065 := bo_t p2056
                    have f2066 := ti_b (q_I r2053.2 1 13 a0)
                    have f2067 := ti_b (q_I r2053.2 1 14 a0)
                    have f2068 := ti_b r2053.1
                    have f2069 := ti_b r2053.1
                    refine ok_ite (fun h2070 => ?_) (fun h2070 => ?_)
                    · have c2071 : r2053.1.toInt = (0 : Int) := o_eq h2070
                      refine ok_bdv (fun d2072 e2073 => ?_)
                      have i2074 : CI ad h.1 δ0 d2072 := by rw [e2073]; exact cs_1_15 L i2055 k_a0 (show 0 ≤ (1 : Int) by omega) (show (1 : Int) ≤ 1 by omega)
                      have u2075 := kp_I u2063 e2073
                      have v2076 : q_V d2072 = q_V δ := (show q_V d2072 = q_V r2053.2 by rw [e2073]; rfl).trans v2064
                      have f2077 := ti_b (q_I d2072 1 3 a0)
                      have f2078 : (q_I d2072 1 3 a0).toInt = (q_I r2053.2 1 3 a0).toInt := congrArg Int32.toInt (by rw [e2073]; exact rI_o (by decide))
                      have f2079 := ti_b (q_I r2053.2 1 3 a0)
                      have f2080 : (q_I r2053.2 1 3 a0).toInt = (q_I δ 1 3 a0).toInt := congrArg Int32.toInt (u2061 1 3 a0 (by decide))
                      have f2081 := ti_b (q_I d2072 1 4 a0)
                      have f2082 : (q_I d2072 1 4 a0).toInt = (q_I r2053.2 1 4 a0).toInt := congrArg Int32.toInt (by rw [e2073]; exact rI_o (by decide))
                      have f2083 := ti_b (q_I r2053.2 1 4 a0)
                      have f2084 : (q_I r2053.2 1 4 a0).toInt = (q_I δ 1 4 a0).toInt := congrArg Int32.toInt (u2061 1 4 a0 (by decide))
                      exact ok_some (show CI ad h.1 δ0 d2072 ∧ (kp [(1, 3), (1, 4), (1, 5), (1, 6), (1, 8), (1, 13), (1, 14), (1, 15)] δ d2072 ∧ q_V d2072 = q_V δ) ∧ 0 ≤ (q_I d2072 1 3 a0).toInt ∧ (q_I d2072 1 4 a0).toInt ≤ (q_I δ 3 1 nu).toInt from ⟨i2074, ⟨kp_w (by decide) u2075, v2076⟩, by first | assumption | omega, by first | assumption | omega⟩)
                    · have c2085 : r2053.1.toInt ≠ (0 : Int) := o_ne h2070
                      have f2088 := cb_3_1 i2055 knu o4
                      have f2089 : (q_I r2053.2 3 1 nu).toInt = (q_I δ 3 1 nu).toInt := congrArg Int32.toInt (u2061 3 1 nu (by decide))
                      refine ok_bind (k_X1_valueAt L hN (a0 := a0) (x1 := (q_I r2053.2 1 13 a0)) k_a0 hnu knu (show 0 ≤ ((q_I r2053.2 1 13 a0)).toInt by first | assumption | omega) (show ((q_I r2053.2 1 13 a0)).toInt < (q_I r2053.2 3 1 nu).toInt by first | assumption | omega) i2055) (fun r2086 hr2087 => ?_)
                      have i2090 := hr2087
                      try rw [i2090]
                      have f2091 := ti_b r2086.1
                      refine ok_ite (fun h2092 => ?_) (fun h2092 => ?_)
                      · have c2093 : r2086.1.toInt = r2044.1.toInt := o_eq h2092
                        first | (have q2097 := te_subc (c := 1) (n := 1) rfl (q_I r2053.2 1 14 a0) (by omega) (by omega); obtain ⟨f2098, f2099, f2100⟩ := q2097) | (obtain ⟨q2097, f2098, f2099, f2100⟩ := ti_subc (c := 1) (n := 1) rfl (q_I r2053.2 1 14 a0))
                        refine ok_bind (k_X1_valueAt L hN (a0 := a0) (x1 := ((q_I r2053.2 1 14 a0) - (1 : Int32))) k_a0 hnu knu (show 0 ≤ (((q_I r2053.2 1 14 a0) - (1 : Int32))).toInt by first | assumption | omega) (show (((q_I r2053.2 1 14 a0) - (1 : Int32))).toInt < (q_I r2053.2 3 1 nu).toInt by first | assumption | omega) i2055) (fun r2094 hr2095 => ?_)
                        have i2101 := hr2095
                        try rw [i2101]
                        have f2102 := ti_b r2094.1
                        refine ok_ite (fun h2103 => ?_) (fun h2103 => ?_)
                        · have c2104 : r2094.1.toInt = r2044.1.toInt := o_eq h2103
                          refine ok_bind (k_X1_enterList L hN (a0 := a0) (x1 := r2044.1) k_a0 i2055) (fun r2105 hr2106 => ?_)
                          obtain ⟨i2107, ⟨u2110, v2111⟩, p2108, p2109⟩ := hr2106
                          have u2112 := kp_t u2063 u2110
                          have v2113 := v2111.trans v2064
                          have f2114 := ti_b (q_I r2105 1 3 a0)
                          have f2115 := ti_b (q_I r2053.2 1 11 a0)
                          have f2116 : (q_I r2053.2 1 11 a0).toInt = (q_I δ 1 11 a0).toInt := congrArg Int32.toInt (u2061 1 11 a0 (by decide))
                          have f2117 := ti_b (q_I r2105 1 4 a0)
                          have f2118 := ti_b (q_I r2053.2 1 12 a0)
                          have f2119 : (q_I r2053.2 1 12 a0).toInt = (q_I δ 1 12 a0).toInt := congrArg Int32.toInt (u2061 1 12 a0 (by decide))
                          exact ok_some (show CI ad h.1 δ0 r2105 ∧ (kp [(1, 3), (1, 4), (1, 5), (1, 6), (1, 8), (1, 13), (1, 14), (1, 15)] δ r2105 ∧ q_V r2105 = q_V δ) ∧ 0 ≤ (q_I r2105 1 3 a0).toInt ∧ (q_I r2105 1 4 a0).toInt ≤ (q_I δ 3 1 nu).toInt from ⟨i2107, ⟨kp_w (by decide) u2112, v2113⟩, by first | assumption | omega, by first | assumption | omega⟩)
                        · have c2120 : r2094.1.toInt ≠ r2044.1.toInt := o_ne h2103
                          unfold J_X1_goOnDropping_172
                          refine ok_bind (k_X1_enterRoom L hN (a0 := a0) (x1 := r2044.1) k_a0 i2055) (fun r2121 hr2122 => ?_)
                          obtain ⟨i2123, ⟨u2126, v2127⟩, p2124, p2125⟩ := hr2122
                          have u2128 := kp_t u2063 u2126
                          have v2129 := v2127.trans v2064
                          have f2130 := ti_b (q_I r2121 1 3 a0)
                          have f2131 := ti_b (q_I r2121 1 4 a0)
                          exact ok_some (show CI ad h.1 δ0 r2121 ∧ (kp [(1, 3), (1, 4), (1, 5), (1, 6), (1, 8), (1, 13), (1, 14), (1, 15)] δ r2121 ∧ q_V r2121 = q_V δ) ∧ 0 ≤ (q_I r2121 1 3 a0).toInt ∧ (q_I r2121 1 4 a0).toInt ≤ (q_I δ 3 1 nu).toInt from ⟨i2123, ⟨kp_w (by decide) u2128, v2129⟩, by first | assumption | omega, by first | assumption | omega⟩)
                      · have c2132 : r2086.1.toInt ≠ r2044.1.toInt := o_ne h2092
                        unfold J_X1_goOnDropping_172
                        refine ok_bind (k_X1_enterRoom L hN (a0 := a0) (x1 := r2044.1) k_a0 i2055) (fun r2133 hr2134 => ?_)
                        obtain ⟨i2135, ⟨u2138, v2139⟩, p2136, p2137⟩ := hr2134
                        have u2140 := kp_t u2063 u2138
                        have v2141 := v2139.trans v2064
                        have f2142 := ti_b (q_I r2133 1 3 a0)
                        have f2143 := ti_b (q_I r2133 1 4 a0)
                        exact ok_some (show CI ad h.1 δ0 r2133 ∧ (kp [(1, 3), (1, 4), (1, 5), (1, 6), (1, 8), (1, 13), (1, 14), (1, 15)] δ r2133 ∧ q_V r2133 = q_V δ) ∧ 0 ≤ (q_I r2133 1 3 a0).toInt ∧ (q_I r2133 1 4 a0).toInt ≤ (q_I δ 3 1 nu).toInt from ⟨i2135, ⟨kp_w (by decide) u2140, v2141⟩, by first | assumption | omega, by first | assumption | omega⟩)
              · have c2144 : (1 : Int) ≠ (0 : Int) := o_ne h1850
                unfold J_X1_goOnDropping_81
                refine ok_ite (fun h2145 => ?_) (fun h2145 => ?_)
                · have c2146 : (1 : Int) = (0 : Int) := o_eq h2145
                  unfold J_X1_goOnDropping_121
                  refine ok_bind (k_X1_findRoom L hN (a0 := a0) (x1 := (q_I δ 1 8 a0)) k_a0 hnu knu (show 0 ≤ (q_I δ 1 11 a0).toInt by first | assumption | omega) (show (q_I δ 1 11 a0).toInt ≤ (q_I δ 1 12 a0).toInt by first | assumption | omega) (show (q_I δ 1 12 a0).toInt ≤ (q_I δ 3 1 nu).toInt by first | assumption | omega) I) (fun r2147 hr2148 => ?_)
                  obtain ⟨i2149, ⟨u2155, v2156⟩, p2150, p2151, p2152, p2153, p2154⟩ := hr2148
                  have u2157 := kp_t kp_r u2155
                  have v2158 := v2156.trans rfl
                  have f2159 := bo_t p2150
                  have f2160 := ti_b (q_I r2147.2 1 13 a0)
                  have f2161 := ti_b (q_I r2147.2 1 14 a0)
                  have f2162 := ti_b r2147.1
                  have f2163 := ti_b r2147.1
                  refine ok_ite (fun h2164 => ?_) (fun h2164 => ?_)
                  · have c2165 : r2147.1.toInt = (0 : Int) := o_eq h2164
                    refine ok_bdv (fun d2166 e2167 => ?_)
                    have i2168 : CI ad h.1 δ0 d2166 := by rw [e2167]; exact cs_1_15 L i2149 k_a0 (show 0 ≤ (1 : Int) by omega) (show (1 : Int) ≤ 1 by omega)
                    have u2169 := kp_I u2157 e2167
                    have v2170 : q_V d2166 = q_V δ := (show q_V d2166 = q_V r2147.2 by rw [e2167]; rfl).trans v2158
                    have f2171 := ti_b (q_I d2166 1 3 a0)
                    have f2172 : (q_I d2166 1 3 a0).toInt = (q_I r2147.2 1 3 a0).toInt := congrArg Int32.toInt (by rw [e2167]; exact rI_o (by decide))
                    have f2173 := ti_b (q_I r2147.2 1 3 a0)
                    have f2174 : (q_I r2147.2 1 3 a0).toInt = (q_I δ 1 3 a0).toInt := congrArg Int32.toInt (u2155 1 3 a0 (by decide))
                    have f2175 := ti_b (q_I d2166 1 4 a0)
                    have f2176 : (q_I d2166 1 4 a0).toInt = (q_I r2147.2 1 4 a0).toInt := congrArg Int32.toInt (by rw [e2167]; exact rI_o (by decide))
                    have f2177 := ti_b (q_I r2147.2 1 4 a0)
                    have f2178 : (q_I r2147.2 1 4 a0).toInt = (q_I δ 1 4 a0).toInt := congrArg Int32.toInt (u2155 1 4 a0 (by decide))
                    exact ok_some (show CI ad h.1 δ0 d2166 ∧ (kp [(1, 3), (1, 4), (1, 5), (1, 6), (1, 8), (1, 13), (1, 14), (1, 15)] δ d2166 ∧ q_V d2166 = q_V δ) ∧ 0 ≤ (q_I d2166 1 3 a0).toInt ∧ (q_I d2166 1 4 a0).toInt ≤ (q_I δ 3 1 nu).toInt from ⟨i2168, ⟨kp_w (by decide) u2169, v2170⟩, by first | assumption | omega, by first | assumption | omega⟩)
                  · have c2179 : r2147.1.toInt ≠ (0 : Int) := o_ne h2164
                    have f2182 := cb_3_1 i2149 knu o4
                    have f2183 : (q_I r2147.2 3 1 nu).toInt = (q_I δ 3 1 nu).toInt := congrArg Int32.toInt (u2155 3 1 nu (by decide))
                    refine ok_bind (k_X1_valueAt L hN (a0 := a0) (x1 := (q_I r2147.2 1 13 a0)) k_a0 hnu knu (show 0 ≤ ((q_I r2147.2 1 13 a0)).toInt by first | assumption | omega) (show ((q_I r2147.2 1 13 a0)).toInt < (q_I r2147.2 3 1 nu).toInt by first | assumption | omega) i2149) (fun r2180 hr2181 => ?_)
                    have i2184 := hr2181
                    try rw [i2184]
                    have f2185 := ti_b r2180.1
                    refine ok_ite (fun h2186 => ?_) (fun h2186 => ?_)
                    · have c2187 : r2180.1.toInt = (q_I δ 1 8 a0).toInt := o_eq h2186
                      first | (have q2191 := te_subc (c := 1) (n := 1) rfl (q_I r2147.2 1 14 a0) (by omega) (by omega); obtain ⟨f2192, f2193, f2194⟩ := q2191) | (obtain ⟨q2191, f2192, f2193, f2194⟩ := ti_subc (c := 1) (n := 1) rfl (q_I r2147.2 1 14 a0))
                      refine ok_bind (k_X1_valueAt L hN (a0 := a0) (x1 := ((q_I r2147.2 1 14 a0) - (1 : Int32))) k_a0 hnu knu (show 0 ≤ (((q_I r2147.2 1 14 a0) - (1 : Int32))).toInt by first | assumption | omega) (show (((q_I r2147.2 1 14 a0) - (1 : Int32))).toInt < (q_I r2147.2 3 1 nu).toInt by first | assumption | omega) i2149) (fun r2188 hr2189 => ?_)
                      have i2195 := hr2189
                      try rw [i2195]
                      have f2196 := ti_b r2188.1
                      refine ok_ite (fun h2197 => ?_) (fun h2197 => ?_)
                      · have c2198 : r2188.1.toInt = (q_I δ 1 8 a0).toInt := o_eq h2197
                        refine ok_bind (k_X1_enterList L hN (a0 := a0) (x1 := (q_I δ 1 8 a0)) k_a0 i2149) (fun r2199 hr2200 => ?_)
                        obtain ⟨i2201, ⟨u2204, v2205⟩, p2202, p2203⟩ := hr2200
                        have u2206 := kp_t u2157 u2204
                        have v2207 := v2205.trans v2158
                        have f2208 := ti_b (q_I r2199 1 3 a0)
                        have f2209 := ti_b (q_I r2147.2 1 11 a0)
                        have f2210 : (q_I r2147.2 1 11 a0).toInt = (q_I δ 1 11 a0).toInt := congrArg Int32.toInt (u2155 1 11 a0 (by decide))
                        have f2211 := ti_b (q_I r2199 1 4 a0)
                        have f2212 := ti_b (q_I r2147.2 1 12 a0)
                        have f2213 : (q_I r2147.2 1 12 a0).toInt = (q_I δ 1 12 a0).toInt := congrArg Int32.toInt (u2155 1 12 a0 (by decide))
                        exact ok_some (show CI ad h.1 δ0 r2199 ∧ (kp [(1, 3), (1, 4), (1, 5), (1, 6), (1, 8), (1, 13), (1, 14), (1, 15)] δ r2199 ∧ q_V r2199 = q_V δ) ∧ 0 ≤ (q_I r2199 1 3 a0).toInt ∧ (q_I r2199 1 4 a0).toInt ≤ (q_I δ 3 1 nu).toInt from ⟨i2201, ⟨kp_w (by decide) u2206, v2207⟩, by first | assumption | omega, by first | assumption | omega⟩)
                      · have c2214 : r2188.1.toInt ≠ (q_I δ 1 8 a0).toInt := o_ne h2197
                        unfold J_X1_goOnDropping_172
                        refine ok_bind (k_X1_enterRoom L hN (a0 := a0) (x1 := (q_I δ 1 8 a0)) k_a0 i2149) (fun r2215 hr2216 => ?_)
                        obtain ⟨i2217, ⟨u2220, v2221⟩, p2218, p2219⟩ := hr2216
                        have u2222 := kp_t u2157 u2220
                        have v2223 := v2221.trans v2158
                        have f2224 := ti_b (q_I r2215 1 3 a0)
                        have f2225 := ti_b (q_I r2215 1 4 a0)
                        exact ok_some (show CI ad h.1 δ0 r2215 ∧ (kp [(1, 3), (1, 4), (1, 5), (1, 6), (1, 8), (1, 13), (1, 14), (1, 15)] δ r2215 ∧ q_V r2215 = q_V δ) ∧ 0 ≤ (q_I r2215 1 3 a0).toInt ∧ (q_I r2215 1 4 a0).toInt ≤ (q_I δ 3 1 nu).toInt from ⟨i2217, ⟨kp_w (by decide) u2222, v2223⟩, by first | assumption | omega, by first | assumption | omega⟩)
                    · have c2226 : r2180.1.toInt ≠ (q_I δ 1 8 a0).toInt := o_ne h2186
                      unfold J_X1_goOnDropping_172
                      refine ok_bind (k_X1_enterRoom L hN (a0 := a0) (x1 := (q_I δ 1 8 a0)) k_a0 i2149) (fun r2227 hr2228 => ?_)
                      obtain ⟨i2229, ⟨u2232, v2233⟩, p2230, p2231⟩ := hr2228
                      have u2234 := kp_t u2157 u2232
                      have v2235 := v2233.trans v2158
                      have f2236 := ti_b (q_I r2227 1 3 a0)
                      have f2237 := ti_b (q_I r2227 1 4 a0)
                      exact ok_some (show CI ad h.1 δ0 r2227 ∧ (kp [(1, 3), (1, 4), (1, 5), (1, 6), (1, 8), (1, 13), (1, 14), (1, 15)] δ r2227 ∧ q_V r2227 = q_V δ) ∧ 0 ≤ (q_I r2227 1 3 a0).toInt ∧ (q_I r2227 1 4 a0).toInt ≤ (q_I δ 3 1 nu).toInt from ⟨i2229, ⟨kp_w (by decide) u2234, v2235⟩, by first | assumption | omega, by first | assumption | omega⟩)
                · have c2238 : (1 : Int) ≠ (0 : Int) := o_ne h2145
                  refine ok_ite (fun h2239 => ?_) (fun h2239 => ?_)
                  · have c2240 : (q_I δ 1 8 a0).toInt = (q_I δ 1 9 a0).toInt := o_eq h2239
                    unfold J_X1_goOnDropping_118
                    refine ok_bind (k_X1_valueAt L hN (a0 := a0) (x1 := (q_I δ 1 11 a0)) k_a0 hnu knu (show 0 ≤ ((q_I δ 1 11 a0)).toInt by first | assumption | omega) (show ((q_I δ 1 11 a0)).toInt < (q_I δ 3 1 nu).toInt by first | assumption | omega) I) (fun r2241 hr2242 => ?_)
                    have i2243 := hr2242
                    try rw [i2243]
                    have f2244 := ti_b r2241.1
                    unfold J_X1_goOnDropping_121
                    refine ok_bind (k_X1_findRoom L hN (a0 := a0) (x1 := r2241.1) k_a0 hnu knu (show 0 ≤ (q_I δ 1 11 a0).toInt by first | assumption | omega) (show (q_I δ 1 11 a0).toInt ≤ (q_I δ 1 12 a0).toInt by first | assumption | omega) (show (q_I δ 1 12 a0).toInt ≤ (q_I δ 3 1 nu).toInt by first | assumption | omega) I) (fun r2245 hr2246 => ?_)
                    obtain ⟨i2247, ⟨u2253, v2254⟩, p2248, p2249, p2250, p2251, p2252⟩ := hr2246
                    have u2255 := kp_t kp_r u2253
                    have v2256 := v2254.trans rfl
                    have f2257 := bo_t p2248
                    have f2258 := ti_b (q_I r2245.2 1 13 a0)
                    have f2259 := ti_b (q_I r2245.2 1 14 a0)
                    have f2260 := ti_b r2245.1
                    have f2261 := ti_b r2245.1
                    refine ok_ite (fun h2262 => ?_) (fun h2262 => ?_)
                    · have c2263 : r2245.1.toInt = (0 : Int) := o_eq h2262
                      refine ok_bdv (fun d2264 e2265 => ?_)
                      have i2266 : CI ad h.1 δ0 d2264 := by rw [e2265]; exact cs_1_15 L i2247 k_a0 (show 0 ≤ (1 : Int) by omega) (show (1 : Int) ≤ 1 by omega)
                      have u2267 := kp_I u2255 e2265
                      have v2268 : q_V d2264 = q_V δ := (show q_V d2264 = q_V r2245.2 by rw [e2265]; rfl).trans v2256
                      have f2269 := ti_b (q_I d2264 1 3 a0)
                      have f2270 : (q_I d2264 1 3 a0).toInt = (q_I r2245.2 1 3 a0).toInt := congrArg Int32.toInt (by rw [e2265]; exact rI_o (by decide))
                      have f2271 := ti_b (q_I r2245.2 1 3 a0)
                      have f2272 : (q_I r2245.2 1 3 a0).toInt = (q_I δ 1 3 a0).toInt := congrArg Int32.toInt (u2253 1 3 a0 (by decide))
                      have f2273 := ti_b (q_I d2264 1 4 a0)
                      have f2274 : (q_I d2264 1 4 a0).toInt = (q_I r2245.2 1 4 a0).toInt := congrArg Int32.toInt (by rw [e2265]; exact rI_o (by decide))
                      have f2275 := ti_b (q_I r2245.2 1 4 a0)
                      have f2276 : (q_I r2245.2 1 4 a0).toInt = (q_I δ 1 4 a0).toInt := congrArg Int32.toInt (u2253 1 4 a0 (by decide))
                      exact ok_some (show CI ad h.1 δ0 d2264 ∧ (kp [(1, 3), (1, 4), (1, 5), (1, 6), (1, 8), (1, 13), (1, 14), (1, 15)] δ d2264 ∧ q_V d2264 = q_V δ) ∧ 0 ≤ (q_I d2264 1 3 a0).toInt ∧ (q_I d2264 1 4 a0).toInt ≤ (q_I δ 3 1 nu).toInt from ⟨i2266, ⟨kp_w (by decide) u2267, v2268⟩, by first | assumption | omega, by first | assumption | omega⟩)
                    · have c2277 : r2245.1.toInt ≠ (0 : Int) := o_ne h2262
                      have f2280 := cb_3_1 i2247 knu o4
                      have f2281 : (q_I r2245.2 3 1 nu).toInt = (q_I δ 3 1 nu).toInt := congrArg Int32.toInt (u2253 3 1 nu (by decide))
                      refine ok_bind (k_X1_valueAt L hN (a0 := a0) (x1 := (q_I r2245.2 1 13 a0)) k_a0 hnu knu (show 0 ≤ ((q_I r2245.2 1 13 a0)).toInt by first | assumption | omega) (show ((q_I r2245.2 1 13 a0)).toInt < (q_I r2245.2 3 1 nu).toInt by first | assumption | omega) i2247) (fun r2278 hr2279 => ?_)
                      have i2282 := hr2279
                      try rw [i2282]
                      have f2283 := ti_b r2278.1
                      refine ok_ite (fun h2284 => ?_) (fun h2284 => ?_)
                      · have c2285 : r2278.1.toInt = r2241.1.toInt := o_eq h2284
                        first | (have q2289 := te_subc (c := 1) (n := 1) rfl (q_I r2245.2 1 14 a0) (by omega) (by omega); obtain ⟨f2290, f2291, f2292⟩ := q2289) | (obtain ⟨q2289, f2290, f2291, f2292⟩ := ti_subc (c := 1) (n := 1) rfl (q_I r2245.2 1 14 a0))
                        refine ok_bind (k_X1_valueAt L hN (a0 := a0) (x1 := ((q_I r2245.2 1 14 a0) - (1 : Int32))) k_a0 hnu knu (show 0 ≤ (((q_I r2245.2 1 14 a0) - (1 : Int32))).toInt by first | assumption | omega) (show (((q_I r2245.2 1 14 a0) - (1 : Int32))).toInt < (q_I r2245.2 3 1 nu).toInt by first | assumption | omega) i2247) (fun r2286 hr2287 => ?_)
                        have i2293 := hr2287
                        try rw [i2293]
                        have f2294 := ti_b r2286.1
                        refine ok_ite (fun h2295 => ?_) (fun h2295 => ?_)
                        · have c2296 : r2286.1.toInt = r2241.1.toInt := o_eq h2295
                          refine ok_bind (k_X1_enterList L hN (a0 := a0) (x1 := r2241.1) k_a0 i2247) (fun r2297 hr2298 => ?_)
                          obtain ⟨i2299, ⟨u2302, v2303⟩, p2300, p2301⟩ := hr2298
                          have u2304 := kp_t u2255 u2302
                          have v2305 := v2303.trans v2256
                          have f2306 := ti_b (q_I r2297 1 3 a0)
                          have f2307 := ti_b (q_I r2245.2 1 11 a0)
                          have f2308 : (q_I r2245.2 1 11 a0).toInt = (q_I δ 1 11 a0).toInt := congrArg Int32.toInt (u2253 1 11 a0 (by decide))
                          have f2309 := ti_b (q_I r2297 1 4 a0)
                          have f2310 := ti_b (q_I r2245.2 1 12 a0)
                          have f2311 : (q_I r2245.2 1 12 a0).toInt = (q_I δ 1 12 a0).toInt := congrArg Int32.toInt (u2253 1 12 a0 (by decide))
                          exact ok_some (show CI ad h.1 δ0 r2297 ∧ (kp [(1, 3), (1, 4), (1, 5), (1, 6), (1, 8), (1, 13), (1, 14), (1, 15)] δ r2297 ∧ q_V r2297 = q_V δ) ∧ 0 ≤ (q_I r2297 1 3 a0).toInt ∧ (q_I r2297 1 4 a0).toInt ≤ (q_I δ 3 1 nu).toInt from ⟨i2299, ⟨kp_w (by decide) u2304, v2305⟩, by first | assumption | omega, by first | assumption | omega⟩)
                        · have c2312 : r2286.1.toInt ≠ r2241.1.toInt := o_ne h2295
                          unfold J_X1_goOnDropping_172
                          refine ok_bind (k_X1_enterRoom L hN (a0 := a0) (x1 := r2241.1) k_a0 i2247) (fun r2313 hr2314 => ?_)
                          obtain ⟨i2315, ⟨u2318, v2319⟩, p2316, p2317⟩ := hr2314
                          have u2320 := kp_t u2255 u2318
                          have v2321 := v2319.trans v2256
                          have f2322 := ti_b (q_I r2313 1 3 a0)
                          have f2323 := ti_b (q_I r2313 1 4 a0)
                          exact ok_some (show CI ad h.1 δ0 r2313 ∧ (kp [(1, 3), (1, 4), (1, 5), (1, 6), (1, 8), (1, 13), (1, 14), (1, 15)] δ r2313 ∧ q_V r2313 = q_V δ) ∧ 0 ≤ (q_I r2313 1 3 a0).toInt ∧ (q_I r2313 1 4 a0).toInt ≤ (q_I δ 3 1 nu).toInt from ⟨i2315, ⟨kp_w (by decide) u2320, v2321⟩, by first | assumption | omega, by first | assumption | omega⟩)
                      · have c2324 : r2278.1.toInt ≠ r2241.1.toInt := o_ne h2284
                        unfold J_X1_goOnDropping_172
                        refine ok_bind (k_X1_enterRoom L hN (a0 := a0) (x1 := r2241.1) k_a0 i2247) (fun r2325 hr2326 => ?_)
                        obtain ⟨i2327, ⟨u2330, v2331⟩, p2328, p2329⟩ := hr2326
                        have u2332 := kp_t u2255 u2330
                        have v2333 := v2331.trans v2256
                        have f2334 := ti_b (q_I r2325 1 3 a0)
                        have f2335 := ti_b (q_I r2325 1 4 a0)
                        exact ok_some (show CI ad h.1 δ0 r2325 ∧ (kp [(1, 3), (1, 4), (1, 5), (1, 6), (1, 8), (1, 13), (1, 14), (1, 15)] δ r2325 ∧ q_V r2325 = q_V δ) ∧ 0 ≤ (q_I r2325 1 3 a0).toInt ∧ (q_I r2325 1 4 a0).toInt ≤ (q_I δ 3 1 nu).toInt from ⟨i2327, ⟨kp_w (by decide) u2332, v2333⟩, by first | assumption | omega, by first | assumption | omega⟩)
                  · have c2336 : (q_I δ 1 8 a0).toInt ≠ (q_I δ 1 9 a0).toInt := o_ne h2239
                    unfold J_X1_goOnDropping_118
                    first | (have q2340 := te_subc (c := 1) (n := 1) rfl (q_I δ 1 12 a0) (by omega) (by omega); obtain ⟨f2341, f2342, f2343⟩ := q2340) | (obtain ⟨q2340, f2341, f2342, f2343⟩ := ti_subc (c := 1) (n := 1) rfl (q_I δ 1 12 a0))
                    refine ok_bind (k_X1_valueAt L hN (a0 := a0) (x1 := ((q_I δ 1 12 a0) - (1 : Int32))) k_a0 hnu knu (show 0 ≤ (((q_I δ 1 12 a0) - (1 : Int32))).toInt by first | assumption | omega) (show (((q_I δ 1 12 a0) - (1 : Int32))).toInt < (q_I δ 3 1 nu).toInt by first | assumption | omega) I) (fun r2337 hr2338 => ?_)
                    have i2344 := hr2338
                    try rw [i2344]
                    have f2345 := ti_b r2337.1
                    unfold J_X1_goOnDropping_121
                    refine ok_bind (k_X1_findRoom L hN (a0 := a0) (x1 := r2337.1) k_a0 hnu knu (show 0 ≤ (q_I δ 1 11 a0).toInt by first | assumption | omega) (show (q_I δ 1 11 a0).toInt ≤ (q_I δ 1 12 a0).toInt by first | assumption | omega) (show (q_I δ 1 12 a0).toInt ≤ (q_I δ 3 1 nu).toInt by first | assumption | omega) I) (fun r2346 hr2347 => ?_)
                    obtain ⟨i2348, ⟨u2354, v2355⟩, p2349, p2350, p2351, p2352, p2353⟩ := hr2347
                    have u2356 := kp_t kp_r u2354
                    have v2357 := v2355.trans rfl
                    have f2358 := bo_t p2349
                    have f2359 := ti_b (q_I r2346.2 1 13 a0)
                    have f2360 := ti_b (q_I r2346.2 1 14 a0)
                    have f2361 := ti_b r2346.1
                    have f2362 := ti_b r2346.1
                    refine ok_ite (fun h2363 => ?_) (fun h2363 => ?_)
                    · have c2364 : r2346.1.toInt = (0 : Int) := o_eq h2363
                      refine ok_bdv (fun d2365 e2366 => ?_)
                      have i2367 : CI ad h.1 δ0 d2365 := by rw [e2366]; exact cs_1_15 L i2348 k_a0 (show 0 ≤ (1 : Int) by omega) (show (1 : Int) ≤ 1 by omega)
                      have u2368 := kp_I u2356 e2366
                      have v2369 : q_V d2365 = q_V δ := (show q_V d2365 = q_V r2346.2 by rw [e2366]; rfl).trans v2357
                      have f2370 := ti_b (q_I d2365 1 3 a0)
                      have f2371 : (q_I d2365 1 3 a0).toInt = (q_I r2346.2 1 3 a0).toInt := congrArg Int32.toInt (by rw [e2366]; exact rI_o (by decide))
                      have f2372 := ti_b (q_I r2346.2 1 3 a0)
                      have f2373 : (q_I r2346.2 1 3 a0).toInt = (q_I δ 1 3 a0).toInt := congrArg Int32.toInt (u2354 1 3 a0 (by decide))
                      have f2374 := ti_b (q_I d2365 1 4 a0)
                      have f2375 : (q_I d2365 1 4 a0).toInt = (q_I r2346.2 1 4 a0).toInt := congrArg Int32.toInt (by rw [e2366]; exact rI_o (by decide))
                      have f2376 := ti_b (q_I r2346.2 1 4 a0)
                      have f2377 : (q_I r2346.2 1 4 a0).toInt = (q_I δ 1 4 a0).toInt := congrArg Int32.toInt (u2354 1 4 a0 (by decide))
                      exact ok_some (show CI ad h.1 δ0 d2365 ∧ (kp [(1, 3), (1, 4), (1, 5), (1, 6), (1, 8), (1, 13), (1, 14), (1, 15)] δ d2365 ∧ q_V d2365 = q_V δ) ∧ 0 ≤ (q_I d2365 1 3 a0).toInt ∧ (q_I d2365 1 4 a0).toInt ≤ (q_I δ 3 1 nu).toInt from ⟨i2367, ⟨kp_w (by decide) u2368, v2369⟩, by first | assumption | omega, by first | assumption | omega⟩)
                    · have c2378 : r2346.1.toInt ≠ (0 : Int) := o_ne h2363
                      have f2381 := cb_3_1 i2348 knu o4
                      have f2382 : (q_I r2346.2 3 1 nu).toInt = (q_I δ 3 1 nu).toInt := congrArg Int32.toInt (u2354 3 1 nu (by decide))
                      refine ok_bind (k_X1_valueAt L hN (a0 := a0) (x1 := (q_I r2346.2 1 13 a0)) k_a0 hnu knu (show 0 ≤ ((q_I r2346.2 1 13 a0)).toInt by first | assumption | omega) (show ((q_I r2346.2 1 13 a0)).toInt < (q_I r2346.2 3 1 nu).toInt by first | assumption | omega) i2348) (fun r2379 hr2380 => ?_)
                      have i2383 := hr2380
                      try rw [i2383]
                      have f2384 := ti_b r2379.1
                      refine ok_ite (fun h2385 => ?_) (fun h2385 => ?_)
                      · have c2386 : r2379.1.toInt = r2337.1.toInt := o_eq h2385
                        first | (have q2390 := te_subc (c := 1) (n := 1) rfl (q_I r2346.2 1 14 a0) (by omega) (by omega); obtain ⟨f2391, f2392, f2393⟩ := q2390) | (obtain ⟨q2390, f2391, f2392, f2393⟩ := ti_subc (c := 1) (n := 1) rfl (q_I r2346.2 1 14 a0))
                        refine ok_bind (k_X1_valueAt L hN (a0 := a0) (x1 := ((q_I r2346.2 1 14 a0) - (1 : Int32))) k_a0 hnu knu (show 0 ≤ (((q_I r2346.2 1 14 a0) - (1 : Int32))).toInt by first | assumption | omega) (show (((q_I r2346.2 1 14 a0) - (1 : Int32))).toInt < (q_I r2346.2 3 1 nu).toInt by first | assumption | omega) i2348) (fun r2387 hr2388 => ?_)
                        have i2394 := hr2388
                        try rw [i2394]
                        have f2395 := ti_b r2387.1
                        refine ok_ite (fun h2396 => ?_) (fun h2396 => ?_)
                        · have c2397 : r2387.1.toInt = r2337.1.toInt := o_eq h2396
                          refine ok_bind (k_X1_enterList L hN (a0 := a0) (x1 := r2337.1) k_a0 i2348) (fun r2398 hr2399 => ?_)
                          obtain ⟨i2400, ⟨u2403, v2404⟩, p2401, p2402⟩ := hr2399
                          have u2405 := kp_t u2356 u2403
                          have v2406 := v2404.trans v2357
                          have f2407 := ti_b (q_I r2398 1 3 a0)
                          have f2408 := ti_b (q_I r2346.2 1 11 a0)
                          have f2409 : (q_I r2346.2 1 11 a0).toInt = (q_I δ 1 11 a0).toInt := congrArg Int32.toInt (u2354 1 11 a0 (by decide))
                          have f2410 := ti_b (q_I r2398 1 4 a0)
                          have f2411 := ti_b (q_I r2346.2 1 12 a0)
                          have f2412 : (q_I r2346.2 1 12 a0).toInt = (q_I δ 1 12 a0).toInt := congrArg Int32.toInt (u2354 1 12 a0 (by decide))
                          exact ok_some (show CI ad h.1 δ0 r2398 ∧ (kp [(1, 3), (1, 4), (1, 5), (1, 6), (1, 8), (1, 13), (1, 14), (1, 15)] δ r2398 ∧ q_V r2398 = q_V δ) ∧ 0 ≤ (q_I r2398 1 3 a0).toInt ∧ (q_I r2398 1 4 a0).toInt ≤ (q_I δ 3 1 nu).toInt from ⟨i2400, ⟨kp_w (by decide) u2405, v2406⟩, by first | assumption | omega, by first | assumption | omega⟩)
                        · have c2413 : r2387.1.toInt ≠ r2337.1.toInt := o_ne h2396
                          unfold J_X1_goOnDropping_172
                          refine ok_bind (k_X1_enterRoom L hN (a0 := a0) (x1 := r2337.1) k_a0 i2348) (fun r2414 hr2415 => ?_)
                          obtain ⟨i2416, ⟨u2419, v2420⟩, p2417, p2418⟩ := hr2415
                          have u2421 := kp_t u2356 u2419
                          have v2422 := v2420.trans v2357
                          have f2423 := ti_b (q_I r2414 1 3 a0)
                          have f2424 := ti_b (q_I r2414 1 4 a0)
                          exact ok_some (show CI ad h.1 δ0 r2414 ∧ (kp [(1, 3), (1, 4), (1, 5), (1, 6), (1, 8), (1, 13), (1, 14), (1, 15)] δ r2414 ∧ q_V r2414 = q_V δ) ∧ 0 ≤ (q_I r2414 1 3 a0).toInt ∧ (q_I r2414 1 4 a0).toInt ≤ (q_I δ 3 1 nu).toInt from ⟨i2416, ⟨kp_w (by decide) u2421, v2422⟩, by first | assumption | omega, by first | assumption | omega⟩)
                      · have c2425 : r2379.1.toInt ≠ r2337.1.toInt := o_ne h2385
                        unfold J_X1_goOnDropping_172
                        refine ok_bind (k_X1_enterRoom L hN (a0 := a0) (x1 := r2337.1) k_a0 i2348) (fun r2426 hr2427 => ?_)
                        obtain ⟨i2428, ⟨u2431, v2432⟩, p2429, p2430⟩ := hr2427
                        have u2433 := kp_t u2356 u2431
                        have v2434 := v2432.trans v2357
                        have f2435 := ti_b (q_I r2426 1 3 a0)
                        have f2436 := ti_b (q_I r2426 1 4 a0)
                        exact ok_some (show CI ad h.1 δ0 r2426 ∧ (kp [(1, 3), (1, 4), (1, 5), (1, 6), (1, 8), (1, 13), (1, 14), (1, 15)] δ r2426 ∧ q_V r2426 = q_V δ) ∧ 0 ≤ (q_I r2426 1 3 a0).toInt ∧ (q_I r2426 1 4 a0).toInt ≤ (q_I δ 3 1 nu).toInt from ⟨i2428, ⟨kp_w (by decide) u2433, v2434⟩, by first | assumption | omega, by first | assumption | omega⟩)
            · have c2437 : (q_I δ 1 12 a0).toInt ≤ (q_I δ 1 11 a0).toInt := o_nlt h1848
              unfold J_X1_goOnDropping_65
              refine ok_bdv (fun d2438 e2439 => ?_)
              have i2440 : CI ad h.1 δ0 d2438 := by rw [e2439]; exact cs_1_15 L I k_a0 (show 0 ≤ (1 : Int) by omega) (show (1 : Int) ≤ 1 by omega)
              have u2441 := kp_I kp_r e2439
              have v2442 : q_V d2438 = q_V δ := (show q_V d2438 = q_V δ by rw [e2439]; rfl).trans rfl
              have f2443 := ti_b (q_I d2438 1 3 a0)
              have f2444 : (q_I d2438 1 3 a0).toInt = (q_I δ 1 3 a0).toInt := congrArg Int32.toInt (by rw [e2439]; exact rI_o (by decide))
              have f2445 := ti_b (q_I d2438 1 4 a0)
              have f2446 : (q_I d2438 1 4 a0).toInt = (q_I δ 1 4 a0).toInt := congrArg Int32.toInt (by rw [e2439]; exact rI_o (by decide))
              exact ok_some (show CI ad h.1 δ0 d2438 ∧ (kp [(1, 3), (1, 4), (1, 5), (1, 6), (1, 8), (1, 13), (1, 14), (1, 15)] δ d2438 ∧ q_V d2438 = q_V δ) ∧ 0 ≤ (q_I d2438 1 3 a0).toInt ∧ (q_I d2438 1 4 a0).toInt ≤ (q_I δ 3 1 nu).toInt from ⟨i2440, ⟨kp_w (by decide) u2441, v2442⟩, by first | assumption | omega, by first | assumption | omega⟩)
    · have c2447 : (q_I δ 1 8 a0).toInt ≠ (q_I δ 1 10 a0).toInt := o_ne h1232
      unfold J_X1_goOnDropping_27
      refine ok_ite (fun h2448 => ?_) (fun h2448 => ?_)
      · have c2449 : (q_I δ 1 8 a0).toInt < (q_I δ 1 9 a0).toInt := o_lt h2448
        unfold J_X1_goOnDropping_65
        refine ok_bdv (fun d2450 e2451 => ?_)
        have i2452 : CI ad h.1 δ0 d2450 := by rw [e2451]; exact cs_1_15 L I k_a0 (show 0 ≤ (1 : Int) by omega) (show (1 : Int) ≤ 1 by omega)
        have u2453 := kp_I kp_r e2451
        have v2454 : q_V d2450 = q_V δ := (show q_V d2450 = q_V δ by rw [e2451]; rfl).trans rfl
        have f2455 := ti_b (q_I d2450 1 3 a0)
        have f2456 : (q_I d2450 1 3 a0).toInt = (q_I δ 1 3 a0).toInt := congrArg Int32.toInt (by rw [e2451]; exact rI_o (by decide))
        have f2457 := ti_b (q_I d2450 1 4 a0)
        have f2458 : (q_I d2450 1 4 a0).toInt = (q_I δ 1 4 a0).toInt := congrArg Int32.toInt (by rw [e2451]; exact rI_o (by decide))
        exact ok_some (show CI ad h.1 δ0 d2450 ∧ (kp [(1, 3), (1, 4), (1, 5), (1, 6), (1, 8), (1, 13), (1, 14), (1, 15)] δ d2450 ∧ q_V d2450 = q_V δ) ∧ 0 ≤ (q_I d2450 1 3 a0).toInt ∧ (q_I d2450 1 4 a0).toInt ≤ (q_I δ 3 1 nu).toInt from ⟨i2452, ⟨kp_w (by decide) u2453, v2454⟩, by first | assumption | omega, by first | assumption | omega⟩)
      · have c2459 : (q_I δ 1 9 a0).toInt ≤ (q_I δ 1 8 a0).toInt := o_nlt h2448
        refine ok_ite (fun h2460 => ?_) (fun h2460 => ?_)
        · have c2461 : (q_I δ 1 10 a0).toInt < (q_I δ 1 8 a0).toInt := o_lt h2460
          unfold J_X1_goOnDropping_65
          refine ok_bdv (fun d2462 e2463 => ?_)
          have i2464 : CI ad h.1 δ0 d2462 := by rw [e2463]; exact cs_1_15 L I k_a0 (show 0 ≤ (1 : Int) by omega) (show (1 : Int) ≤ 1 by omega)
          have u2465 := kp_I kp_r e2463
          have v2466 : q_V d2462 = q_V δ := (show q_V d2462 = q_V δ by rw [e2463]; rfl).trans rfl
          have f2467 := ti_b (q_I d2462 1 3 a0)
          have f2468 : (q_I d2462 1 3 a0).toInt = (q_I δ 1 3 a0).toInt := congrArg Int32.toInt (by rw [e2463]; exact rI_o (by decide))
          have f2469 := ti_b (q_I d2462 1 4 a0)
          have f2470 : (q_I d2462 1 4 a0).toInt = (q_I δ 1 4 a0).toInt := congrArg Int32.toInt (by rw [e2463]; exact rI_o (by decide))
          exact ok_some (show CI ad h.1 δ0 d2462 ∧ (kp [(1, 3), (1, 4), (1, 5), (1, 6), (1, 8), (1, 13), (1, 14), (1, 15)] δ d2462 ∧ q_V d2462 = q_V δ) ∧ 0 ≤ (q_I d2462 1 3 a0).toInt ∧ (q_I d2462 1 4 a0).toInt ≤ (q_I δ 3 1 nu).toInt from ⟨i2464, ⟨kp_w (by decide) u2465, v2466⟩, by first | assumption | omega, by first | assumption | omega⟩)
        · have c2471 : (q_I δ 1 8 a0).toInt ≤ (q_I δ 1 10 a0).toInt := o_nlt h2460
          refine ok_ite (fun h2472 => ?_) (fun h2472 => ?_)
          · have c2473 : (0 : Int) = (0 : Int) := o_eq h2472
            unfold J_X1_goOnDropping_72
            refine ok_ite (fun h2474 => ?_) (fun h2474 => ?_)
            · have c2475 : (0 : Int) = (0 : Int) := o_eq h2474
              unfold J_X1_goOnDropping_81
              refine ok_ite (fun h2476 => ?_) (fun h2476 => ?_)
              · have c2477 : (0 : Int) = (0 : Int) := o_eq h2476
                unfold J_X1_goOnDropping_121
                refine ok_bind (k_X1_findRoom L hN (a0 := a0) (x1 := (q_I δ 1 8 a0)) k_a0 hnu knu (show 0 ≤ (q_I δ 1 11 a0).toInt by first | assumption | omega) (show (q_I δ 1 11 a0).toInt ≤ (q_I δ 1 12 a0).toInt by first | assumption | omega) (show (q_I δ 1 12 a0).toInt ≤ (q_I δ 3 1 nu).toInt by first | assumption | omega) I) (fun r2478 hr2479 => ?_)
                obtain ⟨i2480, ⟨u2486, v2487⟩, p2481, p2482, p2483, p2484, p2485⟩ := hr2479
                have u2488 := kp_t kp_r u2486
                have v2489 := v2487.trans rfl
                have f2490 := bo_t p2481
                have f2491 := ti_b (q_I r2478.2 1 13 a0)
                have f2492 := ti_b (q_I r2478.2 1 14 a0)
                have f2493 := ti_b r2478.1
                have f2494 := ti_b r2478.1
                refine ok_ite (fun h2495 => ?_) (fun h2495 => ?_)
                · have c2496 : r2478.1.toInt = (0 : Int) := o_eq h2495
                  refine ok_bdv (fun d2497 e2498 => ?_)
                  have i2499 : CI ad h.1 δ0 d2497 := by rw [e2498]; exact cs_1_15 L i2480 k_a0 (show 0 ≤ (1 : Int) by omega) (show (1 : Int) ≤ 1 by omega)
                  have u2500 := kp_I u2488 e2498
                  have v2501 : q_V d2497 = q_V δ := (show q_V d2497 = q_V r2478.2 by rw [e2498]; rfl).trans v2489
                  have f2502 := ti_b (q_I d2497 1 3 a0)
                  have f2503 : (q_I d2497 1 3 a0).toInt = (q_I r2478.2 1 3 a0).toInt := congrArg Int32.toInt (by rw [e2498]; exact rI_o (by decide))
                  have f2504 := ti_b (q_I r2478.2 1 3 a0)
                  have f2505 : (q_I r2478.2 1 3 a0).toInt = (q_I δ 1 3 a0).toInt := congrArg Int32.toInt (u2486 1 3 a0 (by decide))
                  have f2506 := ti_b (q_I d2497 1 4 a0)
                  have f2507 : (q_I d2497 1 4 a0).toInt = (q_I r2478.2 1 4 a0).toInt := congrArg Int32.toInt (by rw [e2498]; exact rI_o (by decide))
                  have f2508 := ti_b (q_I r2478.2 1 4 a0)
                  have f2509 : (q_I r2478.2 1 4 a0).toInt = (q_I δ 1 4 a0).toInt := congrArg Int32.toInt (u2486 1 4 a0 (by decide))
                  exact ok_some (show CI ad h.1 δ0 d2497 ∧ (kp [(1, 3), (1, 4), (1, 5), (1, 6), (1, 8), (1, 13), (1, 14), (1, 15)] δ d2497 ∧ q_V d2497 = q_V δ) ∧ 0 ≤ (q_I d2497 1 3 a0).toInt ∧ (q_I d2497 1 4 a0).toInt ≤ (q_I δ 3 1 nu).toInt from ⟨i2499, ⟨kp_w (by decide) u2500, v2501⟩, by first | assumption | omega, by first | assumption | omega⟩)
                · have c2510 : r2478.1.toInt ≠ (0 : Int) := o_ne h2495
                  have f2513 := cb_3_1 i2480 knu o4
                  have f2514 : (q_I r2478.2 3 1 nu).toInt = (q_I δ 3 1 nu).toInt := congrArg Int32.toInt (u2486 3 1 nu (by decide))
                  refine ok_bind (k_X1_valueAt L hN (a0 := a0) (x1 := (q_I r2478.2 1 13 a0)) k_a0 hnu knu (show 0 ≤ ((q_I r2478.2 1 13 a0)).toInt by first | assumption | omega) (show ((q_I r2478.2 1 13 a0)).toInt < (q_I r2478.2 3 1 nu).toInt by first | assumption | omega) i2480) (fun r2511 hr2512 => ?_)
                  have i2515 := hr2512
                  try rw [i2515]
                  have f2516 := ti_b r2511.1
                  refine ok_ite (fun h2517 => ?_) (fun h2517 => ?_)
                  · have c2518 : r2511.1.toInt = (q_I δ 1 8 a0).toInt := o_eq h2517
                    first | (have q2522 := te_subc (c := 1) (n := 1) rfl (q_I r2478.2 1 14 a0) (by omega) (by omega); obtain ⟨f2523, f2524, f2525⟩ := q2522) | (obtain ⟨q2522, f2523, f2524, f2525⟩ := ti_subc (c := 1) (n := 1) rfl (q_I r2478.2 1 14 a0))
                    refine ok_bind (k_X1_valueAt L hN (a0 := a0) (x1 := ((q_I r2478.2 1 14 a0) - (1 : Int32))) k_a0 hnu knu (show 0 ≤ (((q_I r2478.2 1 14 a0) - (1 : Int32))).toInt by first | assumption | omega) (show (((q_I r2478.2 1 14 a0) - (1 : Int32))).toInt < (q_I r2478.2 3 1 nu).toInt by first | assumption | omega) i2480) (fun r2519 hr2520 => ?_)
                    have i2526 := hr2520
                    try rw [i2526]
                    have f2527 := ti_b r2519.1
                    refine ok_ite (fun h2528 => ?_) (fun h2528 => ?_)
                    · have c2529 : r2519.1.toInt = (q_I δ 1 8 a0).toInt := o_eq h2528
                      refine ok_bind (k_X1_enterList L hN (a0 := a0) (x1 := (q_I δ 1 8 a0)) k_a0 i2480) (fun r2530 hr2531 => ?_)
                      obtain ⟨i2532, ⟨u2535, v2536⟩, p2533, p2534⟩ := hr2531
                      have u2537 := kp_t u2488 u2535
                      have v2538 := v2536.trans v2489
                      have f2539 := ti_b (q_I r2530 1 3 a0)
                      have f2540 := ti_b (q_I r2478.2 1 11 a0)
                      have f2541 : (q_I r2478.2 1 11 a0).toInt = (q_I δ 1 11 a0).toInt := congrArg Int32.toInt (u2486 1 11 a0 (by decide))
                      have f2542 := ti_b (q_I r2530 1 4 a0)
                      have f2543 := ti_b (q_I r2478.2 1 12 a0)
                      have f2544 : (q_I r2478.2 1 12 a0).toInt = (q_I δ 1 12 a0).toInt := congrArg Int32.toInt (u2486 1 12 a0 (by decide))
                      exact ok_some (show CI ad h.1 δ0 r2530 ∧ (kp [(1, 3), (1, 4), (1, 5), (1, 6), (1, 8), (1, 13), (1, 14), (1, 15)] δ r2530 ∧ q_V r2530 = q_V δ) ∧ 0 ≤ (q_I r2530 1 3 a0).toInt ∧ (q_I r2530 1 4 a0).toInt ≤ (q_I δ 3 1 nu).toInt from ⟨i2532, ⟨kp_w (by decide) u2537, v2538⟩, by first | assumption | omega, by first | assumption | omega⟩)
                    · have c2545 : r2519.1.toInt ≠ (q_I δ 1 8 a0).toInt := o_ne h2528
                      unfold J_X1_goOnDropping_172
                      refine ok_bind (k_X1_enterRoom L hN (a0 := a0) (x1 := (q_I δ 1 8 a0)) k_a0 i2480) (fun r2546 hr2547 => ?_)
                      obtain ⟨i2548, ⟨u2551, v2552⟩, p2549, p2550⟩ := hr2547
                      have u2553 := kp_t u2488 u2551
                      have v2554 := v2552.trans v2489
                      have f2555 := ti_b (q_I r2546 1 3 a0)
                      have f2556 := ti_b (q_I r2546 1 4 a0)
                      exact ok_some (show CI ad h.1 δ0 r2546 ∧ (kp [(1, 3), (1, 4), (1, 5), (1, 6), (1, 8), (1, 13), (1, 14), (1, 15)] δ r2546 ∧ q_V r2546 = q_V δ) ∧ 0 ≤ (q_I r2546 1 3 a0).toInt ∧ (q_I r2546 1 4 a0).toInt ≤ (q_I δ 3 1 nu).toInt from ⟨i2548, ⟨kp_w (by decide) u2553, v2554⟩, by first | assumption | omega, by first | assumption | omega⟩)
                  · have c2557 : r2511.1.toInt ≠ (q_I δ 1 8 a0).toInt := o_ne h2517
                    unfold J_X1_goOnDropping_172
                    refine ok_bind (k_X1_enterRoom L hN (a0 := a0) (x1 := (q_I δ 1 8 a0)) k_a0 i2480) (fun r2558 hr2559 => ?_)
                    obtain ⟨i2560, ⟨u2563, v2564⟩, p2561, p2562⟩ := hr2559
                    have u2565 := kp_t u2488 u2563
                    have v2566 := v2564.trans v2489
                    have f2567 := ti_b (q_I r2558 1 3 a0)
                    have f2568 := ti_b (q_I r2558 1 4 a0)
                    exact ok_some (show CI ad h.1 δ0 r2558 ∧ (kp [(1, 3), (1, 4), (1, 5), (1, 6), (1, 8), (1, 13), (1, 14), (1, 15)] δ r2558 ∧ q_V r2558 = q_V δ) ∧ 0 ≤ (q_I r2558 1 3 a0).toInt ∧ (q_I r2558 1 4 a0).toInt ≤ (q_I δ 3 1 nu).toInt from ⟨i2560, ⟨kp_w (by decide) u2565, v2566⟩, by first | assumption | omega, by first | assumption | omega⟩)
              · have c2569 : (0 : Int) ≠ (0 : Int) := o_ne h2476
                refine ok_ite (fun h2570 => ?_) (fun h2570 => ?_)
                · have c2571 : (q_I δ 1 8 a0).toInt = (q_I δ 1 9 a0).toInt := o_eq h2570
                  unfold J_X1_goOnDropping_118
                  refine ok_bind (k_X1_valueAt L hN (a0 := a0) (x1 := (q_I δ 1 11 a0)) k_a0 hnu knu (show 0 ≤ ((q_I δ 1 11 a0)).toInt by first | assumption | omega) (show ((q_I δ 1 11 a0)).toInt < (q_I δ 3 1 nu).toInt by first | assumption | omega) I) (fun r2572 hr2573 => ?_)
                  have i2574 := hr2573
                  try rw [i2574]
                  have f2575 := ti_b r2572.1
                  unfold J_X1_goOnDropping_121
                  refine ok_bind (k_X1_findRoom L hN (a0 := a0) (x1 := r2572.1) k_a0 hnu knu (show 0 ≤ (q_I δ 1 11 a0).toInt by first | assumption | omega) (show (q_I δ 1 11 a0).toInt ≤ (q_I δ 1 12 a0).toInt by first | assumption | omega) (show (q_I δ 1 12 a0).toInt ≤ (q_I δ 3 1 nu).toInt by first | assumption | omega) I) (fun r2576 hr2577 => ?_)
                  obtain ⟨i2578, ⟨u2584, v2585⟩, p2579, p2580, p2581, p2582, p2583⟩ := hr2577
                  have u2586 := kp_t kp_r u2584
                  have v2587 := v2585.trans rfl
                  have f2588 := bo_t p2579
                  have f2589 := ti_b (q_I r2576.2 1 13 a0)
                  have f2590 := ti_b (q_I r2576.2 1 14 a0)
                  have f2591 := ti_b r2576.1
                  have f2592 := ti_b r2576.1
                  refine ok_ite (fun h2593 => ?_) (fun h2593 => ?_)
                  · have c2594 : r2576.1.toInt = (0 : Int) := o_eq h2593
                    refine ok_bdv (fun d2595 e2596 => ?_)
                    have i2597 : CI ad h.1 δ0 d2595 := by rw [e2596]; exact cs_1_15 L i2578 k_a0 (show 0 ≤ (1 : Int) by omega) (show (1 : Int) ≤ 1 by omega)
                    have u2598 := kp_I u2586 e2596
                    have v2599 : q_V d2595 = q_V δ := (show q_V d2595 = q_V r2576.2 by rw [e2596]; rfl).trans v2587
                    have f2600 := ti_b (q_I d2595 1 3 a0)
                    have f2601 : (q_I d2595 1 3 a0).toInt = (q_I r2576.2 1 3 a0).toInt := congrArg Int32.toInt (by rw [e2596]; exact rI_o (by decide))
                    have f2602 := ti_b (q_I r2576.2 1 3 a0)
                    have f2603 : (q_I r2576.2 1 3 a0).toInt = (q_I δ 1 3 a0).toInt := congrArg Int32.toInt (u2584 1 3 a0 (by decide))
                    have f2604 := ti_b (q_I d2595 1 4 a0)
                    have f2605 : (q_I d2595 1 4 a0).toInt = (q_I r2576.2 1 4 a0).toInt := congrArg Int32.toInt (by rw [e2596]; exact rI_o (by decide))
                    have f2606 := ti_b (q_I r2576.2 1 4 a0)
                    have f2607 : (q_I r2576.2 1 4 a0).toInt = (q_I δ 1 4 a0).toInt := congrArg Int32.toInt (u2584 1 4 a0 (by decide))
                    exact ok_some (show CI ad h.1 δ0 d2595 ∧ (kp [(1, 3), (1, 4), (1, 5), (1, 6), (1, 8), (1, 13), (1, 14), (1, 15)] δ d2595 ∧ q_V d2595 = q_V δ) ∧ 0 ≤ (q_I d2595 1 3 a0).toInt ∧ (q_I d2595 1 4 a0).toInt ≤ (q_I δ 3 1 nu).toInt from ⟨i2597, ⟨kp_w (by decide) u2598, v2599⟩, by first | assumption | omega, by first | assumption | omega⟩)
                  · have c2608 : r2576.1.toInt ≠ (0 : Int) := o_ne h2593
                    have f2611 := cb_3_1 i2578 knu o4
                    have f2612 : (q_I r2576.2 3 1 nu).toInt = (q_I δ 3 1 nu).toInt := congrArg Int32.toInt (u2584 3 1 nu (by decide))
                    refine ok_bind (k_X1_valueAt L hN (a0 := a0) (x1 := (q_I r2576.2 1 13 a0)) k_a0 hnu knu (show 0 ≤ ((q_I r2576.2 1 13 a0)).toInt by first | assumption | omega) (show ((q_I r2576.2 1 13 a0)).toInt < (q_I r2576.2 3 1 nu).toInt by first | assumption | omega) i2578) (fun r2609 hr2610 => ?_)
                    have i2613 := hr2610
                    try rw [i2613]
                    have f2614 := ti_b r2609.1
                    refine ok_ite (fun h2615 => ?_) (fun h2615 => ?_)
                    · have c2616 : r2609.1.toInt = r2572.1.toInt := o_eq h2615
                      first | (have q2620 := te_subc (c := 1) (n := 1) rfl (q_I r2576.2 1 14 a0) (by omega) (by omega); obtain ⟨f2621, f2622, f2623⟩ := q2620) | (obtain ⟨q2620, f2621, f2622, f2623⟩ := ti_subc (c := 1) (n := 1) rfl (q_I r2576.2 1 14 a0))
                      refine ok_bind (k_X1_valueAt L hN (a0 := a0) (x1 := ((q_I r2576.2 1 14 a0) - (1 : Int32))) k_a0 hnu knu (show 0 ≤ (((q_I r2576.2 1 14 a0) - (1 : Int32))).toInt by first | assumption | omega) (show (((q_I r2576.2 1 14 a0) - (1 : Int32))).toInt < (q_I r2576.2 3 1 nu).toInt by first | assumption | omega) i2578) (fun r2617 hr2618 => ?_)
                      have i2624 := hr2618
                      try rw [i2624]
                      have f2625 := ti_b r2617.1
                      refine ok_ite (fun h2626 => ?_) (fun h2626 => ?_)
                      · have c2627 : r2617.1.toInt = r2572.1.toInt := o_eq h2626
                        refine ok_bind (k_X1_enterList L hN (a0 := a0) (x1 := r2572.1) k_a0 i2578) (fun r2628 hr2629 => ?_)
                        obtain ⟨i2630, ⟨u2633, v2634⟩, p2631, p2632⟩ := hr2629
                        have u2635 := kp_t u2586 u2633
                        have v2636 := v2634.trans v2587
                        have f2637 := ti_b (q_I r2628 1 3 a0)
                        have f2638 := ti_b (q_I r2576.2 1 11 a0)
                        have f2639 : (q_I r2576.2 1 11 a0).toInt = (q_I δ 1 11 a0).toInt := congrArg Int32.toInt (u2584 1 11 a0 (by decide))
                        have f2640 := ti_b (q_I r2628 1 4 a0)
                        have f2641 := ti_b (q_I r2576.2 1 12 a0)
                        have f2642 : (q_I r2576.2 1 12 a0).toInt = (q_I δ 1 12 a0).toInt := congrArg Int32.toInt (u2584 1 12 a0 (by decide))
                        exact ok_some (show CI ad h.1 δ0 r2628 ∧ (kp [(1, 3), (1, 4), (1, 5), (1, 6), (1, 8), (1, 13), (1, 14), (1, 15)] δ r2628 ∧ q_V r2628 = q_V δ) ∧ 0 ≤ (q_I r2628 1 3 a0).toInt ∧ (q_I r2628 1 4 a0).toInt ≤ (q_I δ 3 1 nu).toInt from ⟨i2630, ⟨kp_w (by decide) u2635, v2636⟩, by first | assumption | omega, by first | assumption | omega⟩)
                      · have c2643 : r2617.1.toInt ≠ r2572.1.toInt := o_ne h2626
                        unfold J_X1_goOnDropping_172
                        refine ok_bind (k_X1_enterRoom L hN (a0 := a0) (x1 := r2572.1) k_a0 i2578) (fun r2644 hr2645 => ?_)
                        obtain ⟨i2646, ⟨u2649, v2650⟩, p2647, p2648⟩ := hr2645
                        have u2651 := kp_t u2586 u2649
                        have v2652 := v2650.trans v2587
                        have f2653 := ti_b (q_I r2644 1 3 a0)
                        have f2654 := ti_b (q_I r2644 1 4 a0)
                        exact ok_some (show CI ad h.1 δ0 r2644 ∧ (kp [(1, 3), (1, 4), (1, 5), (1, 6), (1, 8), (1, 13), (1, 14), (1, 15)] δ r2644 ∧ q_V r2644 = q_V δ) ∧ 0 ≤ (q_I r2644 1 3 a0).toInt ∧ (q_I r2644 1 4 a0).toInt ≤ (q_I δ 3 1 nu).toInt from ⟨i2646, ⟨kp_w (by decide) u2651, v2652⟩, by first | assumption | omega, by first | assumption | omega⟩)
                    · have c2655 : r2609.1.toInt ≠ r2572.1.toInt := o_ne h2615
                      unfold J_X1_goOnDropping_172
                      refine ok_bind (k_X1_enterRoom L hN (a0 := a0) (x1 := r2572.1) k_a0 i2578) (fun r2656 hr2657 => ?_)
                      obtain ⟨i2658, ⟨u2661, v2662⟩, p2659, p2660⟩ := hr2657
                      have u2663 := kp_t u2586 u2661
                      have v2664 := v2662.trans v2587
                      have f2665 := ti_b (q_I r2656 1 3 a0)
                      have f2666 := ti_b (q_I r2656 1 4 a0)
                      exact ok_some (show CI ad h.1 δ0 r2656 ∧ (kp [(1, 3), (1, 4), (1, 5), (1, 6), (1, 8), (1, 13), (1, 14), (1, 15)] δ r2656 ∧ q_V r2656 = q_V δ) ∧ 0 ≤ (q_I r2656 1 3 a0).toInt ∧ (q_I r2656 1 4 a0).toInt ≤ (q_I δ 3 1 nu).toInt from ⟨i2658, ⟨kp_w (by decide) u2663, v2664⟩, by first | assumption | omega, by first | assumption | omega⟩)
                · have c2667 : (q_I δ 1 8 a0).toInt ≠ (q_I δ 1 9 a0).toInt := o_ne h2570
                  unfold J_X1_goOnDropping_118
                  first | (have q2671 := te_subc (c := 1) (n := 1) rfl (q_I δ 1 12 a0) (by omega) (by omega); obtain ⟨f2672, f2673, f2674⟩ := q2671) | (obtain ⟨q2671, f2672, f2673, f2674⟩ := ti_subc (c := 1) (n := 1) rfl (q_I δ 1 12 a0))
                  refine ok_bind (k_X1_valueAt L hN (a0 := a0) (x1 := ((q_I δ 1 12 a0) - (1 : Int32))) k_a0 hnu knu (show 0 ≤ (((q_I δ 1 12 a0) - (1 : Int32))).toInt by first | assumption | omega) (show (((q_I δ 1 12 a0) - (1 : Int32))).toInt < (q_I δ 3 1 nu).toInt by first | assumption | omega) I) (fun r2668 hr2669 => ?_)
                  have i2675 := hr2669
                  try rw [i2675]
                  have f2676 := ti_b r2668.1
                  unfold J_X1_goOnDropping_121
                  refine ok_bind (k_X1_findRoom L hN (a0 := a0) (x1 := r2668.1) k_a0 hnu knu (show 0 ≤ (q_I δ 1 11 a0).toInt by first | assumption | omega) (show (q_I δ 1 11 a0).toInt ≤ (q_I δ 1 12 a0).toInt by first | assumption | omega) (show (q_I δ 1 12 a0).toInt ≤ (q_I δ 3 1 nu).toInt by first | assumption | omega) I) (fun r2677 hr2678 => ?_)
                  obtain ⟨i2679, ⟨u2685, v2686⟩, p2680, p2681, p2682, p2683, p2684⟩ := hr2678
                  have u2687 := kp_t kp_r u2685
                  have v2688 := v2686.trans rfl
                  have f2689 := bo_t p2680
                  have f2690 := ti_b (q_I r2677.2 1 13 a0)
                  have f2691 := ti_b (q_I r2677.2 1 14 a0)
                  have f2692 := ti_b r2677.1
                  have f2693 := ti_b r2677.1
                  refine ok_ite (fun h2694 => ?_) (fun h2694 => ?_)
                  · have c2695 : r2677.1.toInt = (0 : Int) := o_eq h2694
                    refine ok_bdv (fun d2696 e2697 => ?_)
                    have i2698 : CI ad h.1 δ0 d2696 := by rw [e2697]; exact cs_1_15 L i2679 k_a0 (show 0 ≤ (1 : Int) by omega) (show (1 : Int) ≤ 1 by omega)
                    have u2699 := kp_I u2687 e2697
                    have v2700 : q_V d2696 = q_V δ := (show q_V d2696 = q_V r2677.2 by rw [e2697]; rfl).trans v2688
                    have f2701 := ti_b (q_I d2696 1 3 a0)
                    have f2702 : (q_I d2696 1 3 a0).toInt = (q_I r2677.2 1 3 a0).toInt := congrArg Int32.toInt (by rw [e2697]; exact rI_o (by decide))
                    have f2703 := ti_b (q_I r2677.2 1 3 a0)
                    have f2704 : (q_I r2677.2 1 3 a0).toInt = (q_I δ 1 3 a0).toInt := congrArg Int32.toInt (u2685 1 3 a0 (by decide))
                    have f2705 := ti_b (q_I d2696 1 4 a0)
                    have f2706 : (q_I d2696 1 4 a0).toInt = (q_I r2677.2 1 4 a0).toInt := congrArg Int32.toInt (by rw [e2697]; exact rI_o (by decide))
                    have f2707 := ti_b (q_I r2677.2 1 4 a0)
                    have f2708 : (q_I r2677.2 1 4 a0).toInt = (q_I δ 1 4 a0).toInt := congrArg Int32.toInt (u2685 1 4 a0 (by decide))
                    exact ok_some (show CI ad h.1 δ0 d2696 ∧ (kp [(1, 3), (1, 4), (1, 5), (1, 6), (1, 8), (1, 13), (1, 14), (1, 15)] δ d2696 ∧ q_V d2696 = q_V δ) ∧ 0 ≤ (q_I d2696 1 3 a0).toInt ∧ (q_I d2696 1 4 a0).toInt ≤ (q_I δ 3 1 nu).toInt from ⟨i2698, ⟨kp_w (by decide) u2699, v2700⟩, by first | assumption | omega, by first | assumption | omega⟩)
                  · have c2709 : r2677.1.toInt ≠ (0 : Int) := o_ne h2694
                    have f2712 := cb_3_1 i2679 knu o4
                    have f2713 : (q_I r2677.2 3 1 nu).toInt = (q_I δ 3 1 nu).toInt := congrArg Int32.toInt (u2685 3 1 nu (by decide))
                    refine ok_bind (k_X1_valueAt L hN (a0 := a0) (x1 := (q_I r2677.2 1 13 a0)) k_a0 hnu knu (show 0 ≤ ((q_I r2677.2 1 13 a0)).toInt by first | assumption | omega) (show ((q_I r2677.2 1 13 a0)).toInt < (q_I r2677.2 3 1 nu).toInt by first | assumption | omega) i2679) (fun r2710 hr2711 => ?_)
                    have i2714 := hr2711
                    try rw [i2714]
                    have f2715 := ti_b r2710.1
                    refine ok_ite (fun h2716 => ?_) (fun h2716 => ?_)
                    · have c2717 : r2710.1.toInt = r2668.1.toInt := o_eq h2716
                      first | (have q2721 := te_subc (c := 1) (n := 1) rfl (q_I r2677.2 1 14 a0) (by omega) (by omega); obtain ⟨f2722, f2723, f2724⟩ := q2721) | (obtain ⟨q2721, f2722, f2723, f2724⟩ := ti_subc (c := 1) (n := 1) rfl (q_I r2677.2 1 14 a0))
                      refine ok_bind (k_X1_valueAt L hN (a0 := a0) (x1 := ((q_I r2677.2 1 14 a0) - (1 : Int32))) k_a0 hnu knu (show 0 ≤ (((q_I r2677.2 1 14 a0) - (1 : Int32))).toInt by first | assumption | omega) (show (((q_I r2677.2 1 14 a0) - (1 : Int32))).toInt < (q_I r2677.2 3 1 nu).toInt by first | assumption | omega) i2679) (fun r2718 hr2719 => ?_)
                      have i2725 := hr2719
                      try rw [i2725]
                      have f2726 := ti_b r2718.1
                      refine ok_ite (fun h2727 => ?_) (fun h2727 => ?_)
                      · have c2728 : r2718.1.toInt = r2668.1.toInt := o_eq h2727
                        refine ok_bind (k_X1_enterList L hN (a0 := a0) (x1 := r2668.1) k_a0 i2679) (fun r2729 hr2730 => ?_)
                        obtain ⟨i2731, ⟨u2734, v2735⟩, p2732, p2733⟩ := hr2730
                        have u2736 := kp_t u2687 u2734
                        have v2737 := v2735.trans v2688
                        have f2738 := ti_b (q_I r2729 1 3 a0)
                        have f2739 := ti_b (q_I r2677.2 1 11 a0)
                        have f2740 : (q_I r2677.2 1 11 a0).toInt = (q_I δ 1 11 a0).toInt := congrArg Int32.toInt (u2685 1 11 a0 (by decide))
                        have f2741 := ti_b (q_I r2729 1 4 a0)
                        have f2742 := ti_b (q_I r2677.2 1 12 a0)
                        have f2743 : (q_I r2677.2 1 12 a0).toInt = (q_I δ 1 12 a0).toInt := congrArg Int32.toInt (u2685 1 12 a0 (by decide))
                        exact ok_some (show CI ad h.1 δ0 r2729 ∧ (kp [(1, 3), (1, 4), (1, 5), (1, 6), (1, 8), (1, 13), (1, 14), (1, 15)] δ r2729 ∧ q_V r2729 = q_V δ) ∧ 0 ≤ (q_I r2729 1 3 a0).toInt ∧ (q_I r2729 1 4 a0).toInt ≤ (q_I δ 3 1 nu).toInt from ⟨i2731, ⟨kp_w (by decide) u2736, v2737⟩, by first | assumption | omega, by first | assumption | omega⟩)
                      · have c2744 : r2718.1.toInt ≠ r2668.1.toInt := o_ne h2727
                        unfold J_X1_goOnDropping_172
                        refine ok_bind (k_X1_enterRoom L hN (a0 := a0) (x1 := r2668.1) k_a0 i2679) (fun r2745 hr2746 => ?_)
                        obtain ⟨i2747, ⟨u2750, v2751⟩, p2748, p2749⟩ := hr2746
                        have u2752 := kp_t u2687 u2750
                        have v2753 := v2751.trans v2688
                        have f2754 := ti_b (q_I r2745 1 3 a0)
                        have f2755 := ti_b (q_I r2745 1 4 a0)
                        exact ok_some (show CI ad h.1 δ0 r2745 ∧ (kp [(1, 3), (1, 4), (1, 5), (1, 6), (1, 8), (1, 13), (1, 14), (1, 15)] δ r2745 ∧ q_V r2745 = q_V δ) ∧ 0 ≤ (q_I r2745 1 3 a0).toInt ∧ (q_I r2745 1 4 a0).toInt ≤ (q_I δ 3 1 nu).toInt from ⟨i2747, ⟨kp_w (by decide) u2752, v2753⟩, by first | assumption | omega, by first | assumption | omega⟩)
                    · have c2756 : r2710.1.toInt ≠ r2668.1.toInt := o_ne h2716
                      unfold J_X1_goOnDropping_172
                      refine ok_bind (k_X1_enterRoom L hN (a0 := a0) (x1 := r2668.1) k_a0 i2679) (fun r2757 hr2758 => ?_)
                      obtain ⟨i2759, ⟨u2762, v2763⟩, p2760, p2761⟩ := hr2758
                      have u2764 := kp_t u2687 u2762
                      have v2765 := v2763.trans v2688
                      have f2766 := ti_b (q_I r2757 1 3 a0)
                      have f2767 := ti_b (q_I r2757 1 4 a0)
                      exact ok_some (show CI ad h.1 δ0 r2757 ∧ (kp [(1, 3), (1, 4), (1, 5), (1, 6), (1, 8), (1, 13), (1, 14), (1, 15)] δ r2757 ∧ q_V r2757 = q_V δ) ∧ 0 ≤ (q_I r2757 1 3 a0).toInt ∧ (q_I r2757 1 4 a0).toInt ≤ (q_I δ 3 1 nu).toInt from ⟨i2759, ⟨kp_w (by decide) u2764, v2765⟩, by first | assumption | omega, by first | assumption | omega⟩)
            · have c2768 : (0 : Int) ≠ (0 : Int) := o_ne h2474
              unfold J_X1_goOnDropping_81
              refine ok_ite (fun h2769 => ?_) (fun h2769 => ?_)
              · have c2770 : (0 : Int) = (0 : Int) := o_eq h2769
                unfold J_X1_goOnDropping_121
                refine ok_bind (k_X1_findRoom L hN (a0 := a0) (x1 := (q_I δ 1 8 a0)) k_a0 hnu knu (show 0 ≤ (q_I δ 1 11 a0).toInt by first | assumption | omega) (show (q_I δ 1 11 a0).toInt ≤ (q_I δ 1 12 a0).toInt by first | assumption | omega) (show (q_I δ 1 12 a0).toInt ≤ (q_I δ 3 1 nu).toInt by first | assumption | omega) I) (fun r2771 hr2772 => ?_)
                obtain ⟨i2773, ⟨u2779, v2780⟩, p2774, p2775, p2776, p2777, p2778⟩ := hr2772
                have u2781 := kp_t kp_r u2779
                have v2782 := v2780.trans rfl
                have f2783 := bo_t p2774
                have f2784 := ti_b (q_I r2771.2 1 13 a0)
                have f2785 := ti_b (q_I r2771.2 1 14 a0)
                have f2786 := ti_b r2771.1
                have f2787 := ti_b r2771.1
                refine ok_ite (fun h2788 => ?_) (fun h2788 => ?_)
                · have c2789 : r2771.1.toInt = (0 : Int) := o_eq h2788
                  refine ok_bdv (fun d2790 e2791 => ?_)
                  have i2792 : CI ad h.1 δ0 d2790 := by rw [e2791]; exact cs_1_15 L i2773 k_a0 (show 0 ≤ (1 : Int) by omega) (show (1 : Int) ≤ 1 by omega)
                  have u2793 := kp_I u2781 e2791
                  have v2794 : q_V d2790 = q_V δ := (show q_V d2790 = q_V r2771.2 by rw [e2791]; rfl).trans v2782
                  have f2795 := ti_b (q_I d2790 1 3 a0)
                  have f2796 : (q_I d2790 1 3 a0).toInt = (q_I r2771.2 1 3 a0).toInt := congrArg Int32.toInt (by rw [e2791]; exact rI_o (by decide))
                  have f2797 := ti_b (q_I r2771.2 1 3 a0)
                  have f2798 : (q_I r2771.2 1 3 a0).toInt = (q_I δ 1 3 a0).toInt := congrArg Int32.toInt (u2779 1 3 a0 (by decide))
                  have f2799 := ti_b (q_I d2790 1 4 a0)
                  have f2800 : (q_I d2790 1 4 a0).toInt = (q_I r2771.2 1 4 a0).toInt := congrArg Int32.toInt (by rw [e2791]; exact rI_o (by decide))
                  have f2801 := ti_b (q_I r2771.2 1 4 a0)
                  have f2802 : (q_I r2771.2 1 4 a0).toInt = (q_I δ 1 4 a0).toInt := congrArg Int32.toInt (u2779 1 4 a0 (by decide))
                  exact ok_some (show CI ad h.1 δ0 d2790 ∧ (kp [(1, 3), (1, 4), (1, 5), (1, 6), (1, 8), (1, 13), (1, 14), (1, 15)] δ d2790 ∧ q_V d2790 = q_V δ) ∧ 0 ≤ (q_I d2790 1 3 a0).toInt ∧ (q_I d2790 1 4 a0).toInt ≤ (q_I δ 3 1 nu).toInt from ⟨i2792, ⟨kp_w (by decide) u2793, v2794⟩, by first | assumption | omega, by first | assumption | omega⟩)
                · have c2803 : r2771.1.toInt ≠ (0 : Int) := o_ne h2788
                  have f2806 := cb_3_1 i2773 knu o4
                  have f2807 : (q_I r2771.2 3 1 nu).toInt = (q_I δ 3 1 nu).toInt := congrArg Int32.toInt (u2779 3 1 nu (by decide))
                  refine ok_bind (k_X1_valueAt L hN (a0 := a0) (x1 := (q_I r2771.2 1 13 a0)) k_a0 hnu knu (show 0 ≤ ((q_I r2771.2 1 13 a0)).toInt by first | assumption | omega) (show ((q_I r2771.2 1 13 a0)).toInt < (q_I r2771.2 3 1 nu).toInt by first | assumption | omega) i2773) (fun r2804 hr2805 => ?_)
                  have i2808 := hr2805
                  try rw [i2808]
                  have f2809 := ti_b r2804.1
                  refine ok_ite (fun h2810 => ?_) (fun h2810 => ?_)
                  · have c2811 : r2804.1.toInt = (q_I δ 1 8 a0).toInt := o_eq h2810
                    first | (have q2815 := te_subc (c := 1) (n := 1) rfl (q_I r2771.2 1 14 a0) (by omega) (by omega); obtain ⟨f2816, f2817, f2818⟩ := q2815) | (obtain ⟨q2815, f2816, f2817, f2818⟩ := ti_subc (c := 1) (n := 1) rfl (q_I r2771.2 1 14 a0))
                    refine ok_bind (k_X1_valueAt L hN (a0 := a0) (x1 := ((q_I r2771.2 1 14 a0) - (1 : Int32))) k_a0 hnu knu (show 0 ≤ (((q_I r2771.2 1 14 a0) - (1 : Int32))).toInt by first | assumption | omega) (show (((q_I r2771.2 1 14 a0) - (1 : Int32))).toInt < (q_I r2771.2 3 1 nu).toInt by first | assumption | omega) i2773) (fun r2812 hr2813 => ?_)
                    have i2819 := hr2813
                    try rw [i2819]
                    have f2820 := ti_b r2812.1
                    refine ok_ite (fun h2821 => ?_) (fun h2821 => ?_)
                    · have c2822 : r2812.1.toInt = (q_I δ 1 8 a0).toInt := o_eq h2821
                      refine ok_bind (k_X1_enterList L hN (a0 := a0) (x1 := (q_I δ 1 8 a0)) k_a0 i2773) (fun r2823 hr2824 => ?_)
                      obtain ⟨i2825, ⟨u2828, v2829⟩, p2826, p2827⟩ := hr2824
                      have u2830 := kp_t u2781 u2828
                      have v2831 := v2829.trans v2782
                      have f2832 := ti_b (q_I r2823 1 3 a0)
                      have f2833 := ti_b (q_I r2771.2 1 11 a0)
                      have f2834 : (q_I r2771.2 1 11 a0).toInt = (q_I δ 1 11 a0).toInt := congrArg Int32.toInt (u2779 1 11 a0 (by decide))
                      have f2835 := ti_b (q_I r2823 1 4 a0)
                      have f2836 := ti_b (q_I r2771.2 1 12 a0)
                      have f2837 : (q_I r2771.2 1 12 a0).toInt = (q_I δ 1 12 a0).toInt := congrArg Int32.toInt (u2779 1 12 a0 (by decide))
                      exact ok_some (show CI ad h.1 δ0 r2823 ∧ (kp [(1, 3), (1, 4), (1, 5), (1, 6), (1, 8), (1, 13), (1, 14), (1, 15)] δ r2823 ∧ q_V r2823 = q_V δ) ∧ 0 ≤ (q_I r2823 1 3 a0).toInt ∧ (q_I r2823 1 4 a0).toInt ≤ (q_I δ 3 1 nu).toInt from ⟨i2825, ⟨kp_w (by decide) u2830, v2831⟩, by first | assumption | omega, by first | assumption | omega⟩)
                    · have c2838 : r2812.1.toInt ≠ (q_I δ 1 8 a0).toInt := o_ne h2821
                      unfold J_X1_goOnDropping_172
                      refine ok_bind (k_X1_enterRoom L hN (a0 := a0) (x1 := (q_I δ 1 8 a0)) k_a0 i2773) (fun r2839 hr2840 => ?_)
                      obtain ⟨i2841, ⟨u2844, v2845⟩, p2842, p2843⟩ := hr2840
                      have u2846 := kp_t u2781 u2844
                      have v2847 := v2845.trans v2782
                      have f2848 := ti_b (q_I r2839 1 3 a0)
                      have f2849 := ti_b (q_I r2839 1 4 a0)
                      exact ok_some (show CI ad h.1 δ0 r2839 ∧ (kp [(1, 3), (1, 4), (1, 5), (1, 6), (1, 8), (1, 13), (1, 14), (1, 15)] δ r2839 ∧ q_V r2839 = q_V δ) ∧ 0 ≤ (q_I r2839 1 3 a0).toInt ∧ (q_I r2839 1 4 a0).toInt ≤ (q_I δ 3 1 nu).toInt from ⟨i2841, ⟨kp_w (by decide) u2846, v2847⟩, by first | assumption | omega, by first | assumption | omega⟩)
                  · have c2850 : r2804.1.toInt ≠ (q_I δ 1 8 a0).toInt := o_ne h2810
                    unfold J_X1_goOnDropping_172
                    refine ok_bind (k_X1_enterRoom L hN (a0 := a0) (x1 := (q_I δ 1 8 a0)) k_a0 i2773) (fun r2851 hr2852 => ?_)
                    obtain ⟨i2853, ⟨u2856, v2857⟩, p2854, p2855⟩ := hr2852
                    have u2858 := kp_t u2781 u2856
                    have v2859 := v2857.trans v2782
                    have f2860 := ti_b (q_I r2851 1 3 a0)
                    have f2861 := ti_b (q_I r2851 1 4 a0)
                    exact ok_some (show CI ad h.1 δ0 r2851 ∧ (kp [(1, 3), (1, 4), (1, 5), (1, 6), (1, 8), (1, 13), (1, 14), (1, 15)] δ r2851 ∧ q_V r2851 = q_V δ) ∧ 0 ≤ (q_I r2851 1 3 a0).toInt ∧ (q_I r2851 1 4 a0).toInt ≤ (q_I δ 3 1 nu).toInt from ⟨i2853, ⟨kp_w (by decide) u2858, v2859⟩, by first | assumption | omega, by first | assumption | omega⟩)
              · have c2862 : (0 : Int) ≠ (0 : Int) := o_ne h2769
                refine ok_ite (fun h2863 => ?_) (fun h2863 => ?_)
                · have c2864 : (q_I δ 1 8 a0).toInt = (q_I δ 1 9 a0).toInt := o_eq h2863
                  unfold J_X1_goOnDropping_118
                  refine ok_bind (k_X1_valueAt L hN (a0 := a0) (x1 := (q_I δ 1 11 a0)) k_a0 hnu knu (show 0 ≤ ((q_I δ 1 11 a0)).toInt by first | assumption | omega) (show ((q_I δ 1 11 a0)).toInt < (q_I δ 3 1 nu).toInt by first | assumption | omega) I) (fun r2865 hr2866 => ?_)
                  have i2867 := hr2866
                  try rw [i2867]
                  have f2868 := ti_b r2865.1
                  unfold J_X1_goOnDropping_121
                  refine ok_bind (k_X1_findRoom L hN (a0 := a0) (x1 := r2865.1) k_a0 hnu knu (show 0 ≤ (q_I δ 1 11 a0).toInt by first | assumption | omega) (show (q_I δ 1 11 a0).toInt ≤ (q_I δ 1 12 a0).toInt by first | assumption | omega) (show (q_I δ 1 12 a0).toInt ≤ (q_I δ 3 1 nu).toInt by first | assumption | omega) I) (fun r2869 hr2870 => ?_)
                  obtain ⟨i2871, ⟨u2877, v2878⟩, p2872, p2873, p2874, p2875, p2876⟩ := hr2870
                  have u2879 := kp_t kp_r u2877
                  have v2880 := v2878.trans rfl
                  have f2881 := bo_t p2872
                  have f2882 := ti_b (q_I r2869.2 1 13 a0)
                  have f2883 := ti_b (q_I r2869.2 1 14 a0)
                  have f2884 := ti_b r2869.1
                  have f2885 := ti_b r2869.1
                  refine ok_ite (fun h2886 => ?_) (fun h2886 => ?_)
                  · have c2887 : r2869.1.toInt = (0 : Int) := o_eq h2886
                    refine ok_bdv (fun d2888 e2889 => ?_)
                    have i2890 : CI ad h.1 δ0 d2888 := by rw [e2889]; exact cs_1_15 L i2871 k_a0 (show 0 ≤ (1 : Int) by omega) (show (1 : Int) ≤ 1 by omega)
                    have u2891 := kp_I u2879 e2889
                    have v2892 : q_V d2888 = q_V δ := (show q_V d2888 = q_V r2869.2 by rw [e2889]; rfl).trans v2880
                    have f2893 := ti_b (q_I d2888 1 3 a0)
                    have f2894 : (q_I d2888 1 3 a0).toInt = (q_I r2869.2 1 3 a0).toInt := congrArg Int32.toInt (by rw [e2889]; exact rI_o (by decide))
                    have f2895 := ti_b (q_I r2869.2 1 3 a0)
                    have f2896 : (q_I r2869.2 1 3 a0).toInt = (q_I δ 1 3 a0).toInt := congrArg Int32.toInt (u2877 1 3 a0 (by decide))
                    have f2897 := ti_b (q_I d2888 1 4 a0)
                    have f2898 : (q_I d2888 1 4 a0).toInt = (q_I r2869.2 1 4 a0).toInt := congrArg Int32.toInt (by rw [e2889]; exact rI_o (by decide))
                    have f2899 := ti_b (q_I r2869.2 1 4 a0)
                    have f2900 : (q_I r2869.2 1 4 a0).toInt = (q_I δ 1 4 a0).toInt := congrArg Int32.toInt (u2877 1 4 a0 (by decide))
                    exact ok_some (show CI ad h.1 δ0 d2888 ∧ (kp [(1, 3), (1, 4), (1, 5), (1, 6), (1, 8), (1, 13), (1, 14), (1, 15)] δ d2888 ∧ q_V d2888 = q_V δ) ∧ 0 ≤ (q_I d2888 1 3 a0).toInt ∧ (q_I d2888 1 4 a0).toInt ≤ (q_I δ 3 1 nu).toInt from ⟨i2890, ⟨kp_w (by decide) u2891, v2892⟩, by first | assumption | omega, by first | assumption | omega⟩)
                  · have c2901 : r2869.1.toInt ≠ (0 : Int) := o_ne h2886
                    have f2904 := cb_3_1 i2871 knu o4
                    have f2905 : (q_I r2869.2 3 1 nu).toInt = (q_I δ 3 1 nu).toInt := congrArg Int32.toInt (u2877 3 1 nu (by decide))
                    refine ok_bind (k_X1_valueAt L hN (a0 := a0) (x1 := (q_I r2869.2 1 13 a0)) k_a0 hnu knu (show 0 ≤ ((q_I r2869.2 1 13 a0)).toInt by first | assumption | omega) (show ((q_I r2869.2 1 13 a0)).toInt < (q_I r2869.2 3 1 nu).toInt by first | assumption | omega) i2871) (fun r2902 hr2903 => ?_)
                    have i2906 := hr2903
                    try rw [i2906]
                    have f2907 := ti_b r2902.1
                    refine ok_ite (fun h2908 => ?_) (fun h2908 => ?_)
                    · have c2909 : r2902.1.toInt = r2865.1.toInt := o_eq h2908
                      first | (have q2913 := te_subc (c := 1) (n := 1) rfl (q_I r2869.2 1 14 a0) (by omega) (by omega); obtain ⟨f2914, f2915, f2916⟩ := q2913) | (obtain ⟨q2913, f2914, f2915, f2916⟩ := ti_subc (c := 1) (n := 1) rfl (q_I r2869.2 1 14 a0))
                      refine ok_bind (k_X1_valueAt L hN (a0 := a0) (x1 := ((q_I r2869.2 1 14 a0) - (1 : Int32))) k_a0 hnu knu (show 0 ≤ (((q_I r2869.2 1 14 a0) - (1 : Int32))).toInt by first | assumption | omega) (show (((q_I r2869.2 1 14 a0) - (1 : Int32))).toInt < (q_I r2869.2 3 1 nu).toInt by first | assumption | omega) i2871) (fun r2910 hr2911 => ?_)
                      have i2917 := hr2911
                      try rw [i2917]
                      have f2918 := ti_b r2910.1
                      refine ok_ite (fun h2919 => ?_) (fun h2919 => ?_)
                      · have c2920 : r2910.1.toInt = r2865.1.toInt := o_eq h2919
                        refine ok_bind (k_X1_enterList L hN (a0 := a0) (x1 := r2865.1) k_a0 i2871) (fun r2921 hr2922 => ?_)
                        obtain ⟨i2923, ⟨u2926, v2927⟩, p2924, p2925⟩ := hr2922
                        have u2928 := kp_t u2879 u2926
                        have v2929 := v2927.trans v2880
                        have f2930 := ti_b (q_I r2921 1 3 a0)
                        have f2931 := ti_b (q_I r2869.2 1 11 a0)
                        have f2932 : (q_I r2869.2 1 11 a0).toInt = (q_I δ 1 11 a0).toInt := congrArg Int32.toInt (u2877 1 11 a0 (by decide))
                        have f2933 := ti_b (q_I r2921 1 4 a0)
                        have f2934 := ti_b (q_I r2869.2 1 12 a0)
                        have f2935 : (q_I r2869.2 1 12 a0).toInt = (q_I δ 1 12 a0).toInt := congrArg Int32.toInt (u2877 1 12 a0 (by decide))
                        exact ok_some (show CI ad h.1 δ0 r2921 ∧ (kp [(1, 3), (1, 4), (1, 5), (1, 6), (1, 8), (1, 13), (1, 14), (1, 15)] δ r2921 ∧ q_V r2921 = q_V δ) ∧ 0 ≤ (q_I r2921 1 3 a0).toInt ∧ (q_I r2921 1 4 a0).toInt ≤ (q_I δ 3 1 nu).toInt from ⟨i2923, ⟨kp_w (by decide) u2928, v2929⟩, by first | assumption | omega, by first | assumption | omega⟩)
                      · have c2936 : r2910.1.toInt ≠ r2865.1.toInt := o_ne h2919
                        unfold J_X1_goOnDropping_172
                        refine ok_bind (k_X1_enterRoom L hN (a0 := a0) (x1 := r2865.1) k_a0 i2871) (fun r2937 hr2938 => ?_)
                        obtain ⟨i2939, ⟨u2942, v2943⟩, p2940, p2941⟩ := hr2938
                        have u2944 := kp_t u2879 u2942
                        have v2945 := v2943.trans v2880
                        have f2946 := ti_b (q_I r2937 1 3 a0)
                        have f2947 := ti_b (q_I r2937 1 4 a0)
                        exact ok_some (show CI ad h.1 δ0 r2937 ∧ (kp [(1, 3), (1, 4), (1, 5), (1, 6), (1, 8), (1, 13), (1, 14), (1, 15)] δ r2937 ∧ q_V r2937 = q_V δ) ∧ 0 ≤ (q_I r2937 1 3 a0).toInt ∧ (q_I r2937 1 4 a0).toInt ≤ (q_I δ 3 1 nu).toInt from ⟨i2939, ⟨kp_w (by decide) u2944, v2945⟩, by first | assumption | omega, by first | assumption | omega⟩)
                    · have c2948 : r2902.1.toInt ≠ r2865.1.toInt := o_ne h2908
                      unfold J_X1_goOnDropping_172
                      refine ok_bind (k_X1_enterRoom L hN (a0 := a0) (x1 := r2865.1) k_a0 i2871) (fun r2949 hr2950 => ?_)
                      obtain ⟨i2951, ⟨u2954, v2955⟩, p2952, p2953⟩ := hr2950
                      have u2956 := kp_t u2879 u2954
                      have v2957 := v2955.trans v2880
                      have f2958 := ti_b (q_I r2949 1 3 a0)
                      have f2959 := ti_b (q_I r2949 1 4 a0)
                      exact ok_some (show CI ad h.1 δ0 r2949 ∧ (kp [(1, 3), (1, 4), (1, 5), (1, 6), (1, 8), (1, 13), (1, 14), (1, 15)] δ r2949 ∧ q_V r2949 = q_V δ) ∧ 0 ≤ (q_I r2949 1 3 a0).toInt ∧ (q_I r2949 1 4 a0).toInt ≤ (q_I δ 3 1 nu).toInt from ⟨i2951, ⟨kp_w (by decide) u2956, v2957⟩, by first | assumption | omega, by first | assumption | omega⟩)
                · have c2960 : (q_I δ 1 8 a0).toInt ≠ (q_I δ 1 9 a0).toInt := o_ne h2863
                  unfold J_X1_goOnDropping_118
                  first | (have q2964 := te_subc (c := 1) (n := 1) rfl (q_I δ 1 12 a0) (by omega) (by omega); obtain ⟨f2965, f2966, f2967⟩ := q2964) | (obtain ⟨q2964, f2965, f2966, f2967⟩ := ti_subc (c := 1) (n := 1) rfl (q_I δ 1 12 a0))
                  refine ok_bind (k_X1_valueAt L hN (a0 := a0) (x1 := ((q_I δ 1 12 a0) - (1 : Int32))) k_a0 hnu knu (show 0 ≤ (((q_I δ 1 12 a0) - (1 : Int32))).toInt by first | assumption | omega) (show (((q_I δ 1 12 a0) - (1 : Int32))).toInt < (q_I δ 3 1 nu).toInt by first | assumption | omega) I) (fun r2961 hr2962 => ?_)
                  have i2968 := hr2962
                  try rw [i2968]
                  have f2969 := ti_b r2961.1
                  unfold J_X1_goOnDropping_121
                  refine ok_bind (k_X1_findRoom L hN (a0 := a0) (x1 := r2961.1) k_a0 hnu knu (show 0 ≤ (q_I δ 1 11 a0).toInt by first | assumption | omega) (show (q_I δ 1 11 a0).toInt ≤ (q_I δ 1 12 a0).toInt by first | assumption | omega) (show (q_I δ 1 12 a0).toInt ≤ (q_I δ 3 1 nu).toInt by first | assumption | omega) I) (fun r2970 hr2971 => ?_)
                  obtain ⟨i2972, ⟨u2978, v2979⟩, p2973, p2974, p2975, p2976, p2977⟩ := hr2971
                  have u2980 := kp_t kp_r u2978
                  have v2981 := v2979.trans rfl
                  have f2982 := bo_t p2973
                  have f2983 := ti_b (q_I r2970.2 1 13 a0)
                  have f2984 := ti_b (q_I r2970.2 1 14 a0)
                  have f2985 := ti_b r2970.1
                  have f2986 := ti_b r2970.1
                  refine ok_ite (fun h2987 => ?_) (fun h2987 => ?_)
                  · have c2988 : r2970.1.toInt = (0 : Int) := o_eq h2987
                    refine ok_bdv (fun d2989 e2990 => ?_)
                    have i2991 : CI ad h.1 δ0 d2989 := by rw [e2990]; exact cs_1_15 L i2972 k_a0 (show 0 ≤ (1 : Int) by omega) (show (1 : Int) ≤ 1 by omega)
                    have u2992 := kp_I u2980 e2990
                    have v2993 : q_V d2989 = q_V δ := (show q_V d2989 = q_V r2970.2 by rw [e2990]; rfl).trans v2981
                    have f2994 := ti_b (q_I d2989 1 3 a0)
                    have f2995 : (q_I d2989 1 3 a0).toInt = (q_I r2970.2 1 3 a0).toInt := congrArg Int32.toInt (by rw [e2990]; exact rI_o (by decide))
                    have f2996 := ti_b (q_I r2970.2 1 3 a0)
                    have f2997 : (q_I r2970.2 1 3 a0).toInt = (q_I δ 1 3 a0).toInt := congrArg Int32.toInt (u2978 1 3 a0 (by decide))
                    have f2998 := ti_b (q_I d2989 1 4 a0)
                    have f2999 : (q_I d2989 1 4 a0).toInt = (q_I r2970.2 1 4 a0).toInt := congrArg Int32.toInt (by rw [e2990]; exact rI_o (by decide))
                    have f3000 := ti_b (q_I r2970.2 1 4 a0)
                    have f3001 : (q_I r2970.2 1 4 a0).toInt = (q_I δ 1 4 a0).toInt := congrArg Int32.toInt (u2978 1 4 a0 (by decide))
                    exact ok_some (show CI ad h.1 δ0 d2989 ∧ (kp [(1, 3), (1, 4), (1, 5), (1, 6), (1, 8), (1, 13), (1, 14), (1, 15)] δ d2989 ∧ q_V d2989 = q_V δ) ∧ 0 ≤ (q_I d2989 1 3 a0).toInt ∧ (q_I d2989 1 4 a0).toInt ≤ (q_I δ 3 1 nu).toInt from ⟨i2991, ⟨kp_w (by decide) u2992, v2993⟩, by first | assumption | omega, by first | assumption | omega⟩)
                  · have c3002 : r2970.1.toInt ≠ (0 : Int) := o_ne h2987
                    have f3005 := cb_3_1 i2972 knu o4
                    have f3006 : (q_I r2970.2 3 1 nu).toInt = (q_I δ 3 1 nu).toInt := congrArg Int32.toInt (u2978 3 1 nu (by decide))
                    refine ok_bind (k_X1_valueAt L hN (a0 := a0) (x1 := (q_I r2970.2 1 13 a0)) k_a0 hnu knu (show 0 ≤ ((q_I r2970.2 1 13 a0)).toInt by first | assumption | omega) (show ((q_I r2970.2 1 13 a0)).toInt < (q_I r2970.2 3 1 nu).toInt by first | assumption | omega) i2972) (fun r3003 hr3004 => ?_)
                    have i3007 := hr3004
                    try rw [i3007]
                    have f3008 := ti_b r3003.1
                    refine ok_ite (fun h3009 => ?_) (fun h3009 => ?_)
                    · have c3010 : r3003.1.toInt = r2961.1.toInt := o_eq h3009
                      first | (have q3014 := te_subc (c := 1) (n := 1) rfl (q_I r2970.2 1 14 a0) (by omega) (by omega); obtain ⟨f3015, f3016, f3017⟩ := q3014) | (obtain ⟨q3014, f3015, f3016, f3017⟩ := ti_subc (c := 1) (n := 1) rfl (q_I r2970.2 1 14 a0))
                      refine ok_bind (k_X1_valueAt L hN (a0 := a0) (x1 := ((q_I r2970.2 1 14 a0) - (1 : Int32))) k_a0 hnu knu (show 0 ≤ (((q_I r2970.2 1 14 a0) - (1 : Int32))).toInt by first | assumption | omega) (show (((q_I r2970.2 1 14 a0) - (1 : Int32))).toInt < (q_I r2970.2 3 1 nu).toInt by first | assumption | omega) i2972) (fun r3011 hr3012 => ?_)
                      have i3018 := hr3012
                      try rw [i3018]
                      have f3019 := ti_b r3011.1
                      refine ok_ite (fun h3020 => ?_) (fun h3020 => ?_)
                      · have c3021 : r3011.1.toInt = r2961.1.toInt := o_eq h3020
                        refine ok_bind (k_X1_enterList L hN (a0 := a0) (x1 := r2961.1) k_a0 i2972) (fun r3022 hr3023 => ?_)
                        obtain ⟨i3024, ⟨u3027, v3028⟩, p3025, p3026⟩ := hr3023
                        have u3029 := kp_t u2980 u3027
                        have v3030 := v3028.trans v2981
                        have f3031 := ti_b (q_I r3022 1 3 a0)
                        have f3032 := ti_b (q_I r2970.2 1 11 a0)
                        have f3033 : (q_I r2970.2 1 11 a0).toInt = (q_I δ 1 11 a0).toInt := congrArg Int32.toInt (u2978 1 11 a0 (by decide))
                        have f3034 := ti_b (q_I r3022 1 4 a0)
                        have f3035 := ti_b (q_I r2970.2 1 12 a0)
                        have f3036 : (q_I r2970.2 1 12 a0).toInt = (q_I δ 1 12 a0).toInt := congrArg Int32.toInt (u2978 1 12 a0 (by decide))
                        exact ok_some (show CI ad h.1 δ0 r3022 ∧ (kp [(1, 3), (1, 4), (1, 5), (1, 6), (1, 8), (1, 13), (1, 14), (1, 15)] δ r3022 ∧ q_V r3022 = q_V δ) ∧ 0 ≤ (q_I r3022 1 3 a0).toInt ∧ (q_I r3022 1 4 a0).toInt ≤ (q_I δ 3 1 nu).toInt from ⟨i3024, ⟨kp_w (by decide) u3029, v3030⟩, by first | assumption | omega, by first | assumption | omega⟩)
                      · have c3037 : r3011.1.toInt ≠ r2961.1.toInt := o_ne h3020
                        unfold J_X1_goOnDropping_172
                        refine ok_bind (k_X1_enterRoom L hN (a0 := a0) (x1 := r2961.1) k_a0 i2972) (fun r3038 hr3039 => ?_)
                        obtain ⟨i3040, ⟨u3043, v3044⟩, p3041, p3042⟩ := hr3039
                        have u3045 := kp_t u2980 u3043
                        have v3046 := v3044.trans v2981
                        have f3047 := ti_b (q_I r3038 1 3 a0)
                        have f3048 := ti_b (q_I r3038 1 4 a0)
                        exact ok_some (show CI ad h.1 δ0 r3038 ∧ (kp [(1, 3), (1, 4), (1, 5), (1, 6), (1, 8), (1, 13), (1, 14), (1, 15)] δ r3038 ∧ q_V r3038 = q_V δ) ∧ 0 ≤ (q_I r3038 1 3 a0).toInt ∧ (q_I r3038 1 4 a0).toInt ≤ (q_I δ 3 1 nu).toInt from ⟨i3040, ⟨kp_w (by decide) u3045, v3046⟩, by first | assumption | omega, by first | assumption | omega⟩)
                    · have c3049 : r3003.1.toInt ≠ r2961.1.toInt := o_ne h3009
                      unfold J_X1_goOnDropping_172
                      refine ok_bind (k_X1_enterRoom L hN (a0 := a0) (x1 := r2961.1) k_a0 i2972) (fun r3050 hr3051 => ?_)
                      obtain ⟨i3052, ⟨u3055, v3056⟩, p3053, p3054⟩ := hr3051
                      have u3057 := kp_t u2980 u3055
                      have v3058 := v3056.trans v2981
                      have f3059 := ti_b (q_I r3050 1 3 a0)
                      have f3060 := ti_b (q_I r3050 1 4 a0)
                      exact ok_some (show CI ad h.1 δ0 r3050 ∧ (kp [(1, 3), (1, 4), (1, 5), (1, 6), (1, 8), (1, 13), (1, 14), (1, 15)] δ r3050 ∧ q_V r3050 = q_V δ) ∧ 0 ≤ (q_I r3050 1 3 a0).toInt ∧ (q_I r3050 1 4 a0).toInt ≤ (q_I δ 3 1 nu).toInt from ⟨i3052, ⟨kp_w (by decide) u3057, v3058⟩, by first | assumption | omega, by first | assumption | omega⟩)
          · have c3061 : (0 : Int) ≠ (0 : Int) := o_ne h2472
            refine ok_ite (fun h3062 => ?_) (fun h3062 => ?_)
            · have c3063 : (q_I δ 1 11 a0).toInt < (q_I δ 1 12 a0).toInt := o_lt h3062
              unfold J_X1_goOnDropping_72
              refine ok_ite (fun h3064 => ?_) (fun h3064 => ?_)
              · have c3065 : (0 : Int) = (0 : Int) := o_eq h3064
                unfold J_X1_goOnDropping_81
                refine ok_ite (fun h3066 => ?_) (fun h3066 => ?_)
                · have c3067 : (0 : Int) = (0 : Int) := o_eq h3066
                  unfold J_X1_goOnDropping_121
                  refine ok_bind (k_X1_findRoom L hN (a0 := a0) (x1 := (q_I δ 1 8 a0)) k_a0 hnu knu (show 0 ≤ (q_I δ 1 11 a0).toInt by first | assumption | omega) (show (q_I δ 1 11 a0).toInt ≤ (q_I δ 1 12 a0).toInt by first | assumption | omega) (show (q_I δ 1 12 a0).toInt ≤ (q_I δ 3 1 nu).toInt by first | assumption | omega) I) (fun r3068 hr3069 => ?_)
                  obtain ⟨i3070, ⟨u3076, v3077⟩, p3071, p3072, p3073, p3074, p3075⟩ := hr3069
                  have u3078 := kp_t kp_r u3076
                  have v3079 := v3077.trans rfl
                  have f3080 := bo_t p3071
                  have f3081 := ti_b (q_I r3068.2 1 13 a0)
                  have f3082 := ti_b (q_I r3068.2 1 14 a0)
                  have f3083 := ti_b r3068.1
                  have f3084 := ti_b r3068.1
                  refine ok_ite (fun h3085 => ?_) (fun h3085 => ?_)
                  · have c3086 : r3068.1.toInt = (0 : Int) := o_eq h3085
                    refine ok_bdv (fun d3087 e3088 => ?_)
                    have i3089 : CI ad h.1 δ0 d3087 := by rw [e3088]; exact cs_1_15 L i3070 k_a0 (show 0 ≤ (1 : Int) by omega) (show (1 : Int) ≤ 1 by omega)
                    have u3090 := kp_I u3078 e3088
                    have v3091 : q_V d3087 = q_V δ := (show q_V d3087 = q_V r3068.2 by rw [e3088]; rfl).trans v3079
                    have f3092 := ti_b (q_I d3087 1 3 a0)
                    have f3093 : (q_I d3087 1 3 a0).toInt = (q_I r3068.2 1 3 a0).toInt := congrArg Int32.toInt (by rw [e3088]; exact rI_o (by decide))
                    have f3094 := ti_b (q_I r3068.2 1 3 a0)
                    have f3095 : (q_I r3068.2 1 3 a0).toInt = (q_I δ 1 3 a0).toInt := congrArg Int32.toInt (u3076 1 3 a0 (by decide))
                    have f3096 := ti_b (q_I d3087 1 4 a0)
                    have f3097 : (q_I d3087 1 4 a0).toInt = (q_I r3068.2 1 4 a0).toInt := congrArg Int32.toInt (by rw [e3088]; exact rI_o (by decide))
                    have f3098 := ti_b (q_I r3068.2 1 4 a0)
                    have f3099 : (q_I r3068.2 1 4 a0).toInt = (q_I δ 1 4 a0).toInt := congrArg Int32.toInt (u3076 1 4 a0 (by decide))
                    exact ok_some (show CI ad h.1 δ0 d3087 ∧ (kp [(1, 3), (1, 4), (1, 5), (1, 6), (1, 8), (1, 13), (1, 14), (1, 15)] δ d3087 ∧ q_V d3087 = q_V δ) ∧ 0 ≤ (q_I d3087 1 3 a0).toInt ∧ (q_I d3087 1 4 a0).toInt ≤ (q_I δ 3 1 nu).toInt from ⟨i3089, ⟨kp_w (by decide) u3090, v3091⟩, by first | assumption | omega, by first | assumption | omega⟩)
                  · have c3100 : r3068.1.toInt ≠ (0 : Int) := o_ne h3085
                    have f3103 := cb_3_1 i3070 knu o4
                    have f3104 : (q_I r3068.2 3 1 nu).toInt = (q_I δ 3 1 nu).toInt := congrArg Int32.toInt (u3076 3 1 nu (by decide))
                    refine ok_bind (k_X1_valueAt L hN (a0 := a0) (x1 := (q_I r3068.2 1 13 a0)) k_a0 hnu knu (show 0 ≤ ((q_I r3068.2 1 13 a0)).toInt by first | assumption | omega) (show ((q_I r3068.2 1 13 a0)).toInt < (q_I r3068.2 3 1 nu).toInt by first | assumption | omega) i3070) (fun r3101 hr3102 => ?_)
                    have i3105 := hr3102
                    try rw [i3105]
                    have f3106 := ti_b r3101.1
                    refine ok_ite (fun h3107 => ?_) (fun h3107 => ?_)
                    · have c3108 : r3101.1.toInt = (q_I δ 1 8 a0).toInt := o_eq h3107
                      first | (have q3112 := te_subc (c := 1) (n := 1) rfl (q_I r3068.2 1 14 a0) (by omega) (by omega); obtain ⟨f3113, f3114, f3115⟩ := q3112) | (obtain ⟨q3112, f3113, f3114, f3115⟩ := ti_subc (c := 1) (n := 1) rfl (q_I r3068.2 1 14 a0))
                      refine ok_bind (k_X1_valueAt L hN (a0 := a0) (x1 := ((q_I r3068.2 1 14 a0) - (1 : Int32))) k_a0 hnu knu (show 0 ≤ (((q_I r3068.2 1 14 a0) - (1 : Int32))).toInt by first | assumption | omega) (show (((q_I r3068.2 1 14 a0) - (1 : Int32))).toInt < (q_I r3068.2 3 1 nu).toInt by first | assumption | omega) i3070) (fun r3109 hr3110 => ?_)
                      have i3116 := hr3110
                      try rw [i3116]
                      have f3117 := ti_b r3109.1
                      refine ok_ite (fun h3118 => ?_) (fun h3118 => ?_)
                      · have c3119 : r3109.1.toInt = (q_I δ 1 8 a0).toInt := o_eq h3118
                        refine ok_bind (k_X1_enterList L hN (a0 := a0) (x1 := (q_I δ 1 8 a0)) k_a0 i3070) (fun r3120 hr3121 => ?_)
                        obtain ⟨i3122, ⟨u3125, v3126⟩, p3123, p3124⟩ := hr3121
                        have u3127 := kp_t u3078 u3125
                        have v3128 := v3126.trans v3079
                        have f3129 := ti_b (q_I r3120 1 3 a0)
                        have f3130 := ti_b (q_I r3068.2 1 11 a0)
                        have f3131 : (q_I r3068.2 1 11 a0).toInt = (q_I δ 1 11 a0).toInt := congrArg Int32.toInt (u3076 1 11 a0 (by decide))
                        have f3132 := ti_b (q_I r3120 1 4 a0)
                        have f3133 := ti_b (q_I r3068.2 1 12 a0)
                        have f3134 : (q_I r3068.2 1 12 a0).toInt = (q_I δ 1 12 a0).toInt := congrArg Int32.toInt (u3076 1 12 a0 (by decide))
                        exact ok_some (show CI ad h.1 δ0 r3120 ∧ (kp [(1, 3), (1, 4), (1, 5), (1, 6), (1, 8), (1, 13), (1, 14), (1, 15)] δ r3120 ∧ q_V r3120 = q_V δ) ∧ 0 ≤ (q_I r3120 1 3 a0).toInt ∧ (q_I r3120 1 4 a0).toInt ≤ (q_I δ 3 1 nu).toInt from ⟨i3122, ⟨kp_w (by decide) u3127, v3128⟩, by first | assumption | omega, by first | assumption | omega⟩)
                      · have c3135 : r3109.1.toInt ≠ (q_I δ 1 8 a0).toInt := o_ne h3118
                        unfold J_X1_goOnDropping_172
                        refine ok_bind (k_X1_enterRoom L hN (a0 := a0) (x1 := (q_I δ 1 8 a0)) k_a0 i3070) (fun r3136 hr3137 => ?_)
                        obtain ⟨i3138, ⟨u3141, v3142⟩, p3139, p3140⟩ := hr3137
                        have u3143 := kp_t u3078 u3141
                        have v3144 := v3142.trans v3079
                        have f3145 := ti_b (q_I r3136 1 3 a0)
                        have f3146 := ti_b (q_I r3136 1 4 a0)
                        exact ok_some (show CI ad h.1 δ0 r3136 ∧ (kp [(1, 3), (1, 4), (1, 5), (1, 6), (1, 8), (1, 13), (1, 14), (1, 15)] δ r3136 ∧ q_V r3136 = q_V δ) ∧ 0 ≤ (q_I r3136 1 3 a0).toInt ∧ (q_I r3136 1 4 a0).toInt ≤ (q_I δ 3 1 nu).toInt from ⟨i3138, ⟨kp_w (by decide) u3143, v3144⟩, by first | assumption | omega, by first | assumption | omega⟩)
                    · have c3147 : r3101.1.toInt ≠ (q_I δ 1 8 a0).toInt := o_ne h3107
                      unfold J_X1_goOnDropping_172
                      refine ok_bind (k_X1_enterRoom L hN (a0 := a0) (x1 := (q_I δ 1 8 a0)) k_a0 i3070) (fun r3148 hr3149 => ?_)
                      obtain ⟨i3150, ⟨u3153, v3154⟩, p3151, p3152⟩ := hr3149
                      have u3155 := kp_t u3078 u3153
                      have v3156 := v3154.trans v3079
                      have f3157 := ti_b (q_I r3148 1 3 a0)
                      have f3158 := ti_b (q_I r3148 1 4 a0)
                      exact ok_some (show CI ad h.1 δ0 r3148 ∧ (kp [(1, 3), (1, 4), (1, 5), (1, 6), (1, 8), (1, 13), (1, 14), (1, 15)] δ r3148 ∧ q_V r3148 = q_V δ) ∧ 0 ≤ (q_I r3148 1 3 a0).toInt ∧ (q_I r3148 1 4 a0).toInt ≤ (q_I δ 3 1 nu).toInt from ⟨i3150, ⟨kp_w (by decide) u3155, v3156⟩, by first | assumption | omega, by first | assumption | omega⟩)
                · have c3159 : (0 : Int) ≠ (0 : Int) := o_ne h3066
                  refine ok_ite (fun h3160 => ?_) (fun h3160 => ?_)
                  · have c3161 : (q_I δ 1 8 a0).toInt = (q_I δ 1 9 a0).toInt := o_eq h3160
                    unfold J_X1_goOnDropping_118
                    refine ok_bind (k_X1_valueAt L hN (a0 := a0) (x1 := (q_I δ 1 11 a0)) k_a0 hnu knu (show 0 ≤ ((q_I δ 1 11 a0)).toInt by first | assumption | omega) (show ((q_I δ 1 11 a0)).toInt < (q_I δ 3 1 nu).toInt by first | assumption | omega) I) (fun r3162 hr3163 => ?_)
                    have i3164 := hr3163
                    try rw [i3164]
                    have f3165 := ti_b r3162.1
                    unfold J_X1_goOnDropping_121
                    refine ok_bind (k_X1_findRoom L hN (a0 := a0) (x1 := r3162.1) k_a0 hnu knu (show 0 ≤ (q_I δ 1 11 a0).toInt by first | assumption | omega) (show (q_I δ 1 11 a0).toInt ≤ (q_I δ 1 12 a0).toInt by first | assumption | omega) (show (q_I δ 1 12 a0).toInt ≤ (q_I δ 3 1 nu).toInt by first | assumption | omega) I) (fun r3166 hr3167 => ?_)
                    obtain ⟨i3168, ⟨u3174, v3175⟩, p3169, p3170, p3171, p3172, p3173⟩ := hr3167
                    have u3176 := kp_t kp_r u3174
                    have v3177 := v3175.trans rfl
                    have f3178 := bo_t p3169
                    have f3179 := ti_b (q_I r3166.2 1 13 a0)
                    have f3180 := ti_b (q_I r3166.2 1 14 a0)
                    have f3181 := ti_b r3166.1
                    have f3182 := ti_b r3166.1
                    refine ok_ite (fun h3183 => ?_) (fun h3183 => ?_)
                    · have c3184 : r3166.1.toInt = (0 : Int) := o_eq h3183
                      refine ok_bdv (fun d3185 e3186 => ?_)
                      have i3187 : CI ad h.1 δ0 d3185 := by rw [e3186]; exact cs_1_15 L i3168 k_a0 (show 0 ≤ (1 : Int) by omega) (show (1 : Int) ≤ 1 by omega)
                      have u3188 := kp_I u3176 e3186
                      have v3189 : q_V d3185 = q_V δ := (show q_V d3185 = q_V r3166.2 by rw [e3186]; rfl).trans v3177
                      have f3190 := ti_b (q_I d3185 1 3 a0)
                      have f3191 : (q_I d3185 1 3 a0).toInt = (q_I r3166.2 1 3 a0).toInt := congrArg Int32.toInt (by rw [e3186]; exact rI_o (by decide))
                      have f3192 := ti_b (q_I r3166.2 1 3 a0)
                      have f3193 : (q_I r3166.2 1 3 a0).toInt = (q_I δ 1 3 a0).toInt := congrArg Int32.toInt (u3174 1 3 a0 (by decide))
                      have f3194 := ti_b (q_I d3185 1 4 a0)
                      have f3195 : (q_I d3185 1 4 a0).toInt = (q_I r3166.2 1 4 a0).toInt := congrArg Int32.toInt (by rw [e3186]; exact rI_o (by decide))
                      have f3196 := ti_b (q_I r3166.2 1 4 a0)
                      have f3197 : (q_I r3166.2 1 4 a0).toInt = (q_I δ 1 4 a0).toInt := congrArg Int32.toInt (u3174 1 4 a0 (by decide))
                      exact ok_some (show CI ad h.1 δ0 d3185 ∧ (kp [(1, 3), (1, 4), (1, 5), (1, 6), (1, 8), (1, 13), (1, 14), (1, 15)] δ d3185 ∧ q_V d3185 = q_V δ) ∧ 0 ≤ (q_I d3185 1 3 a0).toInt ∧ (q_I d3185 1 4 a0).toInt ≤ (q_I δ 3 1 nu).toInt from ⟨i3187, ⟨kp_w (by decide) u3188, v3189⟩, by first | assumption | omega, by first | assumption | omega⟩)
                    · have c3198 : r3166.1.toInt ≠ (0 : Int) := o_ne h3183
                      have f3201 := cb_3_1 i3168 knu o4
                      have f3202 : (q_I r3166.2 3 1 nu).toInt = (q_I δ 3 1 nu).toInt := congrArg Int32.toInt (u3174 3 1 nu (by decide))
                      refine ok_bind (k_X1_valueAt L hN (a0 := a0) (x1 := (q_I r3166.2 1 13 a0)) k_a0 hnu knu (show 0 ≤ ((q_I r3166.2 1 13 a0)).toInt by first | assumption | omega) (show ((q_I r3166.2 1 13 a0)).toInt < (q_I r3166.2 3 1 nu).toInt by first | assumption | omega) i3168) (fun r3199 hr3200 => ?_)
                      have i3203 := hr3200
                      try rw [i3203]
                      have f3204 := ti_b r3199.1
                      refine ok_ite (fun h3205 => ?_) (fun h3205 => ?_)
                      · have c3206 : r3199.1.toInt = r3162.1.toInt := o_eq h3205
                        first | (have q3210 := te_subc (c := 1) (n := 1) rfl (q_I r3166.2 1 14 a0) (by omega) (by omega); obtain ⟨f3211, f3212, f3213⟩ := q3210) | (obtain ⟨q3210, f3211, f3212, f3213⟩ := ti_subc (c := 1) (n := 1) rfl (q_I r3166.2 1 14 a0))
                        refine ok_bind (k_X1_valueAt L hN (a0 := a0) (x1 := ((q_I r3166.2 1 14 a0) - (1 : Int32))) k_a0 hnu knu (show 0 ≤ (((q_I r3166.2 1 14 a0) - (1 : Int32))).toInt by first | assumption | omega) (show (((q_I r3166.2 1 14 a0) - (1 : Int32))).toInt < (q_I r3166.2 3 1 nu).toInt by first | assumption | omega) i3168) (fun r3207 hr3208 => ?_)
                        have i3214 := hr3208
                        try rw [i3214]
                        have f3215 := ti_b r3207.1
                        refine ok_ite (fun h3216 => ?_) (fun h3216 => ?_)
                        · have c3217 : r3207.1.toInt = r3162.1.toInt := o_eq h3216
                          refine ok_bind (k_X1_enterList L hN (a0 := a0) (x1 := r3162.1) k_a0 i3168) (fun r3218 hr3219 => ?_)
                          obtain ⟨i3220, ⟨u3223, v3224⟩, p3221, p3222⟩ := hr3219
                          have u3225 := kp_t u3176 u3223
                          have v3226 := v3224.trans v3177
                          have f3227 := ti_b (q_I r3218 1 3 a0)
                          have f3228 := ti_b (q_I r3166.2 1 11 a0)
                          have f3229 : (q_I r3166.2 1 11 a0).toInt = (q_I δ 1 11 a0).toInt := congrArg Int32.toInt (u3174 1 11 a0 (by decide))
                          have f3230 := ti_b (q_I r3218 1 4 a0)
                          have f3231 := ti_b (q_I r3166.2 1 12 a0)
                          have f3232 : (q_I r3166.2 1 12 a0).toInt = (q_I δ 1 12 a0).toInt := congrArg Int32.toInt (u3174 1 12 a0 (by decide))
                          exact ok_some (show CI ad h.1 δ0 r3218 ∧ (kp [(1, 3), (1, 4), (1, 5), (1, 6), (1, 8), (1, 13), (1, 14), (1, 15)] δ r3218 ∧ q_V r3218 = q_V δ) ∧ 0 ≤ (q_I r3218 1 3 a0).toInt ∧ (q_I r3218 1 4 a0).toInt ≤ (q_I δ 3 1 nu).toInt from ⟨i3220, ⟨kp_w (by decide) u3225, v3226⟩, by first | assumption | omega, by first | assumption | omega⟩)
                        · have c3233 : r3207.1.toInt ≠ r3162.1.toInt := o_ne h3216
                          unfold J_X1_goOnDropping_172
                          refine ok_bind (k_X1_enterRoom L hN (a0 := a0) (x1 := r3162.1) k_a0 i3168) (fun r3234 hr3235 => ?_)
                          obtain ⟨i3236, ⟨u3239, v3240⟩, p3237, p3238⟩ := hr3235
                          have u3241 := kp_t u3176 u3239
                          have v3242 := v3240.trans v3177
                          have f3243 := ti_b (q_I r3234 1 3 a0)
                          have f3244 := ti_b (q_I r3234 1 4 a0)
                          exact ok_some (show CI ad h.1 δ0 r3234 ∧ (kp [(1, 3), (1, 4), (1, 5), (1, 6), (1, 8), (1, 13), (1, 14), (1, 15)] δ r3234 ∧ q_V r3234 = q_V δ) ∧ 0 ≤ (q_I r3234 1 3 a0).toInt ∧ (q_I r3234 1 4 a0).toInt ≤ (q_I δ 3 1 nu).toInt from ⟨i3236, ⟨kp_w (by decide) u3241, v3242⟩, by first | assumption | omega, by first | assumption | omega⟩)
                      · have c3245 : r3199.1.toInt ≠ r3162.1.toInt := o_ne h3205
                        unfold J_X1_goOnDropping_172
                        refine ok_bind (k_X1_enterRoom L hN (a0 := a0) (x1 := r3162.1) k_a0 i3168) (fun r3246 hr3247 => ?_)
                        obtain ⟨i3248, ⟨u3251, v3252⟩, p3249, p3250⟩ := hr3247
                        have u3253 := kp_t u3176 u3251
                        have v3254 := v3252.trans v3177
                        have f3255 := ti_b (q_I r3246 1 3 a0)
                        have f3256 := ti_b (q_I r3246 1 4 a0)
                        exact ok_some (show CI ad h.1 δ0 r3246 ∧ (kp [(1, 3), (1, 4), (1, 5), (1, 6), (1, 8), (1, 13), (1, 14), (1, 15)] δ r3246 ∧ q_V r3246 = q_V δ) ∧ 0 ≤ (q_I r3246 1 3 a0).toInt ∧ (q_I r3246 1 4 a0).toInt ≤ (q_I δ 3 1 nu).toInt from ⟨i3248, ⟨kp_w (by decide) u3253, v3254⟩, by first | assumption | omega, by first | assumption | omega⟩)
                  · have c3257 : (q_I δ 1 8 a0).toInt ≠ (q_I δ 1 9 a0).toInt := o_ne h3160
                    unfold J_X1_goOnDropping_118
                    first | (have q3261 := te_subc (c := 1) (n := 1) rfl (q_I δ 1 12 a0) (by omega) (by omega); obtain ⟨f3262, f3263, f3264⟩ := q3261) | (obtain ⟨q3261, f3262, f3263, f3264⟩ := ti_subc (c := 1) (n := 1) rfl (q_I δ 1 12 a0))
                    refine ok_bind (k_X1_valueAt L hN (a0 := a0) (x1 := ((q_I δ 1 12 a0) - (1 : Int32))) k_a0 hnu knu (show 0 ≤ (((q_I δ 1 12 a0) - (1 : Int32))).toInt by first | assumption | omega) (show (((q_I δ 1 12 a0) - (1 : Int32))).toInt < (q_I δ 3 1 nu).toInt by first | assumption | omega) I) (fun r3258 hr3259 => ?_)
                    have i3265 := hr3259
                    try rw [i3265]
                    have f3266 := ti_b r3258.1
                    unfold J_X1_goOnDropping_121
                    refine ok_bind (k_X1_findRoom L hN (a0 := a0) (x1 := r3258.1) k_a0 hnu knu (show 0 ≤ (q_I δ 1 11 a0).toInt by first | assumption | omega) (show (q_I δ 1 11 a0).toInt ≤ (q_I δ 1 12 a0).toInt by first | assumption | omega) (show (q_I δ 1 12 a0).toInt ≤ (q_I δ 3 1 nu).toInt by first | assumption | omega) I) (fun r3267 hr3268 => ?_)
                    obtain ⟨i3269, ⟨u3275, v3276⟩, p3270, p3271, p3272, p3273, p3274⟩ := hr3268
                    have u3277 := kp_t kp_r u3275
                    have v3278 := v3276.trans rfl
                    have f3279 := bo_t p3270
                    have f3280 := ti_b (q_I r3267.2 1 13 a0)
                    have f3281 := ti_b (q_I r3267.2 1 14 a0)
                    have f3282 := ti_b r3267.1
                    have f3283 := ti_b r3267.1
                    refine ok_ite (fun h3284 => ?_) (fun h3284 => ?_)
                    · have c3285 : r3267.1.toInt = (0 : Int) := o_eq h3284
                      refine ok_bdv (fun d3286 e3287 => ?_)
                      have i3288 : CI ad h.1 δ0 d3286 := by rw [e3287]; exact cs_1_15 L i3269 k_a0 (show 0 ≤ (1 : Int) by omega) (show (1 : Int) ≤ 1 by omega)
                      have u3289 := kp_I u3277 e3287
                      have v3290 : q_V d3286 = q_V δ := (show q_V d3286 = q_V r3267.2 by rw [e3287]; rfl).trans v3278
                      have f3291 := ti_b (q_I d3286 1 3 a0)
                      have f3292 : (q_I d3286 1 3 a0).toInt = (q_I r3267.2 1 3 a0).toInt := congrArg Int32.toInt (by rw [e3287]; exact rI_o (by decide))
                      have f3293 := ti_b (q_I r3267.2 1 3 a0)
                      have f3294 : (q_I r3267.2 1 3 a0).toInt = (q_I δ 1 3 a0).toInt := congrArg Int32.toInt (u3275 1 3 a0 (by decide))
                      have f3295 := ti_b (q_I d3286 1 4 a0)
                      have f3296 : (q_I d3286 1 4 a0).toInt = (q_I r3267.2 1 4 a0).toInt := congrArg Int32.toInt (by rw [e3287]; exact rI_o (by decide))
                      have f3297 := ti_b (q_I r3267.2 1 4 a0)
                      have f3298 : (q_I r3267.2 1 4 a0).toInt = (q_I δ 1 4 a0).toInt := congrArg Int32.toInt (u3275 1 4 a0 (by decide))
                      exact ok_some (show CI ad h.1 δ0 d3286 ∧ (kp [(1, 3), (1, 4), (1, 5), (1, 6), (1, 8), (1, 13), (1, 14), (1, 15)] δ d3286 ∧ q_V d3286 = q_V δ) ∧ 0 ≤ (q_I d3286 1 3 a0).toInt ∧ (q_I d3286 1 4 a0).toInt ≤ (q_I δ 3 1 nu).toInt from ⟨i3288, ⟨kp_w (by decide) u3289, v3290⟩, by first | assumption | omega, by first | assumption | omega⟩)
                    · have c3299 : r3267.1.toInt ≠ (0 : Int) := o_ne h3284
                      have f3302 := cb_3_1 i3269 knu o4
                      have f3303 : (q_I r3267.2 3 1 nu).toInt = (q_I δ 3 1 nu).toInt := congrArg Int32.toInt (u3275 3 1 nu (by decide))
                      refine ok_bind (k_X1_valueAt L hN (a0 := a0) (x1 := (q_I r3267.2 1 13 a0)) k_a0 hnu knu (show 0 ≤ ((q_I r3267.2 1 13 a0)).toInt by first | assumption | omega) (show ((q_I r3267.2 1 13 a0)).toInt < (q_I r3267.2 3 1 nu).toInt by first | assumption | omega) i3269) (fun r3300 hr3301 => ?_)
                      have i3304 := hr3301
                      try rw [i3304]
                      have f3305 := ti_b r3300.1
                      refine ok_ite (fun h3306 => ?_) (fun h3306 => ?_)
                      · have c3307 : r3300.1.toInt = r3258.1.toInt := o_eq h3306
                        first | (have q3311 := te_subc (c := 1) (n := 1) rfl (q_I r3267.2 1 14 a0) (by omega) (by omega); obtain ⟨f3312, f3313, f3314⟩ := q3311) | (obtain ⟨q3311, f3312, f3313, f3314⟩ := ti_subc (c := 1) (n := 1) rfl (q_I r3267.2 1 14 a0))
                        refine ok_bind (k_X1_valueAt L hN (a0 := a0) (x1 := ((q_I r3267.2 1 14 a0) - (1 : Int32))) k_a0 hnu knu (show 0 ≤ (((q_I r3267.2 1 14 a0) - (1 : Int32))).toInt by first | assumption | omega) (show (((q_I r3267.2 1 14 a0) - (1 : Int32))).toInt < (q_I r3267.2 3 1 nu).toInt by first | assumption | omega) i3269) (fun r3308 hr3309 => ?_)
                        have i3315 := hr3309
                        try rw [i3315]
                        have f3316 := ti_b r3308.1
                        refine ok_ite (fun h3317 => ?_) (fun h3317 => ?_)
                        · have c3318 : r3308.1.toInt = r3258.1.toInt := o_eq h3317
                          refine ok_bind (k_X1_enterList L hN (a0 := a0) (x1 := r3258.1) k_a0 i3269) (fun r3319 hr3320 => ?_)
                          obtain ⟨i3321, ⟨u3324, v3325⟩, p3322, p3323⟩ := hr3320
                          have u3326 := kp_t u3277 u3324
                          have v3327 := v3325.trans v3278
                          have f3328 := ti_b (q_I r3319 1 3 a0)
                          have f3329 := ti_b (q_I r3267.2 1 11 a0)
                          have f3330 : (q_I r3267.2 1 11 a0).toInt = (q_I δ 1 11 a0).toInt := congrArg Int32.toInt (u3275 1 11 a0 (by decide))
                          have f3331 := ti_b (q_I r3319 1 4 a0)
                          have f3332 := ti_b (q_I r3267.2 1 12 a0)
                          have f3333 : (q_I r3267.2 1 12 a0).toInt = (q_I δ 1 12 a0).toInt := congrArg Int32.toInt (u3275 1 12 a0 (by decide))
                          exact ok_some (show CI ad h.1 δ0 r3319 ∧ (kp [(1, 3), (1, 4), (1, 5), (1, 6), (1, 8), (1, 13), (1, 14), (1, 15)] δ r3319 ∧ q_V r3319 = q_V δ) ∧ 0 ≤ (q_I r3319 1 3 a0).toInt ∧ (q_I r3319 1 4 a0).toInt ≤ (q_I δ 3 1 nu).toInt from ⟨i3321, ⟨kp_w (by decide) u3326, v3327⟩, by first | assumption | omega, by first | assumption | omega⟩)
                        · have c3334 : r3308.1.toInt ≠ r3258.1.toInt := o_ne h3317
                          unfold J_X1_goOnDropping_172
                          refine ok_bind (k_X1_enterRoom L hN (a0 := a0) (x1 := r3258.1) k_a0 i3269) (fun r3335 hr3336 => ?_)
                          obtain ⟨i3337, ⟨u3340, v3341⟩, p3338, p3339⟩ := hr3336
                          have u3342 := kp_t u3277 u3340
                          have v3343 := v3341.trans v3278
                          have f3344 := ti_b (q_I r3335 1 3 a0)
                          have f3345 := ti_b (q_I r3335 1 4 a0)
                          exact ok_some (show CI ad h.1 δ0 r3335 ∧ (kp [(1, 3), (1, 4), (1, 5), (1, 6), (1, 8), (1, 13), (1, 14), (1, 15)] δ r3335 ∧ q_V r3335 = q_V δ) ∧ 0 ≤ (q_I r3335 1 3 a0).toInt ∧ (q_I r3335 1 4 a0).toInt ≤ (q_I δ 3 1 nu).toInt from ⟨i3337, ⟨kp_w (by decide) u3342, v3343⟩, by first | assumption | omega, by first | assumption | omega⟩)
                      · have c3346 : r3300.1.toInt ≠ r3258.1.toInt := o_ne h3306
                        unfold J_X1_goOnDropping_172
                        refine ok_bind (k_X1_enterRoom L hN (a0 := a0) (x1 := r3258.1) k_a0 i3269) (fun r3347 hr3348 => ?_)
                        obtain ⟨i3349, ⟨u3352, v3353⟩, p3350, p3351⟩ := hr3348
                        have u3354 := kp_t u3277 u3352
                        have v3355 := v3353.trans v3278
                        have f3356 := ti_b (q_I r3347 1 3 a0)
                        have f3357 := ti_b (q_I r3347 1 4 a0)
                        exact ok_some (show CI ad h.1 δ0 r3347 ∧ (kp [(1, 3), (1, 4), (1, 5), (1, 6), (1, 8), (1, 13), (1, 14), (1, 15)] δ r3347 ∧ q_V r3347 = q_V δ) ∧ 0 ≤ (q_I r3347 1 3 a0).toInt ∧ (q_I r3347 1 4 a0).toInt ≤ (q_I δ 3 1 nu).toInt from ⟨i3349, ⟨kp_w (by decide) u3354, v3355⟩, by first | assumption | omega, by first | assumption | omega⟩)
              · have c3358 : (0 : Int) ≠ (0 : Int) := o_ne h3064
                unfold J_X1_goOnDropping_81
                refine ok_ite (fun h3359 => ?_) (fun h3359 => ?_)
                · have c3360 : (0 : Int) = (0 : Int) := o_eq h3359
                  unfold J_X1_goOnDropping_121
                  refine ok_bind (k_X1_findRoom L hN (a0 := a0) (x1 := (q_I δ 1 8 a0)) k_a0 hnu knu (show 0 ≤ (q_I δ 1 11 a0).toInt by first | assumption | omega) (show (q_I δ 1 11 a0).toInt ≤ (q_I δ 1 12 a0).toInt by first | assumption | omega) (show (q_I δ 1 12 a0).toInt ≤ (q_I δ 3 1 nu).toInt by first | assumption | omega) I) (fun r3361 hr3362 => ?_)
                  obtain ⟨i3363, ⟨u3369, v3370⟩, p3364, p3365, p3366, p3367, p3368⟩ := hr3362
                  have u3371 := kp_t kp_r u3369
                  have v3372 := v3370.trans rfl
                  have f3373 := bo_t p3364
                  have f3374 := ti_b (q_I r3361.2 1 13 a0)
                  have f3375 := ti_b (q_I r3361.2 1 14 a0)
                  have f3376 := ti_b r3361.1
                  have f3377 := ti_b r3361.1
                  refine ok_ite (fun h3378 => ?_) (fun h3378 => ?_)
                  · have c3379 : r3361.1.toInt = (0 : Int) := o_eq h3378
                    refine ok_bdv (fun d3380 e3381 => ?_)
                    have i3382 : CI ad h.1 δ0 d3380 := by rw [e3381]; exact cs_1_15 L i3363 k_a0 (show 0 ≤ (1 : Int) by omega) (show (1 : Int) ≤ 1 by omega)
                    have u3383 := kp_I u3371 e3381
                    have v3384 : q_V d3380 = q_V δ := (show q_V d3380 = q_V r3361.2 by rw [e3381]; rfl).trans v3372
                    have f3385 := ti_b (q_I d3380 1 3 a0)
                    have f3386 : (q_I d3380 1 3 a0).toInt = (q_I r3361.2 1 3 a0).toInt := congrArg Int32.toInt (by rw [e3381]; exact rI_o (by decide))
                    have f3387 := ti_b (q_I r3361.2 1 3 a0)
                    have f3388 : (q_I r3361.2 1 3 a0).toInt = (q_I δ 1 3 a0).toInt := congrArg Int32.toInt (u3369 1 3 a0 (by decide))
                    have f3389 := ti_b (q_I d3380 1 4 a0)
                    have f3390 : (q_I d3380 1 4 a0).toInt = (q_I r3361.2 1 4 a0).toInt := congrArg Int32.toInt (by rw [e3381]; exact rI_o (by decide))
                    have f3391 := ti_b (q_I r3361.2 1 4 a0)
                    have f3392 : (q_I r3361.2 1 4 a0).toInt = (q_I δ 1 4 a0).toInt := congrArg Int32.toInt (u3369 1 4 a0 (by decide))
                    exact ok_some (show CI ad h.1 δ0 d3380 ∧ (kp [(1, 3), (1, 4), (1, 5), (1, 6), (1, 8), (1, 13), (1, 14), (1, 15)] δ d3380 ∧ q_V d3380 = q_V δ) ∧ 0 ≤ (q_I d3380 1 3 a0).toInt ∧ (q_I d3380 1 4 a0).toInt ≤ (q_I δ 3 1 nu).toInt from ⟨i3382, ⟨kp_w (by decide) u3383, v3384⟩, by first | assumption | omega, by first | assumption | omega⟩)
                  · have c3393 : r3361.1.toInt ≠ (0 : Int) := o_ne h3378
                    have f3396 := cb_3_1 i3363 knu o4
                    have f3397 : (q_I r3361.2 3 1 nu).toInt = (q_I δ 3 1 nu).toInt := congrArg Int32.toInt (u3369 3 1 nu (by decide))
                    refine ok_bind (k_X1_valueAt L hN (a0 := a0) (x1 := (q_I r3361.2 1 13 a0)) k_a0 hnu knu (show 0 ≤ ((q_I r3361.2 1 13 a0)).toInt by first | assumption | omega) (show ((q_I r3361.2 1 13 a0)).toInt < (q_I r3361.2 3 1 nu).toInt by first | assumption | omega) i3363) (fun r3394 hr3395 => ?_)
                    have i3398 := hr3395
                    try rw [i3398]
                    have f3399 := ti_b r3394.1
                    refine ok_ite (fun h3400 => ?_) (fun h3400 => ?_)
                    · have c3401 : r3394.1.toInt = (q_I δ 1 8 a0).toInt := o_eq h3400
                      first | (have q3405 := te_subc (c := 1) (n := 1) rfl (q_I r3361.2 1 14 a0) (by omega) (by omega); obtain ⟨f3406, f3407, f3408⟩ := q3405) | (obtain ⟨q3405, f3406, f3407, f3408⟩ := ti_subc (c := 1) (n := 1) rfl (q_I r3361.2 1 14 a0))
                      refine ok_bind (k_X1_valueAt L hN (a0 := a0) (x1 := ((q_I r3361.2 1 14 a0) - (1 : Int32))) k_a0 hnu knu (show 0 ≤ (((q_I r3361.2 1 14 a0) - (1 : Int32))).toInt by first | assumption | omega) (show (((q_I r3361.2 1 14 a0) - (1 : Int32))).toInt < (q_I r3361.2 3 1 nu).toInt by first | assumption | omega) i3363) (fun r3402 hr3403 => ?_)
                      have i3409 := hr3403
                      try rw [i3409]
                      have f3410 := ti_b r3402.1
                      refine ok_ite (fun h3411 => ?_) (fun h3411 => ?_)
                      · have c3412 : r3402.1.toInt = (q_I δ 1 8 a0).toInt := o_eq h3411
                        refine ok_bind (k_X1_enterList L hN (a0 := a0) (x1 := (q_I δ 1 8 a0)) k_a0 i3363) (fun r3413 hr3414 => ?_)
                        obtain ⟨i3415, ⟨u3418, v3419⟩, p3416, p3417⟩ := hr3414
                        have u3420 := kp_t u3371 u3418
                        have v3421 := v3419.trans v3372
                        have f3422 := ti_b (q_I r3413 1 3 a0)
                        have f3423 := ti_b (q_I r3361.2 1 11 a0)
                        have f3424 : (q_I r3361.2 1 11 a0).toInt = (q_I δ 1 11 a0).toInt := congrArg Int32.toInt (u3369 1 11 a0 (by decide))
                        have f3425 := ti_b (q_I r3413 1 4 a0)
                        have f3426 := ti_b (q_I r3361.2 1 12 a0)
                        have f3427 : (q_I r3361.2 1 12 a0).toInt = (q_I δ 1 12 a0).toInt := congrArg Int32.toInt (u3369 1 12 a0 (by decide))
                        exact ok_some (show CI ad h.1 δ0 r3413 ∧ (kp [(1, 3), (1, 4), (1, 5), (1, 6), (1, 8), (1, 13), (1, 14), (1, 15)] δ r3413 ∧ q_V r3413 = q_V δ) ∧ 0 ≤ (q_I r3413 1 3 a0).toInt ∧ (q_I r3413 1 4 a0).toInt ≤ (q_I δ 3 1 nu).toInt from ⟨i3415, ⟨kp_w (by decide) u3420, v3421⟩, by first | assumption | omega, by first | assumption | omega⟩)
                      · have c3428 : r3402.1.toInt ≠ (q_I δ 1 8 a0).toInt := o_ne h3411
                        unfold J_X1_goOnDropping_172
                        refine ok_bind (k_X1_enterRoom L hN (a0 := a0) (x1 := (q_I δ 1 8 a0)) k_a0 i3363) (fun r3429 hr3430 => ?_)
                        obtain ⟨i3431, ⟨u3434, v3435⟩, p3432, p3433⟩ := hr3430
                        have u3436 := kp_t u3371 u3434
                        have v3437 := v3435.trans v3372
                        have f3438 := ti_b (q_I r3429 1 3 a0)
                        have f3439 := ti_b (q_I r3429 1 4 a0)
                        exact ok_some (show CI ad h.1 δ0 r3429 ∧ (kp [(1, 3), (1, 4), (1, 5), (1, 6), (1, 8), (1, 13), (1, 14), (1, 15)] δ r3429 ∧ q_V r3429 = q_V δ) ∧ 0 ≤ (q_I r3429 1 3 a0).toInt ∧ (q_I r3429 1 4 a0).toInt ≤ (q_I δ 3 1 nu).toInt from ⟨i3431, ⟨kp_w (by decide) u3436, v3437⟩, by first | assumption | omega, by first | assumption | omega⟩)
                    · have c3440 : r3394.1.toInt ≠ (q_I δ 1 8 a0).toInt := o_ne h3400
                      unfold J_X1_goOnDropping_172
                      refine ok_bind (k_X1_enterRoom L hN (a0 := a0) (x1 := (q_I δ 1 8 a0)) k_a0 i3363) (fun r3441 hr3442 => ?_)
                      obtain ⟨i3443, ⟨u3446, v3447⟩, p3444, p3445⟩ := hr3442
                      have u3448 := kp_t u3371 u3446
                      have v3449 := v3447.trans v3372
                      have f3450 := ti_b (q_I r3441 1 3 a0)
                      have f3451 := ti_b (q_I r3441 1 4 a0)
                      exact ok_some (show CI ad h.1 δ0 r3441 ∧ (kp [(1, 3), (1, 4), (1, 5), (1, 6), (1, 8), (1, 13), (1, 14), (1, 15)] δ r3441 ∧ q_V r3441 = q_V δ) ∧ 0 ≤ (q_I r3441 1 3 a0).toInt ∧ (q_I r3441 1 4 a0).toInt ≤ (q_I δ 3 1 nu).toInt from ⟨i3443, ⟨kp_w (by decide) u3448, v3449⟩, by first | assumption | omega, by first | assumption | omega⟩)
                · have c3452 : (0 : Int) ≠ (0 : Int) := o_ne h3359
                  refine ok_ite (fun h3453 => ?_) (fun h3453 => ?_)
                  · have c3454 : (q_I δ 1 8 a0).toInt = (q_I δ 1 9 a0).toInt := o_eq h3453
                    unfold J_X1_goOnDropping_118
                    refine ok_bind (k_X1_valueAt L hN (a0 := a0) (x1 := (q_I δ 1 11 a0)) k_a0 hnu knu (show 0 ≤ ((q_I δ 1 11 a0)).toInt by first | assumption | omega) (show ((q_I δ 1 11 a0)).toInt < (q_I δ 3 1 nu).toInt by first | assumption | omega) I) (fun r3455 hr3456 => ?_)
                    have i3457 := hr3456
                    try rw [i3457]
                    have f3458 := ti_b r3455.1
                    unfold J_X1_goOnDropping_121
                    refine ok_bind (k_X1_findRoom L hN (a0 := a0) (x1 := r3455.1) k_a0 hnu knu (show 0 ≤ (q_I δ 1 11 a0).toInt by first | assumption | omega) (show (q_I δ 1 11 a0).toInt ≤ (q_I δ 1 12 a0).toInt by first | assumption | omega) (show (q_I δ 1 12 a0).toInt ≤ (q_I δ 3 1 nu).toInt by first | assumption | omega) I) (fun r3459 hr3460 => ?_)
                    obtain ⟨i3461, ⟨u3467, v3468⟩, p3462, p3463, p3464, p3465, p3466⟩ := hr3460
                    have u3469 := kp_t kp_r u3467
                    have v3470 := v3468.trans rfl
                    have f3471 := bo_t p3462
                    have f3472 := ti_b (q_I r3459.2 1 13 a0)
                    have f3473 := ti_b (q_I r3459.2 1 14 a0)
                    have f3474 := ti_b r3459.1
                    have f3475 := ti_b r3459.1
                    refine ok_ite (fun h3476 => ?_) (fun h3476 => ?_)
                    · have c3477 : r3459.1.toInt = (0 : Int) := o_eq h3476
                      refine ok_bdv (fun d3478 e3479 => ?_)
                      have i3480 : CI ad h.1 δ0 d3478 := by rw [e3479]; exact cs_1_15 L i3461 k_a0 (show 0 ≤ (1 : Int) by omega) (show (1 : Int) ≤ 1 by omega)
                      have u3481 := kp_I u3469 e3479
                      have v3482 : q_V d3478 = q_V δ := (show q_V d3478 = q_V r3459.2 by rw [e3479]; rfl).trans v3470
                      have f3483 := ti_b (q_I d3478 1 3 a0)
                      have f3484 : (q_I d3478 1 3 a0).toInt = (q_I r3459.2 1 3 a0).toInt := congrArg Int32.toInt (by rw [e3479]; exact rI_o (by decide))
                      have f3485 := ti_b (q_I r3459.2 1 3 a0)
                      have f3486 : (q_I r3459.2 1 3 a0).toInt = (q_I δ 1 3 a0).toInt := congrArg Int32.toInt (u3467 1 3 a0 (by decide))
                      have f3487 := ti_b (q_I d3478 1 4 a0)
                      have f3488 : (q_I d3478 1 4 a0).toInt = (q_I r3459.2 1 4 a0).toInt := congrArg Int32.toInt (by rw [e3479]; exact rI_o (by decide))
                      have f3489 := ti_b (q_I r3459.2 1 4 a0)
                      have f3490 : (q_I r3459.2 1 4 a0).toInt = (q_I δ 1 4 a0).toInt := congrArg Int32.toInt (u3467 1 4 a0 (by decide))
                      exact ok_some (show CI ad h.1 δ0 d3478 ∧ (kp [(1, 3), (1, 4), (1, 5), (1, 6), (1, 8), (1, 13), (1, 14), (1, 15)] δ d3478 ∧ q_V d3478 = q_V δ) ∧ 0 ≤ (q_I d3478 1 3 a0).toInt ∧ (q_I d3478 1 4 a0).toInt ≤ (q_I δ 3 1 nu).toInt from ⟨i3480, ⟨kp_w (by decide) u3481, v3482⟩, by first | assumption | omega, by first | assumption | omega⟩)
                    · have c3491 : r3459.1.toInt ≠ (0 : Int) := o_ne h3476
                      have f3494 := cb_3_1 i3461 knu o4
                      have f3495 : (q_I r3459.2 3 1 nu).toInt = (q_I δ 3 1 nu).toInt := congrArg Int32.toInt (u3467 3 1 nu (by decide))
                      refine ok_bind (k_X1_valueAt L hN (a0 := a0) (x1 := (q_I r3459.2 1 13 a0)) k_a0 hnu knu (show 0 ≤ ((q_I r3459.2 1 13 a0)).toInt by first | assumption | omega) (show ((q_I r3459.2 1 13 a0)).toInt < (q_I r3459.2 3 1 nu).toInt by first | assumption | omega) i3461) (fun r3492 hr3493 => ?_)
                      have i3496 := hr3493
                      try rw [i3496]
                      have f3497 := ti_b r3492.1
                      refine ok_ite (fun h3498 => ?_) (fun h3498 => ?_)
                      · have c3499 : r3492.1.toInt = r3455.1.toInt := o_eq h3498
                        first | (have q3503 := te_subc (c := 1) (n := 1) rfl (q_I r3459.2 1 14 a0) (by omega) (by omega); obtain ⟨f3504, f3505, f3506⟩ := q3503) | (obtain ⟨q3503, f3504, f3505, f3506⟩ := ti_subc (c := 1) (n := 1) rfl (q_I r3459.2 1 14 a0))
                        refine ok_bind (k_X1_valueAt L hN (a0 := a0) (x1 := ((q_I r3459.2 1 14 a0) - (1 : Int32))) k_a0 hnu knu (show 0 ≤ (((q_I r3459.2 1 14 a0) - (1 : Int32))).toInt by first | assumption | omega) (show (((q_I r3459.2 1 14 a0) - (1 : Int32))).toInt < (q_I r3459.2 3 1 nu).toInt by first | assumption | omega) i3461) (fun r3500 hr3501 => ?_)
                        have i3507 := hr3501
                        try rw [i3507]
                        have f3508 := ti_b r3500.1
                        refine ok_ite (fun h3509 => ?_) (fun h3509 => ?_)
                        · have c3510 : r3500.1.toInt = r3455.1.toInt := o_eq h3509
                          refine ok_bind (k_X1_enterList L hN (a0 := a0) (x1 := r3455.1) k_a0 i3461) (fun r3511 hr3512 => ?_)
                          obtain ⟨i3513, ⟨u3516, v3517⟩, p3514, p3515⟩ := hr3512
                          have u3518 := kp_t u3469 u3516
                          have v3519 := v3517.trans v3470
                          have f3520 := ti_b (q_I r3511 1 3 a0)
                          have f3521 := ti_b (q_I r3459.2 1 11 a0)
                          have f3522 : (q_I r3459.2 1 11 a0).toInt = (q_I δ 1 11 a0).toInt := congrArg Int32.toInt (u3467 1 11 a0 (by decide))
                          have f3523 := ti_b (q_I r3511 1 4 a0)
                          have f3524 := ti_b (q_I r3459.2 1 12 a0)
                          have f3525 : (q_I r3459.2 1 12 a0).toInt = (q_I δ 1 12 a0).toInt := congrArg Int32.toInt (u3467 1 12 a0 (by decide))
                          exact ok_some (show CI ad h.1 δ0 r3511 ∧ (kp [(1, 3), (1, 4), (1, 5), (1, 6), (1, 8), (1, 13), (1, 14), (1, 15)] δ r3511 ∧ q_V r3511 = q_V δ) ∧ 0 ≤ (q_I r3511 1 3 a0).toInt ∧ (q_I r3511 1 4 a0).toInt ≤ (q_I δ 3 1 nu).toInt from ⟨i3513, ⟨kp_w (by decide) u3518, v3519⟩, by first | assumption | omega, by first | assumption | omega⟩)
                        · have c3526 : r3500.1.toInt ≠ r3455.1.toInt := o_ne h3509
                          unfold J_X1_goOnDropping_172
                          refine ok_bind (k_X1_enterRoom L hN (a0 := a0) (x1 := r3455.1) k_a0 i3461) (fun r3527 hr3528 => ?_)
                          obtain ⟨i3529, ⟨u3532, v3533⟩, p3530, p3531⟩ := hr3528
                          have u3534 := kp_t u3469 u3532
                          have v3535 := v3533.trans v3470
                          have f3536 := ti_b (q_I r3527 1 3 a0)
                          have f3537 := ti_b (q_I r3527 1 4 a0)
                          exact ok_some (show CI ad h.1 δ0 r3527 ∧ (kp [(1, 3), (1, 4), (1, 5), (1, 6), (1, 8), (1, 13), (1, 14), (1, 15)] δ r3527 ∧ q_V r3527 = q_V δ) ∧ 0 ≤ (q_I r3527 1 3 a0).toInt ∧ (q_I r3527 1 4 a0).toInt ≤ (q_I δ 3 1 nu).toInt from ⟨i3529, ⟨kp_w (by decide) u3534, v3535⟩, by first | assumption | omega, by first | assumption | omega⟩)
                      · have c3538 : r3492.1.toInt ≠ r3455.1.toInt := o_ne h3498
                        unfold J_X1_goOnDropping_172
                        refine ok_bind (k_X1_enterRoom L hN (a0 := a0) (x1 := r3455.1) k_a0 i3461) (fun r3539 hr3540 => ?_)
                        obtain ⟨i3541, ⟨u3544, v3545⟩, p3542, p3543⟩ := hr3540
                        have u3546 := kp_t u3469 u3544
                        have v3547 := v3545.trans v3470
                        have f3548 := ti_b (q_I r3539 1 3 a0)
                        have f3549 := ti_b (q_I r3539 1 4 a0)
                        exact ok_some (show CI ad h.1 δ0 r3539 ∧ (kp [(1, 3), (1, 4), (1, 5), (1, 6), (1, 8), (1, 13), (1, 14), (1, 15)] δ r3539 ∧ q_V r3539 = q_V δ) ∧ 0 ≤ (q_I r3539 1 3 a0).toInt ∧ (q_I r3539 1 4 a0).toInt ≤ (q_I δ 3 1 nu).toInt from ⟨i3541, ⟨kp_w (by decide) u3546, v3547⟩, by first | assumption | omega, by first | assumption | omega⟩)
                  · have c3550 : (q_I δ 1 8 a0).toInt ≠ (q_I δ 1 9 a0).toInt := o_ne h3453
                    unfold J_X1_goOnDropping_118
                    first | (have q3554 := te_subc (c := 1) (n := 1) rfl (q_I δ 1 12 a0) (by omega) (by omega); obtain ⟨f3555, f3556, f3557⟩ := q3554) | (obtain ⟨q3554, f3555, f3556, f3557⟩ := ti_subc (c := 1) (n := 1) rfl (q_I δ 1 12 a0))
                    refine ok_bind (k_X1_valueAt L hN (a0 := a0) (x1 := ((q_I δ 1 12 a0) - (1 : Int32))) k_a0 hnu knu (show 0 ≤ (((q_I δ 1 12 a0) - (1 : Int32))).toInt by first | assumption | omega) (show (((q_I δ 1 12 a0) - (1 : Int32))).toInt < (q_I δ 3 1 nu).toInt by first | assumption | omega) I) (fun r3551 hr3552 => ?_)
                    have i3558 := hr3552
                    try rw [i3558]
                    have f3559 := ti_b r3551.1
                    unfold J_X1_goOnDropping_121
                    refine ok_bind (k_X1_findRoom L hN (a0 := a0) (x1 := r3551.1) k_a0 hnu knu (show 0 ≤ (q_I δ 1 11 a0).toInt by first | assumption | omega) (show (q_I δ 1 11 a0).toInt ≤ (q_I δ 1 12 a0).toInt by first | assumption | omega) (show (q_I δ 1 12 a0).toInt ≤ (q_I δ 3 1 nu).toInt by first | assumption | omega) I) (fun r3560 hr3561 => ?_)
                    obtain ⟨i3562, ⟨u3568, v3569⟩, p3563, p3564, p3565, p3566, p3567⟩ := hr3561
                    have u3570 := kp_t kp_r u3568
                    have v3571 := v3569.trans rfl
                    have f3572 := bo_t p3563
                    have f3573 := ti_b (q_I r3560.2 1 13 a0)
                    have f3574 := ti_b (q_I r3560.2 1 14 a0)
                    have f3575 := ti_b r3560.1
                    have f3576 := ti_b r3560.1
                    refine ok_ite (fun h3577 => ?_) (fun h3577 => ?_)
                    · have c3578 : r3560.1.toInt = (0 : Int) := o_eq h3577
                      refine ok_bdv (fun d3579 e3580 => ?_)
                      have i3581 : CI ad h.1 δ0 d3579 := by rw [e3580]; exact cs_1_15 L i3562 k_a0 (show 0 ≤ (1 : Int) by omega) (show (1 : Int) ≤ 1 by omega)
                      have u3582 := kp_I u3570 e3580
                      have v3583 : q_V d3579 = q_V δ := (show q_V d3579 = q_V r3560.2 by rw [e3580]; rfl).trans v3571
                      have f3584 := ti_b (q_I d3579 1 3 a0)
                      have f3585 : (q_I d3579 1 3 a0).toInt = (q_I r3560.2 1 3 a0).toInt := congrArg Int32.toInt (by rw [e3580]; exact rI_o (by decide))
                      have f3586 := ti_b (q_I r3560.2 1 3 a0)
                      have f3587 : (q_I r3560.2 1 3 a0).toInt = (q_I δ 1 3 a0).toInt := congrArg Int32.toInt (u3568 1 3 a0 (by decide))
                      have f3588 := ti_b (q_I d3579 1 4 a0)
                      have f3589 : (q_I d3579 1 4 a0).toInt = (q_I r3560.2 1 4 a0).toInt := congrArg Int32.toInt (by rw [e3580]; exact rI_o (by decide))
                      have f3590 := ti_b (q_I r3560.2 1 4 a0)
                      have f3591 : (q_I r3560.2 1 4 a0).toInt = (q_I δ 1 4 a0).toInt := congrArg Int32.toInt (u3568 1 4 a0 (by decide))
                      exact ok_some (show CI ad h.1 δ0 d3579 ∧ (kp [(1, 3), (1, 4), (1, 5), (1, 6), (1, 8), (1, 13), (1, 14), (1, 15)] δ d3579 ∧ q_V d3579 = q_V δ) ∧ 0 ≤ (q_I d3579 1 3 a0).toInt ∧ (q_I d3579 1 4 a0).toInt ≤ (q_I δ 3 1 nu).toInt from ⟨i3581, ⟨kp_w (by decide) u3582, v3583⟩, by first | assumption | omega, by first | assumption | omega⟩)
                    · have c3592 : r3560.1.toInt ≠ (0 : Int) := o_ne h3577
                      have f3595 := cb_3_1 i3562 knu o4
                      have f3596 : (q_I r3560.2 3 1 nu).toInt = (q_I δ 3 1 nu).toInt := congrArg Int32.toInt (u3568 3 1 nu (by decide))
                      refine ok_bind (k_X1_valueAt L hN (a0 := a0) (x1 := (q_I r3560.2 1 13 a0)) k_a0 hnu knu (show 0 ≤ ((q_I r3560.2 1 13 a0)).toInt by first | assumption | omega) (show ((q_I r3560.2 1 13 a0)).toInt < (q_I r3560.2 3 1 nu).toInt by first | assumption | omega) i3562) (fun r3593 hr3594 => ?_)
                      have i3597 := hr3594
                      try rw [i3597]
                      have f3598 := ti_b r3593.1
                      refine ok_ite (fun h3599 => ?_) (fun h3599 => ?_)
                      · have c3600 : r3593.1.toInt = r3551.1.toInt := o_eq h3599
                        first | (have q3604 := te_subc (c := 1) (n := 1) rfl (q_I r3560.2 1 14 a0) (by omega) (by omega); obtain ⟨f3605, f3606, f3607⟩ := q3604) | (obtain ⟨q3604, f3605, f3606, f3607⟩ := ti_subc (c := 1) (n := 1) rfl (q_I r3560.2 1 14 a0))
                        refine ok_bind (k_X1_valueAt L hN (a0 := a0) (x1 := ((q_I r3560.2 1 14 a0) - (1 : Int32))) k_a0 hnu knu (show 0 ≤ (((q_I r3560.2 1 14 a0) - (1 : Int32))).toInt by first | assumption | omega) (show (((q_I r3560.2 1 14 a0) - (1 : Int32))).toInt < (q_I r3560.2 3 1 nu).toInt by first | assumption | omega) i3562) (fun r3601 hr3602 => ?_)
                        have i3608 := hr3602
                        try rw [i3608]
                        have f3609 := ti_b r3601.1
                        refine ok_ite (fun h3610 => ?_) (fun h3610 => ?_)
                        · have c3611 : r3601.1.toInt = r3551.1.toInt := o_eq h3610
                          refine ok_bind (k_X1_enterList L hN (a0 := a0) (x1 := r3551.1) k_a0 i3562) (fun r3612 hr3613 => ?_)
                          obtain ⟨i3614, ⟨u3617, v3618⟩, p3615, p3616⟩ := hr3613
                          have u3619 := kp_t u3570 u3617
                          have v3620 := v3618.trans v3571
                          have f3621 := ti_b (q_I r3612 1 3 a0)
                          have f3622 := ti_b (q_I r3560.2 1 11 a0)
                          have f3623 : (q_I r3560.2 1 11 a0).toInt = (q_I δ 1 11 a0).toInt := congrArg Int32.toInt (u3568 1 11 a0 (by decide))
                          have f3624 := ti_b (q_I r3612 1 4 a0)
                          have f3625 := ti_b (q_I r3560.2 1 12 a0)
                          have f3626 : (q_I r3560.2 1 12 a0).toInt = (q_I δ 1 12 a0).toInt := congrArg Int32.toInt (u3568 1 12 a0 (by decide))
                          exact ok_some (show CI ad h.1 δ0 r3612 ∧ (kp [(1, 3), (1, 4), (1, 5), (1, 6), (1, 8), (1, 13), (1, 14), (1, 15)] δ r3612 ∧ q_V r3612 = q_V δ) ∧ 0 ≤ (q_I r3612 1 3 a0).toInt ∧ (q_I r3612 1 4 a0).toInt ≤ (q_I δ 3 1 nu).toInt from ⟨i3614, ⟨kp_w (by decide) u3619, v3620⟩, by first | assumption | omega, by first | assumption | omega⟩)
                        · have c3627 : r3601.1.toInt ≠ r3551.1.toInt := o_ne h3610
                          unfold J_X1_goOnDropping_172
                          refine ok_bind (k_X1_enterRoom L hN (a0 := a0) (x1 := r3551.1) k_a0 i3562) (fun r3628 hr3629 => ?_)
                          obtain ⟨i3630, ⟨u3633, v3634⟩, p3631, p3632⟩ := hr3629
                          have u3635 := kp_t u3570 u3633
                          have v3636 := v3634.trans v3571
                          have f3637 := ti_b (q_I r3628 1 3 a0)
                          have f3638 := ti_b (q_I r3628 1 4 a0)
                          exact ok_some (show CI ad h.1 δ0 r3628 ∧ (kp [(1, 3), (1, 4), (1, 5), (1, 6), (1, 8), (1, 13), (1, 14), (1, 15)] δ r3628 ∧ q_V r3628 = q_V δ) ∧ 0 ≤ (q_I r3628 1 3 a0).toInt ∧ (q_I r3628 1 4 a0).toInt ≤ (q_I δ 3 1 nu).toInt from ⟨i3630, ⟨kp_w (by decide) u3635, v3636⟩, by first | assumption | omega, by first | assumption | omega⟩)
                      · have c3639 : r3593.1.toInt ≠ r3551.1.toInt := o_ne h3599
                        unfold J_X1_goOnDropping_172
                        refine ok_bind (k_X1_enterRoom L hN (a0 := a0) (x1 := r3551.1) k_a0 i3562) (fun r3640 hr3641 => ?_)
                        obtain ⟨i3642, ⟨u3645, v3646⟩, p3643, p3644⟩ := hr3641
                        have u3647 := kp_t u3570 u3645
                        have v3648 := v3646.trans v3571
                        have f3649 := ti_b (q_I r3640 1 3 a0)
                        have f3650 := ti_b (q_I r3640 1 4 a0)
                        exact ok_some (show CI ad h.1 δ0 r3640 ∧ (kp [(1, 3), (1, 4), (1, 5), (1, 6), (1, 8), (1, 13), (1, 14), (1, 15)] δ r3640 ∧ q_V r3640 = q_V δ) ∧ 0 ≤ (q_I r3640 1 3 a0).toInt ∧ (q_I r3640 1 4 a0).toInt ≤ (q_I δ 3 1 nu).toInt from ⟨i3642, ⟨kp_w (by decide) u3647, v3648⟩, by first | assumption | omega, by first | assumption | omega⟩)
            · have c3651 : (q_I δ 1 12 a0).toInt ≤ (q_I δ 1 11 a0).toInt := o_nlt h3062
              unfold J_X1_goOnDropping_65
              refine ok_bdv (fun d3652 e3653 => ?_)
              have i3654 : CI ad h.1 δ0 d3652 := by rw [e3653]; exact cs_1_15 L I k_a0 (show 0 ≤ (1 : Int) by omega) (show (1 : Int) ≤ 1 by omega)
              have u3655 := kp_I kp_r e3653
              have v3656 : q_V d3652 = q_V δ := (show q_V d3652 = q_V δ by rw [e3653]; rfl).trans rfl
              have f3657 := ti_b (q_I d3652 1 3 a0)
              have f3658 : (q_I d3652 1 3 a0).toInt = (q_I δ 1 3 a0).toInt := congrArg Int32.toInt (by rw [e3653]; exact rI_o (by decide))
              have f3659 := ti_b (q_I d3652 1 4 a0)
              have f3660 : (q_I d3652 1 4 a0).toInt = (q_I δ 1 4 a0).toInt := congrArg Int32.toInt (by rw [e3653]; exact rI_o (by decide))
              exact ok_some (show CI ad h.1 δ0 d3652 ∧ (kp [(1, 3), (1, 4), (1, 5), (1, 6), (1, 8), (1, 13), (1, 14), (1, 15)] δ d3652 ∧ q_V d3652 = q_V δ) ∧ 0 ≤ (q_I d3652 1 3 a0).toInt ∧ (q_I d3652 1 4 a0).toInt ≤ (q_I δ 3 1 nu).toInt from ⟨i3654, ⟨kp_w (by decide) u3655, v3656⟩, by first | assumption | omega, by first | assumption | omega⟩)
set_option maxHeartbeats 4000000 in
theorem k_X1_goOnAsking {ad : List Nat} {h : hp} (L : Lay TLx ad h) {δ0 : dp} {N : Nat} (hN : 10000000 ≤ N) {a0 : Nat} {nu : Nat} (k_a0 : q_K h.1 a0 = 1) (hnu : q_O h.1 1 1 a0 = some nu) (knu : q_K h.1 nu = 3) {δ : dp} (z0 : 0 ≤ (q_I δ 1 11 a0).toInt) (z1 : (q_I δ 1 11 a0).toInt ≤ (q_I δ 1 12 a0).toInt) (z2 : (q_I δ 1 12 a0).toInt ≤ (q_I δ 3 1 nu).toInt) (z3 : 0 ≤ (q_I δ 1 3 a0).toInt) (z4 : (q_I δ 1 4 a0).toInt ≤ (q_I δ 3 1 nu).toInt) (I : CI ad h.1 δ0 δ) : ok (D_X1_goOnAsking N h.1 a0 δ) (fun r => CI ad h.1 δ0 r ∧ (kp [(1, 3), (1, 4), (1, 6), (1, 8), (1, 13), (1, 14), (1, 15)] δ r ∧ q_V r = q_V δ) ∧ 0 ≤ (q_I r 1 3 a0).toInt ∧ (q_I r 1 4 a0).toInt ≤ (q_I δ 3 1 nu).toInt) := by
  unfold D_X1_goOnAsking
  have f1 := ti_b (q_I δ 1 11 a0)
  have f2 := ti_b (q_I δ 1 12 a0)
  obtain ⟨b3, o4, k5, ⟨n6, n7⟩, w8⟩ := gO_3_0 L knu
  have f9 := cb_3_1 I knu o4
  have f10 := ti_b (q_I δ 1 3 a0)
  have f11 := ti_b (q_I δ 1 4 a0)
  have f12 := ti_b (q_I δ 1 8 a0)
  have f13 := ti_b (q_I δ 1 9 a0)
  refine ok_ite (fun h14 => ?_) (fun h14 => ?_)
  · have c15 : (q_I δ 1 8 a0).toInt ≤ (q_I δ 1 9 a0).toInt := o_le h14
    unfold J_X1_goOnAsking_33
    refine ok_bdv (fun d16 e17 => ?_)
    have i18 : CI ad h.1 δ0 d16 := by rw [e17]; exact cs_1_15 L I k_a0 (show 0 ≤ (1 : Int) by omega) (show (1 : Int) ≤ 1 by omega)
    have u19 := kp_I kp_r e17
    have v20 : q_V d16 = q_V δ := (show q_V d16 = q_V δ by rw [e17]; rfl).trans rfl
    unfold J_X1_goOnAsking_49
    have f21 := ti_b (q_I d16 1 3 a0)
    have f22 : (q_I d16 1 3 a0).toInt = (q_I δ 1 3 a0).toInt := congrArg Int32.toInt (by rw [e17]; exact rI_o (by decide))
    have f23 := ti_b (q_I d16 1 4 a0)
    have f24 : (q_I d16 1 4 a0).toInt = (q_I δ 1 4 a0).toInt := congrArg Int32.toInt (by rw [e17]; exact rI_o (by decide))
    exact ok_some (show CI ad h.1 δ0 d16 ∧ (kp [(1, 3), (1, 4), (1, 6), (1, 8), (1, 13), (1, 14), (1, 15)] δ d16 ∧ q_V d16 = q_V δ) ∧ 0 ≤ (q_I d16 1 3 a0).toInt ∧ (q_I d16 1 4 a0).toInt ≤ (q_I δ 3 1 nu).toInt from ⟨i18, ⟨kp_w (by decide) u19, v20⟩, by first | assumption | omega, by first | assumption | omega⟩)
  · have c25 : (q_I δ 1 9 a0).toInt < (q_I δ 1 8 a0).toInt := o_nle h14
    have f26 := ti_b (q_I δ 1 10 a0)
    refine ok_ite (fun h27 => ?_) (fun h27 => ?_)
    · have c28 : (q_I δ 1 10 a0).toInt ≤ (q_I δ 1 8 a0).toInt := o_le h27
      unfold J_X1_goOnAsking_33
      refine ok_bdv (fun d29 e30 => ?_)
      have i31 : CI ad h.1 δ0 d29 := by rw [e30]; exact cs_1_15 L I k_a0 (show 0 ≤ (1 : Int) by omega) (show (1 : Int) ≤ 1 by omega)
      have u32 := kp_I kp_r e30
      have v33 : q_V d29 = q_V δ := (show q_V d29 = q_V δ by rw [e30]; rfl).trans rfl
      unfold J_X1_goOnAsking_49
      have f34 := ti_b (q_I d29 1 3 a0)
      have f35 : (q_I d29 1 3 a0).toInt = (q_I δ 1 3 a0).toInt := congrArg Int32.toInt (by rw [e30]; exact rI_o (by decide))
      have f36 := ti_b (q_I d29 1 4 a0)
      have f37 : (q_I d29 1 4 a0).toInt = (q_I δ 1 4 a0).toInt := congrArg Int32.toInt (by rw [e30]; exact rI_o (by decide))
      exact ok_some (show CI ad h.1 δ0 d29 ∧ (kp [(1, 3), (1, 4), (1, 6), (1, 8), (1, 13), (1, 14), (1, 15)] δ d29 ∧ q_V d29 = q_V δ) ∧ 0 ≤ (q_I d29 1 3 a0).toInt ∧ (q_I d29 1 4 a0).toInt ≤ (q_I δ 3 1 nu).toInt from ⟨i31, ⟨kp_w (by decide) u32, v33⟩, by first | assumption | omega, by first | assumption | omega⟩)
    · have c38 : (q_I δ 1 8 a0).toInt < (q_I δ 1 10 a0).toInt := o_nle h27
      refine ok_bind (k_X1_findRoom L hN (a0 := a0) (x1 := (q_I δ 1 8 a0)) k_a0 hnu knu (show 0 ≤ (q_I δ 1 11 a0).toInt by first | assumption | omega) (show (q_I δ 1 11 a0).toInt ≤ (q_I δ 1 12 a0).toInt by first | assumption | omega) (show (q_I δ 1 12 a0).toInt ≤ (q_I δ 3 1 nu).toInt by first | assumption | omega) I) (fun r39 hr40 => ?_)
      obtain ⟨i41, ⟨u47, v48⟩, p42, p43, p44, p45, p46⟩ := hr40
      have u49 := kp_t kp_r u47
      have v50 := v48.trans rfl
      have f51 := bo_t p42
      have f52 := ti_b (q_I r39.2 1 13 a0)
      have f53 := ti_b (q_I r39.2 1 14 a0)
      have f54 := ti_b r39.1
      have f55 := ti_b r39.1
      refine ok_ite (fun h56 => ?_) (fun h56 => ?_)
      · have c57 : r39.1.toInt = (0 : Int) := o_eq h56
        unfold J_X1_goOnAsking_33
        refine ok_bdv (fun d58 e59 => ?_)
        have i60 : CI ad h.1 δ0 d58 := by rw [e59]; exact cs_1_15 L i41 k_a0 (show 0 ≤ (1 : Int) by omega) (show (1 : Int) ≤ 1 by omega)
        have u61 := kp_I u49 e59
        have v62 : q_V d58 = q_V δ := (show q_V d58 = q_V r39.2 by rw [e59]; rfl).trans v50
        unfold J_X1_goOnAsking_49
        have f63 := ti_b (q_I d58 1 3 a0)
        have f64 : (q_I d58 1 3 a0).toInt = (q_I r39.2 1 3 a0).toInt := congrArg Int32.toInt (by rw [e59]; exact rI_o (by decide))
        have f65 := ti_b (q_I r39.2 1 3 a0)
        have f66 : (q_I r39.2 1 3 a0).toInt = (q_I δ 1 3 a0).toInt := congrArg Int32.toInt (u47 1 3 a0 (by decide))
        have f67 := ti_b (q_I d58 1 4 a0)
        have f68 : (q_I d58 1 4 a0).toInt = (q_I r39.2 1 4 a0).toInt := congrArg Int32.toInt (by rw [e59]; exact rI_o (by decide))
        have f69 := ti_b (q_I r39.2 1 4 a0)
        have f70 : (q_I r39.2 1 4 a0).toInt = (q_I δ 1 4 a0).toInt := congrArg Int32.toInt (u47 1 4 a0 (by decide))
        exact ok_some (show CI ad h.1 δ0 d58 ∧ (kp [(1, 3), (1, 4), (1, 6), (1, 8), (1, 13), (1, 14), (1, 15)] δ d58 ∧ q_V d58 = q_V δ) ∧ 0 ≤ (q_I d58 1 3 a0).toInt ∧ (q_I d58 1 4 a0).toInt ≤ (q_I δ 3 1 nu).toInt from ⟨i60, ⟨kp_w (by decide) u61, v62⟩, by first | assumption | omega, by first | assumption | omega⟩)
      · have c71 : r39.1.toInt ≠ (0 : Int) := o_ne h56
        refine ok_bind (k_X1_enterRoom L hN (a0 := a0) (x1 := (q_I r39.2 1 8 a0)) k_a0 i41) (fun r72 hr73 => ?_)
        obtain ⟨i74, ⟨u77, v78⟩, p75, p76⟩ := hr73
        have u79 := kp_t u49 u77
        have v80 := v78.trans v50
        have f81 := ti_b (q_I r72 1 3 a0)
        have f82 := ti_b (q_I r72 1 4 a0)
        unfold J_X1_goOnAsking_49
        exact ok_some (show CI ad h.1 δ0 r72 ∧ (kp [(1, 3), (1, 4), (1, 6), (1, 8), (1, 13), (1, 14), (1, 15)] δ r72 ∧ q_V r72 = q_V δ) ∧ 0 ≤ (q_I r72 1 3 a0).toInt ∧ (q_I r72 1 4 a0).toInt ≤ (q_I δ 3 1 nu).toInt from ⟨i74, ⟨kp_w (by decide) u79, v80⟩, by first | assumption | omega, by first | assumption | omega⟩)
set_option maxHeartbeats 4000000 in
theorem k_X1_goOnUp {ad : List Nat} {h : hp} (L : Lay TLx ad h) {δ0 : dp} {N : Nat} (hN : 10000000 ≤ N) {a0 : Nat} {nu : Nat} (k_a0 : q_K h.1 a0 = 1) (hnu : q_O h.1 1 1 a0 = some nu) (knu : q_K h.1 nu = 3) {δ : dp} (z0 : 0 ≤ (q_I δ 1 11 a0).toInt) (z1 : (q_I δ 1 11 a0).toInt ≤ (q_I δ 1 12 a0).toInt) (z2 : (q_I δ 1 12 a0).toInt ≤ (q_I δ 3 1 nu).toInt) (z3 : 0 ≤ (q_I δ 1 3 a0).toInt) (z4 : (q_I δ 1 4 a0).toInt ≤ (q_I δ 3 1 nu).toInt) (I : CI ad h.1 δ0 δ) : ok (D_X1_goOnUp N h.1 a0 δ) (fun r => CI ad h.1 δ0 r.2 ∧ (kp [(1, 3), (1, 4), (1, 5), (1, 6), (1, 8), (1, 13), (1, 14), (1, 15)] δ r.2 ∧ q_V r.2 = q_V δ) ∧ 0 ≤ (q_I r.2 1 3 a0).toInt ∧ (q_I r.2 1 4 a0).toInt ≤ (q_I δ 3 1 nu).toInt) := by
  unfold D_X1_goOnUp
  have f1 := ti_b (q_I δ 1 11 a0)
  have f2 := ti_b (q_I δ 1 12 a0)
  obtain ⟨b3, o4, k5, ⟨n6, n7⟩, w8⟩ := gO_3_0 L knu
  have f9 := cb_3_1 I knu o4
  have f10 := ti_b (q_I δ 1 3 a0)
  have f11 := ti_b (q_I δ 1 4 a0)
  have f12 := ti_b (q_I δ 1 8 a0)
  have f13 := ti_b (q_I δ 1 9 a0)
  refine ok_ite (fun h14 => ?_) (fun h14 => ?_)
  · have c15 : (q_I δ 1 8 a0).toInt < (q_I δ 1 9 a0).toInt := o_lt h14
    unfold J_X1_goOnUp_33
    refine ok_bdv (fun d16 e17 => ?_)
    have i18 : CI ad h.1 δ0 d16 := by rw [e17]; exact cs_1_15 L I k_a0 (show 0 ≤ (1 : Int) by omega) (show (1 : Int) ≤ 1 by omega)
    have u19 := kp_I kp_r e17
    have v20 : q_V d16 = q_V δ := (show q_V d16 = q_V δ by rw [e17]; rfl).trans rfl
    have f21 := ti_b (q_I d16 1 3 a0)
    have f22 : (q_I d16 1 3 a0).toInt = (q_I δ 1 3 a0).toInt := congrArg Int32.toInt (by rw [e17]; exact rI_o (by decide))
    have f23 := ti_b (q_I d16 1 4 a0)
    have f24 : (q_I d16 1 4 a0).toInt = (q_I δ 1 4 a0).toInt := congrArg Int32.toInt (by rw [e17]; exact rI_o (by decide))
    exact ok_some (show CI ad h.1 δ0 d16 ∧ (kp [(1, 3), (1, 4), (1, 5), (1, 6), (1, 8), (1, 13), (1, 14), (1, 15)] δ d16 ∧ q_V d16 = q_V δ) ∧ 0 ≤ (q_I d16 1 3 a0).toInt ∧ (q_I d16 1 4 a0).toInt ≤ (q_I δ 3 1 nu).toInt from ⟨i18, ⟨kp_w (by decide) u19, v20⟩, by first | assumption | omega, by first | assumption | omega⟩)
  · have c25 : (q_I δ 1 9 a0).toInt ≤ (q_I δ 1 8 a0).toInt := o_nlt h14
    have f26 := ti_b (q_I δ 1 10 a0)
    refine ok_ite (fun h27 => ?_) (fun h27 => ?_)
    · have c28 : (q_I δ 1 10 a0).toInt ≤ (q_I δ 1 8 a0).toInt := o_le h27
      unfold J_X1_goOnUp_33
      refine ok_bdv (fun d29 e30 => ?_)
      have i31 : CI ad h.1 δ0 d29 := by rw [e30]; exact cs_1_15 L I k_a0 (show 0 ≤ (1 : Int) by omega) (show (1 : Int) ≤ 1 by omega)
      have u32 := kp_I kp_r e30
      have v33 : q_V d29 = q_V δ := (show q_V d29 = q_V δ by rw [e30]; rfl).trans rfl
      have f34 := ti_b (q_I d29 1 3 a0)
      have f35 : (q_I d29 1 3 a0).toInt = (q_I δ 1 3 a0).toInt := congrArg Int32.toInt (by rw [e30]; exact rI_o (by decide))
      have f36 := ti_b (q_I d29 1 4 a0)
      have f37 : (q_I d29 1 4 a0).toInt = (q_I δ 1 4 a0).toInt := congrArg Int32.toInt (by rw [e30]; exact rI_o (by decide))
      exact ok_some (show CI ad h.1 δ0 d29 ∧ (kp [(1, 3), (1, 4), (1, 5), (1, 6), (1, 8), (1, 13), (1, 14), (1, 15)] δ d29 ∧ q_V d29 = q_V δ) ∧ 0 ≤ (q_I d29 1 3 a0).toInt ∧ (q_I d29 1 4 a0).toInt ≤ (q_I δ 3 1 nu).toInt from ⟨i31, ⟨kp_w (by decide) u32, v33⟩, by first | assumption | omega, by first | assumption | omega⟩)
    · have c38 : (q_I δ 1 8 a0).toInt < (q_I δ 1 10 a0).toInt := o_nle h27
      refine ok_ite (fun h39 => ?_) (fun h39 => ?_)
      · have c40 : (q_I δ 1 11 a0).toInt < (q_I δ 1 12 a0).toInt := o_lt h39
        refine ok_bind (k_X1_findRoom L hN (a0 := a0) (x1 := (q_I δ 1 8 a0)) k_a0 hnu knu (show 0 ≤ (q_I δ 1 11 a0).toInt by first | assumption | omega) (show (q_I δ 1 11 a0).toInt ≤ (q_I δ 1 12 a0).toInt by first | assumption | omega) (show (q_I δ 1 12 a0).toInt ≤ (q_I δ 3 1 nu).toInt by first | assumption | omega) I) (fun r41 hr42 => ?_)
        obtain ⟨i43, ⟨u49, v50⟩, p44, p45, p46, p47, p48⟩ := hr42
        have u51 := kp_t kp_r u49
        have v52 := v50.trans rfl
        have f53 := bo_t p44
        have f54 := ti_b (q_I r41.2 1 13 a0)
        have f55 := ti_b (q_I r41.2 1 14 a0)
        have f56 := ti_b r41.1
        have f57 := ti_b r41.1
        refine ok_ite (fun h58 => ?_) (fun h58 => ?_)
        · have c59 : r41.1.toInt = (0 : Int) := o_eq h58
          unfold J_X1_goOnUp_82
          have f62 := ti_b (q_I r41.2 1 12 a0)
          have f63 : (q_I r41.2 1 12 a0).toInt = (q_I δ 1 12 a0).toInt := congrArg Int32.toInt (u49 1 12 a0 (by decide))
          first | (have q65 := te_subc (c := 1) (n := 1) rfl (q_I r41.2 1 12 a0) (by omega) (by omega); obtain ⟨f66, f67, f68⟩ := q65) | (obtain ⟨q65, f66, f67, f68⟩ := ti_subc (c := 1) (n := 1) rfl (q_I r41.2 1 12 a0))
          have f69 := cb_3_1 i43 knu o4
          have f70 : (q_I r41.2 3 1 nu).toInt = (q_I δ 3 1 nu).toInt := congrArg Int32.toInt (u49 3 1 nu (by decide))
          refine ok_bind (k_X1_valueAt L hN (a0 := a0) (x1 := ((q_I r41.2 1 12 a0) - (1 : Int32))) k_a0 hnu knu (show 0 ≤ (((q_I r41.2 1 12 a0) - (1 : Int32))).toInt by first | assumption | omega) (show (((q_I r41.2 1 12 a0) - (1 : Int32))).toInt < (q_I r41.2 3 1 nu).toInt by first | assumption | omega) i43) (fun r60 hr61 => ?_)
          have i71 := hr61
          try rw [i71]
          have f72 := ti_b r60.1
          have f73 := ti_b (r60.1 >>> ((q_I r41.2 1 7 a0) &&& 31))
          have f74 := ti_b ((q_I r41.2 1 8 a0) >>> ((q_I r41.2 1 7 a0) &&& 31))
          refine ok_ite (fun h75 => ?_) (fun h75 => ?_)
          · have c76 : (r60.1 >>> ((q_I r41.2 1 7 a0) &&& 31)).toInt ≤ ((q_I r41.2 1 8 a0) >>> ((q_I r41.2 1 7 a0) &&& 31)).toInt := o_le h75
            unfold J_X1_goOnUp_112
            refine ok_bind (k_X1_enterList L hN (a0 := a0) (x1 := (q_I r41.2 1 8 a0)) k_a0 i43) (fun r77 hr78 => ?_)
            obtain ⟨i79, ⟨u82, v83⟩, p80, p81⟩ := hr78
            have u84 := kp_t u51 u82
            have v85 := v83.trans v52
            have f86 := ti_b (q_I r77 1 3 a0)
            have f87 := ti_b (q_I r41.2 1 11 a0)
            have f88 : (q_I r41.2 1 11 a0).toInt = (q_I δ 1 11 a0).toInt := congrArg Int32.toInt (u49 1 11 a0 (by decide))
            have f89 := ti_b (q_I r77 1 4 a0)
            exact ok_some (show CI ad h.1 δ0 r77 ∧ (kp [(1, 3), (1, 4), (1, 5), (1, 6), (1, 8), (1, 13), (1, 14), (1, 15)] δ r77 ∧ q_V r77 = q_V δ) ∧ 0 ≤ (q_I r77 1 3 a0).toInt ∧ (q_I r77 1 4 a0).toInt ≤ (q_I δ 3 1 nu).toInt from ⟨i79, ⟨kp_w (by decide) u84, v85⟩, by first | assumption | omega, by first | assumption | omega⟩)
          · have c90 : ((q_I r41.2 1 8 a0) >>> ((q_I r41.2 1 7 a0) &&& 31)).toInt < (r60.1 >>> ((q_I r41.2 1 7 a0) &&& 31)).toInt := o_nle h75
            refine ok_biv (fun vx91 e92 => ?_)
            first | (have q93 := te_cadd (c := 0) (n := 0) rfl (1 : Int32) (by omega) (by omega); rw [← e92] at q93; obtain ⟨f94, f95, f96⟩ := q93) | (obtain ⟨q93, f94, f95, f96⟩ : ∃ q : Int, vx91.toInt = (0 : Int) + (1 : Int) + 4294967296 * q ∧ -2147483648 ≤ vx91.toInt ∧ vx91.toInt ≤ 2147483647 := by rw [e92]; exact ti_cadd (c := 0) (n := 0) rfl (1 : Int32))
            unfold J_X1_goOnUp_112
            refine ok_bind (k_X1_enterList L hN (a0 := a0) (x1 := (q_I r41.2 1 8 a0)) k_a0 i43) (fun r97 hr98 => ?_)
            obtain ⟨i99, ⟨u102, v103⟩, p100, p101⟩ := hr98
            have u104 := kp_t u51 u102
            have v105 := v103.trans v52
            have f106 := ti_b (q_I r97 1 3 a0)
            have f107 := ti_b (q_I r41.2 1 11 a0)
            have f108 : (q_I r41.2 1 11 a0).toInt = (q_I δ 1 11 a0).toInt := congrArg Int32.toInt (u49 1 11 a0 (by decide))
            have f109 := ti_b (q_I r97 1 4 a0)
            exact ok_some (show CI ad h.1 δ0 r97 ∧ (kp [(1, 3), (1, 4), (1, 5), (1, 6), (1, 8), (1, 13), (1, 14), (1, 15)] δ r97 ∧ q_V r97 = q_V δ) ∧ 0 ≤ (q_I r97 1 3 a0).toInt ∧ (q_I r97 1 4 a0).toInt ≤ (q_I δ 3 1 nu).toInt from ⟨i99, ⟨kp_w (by decide) u104, v105⟩, by first | assumption | omega, by first | assumption | omega⟩)
        · have c110 : r41.1.toInt ≠ (0 : Int) := o_ne h58
          first | (have q114 := te_subc (c := 1) (n := 1) rfl (q_I r41.2 1 14 a0) (by omega) (by omega); obtain ⟨f115, f116, f117⟩ := q114) | (obtain ⟨q114, f115, f116, f117⟩ := ti_subc (c := 1) (n := 1) rfl (q_I r41.2 1 14 a0))
          have f118 := cb_3_1 i43 knu o4
          have f119 : (q_I r41.2 3 1 nu).toInt = (q_I δ 3 1 nu).toInt := congrArg Int32.toInt (u49 3 1 nu (by decide))
          refine ok_bind (k_X1_valueAt L hN (a0 := a0) (x1 := ((q_I r41.2 1 14 a0) - (1 : Int32))) k_a0 hnu knu (show 0 ≤ (((q_I r41.2 1 14 a0) - (1 : Int32))).toInt by first | assumption | omega) (show (((q_I r41.2 1 14 a0) - (1 : Int32))).toInt < (q_I r41.2 3 1 nu).toInt by first | assumption | omega) i43) (fun r111 hr112 => ?_)
          have i120 := hr112
          try rw [i120]
          have f121 := ti_b r111.1
          have f122 := ti_b (q_I r41.2 1 8 a0)
          have f123 : (q_I r41.2 1 8 a0).toInt = (q_I δ 1 8 a0).toInt := congrArg Int32.toInt (u49 1 8 a0 (by decide))
          refine ok_ite (fun h124 => ?_) (fun h124 => ?_)
          · have c125 : r111.1.toInt ≤ (q_I r41.2 1 8 a0).toInt := o_le h124
            unfold J_X1_goOnUp_82
            have f128 := ti_b (q_I r41.2 1 12 a0)
            have f129 : (q_I r41.2 1 12 a0).toInt = (q_I δ 1 12 a0).toInt := congrArg Int32.toInt (u49 1 12 a0 (by decide))
            first | (have q131 := te_subc (c := 1) (n := 1) rfl (q_I r41.2 1 12 a0) (by omega) (by omega); obtain ⟨f132, f133, f134⟩ := q131) | (obtain ⟨q131, f132, f133, f134⟩ := ti_subc (c := 1) (n := 1) rfl (q_I r41.2 1 12 a0))
            refine ok_bind (k_X1_valueAt L hN (a0 := a0) (x1 := ((q_I r41.2 1 12 a0) - (1 : Int32))) k_a0 hnu knu (show 0 ≤ (((q_I r41.2 1 12 a0) - (1 : Int32))).toInt by first | assumption | omega) (show (((q_I r41.2 1 12 a0) - (1 : Int32))).toInt < (q_I r41.2 3 1 nu).toInt by first | assumption | omega) i43) (fun r126 hr127 => ?_)
            have i135 := hr127
            try rw [i135]
            have f136 := ti_b r126.1
            have f137 := ti_b (r126.1 >>> ((q_I r41.2 1 7 a0) &&& 31))
            have f138 := ti_b ((q_I r41.2 1 8 a0) >>> ((q_I r41.2 1 7 a0) &&& 31))
            refine ok_ite (fun h139 => ?_) (fun h139 => ?_)
            · have c140 : (r126.1 >>> ((q_I r41.2 1 7 a0) &&& 31)).toInt ≤ ((q_I r41.2 1 8 a0) >>> ((q_I r41.2 1 7 a0) &&& 31)).toInt := o_le h139
              unfold J_X1_goOnUp_112
              refine ok_bind (k_X1_enterList L hN (a0 := a0) (x1 := (q_I r41.2 1 8 a0)) k_a0 i43) (fun r141 hr142 => ?_)
              obtain ⟨i143, ⟨u146, v147⟩, p144, p145⟩ := hr142
              have u148 := kp_t u51 u146
              have v149 := v147.trans v52
              have f150 := ti_b (q_I r141 1 3 a0)
              have f151 := ti_b (q_I r41.2 1 11 a0)
              have f152 : (q_I r41.2 1 11 a0).toInt = (q_I δ 1 11 a0).toInt := congrArg Int32.toInt (u49 1 11 a0 (by decide))
              have f153 := ti_b (q_I r141 1 4 a0)
              exact ok_some (show CI ad h.1 δ0 r141 ∧ (kp [(1, 3), (1, 4), (1, 5), (1, 6), (1, 8), (1, 13), (1, 14), (1, 15)] δ r141 ∧ q_V r141 = q_V δ) ∧ 0 ≤ (q_I r141 1 3 a0).toInt ∧ (q_I r141 1 4 a0).toInt ≤ (q_I δ 3 1 nu).toInt from ⟨i143, ⟨kp_w (by decide) u148, v149⟩, by first | assumption | omega, by first | assumption | omega⟩)
            · have c154 : ((q_I r41.2 1 8 a0) >>> ((q_I r41.2 1 7 a0) &&& 31)).toInt < (r126.1 >>> ((q_I r41.2 1 7 a0) &&& 31)).toInt := o_nle h139
              refine ok_biv (fun vx155 e156 => ?_)
              first | (have q157 := te_cadd (c := 1) (n := 1) rfl (1 : Int32) (by omega) (by omega); rw [← e156] at q157; obtain ⟨f158, f159, f160⟩ := q157) | (obtain ⟨q157, f158, f159, f160⟩ : ∃ q : Int, vx155.toInt = (1 : Int) + (1 : Int) + 4294967296 * q ∧ -2147483648 ≤ vx155.toInt ∧ vx155.toInt ≤ 2147483647 := by rw [e156]; exact ti_cadd (c := 1) (n := 1) rfl (1 : Int32))
              unfold J_X1_goOnUp_112
              refine ok_bind (k_X1_enterList L hN (a0 := a0) (x1 := (q_I r41.2 1 8 a0)) k_a0 i43) (fun r161 hr162 => ?_)
              obtain ⟨i163, ⟨u166, v167⟩, p164, p165⟩ := hr162
              have u168 := kp_t u51 u166
              have v169 := v167.trans v52
              have f170 := ti_b (q_I r161 1 3 a0)
              have f171 := ti_b (q_I r41.2 1 11 a0)
              have f172 : (q_I r41.2 1 11 a0).toInt = (q_I δ 1 11 a0).toInt := congrArg Int32.toInt (u49 1 11 a0 (by decide))
              have f173 := ti_b (q_I r161 1 4 a0)
              exact ok_some (show CI ad h.1 δ0 r161 ∧ (kp [(1, 3), (1, 4), (1, 5), (1, 6), (1, 8), (1, 13), (1, 14), (1, 15)] δ r161 ∧ q_V r161 = q_V δ) ∧ 0 ≤ (q_I r161 1 3 a0).toInt ∧ (q_I r161 1 4 a0).toInt ≤ (q_I δ 3 1 nu).toInt from ⟨i163, ⟨kp_w (by decide) u168, v169⟩, by first | assumption | omega, by first | assumption | omega⟩)
          · have c174 : (q_I r41.2 1 8 a0).toInt < r111.1.toInt := o_nle h124
            refine ok_bind (k_X1_enterRoom L hN (a0 := a0) (x1 := (q_I r41.2 1 8 a0)) k_a0 i43) (fun r175 hr176 => ?_)
            obtain ⟨i177, ⟨u180, v181⟩, p178, p179⟩ := hr176
            have u182 := kp_t u51 u180
            have v183 := v181.trans v52
            have f184 := ti_b (q_I r175 1 3 a0)
            have f185 := ti_b (q_I r175 1 4 a0)
            exact ok_some (show CI ad h.1 δ0 r175 ∧ (kp [(1, 3), (1, 4), (1, 5), (1, 6), (1, 8), (1, 13), (1, 14), (1, 15)] δ r175 ∧ q_V r175 = q_V δ) ∧ 0 ≤ (q_I r175 1 3 a0).toInt ∧ (q_I r175 1 4 a0).toInt ≤ (q_I δ 3 1 nu).toInt from ⟨i177, ⟨kp_w (by decide) u182, v183⟩, by first | assumption | omega, by first | assumption | omega⟩)
      · have c186 : (q_I δ 1 12 a0).toInt ≤ (q_I δ 1 11 a0).toInt := o_nlt h39
        unfold J_X1_goOnUp_33
        refine ok_bdv (fun d187 e188 => ?_)
        have i189 : CI ad h.1 δ0 d187 := by rw [e188]; exact cs_1_15 L I k_a0 (show 0 ≤ (1 : Int) by omega) (show (1 : Int) ≤ 1 by omega)
        have u190 := kp_I kp_r e188
        have v191 : q_V d187 = q_V δ := (show q_V d187 = q_V δ by rw [e188]; rfl).trans rfl
        have f192 := ti_b (q_I d187 1 3 a0)
        have f193 : (q_I d187 1 3 a0).toInt = (q_I δ 1 3 a0).toInt := congrArg Int32.toInt (by rw [e188]; exact rI_o (by decide))
        have f194 := ti_b (q_I d187 1 4 a0)
        have f195 : (q_I d187 1 4 a0).toInt = (q_I δ 1 4 a0).toInt := congrArg Int32.toInt (by rw [e188]; exact rI_o (by decide))
        exact ok_some (show CI ad h.1 δ0 d187 ∧ (kp [(1, 3), (1, 4), (1, 5), (1, 6), (1, 8), (1, 13), (1, 14), (1, 15)] δ d187 ∧ q_V d187 = q_V δ) ∧ 0 ≤ (q_I d187 1 3 a0).toInt ∧ (q_I d187 1 4 a0).toInt ≤ (q_I δ 3 1 nu).toInt from ⟨i189, ⟨kp_w (by decide) u190, v191⟩, by first | assumption | omega, by first | assumption | omega⟩)
set_option maxHeartbeats 4000000 in
theorem k_X1_goOnDown {ad : List Nat} {h : hp} (L : Lay TLx ad h) {δ0 : dp} {N : Nat} (hN : 10000000 ≤ N) {a0 : Nat} {nu : Nat} (k_a0 : q_K h.1 a0 = 1) (hnu : q_O h.1 1 1 a0 = some nu) (knu : q_K h.1 nu = 3) {δ : dp} (z0 : 0 ≤ (q_I δ 1 11 a0).toInt) (z1 : (q_I δ 1 11 a0).toInt ≤ (q_I δ 1 12 a0).toInt) (z2 : (q_I δ 1 12 a0).toInt ≤ (q_I δ 3 1 nu).toInt) (z3 : 0 ≤ (q_I δ 1 3 a0).toInt) (z4 : (q_I δ 1 4 a0).toInt ≤ (q_I δ 3 1 nu).toInt) (I : CI ad h.1 δ0 δ) : ok (D_X1_goOnDown N h.1 a0 δ) (fun r => CI ad h.1 δ0 r.2 ∧ (kp [(1, 3), (1, 4), (1, 5), (1, 6), (1, 8), (1, 13), (1, 14), (1, 15)] δ r.2 ∧ q_V r.2 = q_V δ) ∧ 0 ≤ (q_I r.2 1 3 a0).toInt ∧ (q_I r.2 1 4 a0).toInt ≤ (q_I δ 3 1 nu).toInt) := by
  unfold D_X1_goOnDown
  have f1 := ti_b (q_I δ 1 11 a0)
  have f2 := ti_b (q_I δ 1 12 a0)
  obtain ⟨b3, o4, k5, ⟨n6, n7⟩, w8⟩ := gO_3_0 L knu
  have f9 := cb_3_1 I knu o4
  have f10 := ti_b (q_I δ 1 3 a0)
  have f11 := ti_b (q_I δ 1 4 a0)
  have f12 := ti_b (q_I δ 1 10 a0)
  have f13 := ti_b (q_I δ 1 8 a0)
  refine ok_ite (fun h14 => ?_) (fun h14 => ?_)
  · have c15 : (q_I δ 1 10 a0).toInt < (q_I δ 1 8 a0).toInt := o_lt h14
    unfold J_X1_goOnDown_33
    refine ok_bdv (fun d16 e17 => ?_)
    have i18 : CI ad h.1 δ0 d16 := by rw [e17]; exact cs_1_15 L I k_a0 (show 0 ≤ (1 : Int) by omega) (show (1 : Int) ≤ 1 by omega)
    have u19 := kp_I kp_r e17
    have v20 : q_V d16 = q_V δ := (show q_V d16 = q_V δ by rw [e17]; rfl).trans rfl
    have f21 := ti_b (q_I d16 1 3 a0)
    have f22 : (q_I d16 1 3 a0).toInt = (q_I δ 1 3 a0).toInt := congrArg Int32.toInt (by rw [e17]; exact rI_o (by decide))
    have f23 := ti_b (q_I d16 1 4 a0)
    have f24 : (q_I d16 1 4 a0).toInt = (q_I δ 1 4 a0).toInt := congrArg Int32.toInt (by rw [e17]; exact rI_o (by decide))
    exact ok_some (show CI ad h.1 δ0 d16 ∧ (kp [(1, 3), (1, 4), (1, 5), (1, 6), (1, 8), (1, 13), (1, 14), (1, 15)] δ d16 ∧ q_V d16 = q_V δ) ∧ 0 ≤ (q_I d16 1 3 a0).toInt ∧ (q_I d16 1 4 a0).toInt ≤ (q_I δ 3 1 nu).toInt from ⟨i18, ⟨kp_w (by decide) u19, v20⟩, by first | assumption | omega, by first | assumption | omega⟩)
  · have c25 : (q_I δ 1 8 a0).toInt ≤ (q_I δ 1 10 a0).toInt := o_nlt h14
    have f26 := ti_b (q_I δ 1 9 a0)
    refine ok_ite (fun h27 => ?_) (fun h27 => ?_)
    · have c28 : (q_I δ 1 8 a0).toInt ≤ (q_I δ 1 9 a0).toInt := o_le h27
      unfold J_X1_goOnDown_33
      refine ok_bdv (fun d29 e30 => ?_)
      have i31 : CI ad h.1 δ0 d29 := by rw [e30]; exact cs_1_15 L I k_a0 (show 0 ≤ (1 : Int) by omega) (show (1 : Int) ≤ 1 by omega)
      have u32 := kp_I kp_r e30
      have v33 : q_V d29 = q_V δ := (show q_V d29 = q_V δ by rw [e30]; rfl).trans rfl
      have f34 := ti_b (q_I d29 1 3 a0)
      have f35 : (q_I d29 1 3 a0).toInt = (q_I δ 1 3 a0).toInt := congrArg Int32.toInt (by rw [e30]; exact rI_o (by decide))
      have f36 := ti_b (q_I d29 1 4 a0)
      have f37 : (q_I d29 1 4 a0).toInt = (q_I δ 1 4 a0).toInt := congrArg Int32.toInt (by rw [e30]; exact rI_o (by decide))
      exact ok_some (show CI ad h.1 δ0 d29 ∧ (kp [(1, 3), (1, 4), (1, 5), (1, 6), (1, 8), (1, 13), (1, 14), (1, 15)] δ d29 ∧ q_V d29 = q_V δ) ∧ 0 ≤ (q_I d29 1 3 a0).toInt ∧ (q_I d29 1 4 a0).toInt ≤ (q_I δ 3 1 nu).toInt from ⟨i31, ⟨kp_w (by decide) u32, v33⟩, by first | assumption | omega, by first | assumption | omega⟩)
    · have c38 : (q_I δ 1 9 a0).toInt < (q_I δ 1 8 a0).toInt := o_nle h27
      refine ok_ite (fun h39 => ?_) (fun h39 => ?_)
      · have c40 : (q_I δ 1 11 a0).toInt < (q_I δ 1 12 a0).toInt := o_lt h39
        refine ok_bind (k_X1_findRoom L hN (a0 := a0) (x1 := (q_I δ 1 8 a0)) k_a0 hnu knu (show 0 ≤ (q_I δ 1 11 a0).toInt by first | assumption | omega) (show (q_I δ 1 11 a0).toInt ≤ (q_I δ 1 12 a0).toInt by first | assumption | omega) (show (q_I δ 1 12 a0).toInt ≤ (q_I δ 3 1 nu).toInt by first | assumption | omega) I) (fun r41 hr42 => ?_)
        obtain ⟨i43, ⟨u49, v50⟩, p44, p45, p46, p47, p48⟩ := hr42
        have u51 := kp_t kp_r u49
        have v52 := v50.trans rfl
        have f53 := bo_t p44
        have f54 := ti_b (q_I r41.2 1 13 a0)
        have f55 := ti_b (q_I r41.2 1 14 a0)
        have f56 := ti_b r41.1
        have f57 := ti_b r41.1
        refine ok_ite (fun h58 => ?_) (fun h58 => ?_)
        · have c59 : r41.1.toInt = (0 : Int) := o_eq h58
          unfold J_X1_goOnDown_80
          have f62 := ti_b (q_I r41.2 1 11 a0)
          have f63 : (q_I r41.2 1 11 a0).toInt = (q_I δ 1 11 a0).toInt := congrArg Int32.toInt (u49 1 11 a0 (by decide))
          have f64 := cb_3_1 i43 knu o4
          have f65 : (q_I r41.2 3 1 nu).toInt = (q_I δ 3 1 nu).toInt := congrArg Int32.toInt (u49 3 1 nu (by decide))
          refine ok_bind (k_X1_valueAt L hN (a0 := a0) (x1 := (q_I r41.2 1 11 a0)) k_a0 hnu knu (show 0 ≤ ((q_I r41.2 1 11 a0)).toInt by first | assumption | omega) (show ((q_I r41.2 1 11 a0)).toInt < (q_I r41.2 3 1 nu).toInt by first | assumption | omega) i43) (fun r60 hr61 => ?_)
          have i66 := hr61
          try rw [i66]
          have f67 := ti_b r60.1
          have f68 := ti_b ((q_I r41.2 1 8 a0) >>> ((q_I r41.2 1 7 a0) &&& 31))
          have f69 := ti_b (r60.1 >>> ((q_I r41.2 1 7 a0) &&& 31))
          refine ok_ite (fun h70 => ?_) (fun h70 => ?_)
          · have c71 : ((q_I r41.2 1 8 a0) >>> ((q_I r41.2 1 7 a0) &&& 31)).toInt ≤ (r60.1 >>> ((q_I r41.2 1 7 a0) &&& 31)).toInt := o_le h70
            unfold J_X1_goOnDown_108
            refine ok_bind (k_X1_enterList L hN (a0 := a0) (x1 := (q_I r41.2 1 8 a0)) k_a0 i43) (fun r72 hr73 => ?_)
            obtain ⟨i74, ⟨u77, v78⟩, p75, p76⟩ := hr73
            have u79 := kp_t u51 u77
            have v80 := v78.trans v52
            have f81 := ti_b (q_I r72 1 3 a0)
            have f82 := ti_b (q_I r72 1 4 a0)
            have f83 := ti_b (q_I r41.2 1 12 a0)
            have f84 : (q_I r41.2 1 12 a0).toInt = (q_I δ 1 12 a0).toInt := congrArg Int32.toInt (u49 1 12 a0 (by decide))
            exact ok_some (show CI ad h.1 δ0 r72 ∧ (kp [(1, 3), (1, 4), (1, 5), (1, 6), (1, 8), (1, 13), (1, 14), (1, 15)] δ r72 ∧ q_V r72 = q_V δ) ∧ 0 ≤ (q_I r72 1 3 a0).toInt ∧ (q_I r72 1 4 a0).toInt ≤ (q_I δ 3 1 nu).toInt from ⟨i74, ⟨kp_w (by decide) u79, v80⟩, by first | assumption | omega, by first | assumption | omega⟩)
          · have c85 : (r60.1 >>> ((q_I r41.2 1 7 a0) &&& 31)).toInt < ((q_I r41.2 1 8 a0) >>> ((q_I r41.2 1 7 a0) &&& 31)).toInt := o_nle h70
            refine ok_biv (fun vx86 e87 => ?_)
            first | (have q88 := te_cadd (c := 0) (n := 0) rfl (1 : Int32) (by omega) (by omega); rw [← e87] at q88; obtain ⟨f89, f90, f91⟩ := q88) | (obtain ⟨q88, f89, f90, f91⟩ : ∃ q : Int, vx86.toInt = (0 : Int) + (1 : Int) + 4294967296 * q ∧ -2147483648 ≤ vx86.toInt ∧ vx86.toInt ≤ 2147483647 := by rw [e87]; exact ti_cadd (c := 0) (n := 0) rfl (1 : Int32))
            unfold J_X1_goOnDown_108
            refine ok_bind (k_X1_enterList L hN (a0 := a0) (x1 := (q_I r41.2 1 8 a0)) k_a0 i43) (fun r92 hr93 => ?_)
            obtain ⟨i94, ⟨u97, v98⟩, p95, p96⟩ := hr93
            have u99 := kp_t u51 u97
            have v100 := v98.trans v52
            have f101 := ti_b (q_I r92 1 3 a0)
            have f102 := ti_b (q_I r92 1 4 a0)
            have f103 := ti_b (q_I r41.2 1 12 a0)
            have f104 : (q_I r41.2 1 12 a0).toInt = (q_I δ 1 12 a0).toInt := congrArg Int32.toInt (u49 1 12 a0 (by decide))
            exact ok_some (show CI ad h.1 δ0 r92 ∧ (kp [(1, 3), (1, 4), (1, 5), (1, 6), (1, 8), (1, 13), (1, 14), (1, 15)] δ r92 ∧ q_V r92 = q_V δ) ∧ 0 ≤ (q_I r92 1 3 a0).toInt ∧ (q_I r92 1 4 a0).toInt ≤ (q_I δ 3 1 nu).toInt from ⟨i94, ⟨kp_w (by decide) u99, v100⟩, by first | assumption | omega, by first | assumption | omega⟩)
        · have c105 : r41.1.toInt ≠ (0 : Int) := o_ne h58
          have f108 := cb_3_1 i43 knu o4
          have f109 : (q_I r41.2 3 1 nu).toInt = (q_I δ 3 1 nu).toInt := congrArg Int32.toInt (u49 3 1 nu (by decide))
          refine ok_bind (k_X1_valueAt L hN (a0 := a0) (x1 := (q_I r41.2 1 13 a0)) k_a0 hnu knu (show 0 ≤ ((q_I r41.2 1 13 a0)).toInt by first | assumption | omega) (show ((q_I r41.2 1 13 a0)).toInt < (q_I r41.2 3 1 nu).toInt by first | assumption | omega) i43) (fun r106 hr107 => ?_)
          have i110 := hr107
          try rw [i110]
          have f111 := ti_b r106.1
          have f112 := ti_b (q_I r41.2 1 8 a0)
          have f113 : (q_I r41.2 1 8 a0).toInt = (q_I δ 1 8 a0).toInt := congrArg Int32.toInt (u49 1 8 a0 (by decide))
          refine ok_ite (fun h114 => ?_) (fun h114 => ?_)
          · have c115 : (q_I r41.2 1 8 a0).toInt ≤ r106.1.toInt := o_le h114
            unfold J_X1_goOnDown_80
            have f118 := ti_b (q_I r41.2 1 11 a0)
            have f119 : (q_I r41.2 1 11 a0).toInt = (q_I δ 1 11 a0).toInt := congrArg Int32.toInt (u49 1 11 a0 (by decide))
            refine ok_bind (k_X1_valueAt L hN (a0 := a0) (x1 := (q_I r41.2 1 11 a0)) k_a0 hnu knu (show 0 ≤ ((q_I r41.2 1 11 a0)).toInt by first | assumption | omega) (show ((q_I r41.2 1 11 a0)).toInt < (q_I r41.2 3 1 nu).toInt by first | assumption | omega) i43) (fun r116 hr117 => ?_)
            have i120 := hr117
            try rw [i120]
            have f121 := ti_b r116.1
            have f122 := ti_b ((q_I r41.2 1 8 a0) >>> ((q_I r41.2 1 7 a0) &&& 31))
            have f123 := ti_b (r116.1 >>> ((q_I r41.2 1 7 a0) &&& 31))
            refine ok_ite (fun h124 => ?_) (fun h124 => ?_)
            · have c125 : ((q_I r41.2 1 8 a0) >>> ((q_I r41.2 1 7 a0) &&& 31)).toInt ≤ (r116.1 >>> ((q_I r41.2 1 7 a0) &&& 31)).toInt := o_le h124
              unfold J_X1_goOnDown_108
              refine ok_bind (k_X1_enterList L hN (a0 := a0) (x1 := (q_I r41.2 1 8 a0)) k_a0 i43) (fun r126 hr127 => ?_)
              obtain ⟨i128, ⟨u131, v132⟩, p129, p130⟩ := hr127
              have u133 := kp_t u51 u131
              have v134 := v132.trans v52
              have f135 := ti_b (q_I r126 1 3 a0)
              have f136 := ti_b (q_I r126 1 4 a0)
              have f137 := ti_b (q_I r41.2 1 12 a0)
              have f138 : (q_I r41.2 1 12 a0).toInt = (q_I δ 1 12 a0).toInt := congrArg Int32.toInt (u49 1 12 a0 (by decide))
              exact ok_some (show CI ad h.1 δ0 r126 ∧ (kp [(1, 3), (1, 4), (1, 5), (1, 6), (1, 8), (1, 13), (1, 14), (1, 15)] δ r126 ∧ q_V r126 = q_V δ) ∧ 0 ≤ (q_I r126 1 3 a0).toInt ∧ (q_I r126 1 4 a0).toInt ≤ (q_I δ 3 1 nu).toInt from ⟨i128, ⟨kp_w (by decide) u133, v134⟩, by first | assumption | omega, by first | assumption | omega⟩)
            · have c139 : (r116.1 >>> ((q_I r41.2 1 7 a0) &&& 31)).toInt < ((q_I r41.2 1 8 a0) >>> ((q_I r41.2 1 7 a0) &&& 31)).toInt := o_nle h124
              refine ok_biv (fun vx140 e141 => ?_)
              first | (have q142 := te_cadd (c := 1) (n := 1) rfl (1 : Int32) (by omega) (by omega); rw [← e141] at q142; obtain ⟨f143, f144, f145⟩ := q142) | (obtain ⟨q142, f143, f144, f145⟩ : ∃ q : Int, vx140.toInt = (1 : Int) + (1 : Int) + 4294967296 * q ∧ -2147483648 ≤ vx140.toInt ∧ vx140.toInt ≤ 2147483647 := by rw [e141]; exact ti_cadd (c := 1) (n := 1) rfl (1 : Int32))
              unfold J_X1_goOnDown_108
              refine ok_bind (k_X1_enterList L hN (a0 := a0) (x1 := (q_I r41.2 1 8 a0)) k_a0 i43) (fun r146 hr147 => ?_)
              obtain ⟨i148, ⟨u151, v152⟩, p149, p150⟩ := hr147
              have u153 := kp_t u51 u151
              have v154 := v152.trans v52
              have f155 := ti_b (q_I r146 1 3 a0)
              have f156 := ti_b (q_I r146 1 4 a0)
              have f157 := ti_b (q_I r41.2 1 12 a0)
              have f158 : (q_I r41.2 1 12 a0).toInt = (q_I δ 1 12 a0).toInt := congrArg Int32.toInt (u49 1 12 a0 (by decide))
              exact ok_some (show CI ad h.1 δ0 r146 ∧ (kp [(1, 3), (1, 4), (1, 5), (1, 6), (1, 8), (1, 13), (1, 14), (1, 15)] δ r146 ∧ q_V r146 = q_V δ) ∧ 0 ≤ (q_I r146 1 3 a0).toInt ∧ (q_I r146 1 4 a0).toInt ≤ (q_I δ 3 1 nu).toInt from ⟨i148, ⟨kp_w (by decide) u153, v154⟩, by first | assumption | omega, by first | assumption | omega⟩)
          · have c159 : r106.1.toInt < (q_I r41.2 1 8 a0).toInt := o_nle h114
            refine ok_bind (k_X1_enterRoom L hN (a0 := a0) (x1 := (q_I r41.2 1 8 a0)) k_a0 i43) (fun r160 hr161 => ?_)
            obtain ⟨i162, ⟨u165, v166⟩, p163, p164⟩ := hr161
            have u167 := kp_t u51 u165
            have v168 := v166.trans v52
            have f169 := ti_b (q_I r160 1 3 a0)
            have f170 := ti_b (q_I r160 1 4 a0)
            exact ok_some (show CI ad h.1 δ0 r160 ∧ (kp [(1, 3), (1, 4), (1, 5), (1, 6), (1, 8), (1, 13), (1, 14), (1, 15)] δ r160 ∧ q_V r160 = q_V δ) ∧ 0 ≤ (q_I r160 1 3 a0).toInt ∧ (q_I r160 1 4 a0).toInt ≤ (q_I δ 3 1 nu).toInt from ⟨i162, ⟨kp_w (by decide) u167, v168⟩, by first | assumption | omega, by first | assumption | omega⟩)
      · have c171 : (q_I δ 1 12 a0).toInt ≤ (q_I δ 1 11 a0).toInt := o_nlt h39
        unfold J_X1_goOnDown_33
        refine ok_bdv (fun d172 e173 => ?_)
        have i174 : CI ad h.1 δ0 d172 := by rw [e173]; exact cs_1_15 L I k_a0 (show 0 ≤ (1 : Int) by omega) (show (1 : Int) ≤ 1 by omega)
        have u175 := kp_I kp_r e173
        have v176 : q_V d172 = q_V δ := (show q_V d172 = q_V δ by rw [e173]; rfl).trans rfl
        have f177 := ti_b (q_I d172 1 3 a0)
        have f178 : (q_I d172 1 3 a0).toInt = (q_I δ 1 3 a0).toInt := congrArg Int32.toInt (by rw [e173]; exact rI_o (by decide))
        have f179 := ti_b (q_I d172 1 4 a0)
        have f180 : (q_I d172 1 4 a0).toInt = (q_I δ 1 4 a0).toInt := congrArg Int32.toInt (by rw [e173]; exact rI_o (by decide))
        exact ok_some (show CI ad h.1 δ0 d172 ∧ (kp [(1, 3), (1, 4), (1, 5), (1, 6), (1, 8), (1, 13), (1, 14), (1, 15)] δ d172 ∧ q_V d172 = q_V δ) ∧ 0 ≤ (q_I d172 1 3 a0).toInt ∧ (q_I d172 1 4 a0).toInt ≤ (q_I δ 3 1 nu).toInt from ⟨i174, ⟨kp_w (by decide) u175, v176⟩, by first | assumption | omega, by first | assumption | omega⟩)
set_option maxHeartbeats 4000000 in
theorem kl_X1_touchesOf_47 {ad : List Nat} {h : hp} (L : Lay TLx ad h) {δ0 : dp} {N : Nat} (hN : 10000000 ≤ N) {a0 : Nat} {x1 : Int32} {x2 : Int32} {nu : Nat} (k_a0 : q_K h.1 a0 = 1) (hnu : q_O h.1 1 1 a0 = some nu) (knu : q_K h.1 nu = 3) : ∀ (n : Nat) (x3v : Int32) (x4v : Int32) (δ : dp), CI ad h.1 δ0 δ → 0 ≤ (q_I δ 1 3 a0).toInt → (q_I δ 1 4 a0).toInt ≤ (q_I δ 3 1 nu).toInt → 0 ≤ (x4v).toInt → (x4v).toInt ≤ 16 → 16 - (x4v).toInt < (n : Int) → ok (L_X1_touchesOf_47 N h.1 a0 x1 x2 n x3v x4v δ) (fun r => CI ad h.1 δ0 r.2 ∧ (kp [(1, 3), (1, 4), (1, 5), (1, 6), (1, 7), (1, 8), (1, 9), (1, 10), (1, 11), (1, 12), (1, 13), (1, 14), (1, 15)] δ r.2 ∧ q_V r.2 = q_V δ)) := by
  intro n
  induction n with
  | zero =>
    intro x3v x4v δ I j0 j1 j2 j3 hm
    have f1 := ti_b (q_I δ 1 3 a0)
    have f2 := ti_b (q_I δ 1 4 a0)
    obtain ⟨b3, o4, k5, ⟨n6, n7⟩, w8⟩ := gO_3_0 L knu
    have f9 := cb_3_1 I knu o4
    have f10 := ti_b x4v
    exfalso; omega
  | succ n ih =>
    intro x3v x4v δ I j0 j1 j2 j3 hm
    unfold L_X1_touchesOf_47
    have f1 := ti_b (q_I δ 1 3 a0)
    have f2 := ti_b (q_I δ 1 4 a0)
    obtain ⟨b3, o4, k5, ⟨n6, n7⟩, w8⟩ := gO_3_0 L knu
    have f9 := cb_3_1 I knu o4
    have f10 := ti_b x4v
    refine ok_ite (fun h11 => ?_) (fun h11 => ?_)
    · have c12 : (16 : Int) ≤ x4v.toInt := o_le h11
      unfold J_X1_touchesOf_162
      exact ok_some (show CI ad h.1 δ0 δ ∧ (kp [(1, 3), (1, 4), (1, 5), (1, 6), (1, 7), (1, 8), (1, 9), (1, 10), (1, 11), (1, 12), (1, 13), (1, 14), (1, 15)] δ δ ∧ q_V δ = q_V δ) from ⟨I, ⟨kp_w (by decide) kp_r, rfl⟩⟩)
    · have c13 : x4v.toInt < (16 : Int) := o_nle h11
      have f14 := cb_1_15 I k_a0
      refine ok_ite (fun h15 => ?_) (fun h15 => ?_)
      · have c16 : (q_I δ 1 15 a0).toInt = (0 : Int) := o_eq h15
        have f19 := ti_b x3v
        refine ok_biv (fun vx17 e18 => ?_)
        first | (have q20 := te_addc (c := 1) (n := 1) rfl x3v (by omega) (by omega); rw [← e18] at q20; obtain ⟨f21, f22, f23⟩ := q20) | (obtain ⟨q20, f21, f22, f23⟩ : ∃ q : Int, vx17.toInt = x3v.toInt + (1 : Int) + 4294967296 * q ∧ -2147483648 ≤ vx17.toInt ∧ vx17.toInt ≤ 2147483647 := by rw [e18]; exact ti_addc (c := 1) (n := 1) rfl x3v)
        refine ok_bind (k_X1_look L hN (a0 := a0) k_a0 hnu knu (show 0 ≤ (q_I δ 1 3 a0).toInt by first | assumption | omega) (show (q_I δ 1 4 a0).toInt ≤ (q_I δ 3 1 nu).toInt by first | assumption | omega) I) (fun r24 hr25 => ?_)
        obtain ⟨i26, ⟨u28, v29⟩, p27⟩ := hr25
        have u30 := kp_t kp_r u28
        have v31 := v29.trans rfl
        have f32 := cb_1_15 i26 k_a0
        have f33 := ti_b (q_I r24 1 11 a0)
        have f34 := ti_b (q_I r24 1 12 a0)
        refine ok_ite (fun h35 => ?_) (fun h35 => ?_)
        · have c36 : (q_I r24 1 15 a0).toInt = (0 : Int) := o_eq h35
          have f37 := ti_b x1
          refine ok_ite (fun h38 => ?_) (fun h38 => ?_)
          · have c39 : x1.toInt = (0 : Int) := o_eq h38
            have f42 := cb_3_1 i26 knu o4
            have f43 : (q_I r24 3 1 nu).toInt = (q_I δ 3 1 nu).toInt := congrArg Int32.toInt (u28 3 1 nu (by decide))
            have f44 := ti_b (q_I r24 1 3 a0)
            have f45 : (q_I r24 1 3 a0).toInt = (q_I δ 1 3 a0).toInt := congrArg Int32.toInt (u28 1 3 a0 (by decide))
            have f46 := ti_b (q_I r24 1 4 a0)
            have f47 : (q_I r24 1 4 a0).toInt = (q_I δ 1 4 a0).toInt := congrArg Int32.toInt (u28 1 4 a0 (by decide))
            refine ok_bind (k_X1_goOnPutting L hN (a0 := a0) k_a0 hnu knu (show 0 ≤ (q_I r24 1 11 a0).toInt by first | assumption | omega) (show (q_I r24 1 11 a0).toInt ≤ (q_I r24 1 12 a0).toInt by first | assumption | omega) (show (q_I r24 1 12 a0).toInt ≤ (q_I r24 3 1 nu).toInt by first | assumption | omega) (show 0 ≤ (q_I r24 1 3 a0).toInt by first | assumption | omega) (show (q_I r24 1 4 a0).toInt ≤ (q_I r24 3 1 nu).toInt by first | assumption | omega) i26) (fun r40 hr41 => ?_)
            obtain ⟨i48, ⟨u51, v52⟩, p49, p50⟩ := hr41
            have u53 := kp_t u30 u51
            have v54 := v52.trans v31
            have f55 := ti_b (q_I r40.2 1 3 a0)
            have f56 := ti_b (q_I r40.2 1 4 a0)
            have f57 := ti_b r40.1
            refine ok_biv (fun vx58 e59 => ?_)
            first | (have q60 := te_add vx17 r40.1 (by omega) (by omega); rw [← e59] at q60; obtain ⟨f61, f62, f63⟩ := q60) | (obtain ⟨q60, f61, f62, f63⟩ : ∃ q : Int, vx58.toInt = vx17.toInt + r40.1.toInt + 4294967296 * q ∧ -2147483648 ≤ vx58.toInt ∧ vx58.toInt ≤ 2147483647 := by rw [e59]; exact ti_add vx17 r40.1)
            unfold J_X1_touchesOf_156
            refine ok_biv (fun vx64 e65 => ?_)
            first | (have q66 := te_addc (c := 1) (n := 1) rfl x4v (by omega) (by omega); rw [← e65] at q66; obtain ⟨f67, f68, f69⟩ := q66) | (obtain ⟨q66, f67, f68, f69⟩ : ∃ q : Int, vx64.toInt = x4v.toInt + (1 : Int) + 4294967296 * q ∧ -2147483648 ≤ vx64.toInt ∧ vx64.toInt ≤ 2147483647 := by rw [e65]; exact ti_addc (c := 1) (n := 1) rfl x4v)
            have f70 := cb_3_1 i48 knu o4
            have f71 : (q_I r40.2 3 1 nu).toInt = (q_I r24 3 1 nu).toInt := congrArg Int32.toInt (u51 3 1 nu (by decide))
            refine ok_mono (ih vx58 vx64 r40.2 i48 (show 0 ≤ (q_I r40.2 1 3 a0).toInt by first | assumption | omega) (show (q_I r40.2 1 4 a0).toInt ≤ (q_I r40.2 3 1 nu).toInt by first | assumption | omega) (show 0 ≤ (vx64).toInt by first | assumption | omega) (show (vx64).toInt ≤ 16 by first | assumption | omega) (show 16 - (vx64).toInt < _ by omega)) (fun r72 hr73 => ?_)
            obtain ⟨i74, ⟨u75, v76⟩⟩ := hr73
            have u77 := kp_t u53 u75
            have v78 := v76.trans v54
            have f79 := ti_b r72.1
            exact ⟨by assumption, ⟨kp_w (by decide) u77, v78⟩⟩
          · have c80 : x1.toInt ≠ (0 : Int) := o_ne h38
            refine ok_ite (fun h81 => ?_) (fun h81 => ?_)
            · have c82 : x1.toInt = (1 : Int) := o_eq h81
              have f85 := cb_3_1 i26 knu o4
              have f86 : (q_I r24 3 1 nu).toInt = (q_I δ 3 1 nu).toInt := congrArg Int32.toInt (u28 3 1 nu (by decide))
              have f87 := ti_b (q_I r24 1 3 a0)
              have f88 : (q_I r24 1 3 a0).toInt = (q_I δ 1 3 a0).toInt := congrArg Int32.toInt (u28 1 3 a0 (by decide))
              have f89 := ti_b (q_I r24 1 4 a0)
              have f90 : (q_I r24 1 4 a0).toInt = (q_I δ 1 4 a0).toInt := congrArg Int32.toInt (u28 1 4 a0 (by decide))
              refine ok_bind (k_X1_goOnDropping L hN (a0 := a0) k_a0 hnu knu (show 0 ≤ (q_I r24 1 11 a0).toInt by first | assumption | omega) (show (q_I r24 1 11 a0).toInt ≤ (q_I r24 1 12 a0).toInt by first | assumption | omega) (show (q_I r24 1 12 a0).toInt ≤ (q_I r24 3 1 nu).toInt by first | assumption | omega) (show 0 ≤ (q_I r24 1 3 a0).toInt by first | assumption | omega) (show (q_I r24 1 4 a0).toInt ≤ (q_I r24 3 1 nu).toInt by first | assumption | omega) i26) (fun r83 hr84 => ?_)
              obtain ⟨i91, ⟨u94, v95⟩, p92, p93⟩ := hr84
              have u96 := kp_t u30 u94
              have v97 := v95.trans v31
              have f98 := ti_b (q_I r83.2 1 3 a0)
              have f99 := ti_b (q_I r83.2 1 4 a0)
              have f100 := ti_b r83.1
              refine ok_biv (fun vx101 e102 => ?_)
              first | (have q103 := te_add vx17 r83.1 (by omega) (by omega); rw [← e102] at q103; obtain ⟨f104, f105, f106⟩ := q103) | (obtain ⟨q103, f104, f105, f106⟩ : ∃ q : Int, vx101.toInt = vx17.toInt + r83.1.toInt + 4294967296 * q ∧ -2147483648 ≤ vx101.toInt ∧ vx101.toInt ≤ 2147483647 := by rw [e102]; exact ti_add vx17 r83.1)
              unfold J_X1_touchesOf_156
              refine ok_biv (fun vx107 e108 => ?_)
              first | (have q109 := te_addc (c := 1) (n := 1) rfl x4v (by omega) (by omega); rw [← e108] at q109; obtain ⟨f110, f111, f112⟩ := q109) | (obtain ⟨q109, f110, f111, f112⟩ : ∃ q : Int, vx107.toInt = x4v.toInt + (1 : Int) + 4294967296 * q ∧ -2147483648 ≤ vx107.toInt ∧ vx107.toInt ≤ 2147483647 := by rw [e108]; exact ti_addc (c := 1) (n := 1) rfl x4v)
              have f113 := cb_3_1 i91 knu o4
              have f114 : (q_I r83.2 3 1 nu).toInt = (q_I r24 3 1 nu).toInt := congrArg Int32.toInt (u94 3 1 nu (by decide))
              refine ok_mono (ih vx101 vx107 r83.2 i91 (show 0 ≤ (q_I r83.2 1 3 a0).toInt by first | assumption | omega) (show (q_I r83.2 1 4 a0).toInt ≤ (q_I r83.2 3 1 nu).toInt by first | assumption | omega) (show 0 ≤ (vx107).toInt by first | assumption | omega) (show (vx107).toInt ≤ 16 by first | assumption | omega) (show 16 - (vx107).toInt < _ by omega)) (fun r115 hr116 => ?_)
              obtain ⟨i117, ⟨u118, v119⟩⟩ := hr116
              have u120 := kp_t u96 u118
              have v121 := v119.trans v97
              have f122 := ti_b r115.1
              exact ⟨by assumption, ⟨kp_w (by decide) u120, v121⟩⟩
            · have c123 : x1.toInt ≠ (1 : Int) := o_ne h81
              refine ok_ite (fun h124 => ?_) (fun h124 => ?_)
              · have c125 : x1.toInt = (2 : Int) := o_eq h124
                unfold J_X1_touchesOf_152
                have f128 := cb_3_1 i26 knu o4
                have f129 : (q_I r24 3 1 nu).toInt = (q_I δ 3 1 nu).toInt := congrArg Int32.toInt (u28 3 1 nu (by decide))
                have f130 := ti_b (q_I r24 1 3 a0)
                have f131 : (q_I r24 1 3 a0).toInt = (q_I δ 1 3 a0).toInt := congrArg Int32.toInt (u28 1 3 a0 (by decide))
                have f132 := ti_b (q_I r24 1 4 a0)
                have f133 : (q_I r24 1 4 a0).toInt = (q_I δ 1 4 a0).toInt := congrArg Int32.toInt (u28 1 4 a0 (by decide))
                refine ok_bind (k_X1_goOnAsking L hN (a0 := a0) k_a0 hnu knu (show 0 ≤ (q_I r24 1 11 a0).toInt by first | assumption | omega) (show (q_I r24 1 11 a0).toInt ≤ (q_I r24 1 12 a0).toInt by first | assumption | omega) (show (q_I r24 1 12 a0).toInt ≤ (q_I r24 3 1 nu).toInt by first | assumption | omega) (show 0 ≤ (q_I r24 1 3 a0).toInt by first | assumption | omega) (show (q_I r24 1 4 a0).toInt ≤ (q_I r24 3 1 nu).toInt by first | assumption | omega) i26) (fun r126 hr127 => ?_)
                obtain ⟨i134, ⟨u137, v138⟩, p135, p136⟩ := hr127
                have u139 := kp_t u30 u137
                have v140 := v138.trans v31
                have f141 := ti_b (q_I r126 1 3 a0)
                have f142 := ti_b (q_I r126 1 4 a0)
                unfold J_X1_touchesOf_156
                refine ok_biv (fun vx143 e144 => ?_)
                first | (have q145 := te_addc (c := 1) (n := 1) rfl x4v (by omega) (by omega); rw [← e144] at q145; obtain ⟨f146, f147, f148⟩ := q145) | (obtain ⟨q145, f146, f147, f148⟩ : ∃ q : Int, vx143.toInt = x4v.toInt + (1 : Int) + 4294967296 * q ∧ -2147483648 ≤ vx143.toInt ∧ vx143.toInt ≤ 2147483647 := by rw [e144]; exact ti_addc (c := 1) (n := 1) rfl x4v)
                have f149 := cb_3_1 i134 knu o4
                have f150 : (q_I r126 3 1 nu).toInt = (q_I r24 3 1 nu).toInt := congrArg Int32.toInt (u137 3 1 nu (by decide))
                refine ok_mono (ih vx17 vx143 r126 i134 (show 0 ≤ (q_I r126 1 3 a0).toInt by first | assumption | omega) (show (q_I r126 1 4 a0).toInt ≤ (q_I r126 3 1 nu).toInt by first | assumption | omega) (show 0 ≤ (vx143).toInt by first | assumption | omega) (show (vx143).toInt ≤ 16 by first | assumption | omega) (show 16 - (vx143).toInt < _ by omega)) (fun r151 hr152 => ?_)
                obtain ⟨i153, ⟨u154, v155⟩⟩ := hr152
                have u156 := kp_t u139 u154
                have v157 := v155.trans v140
                have f158 := ti_b r151.1
                exact ⟨by assumption, ⟨kp_w (by decide) u156, v157⟩⟩
              · have c159 : x1.toInt ≠ (2 : Int) := o_ne h124
                refine ok_ite (fun h160 => ?_) (fun h160 => ?_)
                · have c161 : x1.toInt = (3 : Int) := o_eq h160
                  have f164 := cb_3_1 i26 knu o4
                  have f165 : (q_I r24 3 1 nu).toInt = (q_I δ 3 1 nu).toInt := congrArg Int32.toInt (u28 3 1 nu (by decide))
                  have f166 := ti_b (q_I r24 1 3 a0)
                  have f167 : (q_I r24 1 3 a0).toInt = (q_I δ 1 3 a0).toInt := congrArg Int32.toInt (u28 1 3 a0 (by decide))
                  have f168 := ti_b (q_I r24 1 4 a0)
                  have f169 : (q_I r24 1 4 a0).toInt = (q_I δ 1 4 a0).toInt := congrArg Int32.toInt (u28 1 4 a0 (by decide))
                  refine ok_bind (k_X1_goOnUp L hN (a0 := a0) k_a0 hnu knu (show 0 ≤ (q_I r24 1 11 a0).toInt by first | assumption | omega) (show (q_I r24 1 11 a0).toInt ≤ (q_I r24 1 12 a0).toInt by first | assumption | omega) (show (q_I r24 1 12 a0).toInt ≤ (q_I r24 3 1 nu).toInt by first | assumption | omega) (show 0 ≤ (q_I r24 1 3 a0).toInt by first | assumption | omega) (show (q_I r24 1 4 a0).toInt ≤ (q_I r24 3 1 nu).toInt by first | assumption | omega) i26) (fun r162 hr163 => ?_)
                  obtain ⟨i170, ⟨u173, v174⟩, p171, p172⟩ := hr163
                  have u175 := kp_t u30 u173
                  have v176 := v174.trans v31
                  have f177 := ti_b (q_I r162.2 1 3 a0)
                  have f178 := ti_b (q_I r162.2 1 4 a0)
                  have f179 := ti_b r162.1
                  refine ok_biv (fun vx180 e181 => ?_)
                  first | (have q182 := te_add vx17 r162.1 (by omega) (by omega); rw [← e181] at q182; obtain ⟨f183, f184, f185⟩ := q182) | (obtain ⟨q182, f183, f184, f185⟩ : ∃ q : Int, vx180.toInt = vx17.toInt + r162.1.toInt + 4294967296 * q ∧ -2147483648 ≤ vx180.toInt ∧ vx180.toInt ≤ 2147483647 := by rw [e181]; exact ti_add vx17 r162.1)
                  unfold J_X1_touchesOf_156
                  refine ok_biv (fun vx186 e187 => ?_)
                  first | (have q188 := te_addc (c := 1) (n := 1) rfl x4v (by omega) (by omega); rw [← e187] at q188; obtain ⟨f189, f190, f191⟩ := q188) | (obtain ⟨q188, f189, f190, f191⟩ : ∃ q : Int, vx186.toInt = x4v.toInt + (1 : Int) + 4294967296 * q ∧ -2147483648 ≤ vx186.toInt ∧ vx186.toInt ≤ 2147483647 := by rw [e187]; exact ti_addc (c := 1) (n := 1) rfl x4v)
                  have f192 := cb_3_1 i170 knu o4
                  have f193 : (q_I r162.2 3 1 nu).toInt = (q_I r24 3 1 nu).toInt := congrArg Int32.toInt (u173 3 1 nu (by decide))
                  refine ok_mono (ih vx180 vx186 r162.2 i170 (show 0 ≤ (q_I r162.2 1 3 a0).toInt by first | assumption | omega) (show (q_I r162.2 1 4 a0).toInt ≤ (q_I r162.2 3 1 nu).toInt by first | assumption | omega) (show 0 ≤ (vx186).toInt by first | assumption | omega) (show (vx186).toInt ≤ 16 by first | assumption | omega) (show 16 - (vx186).toInt < _ by omega)) (fun r194 hr195 => ?_)
                  obtain ⟨i196, ⟨u197, v198⟩⟩ := hr195
                  have u199 := kp_t u175 u197
                  have v200 := v198.trans v176
                  have f201 := ti_b r194.1
                  exact ⟨by assumption, ⟨kp_w (by decide) u199, v200⟩⟩
                · have c202 : x1.toInt ≠ (3 : Int) := o_ne h160
                  refine ok_ite (fun h203 => ?_) (fun h203 => ?_)
                  · have c204 : x1.toInt = (4 : Int) := o_eq h203
                    have f207 := cb_3_1 i26 knu o4
                    have f208 : (q_I r24 3 1 nu).toInt = (q_I δ 3 1 nu).toInt := congrArg Int32.toInt (u28 3 1 nu (by decide))
                    have f209 := ti_b (q_I r24 1 3 a0)
                    have f210 : (q_I r24 1 3 a0).toInt = (q_I δ 1 3 a0).toInt := congrArg Int32.toInt (u28 1 3 a0 (by decide))
                    have f211 := ti_b (q_I r24 1 4 a0)
                    have f212 : (q_I r24 1 4 a0).toInt = (q_I δ 1 4 a0).toInt := congrArg Int32.toInt (u28 1 4 a0 (by decide))
                    refine ok_bind (k_X1_goOnDown L hN (a0 := a0) k_a0 hnu knu (show 0 ≤ (q_I r24 1 11 a0).toInt by first | assumption | omega) (show (q_I r24 1 11 a0).toInt ≤ (q_I r24 1 12 a0).toInt by first | assumption | omega) (show (q_I r24 1 12 a0).toInt ≤ (q_I r24 3 1 nu).toInt by first | assumption | omega) (show 0 ≤ (q_I r24 1 3 a0).toInt by first | assumption | omega) (show (q_I r24 1 4 a0).toInt ≤ (q_I r24 3 1 nu).toInt by first | assumption | omega) i26) (fun r205 hr206 => ?_)
                    obtain ⟨i213, ⟨u216, v217⟩, p214, p215⟩ := hr206
                    have u218 := kp_t u30 u216
                    have v219 := v217.trans v31
                    have f220 := ti_b (q_I r205.2 1 3 a0)
                    have f221 := ti_b (q_I r205.2 1 4 a0)
                    have f222 := ti_b r205.1
                    refine ok_biv (fun vx223 e224 => ?_)
                    first | (have q225 := te_add vx17 r205.1 (by omega) (by omega); rw [← e224] at q225; obtain ⟨f226, f227, f228⟩ := q225) | (obtain ⟨q225, f226, f227, f228⟩ : ∃ q : Int, vx223.toInt = vx17.toInt + r205.1.toInt + 4294967296 * q ∧ -2147483648 ≤ vx223.toInt ∧ vx223.toInt ≤ 2147483647 := by rw [e224]; exact ti_add vx17 r205.1)
                    unfold J_X1_touchesOf_156
                    refine ok_biv (fun vx229 e230 => ?_)
                    first | (have q231 := te_addc (c := 1) (n := 1) rfl x4v (by omega) (by omega); rw [← e230] at q231; obtain ⟨f232, f233, f234⟩ := q231) | (obtain ⟨q231, f232, f233, f234⟩ : ∃ q : Int, vx229.toInt = x4v.toInt + (1 : Int) + 4294967296 * q ∧ -2147483648 ≤ vx229.toInt ∧ vx229.toInt ≤ 2147483647 := by rw [e230]; exact ti_addc (c := 1) (n := 1) rfl x4v)
                    have f235 := cb_3_1 i213 knu o4
                    have f236 : (q_I r205.2 3 1 nu).toInt = (q_I r24 3 1 nu).toInt := congrArg Int32.toInt (u216 3 1 nu (by decide))
                    refine ok_mono (ih vx223 vx229 r205.2 i213 (show 0 ≤ (q_I r205.2 1 3 a0).toInt by first | assumption | omega) (show (q_I r205.2 1 4 a0).toInt ≤ (q_I r205.2 3 1 nu).toInt by first | assumption | omega) (show 0 ≤ (vx229).toInt by first | assumption | omega) (show (vx229).toInt ≤ 16 by first | assumption | omega) (show 16 - (vx229).toInt < _ by omega)) (fun r237 hr238 => ?_)
                    obtain ⟨i239, ⟨u240, v241⟩⟩ := hr238
                    have u242 := kp_t u218 u240
                    have v243 := v241.trans v219
                    have f244 := ti_b r237.1
                    exact ⟨by assumption, ⟨kp_w (by decide) u242, v243⟩⟩
                  · have c245 : x1.toInt ≠ (4 : Int) := o_ne h203
                    unfold J_X1_touchesOf_152
                    have f248 := cb_3_1 i26 knu o4
                    have f249 : (q_I r24 3 1 nu).toInt = (q_I δ 3 1 nu).toInt := congrArg Int32.toInt (u28 3 1 nu (by decide))
                    have f250 := ti_b (q_I r24 1 3 a0)
                    have f251 : (q_I r24 1 3 a0).toInt = (q_I δ 1 3 a0).toInt := congrArg Int32.toInt (u28 1 3 a0 (by decide))
                    have f252 := ti_b (q_I r24 1 4 a0)
                    have f253 : (q_I r24 1 4 a0).toInt = (q_I δ 1 4 a0).toInt := congrArg Int32.toInt (u28 1 4 a0 (by decide))
                    refine ok_bind (k_X1_goOnAsking L hN (a0 := a0) k_a0 hnu knu (show 0 ≤ (q_I r24 1 11 a0).toInt by first | assumption | omega) (show (q_I r24 1 11 a0).toInt ≤ (q_I r24 1 12 a0).toInt by first | assumption | omega) (show (q_I r24 1 12 a0).toInt ≤ (q_I r24 3 1 nu).toInt by first | assumption | omega) (show 0 ≤ (q_I r24 1 3 a0).toInt by first | assumption | omega) (show (q_I r24 1 4 a0).toInt ≤ (q_I r24 3 1 nu).toInt by first | assumption | omega) i26) (fun r246 hr247 => ?_)
                    obtain ⟨i254, ⟨u257, v258⟩, p255, p256⟩ := hr247
                    have u259 := kp_t u30 u257
                    have v260 := v258.trans v31
                    have f261 := ti_b (q_I r246 1 3 a0)
                    have f262 := ti_b (q_I r246 1 4 a0)
                    unfold J_X1_touchesOf_156
                    refine ok_biv (fun vx263 e264 => ?_)
                    first | (have q265 := te_addc (c := 1) (n := 1) rfl x4v (by omega) (by omega); rw [← e264] at q265; obtain ⟨f266, f267, f268⟩ := q265) | (obtain ⟨q265, f266, f267, f268⟩ : ∃ q : Int, vx263.toInt = x4v.toInt + (1 : Int) + 4294967296 * q ∧ -2147483648 ≤ vx263.toInt ∧ vx263.toInt ≤ 2147483647 := by rw [e264]; exact ti_addc (c := 1) (n := 1) rfl x4v)
                    have f269 := cb_3_1 i254 knu o4
                    have f270 : (q_I r246 3 1 nu).toInt = (q_I r24 3 1 nu).toInt := congrArg Int32.toInt (u257 3 1 nu (by decide))
                    refine ok_mono (ih vx17 vx263 r246 i254 (show 0 ≤ (q_I r246 1 3 a0).toInt by first | assumption | omega) (show (q_I r246 1 4 a0).toInt ≤ (q_I r246 3 1 nu).toInt by first | assumption | omega) (show 0 ≤ (vx263).toInt by first | assumption | omega) (show (vx263).toInt ≤ 16 by first | assumption | omega) (show 16 - (vx263).toInt < _ by omega)) (fun r271 hr272 => ?_)
                    obtain ⟨i273, ⟨u274, v275⟩⟩ := hr272
                    have u276 := kp_t u259 u274
                    have v277 := v275.trans v260
                    have f278 := ti_b r271.1
                    exact ⟨by assumption, ⟨kp_w (by decide) u276, v277⟩⟩
        · have c279 : (q_I r24 1 15 a0).toInt ≠ (0 : Int) := o_ne h35
          exact ok_some (show CI ad h.1 δ0 r24 ∧ (kp [(1, 3), (1, 4), (1, 5), (1, 6), (1, 7), (1, 8), (1, 9), (1, 10), (1, 11), (1, 12), (1, 13), (1, 14), (1, 15)] δ r24 ∧ q_V r24 = q_V δ) from ⟨i26, ⟨kp_w (by decide) u30, v31⟩⟩)
      · have c280 : (q_I δ 1 15 a0).toInt ≠ (0 : Int) := o_ne h15
        unfold J_X1_touchesOf_162
        exact ok_some (show CI ad h.1 δ0 δ ∧ (kp [(1, 3), (1, 4), (1, 5), (1, 6), (1, 7), (1, 8), (1, 9), (1, 10), (1, 11), (1, 12), (1, 13), (1, 14), (1, 15)] δ δ ∧ q_V δ = q_V δ) from ⟨I, ⟨kp_w (by decide) kp_r, rfl⟩⟩)
set_option maxHeartbeats 4000000 in
theorem k_X1_touchesOf {ad : List Nat} {h : hp} (L : Lay TLx ad h) {δ0 : dp} {N : Nat} (hN : 10000000 ≤ N) {a0 : Nat} {x1 : Int32} {x2 : Int32} {nu : Nat} (k_a0 : q_K h.1 a0 = 1) (hnu : q_O h.1 1 1 a0 = some nu) (knu : q_K h.1 nu = 3) {δ : dp} (I : CI ad h.1 δ0 δ) : ok (D_X1_touchesOf N h.1 a0 x1 x2 δ) (fun r => CI ad h.1 δ0 r.2 ∧ (kp [(1, 3), (1, 4), (1, 5), (1, 6), (1, 7), (1, 8), (1, 9), (1, 10), (1, 11), (1, 12), (1, 13), (1, 14), (1, 15)] δ r.2 ∧ q_V r.2 = q_V δ)) := by
  unfold D_X1_touchesOf
  refine ok_bdv (fun d1 e2 => ?_)
  have i3 : CI ad h.1 δ0 d1 := by rw [e2]; exact cs_1_3 L I
  have u4 := kp_I kp_r e2
  have v5 : q_V d1 = q_V δ := (show q_V d1 = q_V δ by rw [e2]; rfl).trans rfl
  refine ok_at hnu ?_
  obtain ⟨b9, o10, k11, ⟨n12, n13⟩, w14⟩ := gO_3_0 L knu
  have f15 := cb_3_1 i3 knu o10
  have f16 : (q_I d1 3 1 nu).toInt = (q_I δ 3 1 nu).toInt := congrArg Int32.toInt (by rw [e2]; exact rI_o (by decide))
  have f17 := cb_3_1 I knu o10
  refine ok_bdv (fun d6 e7 => ?_)
  have i8 : CI ad h.1 δ0 d6 := by rw [e7]; exact cs_1_4 L i3
  have u18 := kp_I u4 e7
  have v19 : q_V d6 = q_V δ := (show q_V d6 = q_V d1 by rw [e7]; rfl).trans v5
  refine ok_bdv (fun d20 e21 => ?_)
  have i22 : CI ad h.1 δ0 d20 := by rw [e21]; exact cs_1_5 L i8
  have u23 := kp_I u18 e21
  have v24 : q_V d20 = q_V δ := (show q_V d20 = q_V d6 by rw [e21]; rfl).trans v19
  obtain ⟨b25, o26, k27⟩ := gO_1_0 L k_a0
  refine ok_at o26 ?_
  have f31 := cb_5_0 i22 k27
  have f32 : (q_I d20 5 0 b25).toInt = (q_I d6 5 0 b25).toInt := congrArg Int32.toInt (by rw [e21]; exact rI_o (by decide))
  have f33 := cb_5_0 i8 k27
  have f34 : (q_I d6 5 0 b25).toInt = (q_I d1 5 0 b25).toInt := congrArg Int32.toInt (by rw [e7]; exact rI_o (by decide))
  have f35 := cb_5_0 i3 k27
  have f36 : (q_I d1 5 0 b25).toInt = (q_I δ 5 0 b25).toInt := congrArg Int32.toInt (by rw [e2]; exact rI_o (by decide))
  have f37 := cb_5_0 I k27
  refine ok_bdv (fun d28 e29 => ?_)
  have i30 : CI ad h.1 δ0 d28 := by rw [e29]; exact cs_1_6 L i22
  have u38 := kp_I u23 e29
  have v39 : q_V d28 = q_V δ := (show q_V d28 = q_V d20 by rw [e29]; rfl).trans v24
  have f43 := ti_b x2
  refine ok_bdv (fun d40 e41 => ?_)
  have i42 : CI ad h.1 δ0 d40 := by rw [e41]; exact cs_1_8 L i30
  have u44 := kp_I u38 e41
  have v45 : q_V d40 = q_V δ := (show q_V d40 = q_V d28 by rw [e41]; rfl).trans v39
  refine ok_bdv (fun d46 e47 => ?_)
  have i48 : CI ad h.1 δ0 d46 := by rw [e47]; exact cs_1_15 L i42 k_a0 (show 0 ≤ (0 : Int) by omega) (show (0 : Int) ≤ 1 by omega)
  have u49 := kp_I u44 e47
  have v50 : q_V d46 = q_V δ := (show q_V d46 = q_V d40 by rw [e47]; rfl).trans v45
  have f51 := ti_b (q_I d46 1 3 a0)
  have f52 : (q_I d46 1 3 a0).toInt = (q_I d40 1 3 a0).toInt := congrArg Int32.toInt (by rw [e47]; exact rI_o (by decide))
  have f53 := ti_b (q_I d40 1 3 a0)
  have f54 : (q_I d40 1 3 a0).toInt = (q_I d28 1 3 a0).toInt := congrArg Int32.toInt (by rw [e41]; exact rI_o (by decide))
  have f55 := ti_b (q_I d28 1 3 a0)
  have f56 : (q_I d28 1 3 a0).toInt = (q_I d20 1 3 a0).toInt := congrArg Int32.toInt (by rw [e29]; exact rI_o (by decide))
  have f57 := ti_b (q_I d20 1 3 a0)
  have f58 : (q_I d20 1 3 a0).toInt = (q_I d6 1 3 a0).toInt := congrArg Int32.toInt (by rw [e21]; exact rI_o (by decide))
  have f59 := ti_b (q_I d6 1 3 a0)
  have f60 : (q_I d6 1 3 a0).toInt = (q_I d1 1 3 a0).toInt := congrArg Int32.toInt (by rw [e7]; exact rI_o (by decide))
  have f61 := ti_b (q_I d1 1 3 a0)
  have f62 : (q_I d1 1 3 a0).toInt = (0 : Int) := congrArg Int32.toInt (show q_I d1 1 3 a0 = (0 : Int32) by rw [e2]; exact rI_s)
  have f63 := ti_b (q_I d46 1 4 a0)
  have f64 : (q_I d46 1 4 a0).toInt = (q_I d40 1 4 a0).toInt := congrArg Int32.toInt (by rw [e47]; exact rI_o (by decide))
  have f65 := ti_b (q_I d40 1 4 a0)
  have f66 : (q_I d40 1 4 a0).toInt = (q_I d28 1 4 a0).toInt := congrArg Int32.toInt (by rw [e41]; exact rI_o (by decide))
  have f67 := ti_b (q_I d28 1 4 a0)
  have f68 : (q_I d28 1 4 a0).toInt = (q_I d20 1 4 a0).toInt := congrArg Int32.toInt (by rw [e29]; exact rI_o (by decide))
  have f69 := ti_b (q_I d20 1 4 a0)
  have f70 : (q_I d20 1 4 a0).toInt = (q_I d6 1 4 a0).toInt := congrArg Int32.toInt (by rw [e21]; exact rI_o (by decide))
  have f71 := ti_b (q_I d6 1 4 a0)
  have f72 : (q_I d6 1 4 a0).toInt = (q_I d1 3 1 nu).toInt := congrArg Int32.toInt (show q_I d6 1 4 a0 = (q_I d1 3 1 nu) by rw [e7]; exact rI_s)
  have f73 := cb_3_1 i48 knu o10
  have f74 : (q_I d46 3 1 nu).toInt = (q_I d40 3 1 nu).toInt := congrArg Int32.toInt (by rw [e47]; exact rI_o (by decide))
  have f75 := cb_3_1 i42 knu o10
  have f76 : (q_I d40 3 1 nu).toInt = (q_I d28 3 1 nu).toInt := congrArg Int32.toInt (by rw [e41]; exact rI_o (by decide))
  have f77 := cb_3_1 i30 knu o10
  have f78 : (q_I d28 3 1 nu).toInt = (q_I d20 3 1 nu).toInt := congrArg Int32.toInt (by rw [e29]; exact rI_o (by decide))
  have f79 := cb_3_1 i22 knu o10
  have f80 : (q_I d20 3 1 nu).toInt = (q_I d6 3 1 nu).toInt := congrArg Int32.toInt (by rw [e21]; exact rI_o (by decide))
  have f81 := cb_3_1 i8 knu o10
  have f82 : (q_I d6 3 1 nu).toInt = (q_I d1 3 1 nu).toInt := congrArg Int32.toInt (by rw [e7]; exact rI_o (by decide))
  refine ok_mono (kl_X1_touchesOf_47 L hN k_a0 hnu knu _ (0 : Int32) (0 : Int32) d46 i48 (show 0 ≤ (q_I d46 1 3 a0).toInt by first | assumption | omega) (show (q_I d46 1 4 a0).toInt ≤ (q_I d46 3 1 nu).toInt by first | assumption | omega) (show 0 ≤ (0 : Int) by first | assumption | omega) (show (0 : Int) ≤ 16 by first | assumption | omega) (show 16 - (0 : Int) < _ by omega)) (fun r83 hr84 => ?_)
  obtain ⟨i85, ⟨u86, v87⟩⟩ := hr84
  have u88 := kp_t u49 u86
  have v89 := v87.trans v50
  have f90 := ti_b r83.1
  exact ⟨by assumption, ⟨kp_w (by decide) u88, v89⟩⟩
set_option maxHeartbeats 4000000 in
theorem kl_X1_cellsOf_163 {ad : List Nat} {h : hp} (L : Lay TLx ad h) {δ0 : dp} {N : Nat} (hN : 10000000 ≤ N) {T : Nat → Int32 → Int32 → Int32 → Int32 → dp → Option (Int32 × dp)} {K : Int} (hT : ∀ (a0 : Nat) (x1 : Int32) (x2 : Int32) (x3 : Int32) (x4 : Int32) (δ : dp) (nu : Nat), q_K h.1 a0 = 1 → q_O h.1 1 1 a0 = some nu → q_K h.1 nu = 3 → 0 ≤ (x1).toInt → (x2).toInt ≤ (q_I δ 3 1 nu).toInt → 0 ≤ (x4).toInt → (x4).toInt ≤ 16 → (x4).toInt < K → CI ad h.1 δ0 δ → ok (T a0 x1 x2 x3 x4 δ) (fun r => r.2 = δ)) {a0 : Nat} {x1 : Int32} {x2 : Int32} {x3 : Int32} {x4 : Int32} {nu : Nat} (k_a0 : q_K h.1 a0 = 1) (hnu : q_O h.1 1 1 a0 = some nu) (knu : q_K h.1 nu = 3) : ∀ (n : Nat) (x7v : Int32) (x8v : Int32) (x9v : Int32) (x10v : Int32) (x11v : Int32) (δ : dp), CI ad h.1 δ0 δ → 0 ≤ (x1).toInt → (x1).toInt < (x2).toInt → (x2).toInt ≤ (q_I δ 3 1 nu).toInt → 2 ≤ (x4).toInt → (x4).toInt ≤ 16 → (x4).toInt ≤ K → 0 ≤ (x11v).toInt → (x11v).toInt ≤ (x7v).toInt → (x7v).toInt ≤ (x2).toInt → 0 ≤ (x10v).toInt → 1 ≤ (x8v).toInt → (x8v).toInt < (x4).toInt → (x7v).toInt - (x11v).toInt < (n : Int) → ok (L_X1_cellsOf_163 N h.1 T a0 x1 x2 x3 x4 n x7v x8v x9v x10v x11v δ) (fun r => r.2 = δ) := by
  intro n
  induction n with
  | zero =>
    intro x7v x8v x9v x10v x11v δ I j0 j1 j2 j3 j4 j5 j6 j7 j8 j9 j10 j11 hm
    have f1 := ti_b x1
    have f2 := ti_b x2
    obtain ⟨b3, o4, k5, ⟨n6, n7⟩, w8⟩ := gO_3_0 L knu
    have f9 := cb_3_1 I knu o4
    have f10 := ti_b x4
    have f11 := ti_b x11v
    have f12 := ti_b x7v
    have f13 := ti_b x10v
    have f14 := ti_b x8v
    exfalso; omega
  | succ n ih =>
    intro x7v x8v x9v x10v x11v δ I j0 j1 j2 j3 j4 j5 j6 j7 j8 j9 j10 j11 hm
    unfold L_X1_cellsOf_163
    have f1 := ti_b x1
    have f2 := ti_b x2
    obtain ⟨b3, o4, k5, ⟨n6, n7⟩, w8⟩ := gO_3_0 L knu
    have f9 := cb_3_1 I knu o4
    have f10 := ti_b x4
    have f11 := ti_b x11v
    have f12 := ti_b x7v
    have f13 := ti_b x10v
    have f14 := ti_b x8v
    refine ok_ite (fun h15 => ?_) (fun h15 => ?_)
    · have c16 : x7v.toInt ≤ x11v.toInt := o_le h15
      exact ok_some (show δ = δ from rfl)
    · have c17 : x11v.toInt < x7v.toInt := o_nle h15
      first | (have q19 := te_addc (c := 1) (n := 1) rfl x11v (by omega) (by omega); obtain ⟨f20, f21, f22⟩ := q19) | (obtain ⟨q19, f20, f21, f22⟩ := ti_addc (c := 1) (n := 1) rfl x11v)
      refine ok_ite (fun h23 => ?_) (fun h23 => ?_)
      · have c24 : x7v.toInt ≤ (x11v + (1 : Int32)).toInt := o_le h23
        unfold J_X1_cellsOf_208
        unfold J_X1_cellsOf_213
        refine ok_ite (fun h25 => ?_) (fun h25 => ?_)
        · have c26 : (1 : Int) = (0 : Int) := o_eq h25
          unfold J_X1_cellsOf_244
          refine ok_biv (fun vx27 e28 => ?_)
          first | (have q29 := te_addc (c := 1) (n := 1) rfl x11v (by omega) (by omega); rw [← e28] at q29; obtain ⟨f30, f31, f32⟩ := q29) | (obtain ⟨q29, f30, f31, f32⟩ : ∃ q : Int, vx27.toInt = x11v.toInt + (1 : Int) + 4294967296 * q ∧ -2147483648 ≤ vx27.toInt ∧ vx27.toInt ≤ 2147483647 := by rw [e28]; exact ti_addc (c := 1) (n := 1) rfl x11v)
          refine ok_mono (ih x7v x8v x9v x10v vx27 δ I (show 0 ≤ (x1).toInt by first | assumption | omega) (show (x1).toInt < (x2).toInt by first | assumption | omega) (show (x2).toInt ≤ (q_I δ 3 1 nu).toInt by first | assumption | omega) (show 2 ≤ (x4).toInt by first | assumption | omega) (show (x4).toInt ≤ 16 by first | assumption | omega) (show (x4).toInt ≤ K by first | assumption | omega) (show 0 ≤ (vx27).toInt by first | assumption | omega) (show (vx27).toInt ≤ (x7v).toInt by first | assumption | omega) (show (x7v).toInt ≤ (x2).toInt by first | assumption | omega) (show 0 ≤ (x10v).toInt by first | assumption | omega) (show 1 ≤ (x8v).toInt by first | assumption | omega) (show (x8v).toInt < (x4).toInt by first | assumption | omega) (show (x7v).toInt - (vx27).toInt < _ by omega)) (fun r33 hr34 => ?_)
          have i35 := hr34
          have f36 := ti_b r33.1
          exact by assumption
        · have c37 : (1 : Int) ≠ (0 : Int) := o_ne h25
          refine ok_bind (hT a0 x10v (x11v + (1 : Int32)) x3 x8v δ nu k_a0 hnu knu (show 0 ≤ (x10v).toInt by first | assumption | omega) (show ((x11v + (1 : Int32))).toInt ≤ (q_I δ 3 1 nu).toInt by first | assumption | omega) (show 0 ≤ (x8v).toInt by first | assumption | omega) (show (x8v).toInt ≤ 16 by first | assumption | omega) (show (x8v).toInt < _ by first | assumption | omega) I) (fun r38 hr39 => ?_)
          have i40 := hr39
          try rw [i40]
          have f41 := ti_b r38.1
          have f44 := ti_b x9v
          refine ok_biv (fun vx42 e43 => ?_)
          first | (have q45 := te_add x9v r38.1 (by omega) (by omega); rw [← e43] at q45; obtain ⟨f46, f47, f48⟩ := q45) | (obtain ⟨q45, f46, f47, f48⟩ : ∃ q : Int, vx42.toInt = x9v.toInt + r38.1.toInt + 4294967296 * q ∧ -2147483648 ≤ vx42.toInt ∧ vx42.toInt ≤ 2147483647 := by rw [e43]; exact ti_add x9v r38.1)
          refine ok_biv (fun vx49 e50 => ?_)
          first | (have q51 := te_addc (c := 1) (n := 1) rfl x11v (by omega) (by omega); rw [← e50] at q51; obtain ⟨f52, f53, f54⟩ := q51) | (obtain ⟨q51, f52, f53, f54⟩ : ∃ q : Int, vx49.toInt = x11v.toInt + (1 : Int) + 4294967296 * q ∧ -2147483648 ≤ vx49.toInt ∧ vx49.toInt ≤ 2147483647 := by rw [e50]; exact ti_addc (c := 1) (n := 1) rfl x11v)
          unfold J_X1_cellsOf_244
          refine ok_biv (fun vx55 e56 => ?_)
          first | (have q57 := te_addc (c := 1) (n := 1) rfl x11v (by omega) (by omega); rw [← e56] at q57; obtain ⟨f58, f59, f60⟩ := q57) | (obtain ⟨q57, f58, f59, f60⟩ : ∃ q : Int, vx55.toInt = x11v.toInt + (1 : Int) + 4294967296 * q ∧ -2147483648 ≤ vx55.toInt ∧ vx55.toInt ≤ 2147483647 := by rw [e56]; exact ti_addc (c := 1) (n := 1) rfl x11v)
          refine ok_mono (ih x7v x8v vx42 vx49 vx55 δ I (show 0 ≤ (x1).toInt by first | assumption | omega) (show (x1).toInt < (x2).toInt by first | assumption | omega) (show (x2).toInt ≤ (q_I δ 3 1 nu).toInt by first | assumption | omega) (show 2 ≤ (x4).toInt by first | assumption | omega) (show (x4).toInt ≤ 16 by first | assumption | omega) (show (x4).toInt ≤ K by first | assumption | omega) (show 0 ≤ (vx55).toInt by first | assumption | omega) (show (vx55).toInt ≤ (x7v).toInt by first | assumption | omega) (show (x7v).toInt ≤ (x2).toInt by first | assumption | omega) (show 0 ≤ (vx49).toInt by first | assumption | omega) (show 1 ≤ (x8v).toInt by first | assumption | omega) (show (x8v).toInt < (x4).toInt by first | assumption | omega) (show (x7v).toInt - (vx55).toInt < _ by omega)) (fun r61 hr62 => ?_)
          have i63 := hr62
          have f64 := ti_b r61.1
          exact by assumption
      · have c65 : (x11v + (1 : Int32)).toInt < x7v.toInt := o_nle h23
        have o66 := gH L k_a0 hnu o4
        refine ok_at o66 ?_
        have t67 := ti_tn x11v
        refine ok_gd (fun hc68 => ?_) ?_
        · rcases hc68 with hc68 | hc68
          · have c69 : x11v.toInt < (0 : Int) := o_lt hc68
            omega
          · omega
        refine ok_at o66 ?_
        have t70 := ti_tn (x11v + (1 : Int32))
        refine ok_gd (fun hc71 => ?_) ?_
        · rcases hc71 with hc71 | hc71
          · have c72 : (x11v + (1 : Int32)).toInt < (0 : Int) := o_lt hc71
            omega
          · omega
        have f73 := ti_b ((q_R δ b3 x11v.toNatClampNeg) >>> ((x3 + x8v) &&& 31))
        have f74 := ti_b ((q_R δ b3 (x11v + (1 : Int32)).toNatClampNeg) >>> ((x3 + x8v) &&& 31))
        refine ok_ite (fun h75 => ?_) (fun h75 => ?_)
        · have c76 : ((q_R δ b3 x11v.toNatClampNeg) >>> ((x3 + x8v) &&& 31)).toInt = ((q_R δ b3 (x11v + (1 : Int32)).toNatClampNeg) >>> ((x3 + x8v) &&& 31)).toInt := o_eq h75
          unfold J_X1_cellsOf_213
          refine ok_ite (fun h77 => ?_) (fun h77 => ?_)
          · have c78 : (0 : Int) = (0 : Int) := o_eq h77
            unfold J_X1_cellsOf_244
            refine ok_biv (fun vx79 e80 => ?_)
            first | (have q81 := te_addc (c := 1) (n := 1) rfl x11v (by omega) (by omega); rw [← e80] at q81; obtain ⟨f82, f83, f84⟩ := q81) | (obtain ⟨q81, f82, f83, f84⟩ : ∃ q : Int, vx79.toInt = x11v.toInt + (1 : Int) + 4294967296 * q ∧ -2147483648 ≤ vx79.toInt ∧ vx79.toInt ≤ 2147483647 := by rw [e80]; exact ti_addc (c := 1) (n := 1) rfl x11v)
            refine ok_mono (ih x7v x8v x9v x10v vx79 δ I (show 0 ≤ (x1).toInt by first | assumption | omega) (show (x1).toInt < (x2).toInt by first | assumption | omega) (show (x2).toInt ≤ (q_I δ 3 1 nu).toInt by first | assumption | omega) (show 2 ≤ (x4).toInt by first | assumption | omega) (show (x4).toInt ≤ 16 by first | assumption | omega) (show (x4).toInt ≤ K by first | assumption | omega) (show 0 ≤ (vx79).toInt by first | assumption | omega) (show (vx79).toInt ≤ (x7v).toInt by first | assumption | omega) (show (x7v).toInt ≤ (x2).toInt by first | assumption | omega) (show 0 ≤ (x10v).toInt by first | assumption | omega) (show 1 ≤ (x8v).toInt by first | assumption | omega) (show (x8v).toInt < (x4).toInt by first | assumption | omega) (show (x7v).toInt - (vx79).toInt < _ by omega)) (fun r85 hr86 => ?_)
            have i87 := hr86
            have f88 := ti_b r85.1
            exact by assumption
          · have c89 : (0 : Int) ≠ (0 : Int) := o_ne h77
            refine ok_bind (hT a0 x10v (x11v + (1 : Int32)) x3 x8v δ nu k_a0 hnu knu (show 0 ≤ (x10v).toInt by first | assumption | omega) (show ((x11v + (1 : Int32))).toInt ≤ (q_I δ 3 1 nu).toInt by first | assumption | omega) (show 0 ≤ (x8v).toInt by first | assumption | omega) (show (x8v).toInt ≤ 16 by first | assumption | omega) (show (x8v).toInt < _ by first | assumption | omega) I) (fun r90 hr91 => ?_)
            have i92 := hr91
            try rw [i92]
            have f93 := ti_b r90.1
            have f96 := ti_b x9v
            refine ok_biv (fun vx94 e95 => ?_)
            first | (have q97 := te_add x9v r90.1 (by omega) (by omega); rw [← e95] at q97; obtain ⟨f98, f99, f100⟩ := q97) | (obtain ⟨q97, f98, f99, f100⟩ : ∃ q : Int, vx94.toInt = x9v.toInt + r90.1.toInt + 4294967296 * q ∧ -2147483648 ≤ vx94.toInt ∧ vx94.toInt ≤ 2147483647 := by rw [e95]; exact ti_add x9v r90.1)
            refine ok_biv (fun vx101 e102 => ?_)
            first | (have q103 := te_addc (c := 1) (n := 1) rfl x11v (by omega) (by omega); rw [← e102] at q103; obtain ⟨f104, f105, f106⟩ := q103) | (obtain ⟨q103, f104, f105, f106⟩ : ∃ q : Int, vx101.toInt = x11v.toInt + (1 : Int) + 4294967296 * q ∧ -2147483648 ≤ vx101.toInt ∧ vx101.toInt ≤ 2147483647 := by rw [e102]; exact ti_addc (c := 1) (n := 1) rfl x11v)
            unfold J_X1_cellsOf_244
            refine ok_biv (fun vx107 e108 => ?_)
            first | (have q109 := te_addc (c := 1) (n := 1) rfl x11v (by omega) (by omega); rw [← e108] at q109; obtain ⟨f110, f111, f112⟩ := q109) | (obtain ⟨q109, f110, f111, f112⟩ : ∃ q : Int, vx107.toInt = x11v.toInt + (1 : Int) + 4294967296 * q ∧ -2147483648 ≤ vx107.toInt ∧ vx107.toInt ≤ 2147483647 := by rw [e108]; exact ti_addc (c := 1) (n := 1) rfl x11v)
            refine ok_mono (ih x7v x8v vx94 vx101 vx107 δ I (show 0 ≤ (x1).toInt by first | assumption | omega) (show (x1).toInt < (x2).toInt by first | assumption | omega) (show (x2).toInt ≤ (q_I δ 3 1 nu).toInt by first | assumption | omega) (show 2 ≤ (x4).toInt by first | assumption | omega) (show (x4).toInt ≤ 16 by first | assumption | omega) (show (x4).toInt ≤ K by first | assumption | omega) (show 0 ≤ (vx107).toInt by first | assumption | omega) (show (vx107).toInt ≤ (x7v).toInt by first | assumption | omega) (show (x7v).toInt ≤ (x2).toInt by first | assumption | omega) (show 0 ≤ (vx101).toInt by first | assumption | omega) (show 1 ≤ (x8v).toInt by first | assumption | omega) (show (x8v).toInt < (x4).toInt by first | assumption | omega) (show (x7v).toInt - (vx107).toInt < _ by omega)) (fun r113 hr114 => ?_)
            have i115 := hr114
            have f116 := ti_b r113.1
            exact by assumption
        · have c117 : ((q_R δ b3 x11v.toNatClampNeg) >>> ((x3 + x8v) &&& 31)).toInt ≠ ((q_R δ b3 (x11v + (1 : Int32)).toNatClampNeg) >>> ((x3 + x8v) &&& 31)).toInt := o_ne h75
          unfold J_X1_cellsOf_208
          unfold J_X1_cellsOf_213
          refine ok_ite (fun h118 => ?_) (fun h118 => ?_)
          · have c119 : (1 : Int) = (0 : Int) := o_eq h118
            unfold J_X1_cellsOf_244
            refine ok_biv (fun vx120 e121 => ?_)
            first | (have q122 := te_addc (c := 1) (n := 1) rfl x11v (by omega) (by omega); rw [← e121] at q122; obtain ⟨f123, f124, f125⟩ := q122) | (obtain ⟨q122, f123, f124, f125⟩ : ∃ q : Int, vx120.toInt = x11v.toInt + (1 : Int) + 4294967296 * q ∧ -2147483648 ≤ vx120.toInt ∧ vx120.toInt ≤ 2147483647 := by rw [e121]; exact ti_addc (c := 1) (n := 1) rfl x11v)
            refine ok_mono (ih x7v x8v x9v x10v vx120 δ I (show 0 ≤ (x1).toInt by first | assumption | omega) (show (x1).toInt < (x2).toInt by first | assumption | omega) (show (x2).toInt ≤ (q_I δ 3 1 nu).toInt by first | assumption | omega) (show 2 ≤ (x4).toInt by first | assumption | omega) (show (x4).toInt ≤ 16 by first | assumption | omega) (show (x4).toInt ≤ K by first | assumption | omega) (show 0 ≤ (vx120).toInt by first | assumption | omega) (show (vx120).toInt ≤ (x7v).toInt by first | assumption | omega) (show (x7v).toInt ≤ (x2).toInt by first | assumption | omega) (show 0 ≤ (x10v).toInt by first | assumption | omega) (show 1 ≤ (x8v).toInt by first | assumption | omega) (show (x8v).toInt < (x4).toInt by first | assumption | omega) (show (x7v).toInt - (vx120).toInt < _ by omega)) (fun r126 hr127 => ?_)
            have i128 := hr127
            have f129 := ti_b r126.1
            exact by assumption
          · have c130 : (1 : Int) ≠ (0 : Int) := o_ne h118
            refine ok_bind (hT a0 x10v (x11v + (1 : Int32)) x3 x8v δ nu k_a0 hnu knu (show 0 ≤ (x10v).toInt by first | assumption | omega) (show ((x11v + (1 : Int32))).toInt ≤ (q_I δ 3 1 nu).toInt by first | assumption | omega) (show 0 ≤ (x8v).toInt by first | assumption | omega) (show (x8v).toInt ≤ 16 by first | assumption | omega) (show (x8v).toInt < _ by first | assumption | omega) I) (fun r131 hr132 => ?_)
            have i133 := hr132
            try rw [i133]
            have f134 := ti_b r131.1
            have f137 := ti_b x9v
            refine ok_biv (fun vx135 e136 => ?_)
            first | (have q138 := te_add x9v r131.1 (by omega) (by omega); rw [← e136] at q138; obtain ⟨f139, f140, f141⟩ := q138) | (obtain ⟨q138, f139, f140, f141⟩ : ∃ q : Int, vx135.toInt = x9v.toInt + r131.1.toInt + 4294967296 * q ∧ -2147483648 ≤ vx135.toInt ∧ vx135.toInt ≤ 2147483647 := by rw [e136]; exact ti_add x9v r131.1)
            refine ok_biv (fun vx142 e143 => ?_)
            first | (have q144 := te_addc (c := 1) (n := 1) rfl x11v (by omega) (by omega); rw [← e143] at q144; obtain ⟨f145, f146, f147⟩ := q144) | (obtain ⟨q144, f145, f146, f147⟩ : ∃ q : Int, vx142.toInt = x11v.toInt + (1 : Int) + 4294967296 * q ∧ -2147483648 ≤ vx142.toInt ∧ vx142.toInt ≤ 2147483647 := by rw [e143]; exact ti_addc (c := 1) (n := 1) rfl x11v)
            unfold J_X1_cellsOf_244
            refine ok_biv (fun vx148 e149 => ?_)
            first | (have q150 := te_addc (c := 1) (n := 1) rfl x11v (by omega) (by omega); rw [← e149] at q150; obtain ⟨f151, f152, f153⟩ := q150) | (obtain ⟨q150, f151, f152, f153⟩ : ∃ q : Int, vx148.toInt = x11v.toInt + (1 : Int) + 4294967296 * q ∧ -2147483648 ≤ vx148.toInt ∧ vx148.toInt ≤ 2147483647 := by rw [e149]; exact ti_addc (c := 1) (n := 1) rfl x11v)
            refine ok_mono (ih x7v x8v vx135 vx142 vx148 δ I (show 0 ≤ (x1).toInt by first | assumption | omega) (show (x1).toInt < (x2).toInt by first | assumption | omega) (show (x2).toInt ≤ (q_I δ 3 1 nu).toInt by first | assumption | omega) (show 2 ≤ (x4).toInt by first | assumption | omega) (show (x4).toInt ≤ 16 by first | assumption | omega) (show (x4).toInt ≤ K by first | assumption | omega) (show 0 ≤ (vx148).toInt by first | assumption | omega) (show (vx148).toInt ≤ (x7v).toInt by first | assumption | omega) (show (x7v).toInt ≤ (x2).toInt by first | assumption | omega) (show 0 ≤ (vx142).toInt by first | assumption | omega) (show 1 ≤ (x8v).toInt by first | assumption | omega) (show (x8v).toInt < (x4).toInt by first | assumption | omega) (show (x7v).toInt - (vx148).toInt < _ by omega)) (fun r154 hr155 => ?_)
            have i156 := hr155
            have f157 := ti_b r154.1
            exact by assumption
set_option maxHeartbeats 4000000 in
theorem kl_X1_cellsOf_80 {ad : List Nat} {h : hp} (L : Lay TLx ad h) {δ0 : dp} {N : Nat} (hN : 10000000 ≤ N) {T : Nat → Int32 → Int32 → Int32 → Int32 → dp → Option (Int32 × dp)} {K : Int} (hT : ∀ (a0 : Nat) (x1 : Int32) (x2 : Int32) (x3 : Int32) (x4 : Int32) (δ : dp) (nu : Nat), q_K h.1 a0 = 1 → q_O h.1 1 1 a0 = some nu → q_K h.1 nu = 3 → 0 ≤ (x1).toInt → (x2).toInt ≤ (q_I δ 3 1 nu).toInt → 0 ≤ (x4).toInt → (x4).toInt ≤ 16 → (x4).toInt < K → CI ad h.1 δ0 δ → ok (T a0 x1 x2 x3 x4 δ) (fun r => r.2 = δ)) {a0 : Nat} {x1 : Int32} {x2 : Int32} {x3 : Int32} {x4 : Int32} {nu : Nat} (k_a0 : q_K h.1 a0 = 1) (hnu : q_O h.1 1 1 a0 = some nu) (knu : q_K h.1 nu = 3) : ∀ (n : Nat) (x5v : Int32) (x6v : Int32) (x7v : Int32) (δ : dp), CI ad h.1 δ0 δ → 0 ≤ (x1).toInt → (x1).toInt < (x2).toInt → (x2).toInt ≤ (q_I δ 3 1 nu).toInt → 2 ≤ (x4).toInt → (x4).toInt ≤ 16 → (x4).toInt ≤ K → (x1).toInt ≤ (x6v).toInt → (x6v).toInt ≤ (x7v).toInt → (x7v).toInt ≤ (x2).toInt → (x7v).toInt - (x6v).toInt < (n : Int) → ok (L_X1_cellsOf_80 N h.1 T a0 x1 x2 x3 x4 n x5v x6v x7v δ) (fun r => r.2 = δ) := by
  intro n
  induction n with
  | zero =>
    intro x5v x6v x7v δ I j0 j1 j2 j3 j4 j5 j6 j7 j8 hm
    have f1 := ti_b x1
    have f2 := ti_b x2
    obtain ⟨b3, o4, k5, ⟨n6, n7⟩, w8⟩ := gO_3_0 L knu
    have f9 := cb_3_1 I knu o4
    have f10 := ti_b x4
    have f11 := ti_b x6v
    have f12 := ti_b x7v
    exfalso; omega
  | succ n ih =>
    intro x5v x6v x7v δ I j0 j1 j2 j3 j4 j5 j6 j7 j8 hm
    unfold L_X1_cellsOf_80
    have f1 := ti_b x1
    have f2 := ti_b x2
    obtain ⟨b3, o4, k5, ⟨n6, n7⟩, w8⟩ := gO_3_0 L knu
    have f9 := cb_3_1 I knu o4
    have f10 := ti_b x4
    have f11 := ti_b x6v
    have f12 := ti_b x7v
    refine ok_ite (fun h13 => ?_) (fun h13 => ?_)
    · have c14 : x7v.toInt ≤ x6v.toInt := o_le h13
      unfold J_X1_cellsOf_123
      obtain ⟨b15, o16, k17⟩ := gO_1_0 L k_a0
      refine ok_at o16 ?_
      refine ok_bind (k_X5_lowerBits L hN (a0 := b15) (x1 := x4) k17 I) (fun r18 hr19 => ?_)
      obtain ⟨i20, p21⟩ := hr19
      try rw [i20]
      have f22 := ti_b r18.1
      have f23 := ti_b r18.1
      first | (have q27 := te_sub x4 r18.1 (by omega) (by omega); obtain ⟨f28, f29, f30⟩ := q27) | (obtain ⟨q27, f28, f29, f30⟩ := ti_sub x4 r18.1)
      refine ok_bind (hT a0 x6v x7v (x3 + r18.1) (x4 - r18.1) δ nu k_a0 hnu knu (show 0 ≤ (x6v).toInt by first | assumption | omega) (show (x7v).toInt ≤ (q_I δ 3 1 nu).toInt by first | assumption | omega) (show 0 ≤ ((x4 - r18.1)).toInt by first | assumption | omega) (show ((x4 - r18.1)).toInt ≤ 16 by first | assumption | omega) (show ((x4 - r18.1)).toInt < _ by first | assumption | omega) I) (fun r24 hr25 => ?_)
      have i31 := hr25
      try rw [i31]
      have f32 := ti_b r24.1
      refine ok_biv (fun vx33 e34 => ?_)
      first | (have q35 := te_cadd (c := 2) (n := 2) rfl r24.1 (by omega) (by omega); rw [← e34] at q35; obtain ⟨f36, f37, f38⟩ := q35) | (obtain ⟨q35, f36, f37, f38⟩ : ∃ q : Int, vx33.toInt = (2 : Int) + r24.1.toInt + 4294967296 * q ∧ -2147483648 ≤ vx33.toInt ∧ vx33.toInt ≤ 2147483647 := by rw [e34]; exact ti_cadd (c := 2) (n := 2) rfl r24.1)
      refine ok_mono (kl_X1_cellsOf_163 L hN hT k_a0 hnu knu _ x7v r18.1 vx33 x6v x6v δ I (show 0 ≤ (x1).toInt by first | assumption | omega) (show (x1).toInt < (x2).toInt by first | assumption | omega) (show (x2).toInt ≤ (q_I δ 3 1 nu).toInt by first | assumption | omega) (show 2 ≤ (x4).toInt by first | assumption | omega) (show (x4).toInt ≤ 16 by first | assumption | omega) (show (x4).toInt ≤ K by first | assumption | omega) (show 0 ≤ (x6v).toInt by first | assumption | omega) (show (x6v).toInt ≤ (x7v).toInt by first | assumption | omega) (show (x7v).toInt ≤ (x2).toInt by first | assumption | omega) (show 0 ≤ (x6v).toInt by first | assumption | omega) (show 1 ≤ (r18.1).toInt by first | assumption | omega) (show (r18.1).toInt < (x4).toInt by first | assumption | omega) (show (x7v).toInt - (x6v).toInt < _ by omega)) (fun r39 hr40 => ?_)
      have i41 := hr40
      have f42 := ti_b r39.1
      exact by assumption
    · have c43 : x6v.toInt < x7v.toInt := o_nle h13
      have o44 := gH L k_a0 hnu o4
      refine ok_at o44 ?_
      first | (have q46 := te_subc (c := 1) (n := 1) rfl x7v (by omega) (by omega); obtain ⟨f47, f48, f49⟩ := q46) | (obtain ⟨q46, f47, f48, f49⟩ := ti_subc (c := 1) (n := 1) rfl x7v)
      have t50 := ti_tn (x7v - (1 : Int32))
      refine ok_gd (fun hc51 => ?_) ?_
      · rcases hc51 with hc51 | hc51
        · have c52 : (x7v - (1 : Int32)).toInt < (0 : Int) := o_lt hc51
          omega
        · omega
      refine ok_at o44 ?_
      first | (have q54 := te_subc (c := 1) (n := 1) rfl x2 (by omega) (by omega); obtain ⟨f55, f56, f57⟩ := q54) | (obtain ⟨q54, f55, f56, f57⟩ := ti_subc (c := 1) (n := 1) rfl x2)
      have t58 := ti_tn (x2 - (1 : Int32))
      refine ok_gd (fun hc59 => ?_) ?_
      · rcases hc59 with hc59 | hc59
        · have c60 : (x2 - (1 : Int32)).toInt < (0 : Int) := o_lt hc59
          omega
        · omega
      have f61 := ti_b (((q_R δ b3 (x7v - (1 : Int32)).toNatClampNeg) >>> (x3 &&& 31)) &&& x5v)
      have f62 := ti_b (((q_R δ b3 (x2 - (1 : Int32)).toNatClampNeg) >>> (x3 &&& 31)) &&& x5v)
      refine ok_ite (fun h63 => ?_) (fun h63 => ?_)
      · have c64 : (((q_R δ b3 (x7v - (1 : Int32)).toNatClampNeg) >>> (x3 &&& 31)) &&& x5v).toInt = (((q_R δ b3 (x2 - (1 : Int32)).toNatClampNeg) >>> (x3 &&& 31)) &&& x5v).toInt := o_eq h63
        refine ok_biv (fun vx65 e66 => ?_)
        first | (have q67 := te_addc (c := -1) (n := -1) (by decide) x7v (by omega) (by omega); rw [← e66] at q67; obtain ⟨f68, f69, f70⟩ := q67) | (obtain ⟨q67, f68, f69, f70⟩ : ∃ q : Int, vx65.toInt = x7v.toInt + (-1 : Int) + 4294967296 * q ∧ -2147483648 ≤ vx65.toInt ∧ vx65.toInt ≤ 2147483647 := by rw [e66]; exact ti_addc (c := -1) (n := -1) (by decide) x7v)
        refine ok_mono (ih x5v x6v vx65 δ I (show 0 ≤ (x1).toInt by first | assumption | omega) (show (x1).toInt < (x2).toInt by first | assumption | omega) (show (x2).toInt ≤ (q_I δ 3 1 nu).toInt by first | assumption | omega) (show 2 ≤ (x4).toInt by first | assumption | omega) (show (x4).toInt ≤ 16 by first | assumption | omega) (show (x4).toInt ≤ K by first | assumption | omega) (show (x1).toInt ≤ (x6v).toInt by first | assumption | omega) (show (x6v).toInt ≤ (vx65).toInt by first | assumption | omega) (show (vx65).toInt ≤ (x2).toInt by first | assumption | omega) (show (vx65).toInt - (x6v).toInt < _ by omega)) (fun r71 hr72 => ?_)
        have i73 := hr72
        have f74 := ti_b r71.1
        exact by assumption
      · have c75 : (((q_R δ b3 (x7v - (1 : Int32)).toNatClampNeg) >>> (x3 &&& 31)) &&& x5v).toInt ≠ (((q_R δ b3 (x2 - (1 : Int32)).toNatClampNeg) >>> (x3 &&& 31)) &&& x5v).toInt := o_ne h63
        unfold J_X1_cellsOf_123
        obtain ⟨b76, o77, k78⟩ := gO_1_0 L k_a0
        refine ok_at o77 ?_
        refine ok_bind (k_X5_lowerBits L hN (a0 := b76) (x1 := x4) k78 I) (fun r79 hr80 => ?_)
        obtain ⟨i81, p82⟩ := hr80
        try rw [i81]
        have f83 := ti_b r79.1
        have f84 := ti_b r79.1
        first | (have q88 := te_sub x4 r79.1 (by omega) (by omega); obtain ⟨f89, f90, f91⟩ := q88) | (obtain ⟨q88, f89, f90, f91⟩ := ti_sub x4 r79.1)
        refine ok_bind (hT a0 x6v x7v (x3 + r79.1) (x4 - r79.1) δ nu k_a0 hnu knu (show 0 ≤ (x6v).toInt by first | assumption | omega) (show (x7v).toInt ≤ (q_I δ 3 1 nu).toInt by first | assumption | omega) (show 0 ≤ ((x4 - r79.1)).toInt by first | assumption | omega) (show ((x4 - r79.1)).toInt ≤ 16 by first | assumption | omega) (show ((x4 - r79.1)).toInt < _ by first | assumption | omega) I) (fun r85 hr86 => ?_)
        have i92 := hr86
        try rw [i92]
        have f93 := ti_b r85.1
        refine ok_biv (fun vx94 e95 => ?_)
        first | (have q96 := te_cadd (c := 2) (n := 2) rfl r85.1 (by omega) (by omega); rw [← e95] at q96; obtain ⟨f97, f98, f99⟩ := q96) | (obtain ⟨q96, f97, f98, f99⟩ : ∃ q : Int, vx94.toInt = (2 : Int) + r85.1.toInt + 4294967296 * q ∧ -2147483648 ≤ vx94.toInt ∧ vx94.toInt ≤ 2147483647 := by rw [e95]; exact ti_cadd (c := 2) (n := 2) rfl r85.1)
        refine ok_mono (kl_X1_cellsOf_163 L hN hT k_a0 hnu knu _ x7v r79.1 vx94 x6v x6v δ I (show 0 ≤ (x1).toInt by first | assumption | omega) (show (x1).toInt < (x2).toInt by first | assumption | omega) (show (x2).toInt ≤ (q_I δ 3 1 nu).toInt by first | assumption | omega) (show 2 ≤ (x4).toInt by first | assumption | omega) (show (x4).toInt ≤ 16 by first | assumption | omega) (show (x4).toInt ≤ K by first | assumption | omega) (show 0 ≤ (x6v).toInt by first | assumption | omega) (show (x6v).toInt ≤ (x7v).toInt by first | assumption | omega) (show (x7v).toInt ≤ (x2).toInt by first | assumption | omega) (show 0 ≤ (x6v).toInt by first | assumption | omega) (show 1 ≤ (r79.1).toInt by first | assumption | omega) (show (r79.1).toInt < (x4).toInt by first | assumption | omega) (show (x7v).toInt - (x6v).toInt < _ by omega)) (fun r100 hr101 => ?_)
        have i102 := hr101
        have f103 := ti_b r100.1
        exact by assumption
set_option maxHeartbeats 4000000 in
theorem kl_X1_cellsOf_39 {ad : List Nat} {h : hp} (L : Lay TLx ad h) {δ0 : dp} {N : Nat} (hN : 10000000 ≤ N) {T : Nat → Int32 → Int32 → Int32 → Int32 → dp → Option (Int32 × dp)} {K : Int} (hT : ∀ (a0 : Nat) (x1 : Int32) (x2 : Int32) (x3 : Int32) (x4 : Int32) (δ : dp) (nu : Nat), q_K h.1 a0 = 1 → q_O h.1 1 1 a0 = some nu → q_K h.1 nu = 3 → 0 ≤ (x1).toInt → (x2).toInt ≤ (q_I δ 3 1 nu).toInt → 0 ≤ (x4).toInt → (x4).toInt ≤ 16 → (x4).toInt < K → CI ad h.1 δ0 δ → ok (T a0 x1 x2 x3 x4 δ) (fun r => r.2 = δ)) {a0 : Nat} {x1 : Int32} {x2 : Int32} {x3 : Int32} {x4 : Int32} {nu : Nat} (k_a0 : q_K h.1 a0 = 1) (hnu : q_O h.1 1 1 a0 = some nu) (knu : q_K h.1 nu = 3) : ∀ (n : Nat) (x5v : Int32) (x6v : Int32) (δ : dp), CI ad h.1 δ0 δ → 0 ≤ (x1).toInt → (x1).toInt < (x2).toInt → (x2).toInt ≤ (q_I δ 3 1 nu).toInt → 2 ≤ (x4).toInt → (x4).toInt ≤ 16 → (x4).toInt ≤ K → (x1).toInt ≤ (x6v).toInt → (x6v).toInt ≤ (x2).toInt → (x2).toInt - (x6v).toInt < (n : Int) → ok (L_X1_cellsOf_39 N h.1 T a0 x1 x2 x3 x4 n x5v x6v δ) (fun r => r.2 = δ) := by
  intro n
  induction n with
  | zero =>
    intro x5v x6v δ I j0 j1 j2 j3 j4 j5 j6 j7 hm
    have f1 := ti_b x1
    have f2 := ti_b x2
    obtain ⟨b3, o4, k5, ⟨n6, n7⟩, w8⟩ := gO_3_0 L knu
    have f9 := cb_3_1 I knu o4
    have f10 := ti_b x4
    have f11 := ti_b x6v
    exfalso; omega
  | succ n ih =>
    intro x5v x6v δ I j0 j1 j2 j3 j4 j5 j6 j7 hm
    unfold L_X1_cellsOf_39
    have f1 := ti_b x1
    have f2 := ti_b x2
    obtain ⟨b3, o4, k5, ⟨n6, n7⟩, w8⟩ := gO_3_0 L knu
    have f9 := cb_3_1 I knu o4
    have f10 := ti_b x4
    have f11 := ti_b x6v
    refine ok_ite (fun h12 => ?_) (fun h12 => ?_)
    · have c13 : x2.toInt ≤ x6v.toInt := o_le h12
      unfold J_X1_cellsOf_77
      refine ok_mono (kl_X1_cellsOf_80 L hN hT k_a0 hnu knu _ x5v x6v x2 δ I (show 0 ≤ (x1).toInt by first | assumption | omega) (show (x1).toInt < (x2).toInt by first | assumption | omega) (show (x2).toInt ≤ (q_I δ 3 1 nu).toInt by first | assumption | omega) (show 2 ≤ (x4).toInt by first | assumption | omega) (show (x4).toInt ≤ 16 by first | assumption | omega) (show (x4).toInt ≤ K by first | assumption | omega) (show (x1).toInt ≤ (x6v).toInt by first | assumption | omega) (show (x6v).toInt ≤ (x2).toInt by first | assumption | omega) (show (x2).toInt ≤ (x2).toInt by first | assumption | omega) (show (x2).toInt - (x6v).toInt < _ by omega)) (fun r14 hr15 => ?_)
      have i16 := hr15
      have f17 := ti_b r14.1
      exact by assumption
    · have c18 : x6v.toInt < x2.toInt := o_nle h12
      have o19 := gH L k_a0 hnu o4
      refine ok_at o19 ?_
      have t20 := ti_tn x6v
      refine ok_gd (fun hc21 => ?_) ?_
      · rcases hc21 with hc21 | hc21
        · have c22 : x6v.toInt < (0 : Int) := o_lt hc21
          omega
        · omega
      refine ok_at o19 ?_
      have t23 := ti_tn x1
      refine ok_gd (fun hc24 => ?_) ?_
      · rcases hc24 with hc24 | hc24
        · have c25 : x1.toInt < (0 : Int) := o_lt hc24
          omega
        · omega
      have f26 := ti_b (((q_R δ b3 x6v.toNatClampNeg) >>> (x3 &&& 31)) &&& x5v)
      have f27 := ti_b (((q_R δ b3 x1.toNatClampNeg) >>> (x3 &&& 31)) &&& x5v)
      refine ok_ite (fun h28 => ?_) (fun h28 => ?_)
      · have c29 : (((q_R δ b3 x6v.toNatClampNeg) >>> (x3 &&& 31)) &&& x5v).toInt = (((q_R δ b3 x1.toNatClampNeg) >>> (x3 &&& 31)) &&& x5v).toInt := o_eq h28
        refine ok_biv (fun vx30 e31 => ?_)
        first | (have q32 := te_addc (c := 1) (n := 1) rfl x6v (by omega) (by omega); rw [← e31] at q32; obtain ⟨f33, f34, f35⟩ := q32) | (obtain ⟨q32, f33, f34, f35⟩ : ∃ q : Int, vx30.toInt = x6v.toInt + (1 : Int) + 4294967296 * q ∧ -2147483648 ≤ vx30.toInt ∧ vx30.toInt ≤ 2147483647 := by rw [e31]; exact ti_addc (c := 1) (n := 1) rfl x6v)
        refine ok_mono (ih x5v vx30 δ I (show 0 ≤ (x1).toInt by first | assumption | omega) (show (x1).toInt < (x2).toInt by first | assumption | omega) (show (x2).toInt ≤ (q_I δ 3 1 nu).toInt by first | assumption | omega) (show 2 ≤ (x4).toInt by first | assumption | omega) (show (x4).toInt ≤ 16 by first | assumption | omega) (show (x4).toInt ≤ K by first | assumption | omega) (show (x1).toInt ≤ (vx30).toInt by first | assumption | omega) (show (vx30).toInt ≤ (x2).toInt by first | assumption | omega) (show (x2).toInt - (vx30).toInt < _ by omega)) (fun r36 hr37 => ?_)
        have i38 := hr37
        have f39 := ti_b r36.1
        exact by assumption
      · have c40 : (((q_R δ b3 x6v.toNatClampNeg) >>> (x3 &&& 31)) &&& x5v).toInt ≠ (((q_R δ b3 x1.toNatClampNeg) >>> (x3 &&& 31)) &&& x5v).toInt := o_ne h28
        unfold J_X1_cellsOf_77
        refine ok_mono (kl_X1_cellsOf_80 L hN hT k_a0 hnu knu _ x5v x6v x2 δ I (show 0 ≤ (x1).toInt by first | assumption | omega) (show (x1).toInt < (x2).toInt by first | assumption | omega) (show (x2).toInt ≤ (q_I δ 3 1 nu).toInt by first | assumption | omega) (show 2 ≤ (x4).toInt by first | assumption | omega) (show (x4).toInt ≤ 16 by first | assumption | omega) (show (x4).toInt ≤ K by first | assumption | omega) (show (x1).toInt ≤ (x6v).toInt by first | assumption | omega) (show (x6v).toInt ≤ (x2).toInt by first | assumption | omega) (show (x2).toInt ≤ (x2).toInt by first | assumption | omega) (show (x2).toInt - (x6v).toInt < _ by omega)) (fun r41 hr42 => ?_)
        have i43 := hr42
        have f44 := ti_b r41.1
        exact by assumption
set_option maxHeartbeats 4000000 in
theorem ke_X1_cellsOf {ad : List Nat} {h : hp} (L : Lay TLx ad h) {δ0 : dp} {N : Nat} (hN : 10000000 ≤ N) : ∀ (k : Nat), ∀ (a0 : Nat) (x1 : Int32) (x2 : Int32) (x3 : Int32) (x4 : Int32) (δ : dp) (nu : Nat), q_K h.1 a0 = 1 → q_O h.1 1 1 a0 = some nu → q_K h.1 nu = 3 → 0 ≤ (x1).toInt → (x2).toInt ≤ (q_I δ 3 1 nu).toInt → 0 ≤ (x4).toInt → (x4).toInt ≤ 16 → (x4).toInt < (k : Int) → CI ad h.1 δ0 δ → ok (E_X1_cellsOf N h.1 k a0 x1 x2 x3 x4 δ) (fun r => r.2 = δ) := by
  intro k
  induction k with
  | zero =>
    intro a0 x1 x2 x3 x4 δ nu k_a0 hnu knu z0 z1 z2 z3 hd I
    exfalso; omega
  | succ k ih =>
    intro a0 x1 x2 x3 x4 δ nu k_a0 hnu knu z0 z1 z2 z3 hd I
    unfold E_X1_cellsOf B_X1_cellsOf
    have f1 := ti_b x1
    have f2 := ti_b x2
    obtain ⟨b3, o4, k5, ⟨n6, n7⟩, w8⟩ := gO_3_0 L knu
    have f9 := cb_3_1 I knu o4
    have f10 := ti_b x4
    refine ok_ite (fun h11 => ?_) (fun h11 => ?_)
    · have c12 : x2.toInt ≤ x1.toInt := o_le h11
      unfold J_X1_cellsOf_17
      refine ok_ite (fun h13 => ?_) (fun h13 => ?_)
      · have c14 : x1.toInt < x2.toInt := o_lt h13
        unfold J_X1_cellsOf_27
        exact ok_some (show δ = δ from rfl)
      · have c15 : x2.toInt ≤ x1.toInt := o_nlt h13
        unfold J_X1_cellsOf_27
        exact ok_some (show δ = δ from rfl)
    · have c16 : x1.toInt < x2.toInt := o_nle h11
      obtain ⟨b17, o18, k19⟩ := gO_1_0 L k_a0
      refine ok_at o18 ?_
      have f20 := cb_5_2 I k19
      refine ok_ite (fun h21 => ?_) (fun h21 => ?_)
      · have c22 : (q_I δ 5 2 b17).toInt < x4.toInt := o_lt h21
        have f25 := sh_b x4
        have f26 := ti_b ((1 : Int32) <<< (x4 &&& 31))
        refine ok_biv (fun vx23 e24 => ?_)
        first | (have q27 := te_subc (c := 1) (n := 1) rfl ((1 : Int32) <<< (x4 &&& 31)) (by omega) (by omega); rw [← e24] at q27; obtain ⟨f28, f29, f30⟩ := q27) | (obtain ⟨q27, f28, f29, f30⟩ : ∃ q : Int, vx23.toInt = ((1 : Int32) <<< (x4 &&& 31)).toInt - (1 : Int) + 4294967296 * q ∧ -2147483648 ≤ vx23.toInt ∧ vx23.toInt ≤ 2147483647 := by rw [e24]; exact ti_subc (c := 1) (n := 1) rfl ((1 : Int32) <<< (x4 &&& 31)))
        refine ok_mono (kl_X1_cellsOf_39 L hN ih k_a0 hnu knu _ vx23 x1 δ I (show 0 ≤ (x1).toInt by first | assumption | omega) (show (x1).toInt < (x2).toInt by first | assumption | omega) (show (x2).toInt ≤ (q_I δ 3 1 nu).toInt by first | assumption | omega) (show 2 ≤ (x4).toInt by first | assumption | omega) (show (x4).toInt ≤ 16 by first | assumption | omega) (show (x4).toInt ≤ (k : Int) by first | assumption | omega) (show (x1).toInt ≤ (x1).toInt by first | assumption | omega) (show (x1).toInt ≤ (x2).toInt by first | assumption | omega) (show (x2).toInt - (x1).toInt < _ by omega)) (fun r31 hr32 => ?_)
        have i33 := hr32
        have f34 := ti_b r31.1
        exact by assumption
      · have c35 : x4.toInt ≤ (q_I δ 5 2 b17).toInt := o_nlt h21
        unfold J_X1_cellsOf_17
        refine ok_ite (fun h36 => ?_) (fun h36 => ?_)
        · have c37 : x1.toInt < x2.toInt := o_lt h36
          unfold J_X1_cellsOf_27
          exact ok_some (show δ = δ from rfl)
        · have c38 : x2.toInt ≤ x1.toInt := o_nlt h36
          unfold J_X1_cellsOf_27
          exact ok_some (show δ = δ from rfl)
set_option maxHeartbeats 4000000 in
theorem k_X1_cellsOf {ad : List Nat} {h : hp} (L : Lay TLx ad h) {δ0 : dp} {N : Nat} (hN : 10000000 ≤ N) {a0 : Nat} {x1 : Int32} {x2 : Int32} {x3 : Int32} {x4 : Int32} {nu : Nat} (k_a0 : q_K h.1 a0 = 1) (hnu : q_O h.1 1 1 a0 = some nu) (knu : q_K h.1 nu = 3) {δ : dp} (z0 : 0 ≤ (x1).toInt) (z1 : (x2).toInt ≤ (q_I δ 3 1 nu).toInt) (z2 : 0 ≤ (x4).toInt) (z3 : (x4).toInt ≤ 16) (hd : (x4).toInt < 20) (I : CI ad h.1 δ0 δ) : ok (D_X1_cellsOf N h.1 a0 x1 x2 x3 x4 δ) (fun r => r.2 = δ) := ke_X1_cellsOf L hN 20 a0 x1 x2 x3 x4 δ nu k_a0 hnu knu z0 z1 z2 z3 hd I
set_option maxHeartbeats 4000000 in
theorem k_X1_allCells {ad : List Nat} {h : hp} (L : Lay TLx ad h) {δ0 : dp} {N : Nat} (hN : 10000000 ≤ N) {a0 : Nat} (k_a0 : q_K h.1 a0 = 1) {δ : dp} (I : CI ad h.1 δ0 δ) : ok (D_X1_allCells N h.1 a0 δ) (fun r => r.2 = δ) := by
  unfold D_X1_allCells
  obtain ⟨b1, o2, k3⟩ := gO_1_1 L k_a0
  refine ok_at o2 ?_
  obtain ⟨b4, o5, k6⟩ := gO_1_0 L k_a0
  refine ok_at o5 ?_
  obtain ⟨b9, o10, k11, ⟨n12, n13⟩, w14⟩ := gO_3_0 L k3
  have f15 := cb_3_1 I k3 o10
  have f16 := cb_5_0 I k6
  refine ok_bind (k_X1_cellsOf L hN (a0 := a0) (x1 := (0 : Int32)) (x2 := (q_I δ 3 1 b1)) (x3 := (0 : Int32)) (x4 := (q_I δ 5 0 b4)) k_a0 o2 k3 (show 0 ≤ (0 : Int) by first | assumption | omega) (show ((q_I δ 3 1 b1)).toInt ≤ (q_I δ 3 1 b1).toInt by first | assumption | omega) (show 0 ≤ ((q_I δ 5 0 b4)).toInt by first | assumption | omega) (show ((q_I δ 5 0 b4)).toInt ≤ 16 by first | assumption | omega) (show ((q_I δ 5 0 b4)).toInt < 20 by first | assumption | omega) I) (fun r7 hr8 => ?_)
  have i17 := hr8
  try rw [i17]
  have f18 := ti_b r7.1
  exact ok_some (show δ = δ from rfl)
