/-! 57.kX1 (by gen_safe.py) -/
set_option maxHeartbeats 4000000 in
theorem k_X1_valueAt {ad : List Nat} {h : hp} (L : Lay TLx ad h) {δ0 : dp} {N : Nat} (hN : 10000000 ≤ N) {a0 : Nat} {x1 : Int32} {nu : Nat} (k_a0 : q_K h.1 a0 = 1) (hnu : q_O h.1 1 1 a0 = some nu) (knu : q_K h.1 nu = 3) {δ : dp} (z0 : 0 ≤ (x1).toInt) (z1 : (x1).toInt < (q_I δ 3 1 nu).toInt) (I : CI ad h.1 δ0 δ) : ok (D_X1_valueAt N h.1 a0 x1 δ) (fun r => r.2 = δ) := by
  unfold D_X1_valueAt
  have f1 := ti_b x1
  obtain ⟨b2, o3, k4, ⟨n5, n6⟩, w7⟩ := gO_3_0 L knu
  have f8 := cb_3_1 I knu o3
  have o9 := gH L k_a0 hnu o3
  refine ok_at o9 ?_
  have t10 := ti_tn x1
  refine ok_gd (fun hc11 => ?_) ?_
  · rcases hc11 with hc11 | hc11
    · have c12 : x1.toInt < (0 : Int) := o_lt hc11
      omega
    · omega
  exact ok_some (show δ = δ from rfl)
set_option maxHeartbeats 4000000 in
theorem kl_X1_firstFrom_10 {ad : List Nat} {h : hp} (L : Lay TLx ad h) {δ0 : dp} {N : Nat} (hN : 10000000 ≤ N) {a0 : Nat} {x3 : Int32} {nu : Nat} (k_a0 : q_K h.1 a0 = 1) (hnu : q_O h.1 1 1 a0 = some nu) (knu : q_K h.1 nu = 3) : ∀ (n : Nat) (x1v : Int32) (x2v : Int32) (x4v : Int32) (δ : dp), CI ad h.1 δ0 δ → 0 ≤ (x1v).toInt → (x1v).toInt ≤ (x2v).toInt → (x2v).toInt ≤ (q_I δ 3 1 nu).toInt → (x2v).toInt - (x1v).toInt < (n : Int) → ok (L_X1_firstFrom_10 N h.1 a0 x3 n x1v x2v x4v δ) (fun r => r.2 = δ ∧ (x1v).toInt ≤ (r.1).toInt ∧ (r.1).toInt ≤ (x2v).toInt) := by
  intro n
  induction n with
  | zero =>
    intro x1v x2v x4v δ I j0 j1 j2 hm
    have f1 := ti_b x1v
    have f2 := ti_b x2v
    obtain ⟨b3, o4, k5, ⟨n6, n7⟩, w8⟩ := gO_3_0 L knu
    have f9 := cb_3_1 I knu o4
    exfalso; omega
  | succ n ih =>
    intro x1v x2v x4v δ I j0 j1 j2 hm
    unfold L_X1_firstFrom_10
    have f1 := ti_b x1v
    have f2 := ti_b x2v
    obtain ⟨b3, o4, k5, ⟨n6, n7⟩, w8⟩ := gO_3_0 L knu
    have f9 := cb_3_1 I knu o4
    refine ok_ite (fun h10 => ?_) (fun h10 => ?_)
    · have c11 : x2v.toInt ≤ x1v.toInt := o_le h10
      exact ok_some (show δ = δ ∧ (x1v).toInt ≤ (x1v).toInt ∧ (x1v).toInt ≤ (x2v).toInt from ⟨rfl, by first | with_reducible assumption | omega, by first | with_reducible assumption | omega⟩)
    · have c12 : x1v.toInt < x2v.toInt := o_nle h10
      first | (have q16 := te_add x1v x2v (by omega) (by omega); obtain ⟨f17, f18, f19⟩ := q16) | (obtain ⟨q16, f17, f18, f19⟩ := ti_add x1v x2v)
      have f20 := ti_div (c := 2) (n := 2) rfl (by decide) (x1v + x2v)
      have f21 := ti_b ((x1v + x2v) / (2 : Int32))
      refine ok_biv (fun vx13 e14 => ?_)
      have f22 : vx13.toInt = ((x1v + x2v) / (2 : Int32)).toInt := congrArg Int32.toInt e14
      have o23 := gH L k_a0 hnu o4
      refine ok_at o23 ?_
      have t24 := ti_tn vx13
      refine ok_gd (fun hc25 => ?_) ?_
      · rcases hc25 with hc25 | hc25
        · have c26 : vx13.toInt < (0 : Int) := o_lt hc25
          omega
        · omega
      have f27 := ti_b x3
      have f28 := ti_b (((q_R δ b3 vx13.toNatClampNeg) >>> ((q_I δ 1 5 a0) &&& 31)) &&& x4v)
      refine ok_ite (fun h29 => ?_) (fun h29 => ?_)
      · have c30 : x3.toInt ≤ (((q_R δ b3 vx13.toNatClampNeg) >>> ((q_I δ 1 5 a0) &&& 31)) &&& x4v).toInt := o_le h29
        unfold J_X1_firstFrom_52
        refine ok_mono (ih x1v vx13 x4v δ I (show 0 ≤ (x1v).toInt by first | with_reducible assumption | omega) (show (x1v).toInt ≤ (vx13).toInt by first | with_reducible assumption | omega) (show (vx13).toInt ≤ (q_I δ 3 1 nu).toInt by first | with_reducible assumption | omega) (show (vx13).toInt - (x1v).toInt < _ by omega)) (fun r31 hr32 => ?_)
        obtain ⟨i33, p34, p35⟩ := hr32
        have f36 := ti_b r31.1
        exact ⟨by first | with_reducible assumption | assumption, by first | with_reducible assumption | omega, by first | with_reducible assumption | omega⟩
      · have c37 : (((q_R δ b3 vx13.toNatClampNeg) >>> ((q_I δ 1 5 a0) &&& 31)) &&& x4v).toInt < x3.toInt := o_nle h29
        refine ok_biv (fun vx38 e39 => ?_)
        first | (have q40 := te_addc (c := 1) (n := 1) rfl vx13 (by omega) (by omega); rw [← e39] at q40; obtain ⟨f41, f42, f43⟩ := q40) | (obtain ⟨q40, f41, f42, f43⟩ : ∃ q : Int, vx38.toInt = vx13.toInt + (1 : Int) + 4294967296 * q ∧ -2147483648 ≤ vx38.toInt ∧ vx38.toInt ≤ 2147483647 := by rw [e39]; exact ti_addc (c := 1) (n := 1) rfl vx13)
        unfold J_X1_firstFrom_52
        refine ok_mono (ih vx38 x2v x4v δ I (show 0 ≤ (vx38).toInt by first | with_reducible assumption | omega) (show (vx38).toInt ≤ (x2v).toInt by first | with_reducible assumption | omega) (show (x2v).toInt ≤ (q_I δ 3 1 nu).toInt by first | with_reducible assumption | omega) (show (x2v).toInt - (vx38).toInt < _ by omega)) (fun r44 hr45 => ?_)
        obtain ⟨i46, p47, p48⟩ := hr45
        have f49 := ti_b r44.1
        exact ⟨by first | with_reducible assumption | assumption, by first | with_reducible assumption | omega, by first | with_reducible assumption | omega⟩
set_option maxHeartbeats 4000000 in
theorem k_X1_firstFrom {ad : List Nat} {h : hp} (L : Lay TLx ad h) {δ0 : dp} {N : Nat} (hN : 10000000 ≤ N) {a0 : Nat} {x1 : Int32} {x2 : Int32} {x3 : Int32} {nu : Nat} (k_a0 : q_K h.1 a0 = 1) (hnu : q_O h.1 1 1 a0 = some nu) (knu : q_K h.1 nu = 3) {δ : dp} (z0 : 0 ≤ (x1).toInt) (z1 : (x1).toInt ≤ (x2).toInt) (z2 : (x2).toInt ≤ (q_I δ 3 1 nu).toInt) (I : CI ad h.1 δ0 δ) : ok (D_X1_firstFrom N h.1 a0 x1 x2 x3 δ) (fun r => r.2 = δ ∧ (x1).toInt ≤ (r.1).toInt ∧ (r.1).toInt ≤ (x2).toInt) := by
  unfold D_X1_firstFrom
  have f1 := ti_b x1
  have f2 := ti_b x2
  obtain ⟨b3, o4, k5, ⟨n6, n7⟩, w8⟩ := gO_3_0 L knu
  have f9 := cb_3_1 I knu o4
  have f12 := ti_b (q_I δ 1 6 a0)
  have f13 := sh_b (q_I δ 1 6 a0)
  have f14 := ti_b ((1 : Int32) <<< ((q_I δ 1 6 a0) &&& 31))
  refine ok_biv (fun vx10 e11 => ?_)
  first | (have q15 := te_subc (c := 1) (n := 1) rfl ((1 : Int32) <<< ((q_I δ 1 6 a0) &&& 31)) (by omega) (by omega); rw [← e11] at q15; obtain ⟨f16, f17, f18⟩ := q15) | (obtain ⟨q15, f16, f17, f18⟩ : ∃ q : Int, vx10.toInt = ((1 : Int32) <<< ((q_I δ 1 6 a0) &&& 31)).toInt - (1 : Int) + 4294967296 * q ∧ -2147483648 ≤ vx10.toInt ∧ vx10.toInt ≤ 2147483647 := by rw [e11]; exact ti_subc (c := 1) (n := 1) rfl ((1 : Int32) <<< ((q_I δ 1 6 a0) &&& 31)))
  refine ok_mono (kl_X1_firstFrom_10 L hN   k_a0 hnu knu _ x1 x2 vx10 δ I (show 0 ≤ (x1).toInt by first | with_reducible assumption | omega) (show (x1).toInt ≤ (x2).toInt by first | with_reducible assumption | omega) (show (x2).toInt ≤ (q_I δ 3 1 nu).toInt by first | with_reducible assumption | omega) (show (x2).toInt - (x1).toInt < _ by omega)) (fun r19 hr20 => ?_)
  obtain ⟨i21, p22, p23⟩ := hr20
  have f24 := ti_b r19.1
  exact ⟨by first | with_reducible assumption | assumption, by first | with_reducible assumption | omega, by first | with_reducible assumption | omega⟩
set_option maxHeartbeats 4000000 in
theorem k_X1_look {ad : List Nat} {h : hp} (L : Lay TLx ad h) {δ0 : dp} {N : Nat} (hN : 10000000 ≤ N) {a0 : Nat} {nu : Nat} (k_a0 : q_K h.1 a0 = 1) (hnu : q_O h.1 1 1 a0 = some nu) (knu : q_K h.1 nu = 3) {δ : dp} (z0 : 0 ≤ (q_I δ 1 3 a0).toInt) (z1 : (q_I δ 1 4 a0).toInt ≤ (q_I δ 3 1 nu).toInt) (I : CI ad h.1 δ0 δ) : ok (D_X1_look N h.1 a0 δ) (fun r => CI ad h.1 δ0 r ∧ (kp [(1, 7), (1, 9), (1, 10), (1, 11), (1, 12), (1, 15)] δ r ∧ q_V r = q_V δ ∧ q_R r = q_R δ) ∧ ((q_I r 1 15 a0).toInt = 0 → 0 ≤ (q_I r 1 11 a0).toInt ∧ (q_I r 1 11 a0).toInt ≤ (q_I r 1 12 a0).toInt ∧ (q_I r 1 12 a0).toInt ≤ (q_I δ 3 1 nu).toInt)) := by
  unfold D_X1_look
  have f1 := ti_b (q_I δ 1 3 a0)
  have f2 := ti_b (q_I δ 1 4 a0)
  obtain ⟨b3, o4, k5, ⟨n6, n7⟩, w8⟩ := gO_3_0 L knu
  have f9 := cb_3_1 I knu o4
  obtain ⟨b10, o11, k12⟩ := gO_1_0 L k_a0
  refine ok_at o11 ?_
  have f13 := ti_b (q_I δ 1 6 a0)
  have f14 := cb_5_2 I k12
  refine ok_ite (fun h15 => ?_) (fun h15 => ?_)
  · have c16 : (q_I δ 1 6 a0).toInt ≤ (q_I δ 5 2 b10).toInt := o_le h15
    unfold J_X1_look_26
    unfold J_X1_look_31
    refine ok_gp (by decide) ?_
    refine ok_bdv (fun d17 e18 => ?_)
    have i19 : CI ad h.1 δ0 d17 := by rw [e18]; exact cs_1_15 L I k_a0 (show 0 ≤ (1 : Int) by omega) (show (1 : Int) ≤ 1 by omega)
    have u20 := kp_I kp_r e18
    have v21 : q_V d17 = q_V δ := ((show q_V d17 = q_V δ by rw [e18]; rfl)).trans rfl
    have v22 : q_R d17 = q_R δ := ((show q_R d17 = q_R δ by rw [e18]; rfl)).trans rfl
    have f23 := cb_1_15 i19 k_a0
    have f24 : (q_I d17 1 15 a0).toInt = (1 : Int) := congrArg Int32.toInt (show q_I d17 1 15 a0 = (1 : Int32) by rw [e18]; exact rI_s)
    refine ok_ite (fun h25 => ?_) (fun h25 => ?_)
    · have c26 : (q_I d17 1 15 a0).toInt = (0 : Int) := o_eq h25
      have f29 : (q_I d17 1 3 a0).toInt = (q_I δ 1 3 a0).toInt := congrArg Int32.toInt (by rw [e18]; exact rI_o (by decide))
      have f30 : (q_I d17 3 1 nu).toInt = (q_I δ 3 1 nu).toInt := congrArg Int32.toInt (by rw [e18]; exact rI_o (by decide))
      refine ok_bind (k_X1_valueAt L hN (a0 := a0) (x1 := (q_I d17 1 3 a0)) k_a0 hnu knu (show 0 ≤ ((q_I d17 1 3 a0)).toInt by first | with_reducible assumption | omega) (show ((q_I d17 1 3 a0)).toInt < (q_I d17 3 1 nu).toInt by first | with_reducible assumption | omega) i19) (fun r27 hr28 => ?_)
      have i31 := hr28
      try rw [i31]
      have f32 := ti_b r27.1
      refine ok_bdv (fun d33 e34 => ?_)
      have i35 : CI ad h.1 δ0 d33 := by rw [e34]; exact cs_1_9 L i19
      have u36 := kp_I u20 e34
      have v37 : q_V d33 = q_V δ := ((show q_V d33 = q_V d17 by rw [e34]; rfl)).trans v21
      have v38 : q_R d33 = q_R δ := ((show q_R d33 = q_R d17 by rw [e34]; rfl)).trans v22
      have f41 : (q_I d33 1 4 a0).toInt = (q_I δ 1 4 a0).toInt := ((show (q_I d33 1 4 a0).toInt = (q_I d17 1 4 a0).toInt from congrArg Int32.toInt (by rw [e34]; exact rI_o (by decide))).trans (show (q_I d17 1 4 a0).toInt = (q_I δ 1 4 a0).toInt from congrArg Int32.toInt (by rw [e18]; exact rI_o (by decide))))
      first | (have q43 := te_subc (c := 1) (n := 1) rfl (q_I d33 1 4 a0) (by omega) (by omega); obtain ⟨f44, f45, f46⟩ := q43) | (obtain ⟨q43, f44, f45, f46⟩ := ti_subc (c := 1) (n := 1) rfl (q_I d33 1 4 a0))
      have f47 : (q_I d33 3 1 nu).toInt = (q_I d17 3 1 nu).toInt := congrArg Int32.toInt (by rw [e34]; exact rI_o (by decide))
      refine ok_bind (k_X1_valueAt L hN (a0 := a0) (x1 := ((q_I d33 1 4 a0) - (1 : Int32))) k_a0 hnu knu (show 0 ≤ (((q_I d33 1 4 a0) - (1 : Int32))).toInt by first | with_reducible assumption | omega) (show (((q_I d33 1 4 a0) - (1 : Int32))).toInt < (q_I d33 3 1 nu).toInt by first | with_reducible assumption | omega) i35) (fun r39 hr40 => ?_)
      have i48 := hr40
      try rw [i48]
      have f49 := ti_b r39.1
      refine ok_bdv (fun d50 e51 => ?_)
      have i52 : CI ad h.1 δ0 d50 := by rw [e51]; exact cs_1_10 L i35
      have u53 := kp_I u36 e51
      have v54 : q_V d50 = q_V δ := ((show q_V d50 = q_V d33 by rw [e51]; rfl)).trans v37
      have v55 : q_R d50 = q_R δ := ((show q_R d50 = q_R d33 by rw [e51]; rfl)).trans v38
      have f56 : (q_I d50 1 9 a0).toInt = (q_I d33 1 9 a0).toInt := congrArg Int32.toInt (by rw [e51]; exact rI_o (by decide))
      have f57 := ti_b (q_I d33 1 9 a0)
      have f58 : (q_I d33 1 9 a0).toInt = r27.1.toInt := congrArg Int32.toInt (show q_I d33 1 9 a0 = r27.1 by rw [e34]; exact rI_s)
      have f59 := ti_b (q_I d50 1 10 a0)
      have f60 : (q_I d50 1 10 a0).toInt = r39.1.toInt := congrArg Int32.toInt (show q_I d50 1 10 a0 = r39.1 by rw [e51]; exact rI_s)
      refine ok_ite (fun h61 => ?_) (fun h61 => ?_)
      · have c62 : (q_I d50 1 9 a0).toInt = (q_I d50 1 10 a0).toInt := o_eq h61
        unfold J_X1_look_85
        refine ok_gp (by decide) ?_
        refine ok_bdv (fun d63 e64 => ?_)
        have i65 : CI ad h.1 δ0 d63 := by rw [e64]; exact cs_1_15 L i52 k_a0 (show 0 ≤ (1 : Int) by omega) (show (1 : Int) ≤ 1 by omega)
        have u66 := kp_I u53 e64
        have v67 : q_V d63 = q_V δ := ((show q_V d63 = q_V d50 by rw [e64]; rfl)).trans v54
        have v68 : q_R d63 = q_R δ := ((show q_R d63 = q_R d50 by rw [e64]; rfl)).trans v55
        have f69 := cb_1_15 i65 k_a0
        have f70 : (q_I d63 1 15 a0).toInt = (1 : Int) := congrArg Int32.toInt (show q_I d63 1 15 a0 = (1 : Int32) by rw [e64]; exact rI_s)
        refine ok_ite (fun h71 => ?_) (fun h71 => ?_)
        · have c72 : (q_I d63 1 15 a0).toInt = (0 : Int) := o_eq h71
          refine ok_at o11 ?_
          refine ok_bind (k_X5_lowerBits L hN (a0 := b10) (x1 := (q_I d63 1 6 a0)) k12 i65) (fun r73 hr74 => ?_)
          obtain ⟨i75, p76⟩ := hr74
          try rw [i75]
          have f77 : (q_I d63 1 6 a0).toInt = (q_I δ 1 6 a0).toInt := ((show (q_I d63 1 6 a0).toInt = (q_I d50 1 6 a0).toInt from congrArg Int32.toInt (by rw [e64]; exact rI_o (by decide))).trans ((show (q_I d50 1 6 a0).toInt = (q_I d33 1 6 a0).toInt from congrArg Int32.toInt (by rw [e51]; exact rI_o (by decide))).trans ((show (q_I d33 1 6 a0).toInt = (q_I d17 1 6 a0).toInt from congrArg Int32.toInt (by rw [e34]; exact rI_o (by decide))).trans (show (q_I d17 1 6 a0).toInt = (q_I δ 1 6 a0).toInt from congrArg Int32.toInt (by rw [e18]; exact rI_o (by decide))))))
          have f78 := ti_b r73.1
          refine ok_bdv (fun d79 e80 => ?_)
          have i81 : CI ad h.1 δ0 d79 := by rw [e80]; exact cs_1_7 L i65
          have u82 := kp_I u66 e80
          have v83 : q_V d79 = q_V δ := ((show q_V d79 = q_V d63 by rw [e80]; rfl)).trans v67
          have v84 : q_R d79 = q_R δ := ((show q_R d79 = q_R d63 by rw [e80]; rfl)).trans v68
          have f87 : (q_I d79 1 3 a0).toInt = (q_I d17 1 3 a0).toInt := ((show (q_I d79 1 3 a0).toInt = (q_I d63 1 3 a0).toInt from congrArg Int32.toInt (by rw [e80]; exact rI_o (by decide))).trans ((show (q_I d63 1 3 a0).toInt = (q_I d50 1 3 a0).toInt from congrArg Int32.toInt (by rw [e64]; exact rI_o (by decide))).trans ((show (q_I d50 1 3 a0).toInt = (q_I d33 1 3 a0).toInt from congrArg Int32.toInt (by rw [e51]; exact rI_o (by decide))).trans (show (q_I d33 1 3 a0).toInt = (q_I d17 1 3 a0).toInt from congrArg Int32.toInt (by rw [e34]; exact rI_o (by decide))))))
          first | (have q89 := te_addc (c := 1) (n := 1) rfl (q_I d79 1 3 a0) (by omega) (by omega); obtain ⟨f90, f91, f92⟩ := q89) | (obtain ⟨q89, f90, f91, f92⟩ := ti_addc (c := 1) (n := 1) rfl (q_I d79 1 3 a0))
          have f93 : (q_I d79 1 4 a0).toInt = (q_I d33 1 4 a0).toInt := ((show (q_I d79 1 4 a0).toInt = (q_I d63 1 4 a0).toInt from congrArg Int32.toInt (by rw [e80]; exact rI_o (by decide))).trans ((show (q_I d63 1 4 a0).toInt = (q_I d50 1 4 a0).toInt from congrArg Int32.toInt (by rw [e64]; exact rI_o (by decide))).trans (show (q_I d50 1 4 a0).toInt = (q_I d33 1 4 a0).toInt from congrArg Int32.toInt (by rw [e51]; exact rI_o (by decide)))))
          have f94 : (q_I d79 3 1 nu).toInt = (q_I d33 3 1 nu).toInt := ((show (q_I d79 3 1 nu).toInt = (q_I d63 3 1 nu).toInt from congrArg Int32.toInt (by rw [e80]; exact rI_o (by decide))).trans ((show (q_I d63 3 1 nu).toInt = (q_I d50 3 1 nu).toInt from congrArg Int32.toInt (by rw [e64]; exact rI_o (by decide))).trans (show (q_I d50 3 1 nu).toInt = (q_I d33 3 1 nu).toInt from congrArg Int32.toInt (by rw [e51]; exact rI_o (by decide)))))
          refine ok_bind (k_X1_firstFrom L hN (a0 := a0) (x1 := ((q_I d79 1 3 a0) + (1 : Int32))) (x2 := (q_I d79 1 4 a0)) (x3 := ((q_I d79 1 9 a0) + (1 : Int32))) k_a0 hnu knu (show 0 ≤ (((q_I d79 1 3 a0) + (1 : Int32))).toInt by first | with_reducible assumption | omega) (show (((q_I d79 1 3 a0) + (1 : Int32))).toInt ≤ ((q_I d79 1 4 a0)).toInt by first | with_reducible assumption | omega) (show ((q_I d79 1 4 a0)).toInt ≤ (q_I d79 3 1 nu).toInt by first | with_reducible assumption | omega) i81) (fun r85 hr86 => ?_)
          obtain ⟨i95, p96, p97⟩ := hr86
          try rw [i95]
          have f98 := ti_b r85.1
          refine ok_bdv (fun d99 e100 => ?_)
          have i101 : CI ad h.1 δ0 d99 := by rw [e100]; exact cs_1_11 L i81
          have u102 := kp_I u82 e100
          have v103 : q_V d99 = q_V δ := ((show q_V d99 = q_V d79 by rw [e100]; rfl)).trans v83
          have v104 : q_R d99 = q_R δ := ((show q_R d99 = q_R d79 by rw [e100]; rfl)).trans v84
          have f107 := ti_b (q_I d99 1 11 a0)
          have f108 : (q_I d99 1 11 a0).toInt = r85.1.toInt := congrArg Int32.toInt (show q_I d99 1 11 a0 = r85.1 by rw [e100]; exact rI_s)
          have f109 : (q_I d99 1 4 a0).toInt = (q_I d79 1 4 a0).toInt := congrArg Int32.toInt (by rw [e100]; exact rI_o (by decide))
          have f110 : (q_I d99 3 1 nu).toInt = (q_I d79 3 1 nu).toInt := congrArg Int32.toInt (by rw [e100]; exact rI_o (by decide))
          refine ok_bind (k_X1_firstFrom L hN (a0 := a0) (x1 := (q_I d99 1 11 a0)) (x2 := (q_I d99 1 4 a0)) (x3 := (q_I d99 1 10 a0)) k_a0 hnu knu (show 0 ≤ ((q_I d99 1 11 a0)).toInt by first | with_reducible assumption | omega) (show ((q_I d99 1 11 a0)).toInt ≤ ((q_I d99 1 4 a0)).toInt by first | with_reducible assumption | omega) (show ((q_I d99 1 4 a0)).toInt ≤ (q_I d99 3 1 nu).toInt by first | with_reducible assumption | omega) i101) (fun r105 hr106 => ?_)
          obtain ⟨i111, p112, p113⟩ := hr106
          try rw [i111]
          have f114 := ti_b r105.1
          refine ok_bdv (fun d115 e116 => ?_)
          have i117 : CI ad h.1 δ0 d115 := by rw [e116]; exact cs_1_12 L i101
          have u118 := kp_I u102 e116
          have v119 : q_V d115 = q_V δ := ((show q_V d115 = q_V d99 by rw [e116]; rfl)).trans v103
          have v120 : q_R d115 = q_R δ := ((show q_R d115 = q_R d99 by rw [e116]; rfl)).trans v104
          unfold J_X1_look_154
          have f121 : (q_I d115 1 15 a0).toInt = (q_I d63 1 15 a0).toInt := ((show (q_I d115 1 15 a0).toInt = (q_I d99 1 15 a0).toInt from congrArg Int32.toInt (by rw [e116]; exact rI_o (by decide))).trans ((show (q_I d99 1 15 a0).toInt = (q_I d79 1 15 a0).toInt from congrArg Int32.toInt (by rw [e100]; exact rI_o (by decide))).trans (show (q_I d79 1 15 a0).toInt = (q_I d63 1 15 a0).toInt from congrArg Int32.toInt (by rw [e80]; exact rI_o (by decide)))))
          have f122 : (q_I d115 1 11 a0).toInt = (q_I d99 1 11 a0).toInt := congrArg Int32.toInt (by rw [e116]; exact rI_o (by decide))
          have f123 := ti_b (q_I d115 1 12 a0)
          have f124 : (q_I d115 1 12 a0).toInt = r105.1.toInt := congrArg Int32.toInt (show q_I d115 1 12 a0 = r105.1 by rw [e116]; exact rI_s)
          exact ok_some (show CI ad h.1 δ0 d115 ∧ (kp [(1, 7), (1, 9), (1, 10), (1, 11), (1, 12), (1, 15)] δ d115 ∧ q_V d115 = q_V δ ∧ q_R d115 = q_R δ) ∧ ((q_I d115 1 15 a0).toInt = 0 → 0 ≤ (q_I d115 1 11 a0).toInt ∧ (q_I d115 1 11 a0).toInt ≤ (q_I d115 1 12 a0).toInt ∧ (q_I d115 1 12 a0).toInt ≤ (q_I δ 3 1 nu).toInt) from ⟨i117, ⟨kp_w (by decide) u118, v119, v120⟩, by first | with_reducible assumption | omega⟩)
        · have c125 : (q_I d63 1 15 a0).toInt ≠ (0 : Int) := o_ne h71
          unfold J_X1_look_154
          have f126 : (q_I d63 1 11 a0).toInt = (q_I δ 1 11 a0).toInt := ((show (q_I d63 1 11 a0).toInt = (q_I d50 1 11 a0).toInt from congrArg Int32.toInt (by rw [e64]; exact rI_o (by decide))).trans ((show (q_I d50 1 11 a0).toInt = (q_I d33 1 11 a0).toInt from congrArg Int32.toInt (by rw [e51]; exact rI_o (by decide))).trans ((show (q_I d33 1 11 a0).toInt = (q_I d17 1 11 a0).toInt from congrArg Int32.toInt (by rw [e34]; exact rI_o (by decide))).trans (show (q_I d17 1 11 a0).toInt = (q_I δ 1 11 a0).toInt from congrArg Int32.toInt (by rw [e18]; exact rI_o (by decide))))))
          have f127 := ti_b (q_I δ 1 11 a0)
          have f128 : (q_I d63 1 12 a0).toInt = (q_I δ 1 12 a0).toInt := ((show (q_I d63 1 12 a0).toInt = (q_I d50 1 12 a0).toInt from congrArg Int32.toInt (by rw [e64]; exact rI_o (by decide))).trans ((show (q_I d50 1 12 a0).toInt = (q_I d33 1 12 a0).toInt from congrArg Int32.toInt (by rw [e51]; exact rI_o (by decide))).trans ((show (q_I d33 1 12 a0).toInt = (q_I d17 1 12 a0).toInt from congrArg Int32.toInt (by rw [e34]; exact rI_o (by decide))).trans (show (q_I d17 1 12 a0).toInt = (q_I δ 1 12 a0).toInt from congrArg Int32.toInt (by rw [e18]; exact rI_o (by decide))))))
          have f129 := ti_b (q_I δ 1 12 a0)
          exact ok_some (show CI ad h.1 δ0 d63 ∧ (kp [(1, 7), (1, 9), (1, 10), (1, 11), (1, 12), (1, 15)] δ d63 ∧ q_V d63 = q_V δ ∧ q_R d63 = q_R δ) ∧ ((q_I d63 1 15 a0).toInt = 0 → 0 ≤ (q_I d63 1 11 a0).toInt ∧ (q_I d63 1 11 a0).toInt ≤ (q_I d63 1 12 a0).toInt ∧ (q_I d63 1 12 a0).toInt ≤ (q_I δ 3 1 nu).toInt) from ⟨i65, ⟨kp_w (by decide) u66, v67, v68⟩, by first | with_reducible assumption | omega⟩)
      · have c130 : (q_I d50 1 9 a0).toInt ≠ (q_I d50 1 10 a0).toInt := o_ne h61
        unfold J_X1_look_85
        refine ok_gp (by decide) ?_
        refine ok_bdv (fun d131 e132 => ?_)
        have i133 : CI ad h.1 δ0 d131 := by rw [e132]; exact cs_1_15 L i52 k_a0 (show 0 ≤ (0 : Int) by omega) (show (0 : Int) ≤ 1 by omega)
        have u134 := kp_I u53 e132
        have v135 : q_V d131 = q_V δ := ((show q_V d131 = q_V d50 by rw [e132]; rfl)).trans v54
        have v136 : q_R d131 = q_R δ := ((show q_R d131 = q_R d50 by rw [e132]; rfl)).trans v55
        have f137 := cb_1_15 i133 k_a0
        have f138 : (q_I d131 1 15 a0).toInt = (0 : Int) := congrArg Int32.toInt (show q_I d131 1 15 a0 = (0 : Int32) by rw [e132]; exact rI_s)
        refine ok_ite (fun h139 => ?_) (fun h139 => ?_)
        · have c140 : (q_I d131 1 15 a0).toInt = (0 : Int) := o_eq h139
          refine ok_at o11 ?_
          refine ok_bind (k_X5_lowerBits L hN (a0 := b10) (x1 := (q_I d131 1 6 a0)) k12 i133) (fun r141 hr142 => ?_)
          obtain ⟨i143, p144⟩ := hr142
          try rw [i143]
          have f145 : (q_I d131 1 6 a0).toInt = (q_I δ 1 6 a0).toInt := ((show (q_I d131 1 6 a0).toInt = (q_I d50 1 6 a0).toInt from congrArg Int32.toInt (by rw [e132]; exact rI_o (by decide))).trans ((show (q_I d50 1 6 a0).toInt = (q_I d33 1 6 a0).toInt from congrArg Int32.toInt (by rw [e51]; exact rI_o (by decide))).trans ((show (q_I d33 1 6 a0).toInt = (q_I d17 1 6 a0).toInt from congrArg Int32.toInt (by rw [e34]; exact rI_o (by decide))).trans (show (q_I d17 1 6 a0).toInt = (q_I δ 1 6 a0).toInt from congrArg Int32.toInt (by rw [e18]; exact rI_o (by decide))))))
          have f146 := ti_b r141.1
          refine ok_bdv (fun d147 e148 => ?_)
          have i149 : CI ad h.1 δ0 d147 := by rw [e148]; exact cs_1_7 L i133
          have u150 := kp_I u134 e148
          have v151 : q_V d147 = q_V δ := ((show q_V d147 = q_V d131 by rw [e148]; rfl)).trans v135
          have v152 : q_R d147 = q_R δ := ((show q_R d147 = q_R d131 by rw [e148]; rfl)).trans v136
          have f155 : (q_I d147 1 3 a0).toInt = (q_I d17 1 3 a0).toInt := ((show (q_I d147 1 3 a0).toInt = (q_I d131 1 3 a0).toInt from congrArg Int32.toInt (by rw [e148]; exact rI_o (by decide))).trans ((show (q_I d131 1 3 a0).toInt = (q_I d50 1 3 a0).toInt from congrArg Int32.toInt (by rw [e132]; exact rI_o (by decide))).trans ((show (q_I d50 1 3 a0).toInt = (q_I d33 1 3 a0).toInt from congrArg Int32.toInt (by rw [e51]; exact rI_o (by decide))).trans (show (q_I d33 1 3 a0).toInt = (q_I d17 1 3 a0).toInt from congrArg Int32.toInt (by rw [e34]; exact rI_o (by decide))))))
          first | (have q157 := te_addc (c := 1) (n := 1) rfl (q_I d147 1 3 a0) (by omega) (by omega); obtain ⟨f158, f159, f160⟩ := q157) | (obtain ⟨q157, f158, f159, f160⟩ := ti_addc (c := 1) (n := 1) rfl (q_I d147 1 3 a0))
          have f161 : (q_I d147 1 4 a0).toInt = (q_I d33 1 4 a0).toInt := ((show (q_I d147 1 4 a0).toInt = (q_I d131 1 4 a0).toInt from congrArg Int32.toInt (by rw [e148]; exact rI_o (by decide))).trans ((show (q_I d131 1 4 a0).toInt = (q_I d50 1 4 a0).toInt from congrArg Int32.toInt (by rw [e132]; exact rI_o (by decide))).trans (show (q_I d50 1 4 a0).toInt = (q_I d33 1 4 a0).toInt from congrArg Int32.toInt (by rw [e51]; exact rI_o (by decide)))))
          have f162 : (q_I d147 3 1 nu).toInt = (q_I d33 3 1 nu).toInt := ((show (q_I d147 3 1 nu).toInt = (q_I d131 3 1 nu).toInt from congrArg Int32.toInt (by rw [e148]; exact rI_o (by decide))).trans ((show (q_I d131 3 1 nu).toInt = (q_I d50 3 1 nu).toInt from congrArg Int32.toInt (by rw [e132]; exact rI_o (by decide))).trans (show (q_I d50 3 1 nu).toInt = (q_I d33 3 1 nu).toInt from congrArg Int32.toInt (by rw [e51]; exact rI_o (by decide)))))
          refine ok_bind (k_X1_firstFrom L hN (a0 := a0) (x1 := ((q_I d147 1 3 a0) + (1 : Int32))) (x2 := (q_I d147 1 4 a0)) (x3 := ((q_I d147 1 9 a0) + (1 : Int32))) k_a0 hnu knu (show 0 ≤ (((q_I d147 1 3 a0) + (1 : Int32))).toInt by first | with_reducible assumption | omega) (show (((q_I d147 1 3 a0) + (1 : Int32))).toInt ≤ ((q_I d147 1 4 a0)).toInt by first | with_reducible assumption | omega) (show ((q_I d147 1 4 a0)).toInt ≤ (q_I d147 3 1 nu).toInt by first | with_reducible assumption | omega) i149) (fun r153 hr154 => ?_)
          obtain ⟨i163, p164, p165⟩ := hr154
          try rw [i163]
          have f166 := ti_b r153.1
          refine ok_bdv (fun d167 e168 => ?_)
          have i169 : CI ad h.1 δ0 d167 := by rw [e168]; exact cs_1_11 L i149
          have u170 := kp_I u150 e168
          have v171 : q_V d167 = q_V δ := ((show q_V d167 = q_V d147 by rw [e168]; rfl)).trans v151
          have v172 : q_R d167 = q_R δ := ((show q_R d167 = q_R d147 by rw [e168]; rfl)).trans v152
          have f175 := ti_b (q_I d167 1 11 a0)
          have f176 : (q_I d167 1 11 a0).toInt = r153.1.toInt := congrArg Int32.toInt (show q_I d167 1 11 a0 = r153.1 by rw [e168]; exact rI_s)
          have f177 : (q_I d167 1 4 a0).toInt = (q_I d147 1 4 a0).toInt := congrArg Int32.toInt (by rw [e168]; exact rI_o (by decide))
          have f178 : (q_I d167 3 1 nu).toInt = (q_I d147 3 1 nu).toInt := congrArg Int32.toInt (by rw [e168]; exact rI_o (by decide))
          refine ok_bind (k_X1_firstFrom L hN (a0 := a0) (x1 := (q_I d167 1 11 a0)) (x2 := (q_I d167 1 4 a0)) (x3 := (q_I d167 1 10 a0)) k_a0 hnu knu (show 0 ≤ ((q_I d167 1 11 a0)).toInt by first | with_reducible assumption | omega) (show ((q_I d167 1 11 a0)).toInt ≤ ((q_I d167 1 4 a0)).toInt by first | with_reducible assumption | omega) (show ((q_I d167 1 4 a0)).toInt ≤ (q_I d167 3 1 nu).toInt by first | with_reducible assumption | omega) i169) (fun r173 hr174 => ?_)
          obtain ⟨i179, p180, p181⟩ := hr174
          try rw [i179]
          have f182 := ti_b r173.1
          refine ok_bdv (fun d183 e184 => ?_)
          have i185 : CI ad h.1 δ0 d183 := by rw [e184]; exact cs_1_12 L i169
          have u186 := kp_I u170 e184
          have v187 : q_V d183 = q_V δ := ((show q_V d183 = q_V d167 by rw [e184]; rfl)).trans v171
          have v188 : q_R d183 = q_R δ := ((show q_R d183 = q_R d167 by rw [e184]; rfl)).trans v172
          unfold J_X1_look_154
          have f189 : (q_I d183 1 15 a0).toInt = (q_I d131 1 15 a0).toInt := ((show (q_I d183 1 15 a0).toInt = (q_I d167 1 15 a0).toInt from congrArg Int32.toInt (by rw [e184]; exact rI_o (by decide))).trans ((show (q_I d167 1 15 a0).toInt = (q_I d147 1 15 a0).toInt from congrArg Int32.toInt (by rw [e168]; exact rI_o (by decide))).trans (show (q_I d147 1 15 a0).toInt = (q_I d131 1 15 a0).toInt from congrArg Int32.toInt (by rw [e148]; exact rI_o (by decide)))))
          have f190 : (q_I d183 1 11 a0).toInt = (q_I d167 1 11 a0).toInt := congrArg Int32.toInt (by rw [e184]; exact rI_o (by decide))
          have f191 := ti_b (q_I d183 1 12 a0)
          have f192 : (q_I d183 1 12 a0).toInt = r173.1.toInt := congrArg Int32.toInt (show q_I d183 1 12 a0 = r173.1 by rw [e184]; exact rI_s)
          exact ok_some (show CI ad h.1 δ0 d183 ∧ (kp [(1, 7), (1, 9), (1, 10), (1, 11), (1, 12), (1, 15)] δ d183 ∧ q_V d183 = q_V δ ∧ q_R d183 = q_R δ) ∧ ((q_I d183 1 15 a0).toInt = 0 → 0 ≤ (q_I d183 1 11 a0).toInt ∧ (q_I d183 1 11 a0).toInt ≤ (q_I d183 1 12 a0).toInt ∧ (q_I d183 1 12 a0).toInt ≤ (q_I δ 3 1 nu).toInt) from ⟨i185, ⟨kp_w (by decide) u186, v187, v188⟩, by first | with_reducible assumption | omega⟩)
        · have c193 : (q_I d131 1 15 a0).toInt ≠ (0 : Int) := o_ne h139
          unfold J_X1_look_154
          have f194 : (q_I d131 1 11 a0).toInt = (q_I δ 1 11 a0).toInt := ((show (q_I d131 1 11 a0).toInt = (q_I d50 1 11 a0).toInt from congrArg Int32.toInt (by rw [e132]; exact rI_o (by decide))).trans ((show (q_I d50 1 11 a0).toInt = (q_I d33 1 11 a0).toInt from congrArg Int32.toInt (by rw [e51]; exact rI_o (by decide))).trans ((show (q_I d33 1 11 a0).toInt = (q_I d17 1 11 a0).toInt from congrArg Int32.toInt (by rw [e34]; exact rI_o (by decide))).trans (show (q_I d17 1 11 a0).toInt = (q_I δ 1 11 a0).toInt from congrArg Int32.toInt (by rw [e18]; exact rI_o (by decide))))))
          have f195 := ti_b (q_I δ 1 11 a0)
          have f196 : (q_I d131 1 12 a0).toInt = (q_I δ 1 12 a0).toInt := ((show (q_I d131 1 12 a0).toInt = (q_I d50 1 12 a0).toInt from congrArg Int32.toInt (by rw [e132]; exact rI_o (by decide))).trans ((show (q_I d50 1 12 a0).toInt = (q_I d33 1 12 a0).toInt from congrArg Int32.toInt (by rw [e51]; exact rI_o (by decide))).trans ((show (q_I d33 1 12 a0).toInt = (q_I d17 1 12 a0).toInt from congrArg Int32.toInt (by rw [e34]; exact rI_o (by decide))).trans (show (q_I d17 1 12 a0).toInt = (q_I δ 1 12 a0).toInt from congrArg Int32.toInt (by rw [e18]; exact rI_o (by decide))))))
          have f197 := ti_b (q_I δ 1 12 a0)
          exact ok_some (show CI ad h.1 δ0 d131 ∧ (kp [(1, 7), (1, 9), (1, 10), (1, 11), (1, 12), (1, 15)] δ d131 ∧ q_V d131 = q_V δ ∧ q_R d131 = q_R δ) ∧ ((q_I d131 1 15 a0).toInt = 0 → 0 ≤ (q_I d131 1 11 a0).toInt ∧ (q_I d131 1 11 a0).toInt ≤ (q_I d131 1 12 a0).toInt ∧ (q_I d131 1 12 a0).toInt ≤ (q_I δ 3 1 nu).toInt) from ⟨i133, ⟨kp_w (by decide) u134, v135, v136⟩, by first | with_reducible assumption | omega⟩)
    · have c198 : (q_I d17 1 15 a0).toInt ≠ (0 : Int) := o_ne h25
      have f199 : (q_I d17 1 11 a0).toInt = (q_I δ 1 11 a0).toInt := congrArg Int32.toInt (by rw [e18]; exact rI_o (by decide))
      have f200 := ti_b (q_I δ 1 11 a0)
      have f201 : (q_I d17 1 12 a0).toInt = (q_I δ 1 12 a0).toInt := congrArg Int32.toInt (by rw [e18]; exact rI_o (by decide))
      have f202 := ti_b (q_I δ 1 12 a0)
      exact ok_some (show CI ad h.1 δ0 d17 ∧ (kp [(1, 7), (1, 9), (1, 10), (1, 11), (1, 12), (1, 15)] δ d17 ∧ q_V d17 = q_V δ ∧ q_R d17 = q_R δ) ∧ ((q_I d17 1 15 a0).toInt = 0 → 0 ≤ (q_I d17 1 11 a0).toInt ∧ (q_I d17 1 11 a0).toInt ≤ (q_I d17 1 12 a0).toInt ∧ (q_I d17 1 12 a0).toInt ≤ (q_I δ 3 1 nu).toInt) from ⟨i19, ⟨kp_w (by decide) u20, v21, v22⟩, by first | with_reducible assumption | omega⟩)
  · have c203 : (q_I δ 5 2 b10).toInt < (q_I δ 1 6 a0).toInt := o_nle h15
    refine ok_ite (fun h204 => ?_) (fun h204 => ?_)
    · have c205 : (q_I δ 1 3 a0).toInt < (q_I δ 1 4 a0).toInt := o_lt h204
      unfold J_X1_look_31
      refine ok_gp (by decide) ?_
      refine ok_bdv (fun d206 e207 => ?_)
      have i208 : CI ad h.1 δ0 d206 := by rw [e207]; exact cs_1_15 L I k_a0 (show 0 ≤ (0 : Int) by omega) (show (0 : Int) ≤ 1 by omega)
      have u209 := kp_I kp_r e207
      have v210 : q_V d206 = q_V δ := ((show q_V d206 = q_V δ by rw [e207]; rfl)).trans rfl
      have v211 : q_R d206 = q_R δ := ((show q_R d206 = q_R δ by rw [e207]; rfl)).trans rfl
      have f212 := cb_1_15 i208 k_a0
      have f213 : (q_I d206 1 15 a0).toInt = (0 : Int) := congrArg Int32.toInt (show q_I d206 1 15 a0 = (0 : Int32) by rw [e207]; exact rI_s)
      refine ok_ite (fun h214 => ?_) (fun h214 => ?_)
      · have c215 : (q_I d206 1 15 a0).toInt = (0 : Int) := o_eq h214
        have f218 : (q_I d206 1 3 a0).toInt = (q_I δ 1 3 a0).toInt := congrArg Int32.toInt (by rw [e207]; exact rI_o (by decide))
        have f219 : (q_I d206 3 1 nu).toInt = (q_I δ 3 1 nu).toInt := congrArg Int32.toInt (by rw [e207]; exact rI_o (by decide))
        refine ok_bind (k_X1_valueAt L hN (a0 := a0) (x1 := (q_I d206 1 3 a0)) k_a0 hnu knu (show 0 ≤ ((q_I d206 1 3 a0)).toInt by first | with_reducible assumption | omega) (show ((q_I d206 1 3 a0)).toInt < (q_I d206 3 1 nu).toInt by first | with_reducible assumption | omega) i208) (fun r216 hr217 => ?_)
        have i220 := hr217
        try rw [i220]
        have f221 := ti_b r216.1
        refine ok_bdv (fun d222 e223 => ?_)
        have i224 : CI ad h.1 δ0 d222 := by rw [e223]; exact cs_1_9 L i208
        have u225 := kp_I u209 e223
        have v226 : q_V d222 = q_V δ := ((show q_V d222 = q_V d206 by rw [e223]; rfl)).trans v210
        have v227 : q_R d222 = q_R δ := ((show q_R d222 = q_R d206 by rw [e223]; rfl)).trans v211
        have f230 : (q_I d222 1 4 a0).toInt = (q_I δ 1 4 a0).toInt := ((show (q_I d222 1 4 a0).toInt = (q_I d206 1 4 a0).toInt from congrArg Int32.toInt (by rw [e223]; exact rI_o (by decide))).trans (show (q_I d206 1 4 a0).toInt = (q_I δ 1 4 a0).toInt from congrArg Int32.toInt (by rw [e207]; exact rI_o (by decide))))
        first | (have q232 := te_subc (c := 1) (n := 1) rfl (q_I d222 1 4 a0) (by omega) (by omega); obtain ⟨f233, f234, f235⟩ := q232) | (obtain ⟨q232, f233, f234, f235⟩ := ti_subc (c := 1) (n := 1) rfl (q_I d222 1 4 a0))
        have f236 : (q_I d222 3 1 nu).toInt = (q_I d206 3 1 nu).toInt := congrArg Int32.toInt (by rw [e223]; exact rI_o (by decide))
        refine ok_bind (k_X1_valueAt L hN (a0 := a0) (x1 := ((q_I d222 1 4 a0) - (1 : Int32))) k_a0 hnu knu (show 0 ≤ (((q_I d222 1 4 a0) - (1 : Int32))).toInt by first | with_reducible assumption | omega) (show (((q_I d222 1 4 a0) - (1 : Int32))).toInt < (q_I d222 3 1 nu).toInt by first | with_reducible assumption | omega) i224) (fun r228 hr229 => ?_)
        have i237 := hr229
        try rw [i237]
        have f238 := ti_b r228.1
        refine ok_bdv (fun d239 e240 => ?_)
        have i241 : CI ad h.1 δ0 d239 := by rw [e240]; exact cs_1_10 L i224
        have u242 := kp_I u225 e240
        have v243 : q_V d239 = q_V δ := ((show q_V d239 = q_V d222 by rw [e240]; rfl)).trans v226
        have v244 : q_R d239 = q_R δ := ((show q_R d239 = q_R d222 by rw [e240]; rfl)).trans v227
        have f245 : (q_I d239 1 9 a0).toInt = (q_I d222 1 9 a0).toInt := congrArg Int32.toInt (by rw [e240]; exact rI_o (by decide))
        have f246 := ti_b (q_I d222 1 9 a0)
        have f247 : (q_I d222 1 9 a0).toInt = r216.1.toInt := congrArg Int32.toInt (show q_I d222 1 9 a0 = r216.1 by rw [e223]; exact rI_s)
        have f248 := ti_b (q_I d239 1 10 a0)
        have f249 : (q_I d239 1 10 a0).toInt = r228.1.toInt := congrArg Int32.toInt (show q_I d239 1 10 a0 = r228.1 by rw [e240]; exact rI_s)
        refine ok_ite (fun h250 => ?_) (fun h250 => ?_)
        · have c251 : (q_I d239 1 9 a0).toInt = (q_I d239 1 10 a0).toInt := o_eq h250
          unfold J_X1_look_85
          refine ok_gp (by decide) ?_
          refine ok_bdv (fun d252 e253 => ?_)
          have i254 : CI ad h.1 δ0 d252 := by rw [e253]; exact cs_1_15 L i241 k_a0 (show 0 ≤ (1 : Int) by omega) (show (1 : Int) ≤ 1 by omega)
          have u255 := kp_I u242 e253
          have v256 : q_V d252 = q_V δ := ((show q_V d252 = q_V d239 by rw [e253]; rfl)).trans v243
          have v257 : q_R d252 = q_R δ := ((show q_R d252 = q_R d239 by rw [e253]; rfl)).trans v244
          have f258 := cb_1_15 i254 k_a0
          have f259 : (q_I d252 1 15 a0).toInt = (1 : Int) := congrArg Int32.toInt (show q_I d252 1 15 a0 = (1 : Int32) by rw [e253]; exact rI_s)
          refine ok_ite (fun h260 => ?_) (fun h260 => ?_)
          · have c261 : (q_I d252 1 15 a0).toInt = (0 : Int) := o_eq h260
            refine ok_at o11 ?_
            refine ok_bind (k_X5_lowerBits L hN (a0 := b10) (x1 := (q_I d252 1 6 a0)) k12 i254) (fun r262 hr263 => ?_)
            obtain ⟨i264, p265⟩ := hr263
            try rw [i264]
            have f266 : (q_I d252 1 6 a0).toInt = (q_I δ 1 6 a0).toInt := ((show (q_I d252 1 6 a0).toInt = (q_I d239 1 6 a0).toInt from congrArg Int32.toInt (by rw [e253]; exact rI_o (by decide))).trans ((show (q_I d239 1 6 a0).toInt = (q_I d222 1 6 a0).toInt from congrArg Int32.toInt (by rw [e240]; exact rI_o (by decide))).trans ((show (q_I d222 1 6 a0).toInt = (q_I d206 1 6 a0).toInt from congrArg Int32.toInt (by rw [e223]; exact rI_o (by decide))).trans (show (q_I d206 1 6 a0).toInt = (q_I δ 1 6 a0).toInt from congrArg Int32.toInt (by rw [e207]; exact rI_o (by decide))))))
            have f267 := ti_b r262.1
            refine ok_bdv (fun d268 e269 => ?_)
            have i270 : CI ad h.1 δ0 d268 := by rw [e269]; exact cs_1_7 L i254
            have u271 := kp_I u255 e269
            have v272 : q_V d268 = q_V δ := ((show q_V d268 = q_V d252 by rw [e269]; rfl)).trans v256
            have v273 : q_R d268 = q_R δ := ((show q_R d268 = q_R d252 by rw [e269]; rfl)).trans v257
            have f276 : (q_I d268 1 3 a0).toInt = (q_I d206 1 3 a0).toInt := ((show (q_I d268 1 3 a0).toInt = (q_I d252 1 3 a0).toInt from congrArg Int32.toInt (by rw [e269]; exact rI_o (by decide))).trans ((show (q_I d252 1 3 a0).toInt = (q_I d239 1 3 a0).toInt from congrArg Int32.toInt (by rw [e253]; exact rI_o (by decide))).trans ((show (q_I d239 1 3 a0).toInt = (q_I d222 1 3 a0).toInt from congrArg Int32.toInt (by rw [e240]; exact rI_o (by decide))).trans (show (q_I d222 1 3 a0).toInt = (q_I d206 1 3 a0).toInt from congrArg Int32.toInt (by rw [e223]; exact rI_o (by decide))))))
            first | (have q278 := te_addc (c := 1) (n := 1) rfl (q_I d268 1 3 a0) (by omega) (by omega); obtain ⟨f279, f280, f281⟩ := q278) | (obtain ⟨q278, f279, f280, f281⟩ := ti_addc (c := 1) (n := 1) rfl (q_I d268 1 3 a0))
            have f282 : (q_I d268 1 4 a0).toInt = (q_I d222 1 4 a0).toInt := ((show (q_I d268 1 4 a0).toInt = (q_I d252 1 4 a0).toInt from congrArg Int32.toInt (by rw [e269]; exact rI_o (by decide))).trans ((show (q_I d252 1 4 a0).toInt = (q_I d239 1 4 a0).toInt from congrArg Int32.toInt (by rw [e253]; exact rI_o (by decide))).trans (show (q_I d239 1 4 a0).toInt = (q_I d222 1 4 a0).toInt from congrArg Int32.toInt (by rw [e240]; exact rI_o (by decide)))))
            have f283 : (q_I d268 3 1 nu).toInt = (q_I d222 3 1 nu).toInt := ((show (q_I d268 3 1 nu).toInt = (q_I d252 3 1 nu).toInt from congrArg Int32.toInt (by rw [e269]; exact rI_o (by decide))).trans ((show (q_I d252 3 1 nu).toInt = (q_I d239 3 1 nu).toInt from congrArg Int32.toInt (by rw [e253]; exact rI_o (by decide))).trans (show (q_I d239 3 1 nu).toInt = (q_I d222 3 1 nu).toInt from congrArg Int32.toInt (by rw [e240]; exact rI_o (by decide)))))
            refine ok_bind (k_X1_firstFrom L hN (a0 := a0) (x1 := ((q_I d268 1 3 a0) + (1 : Int32))) (x2 := (q_I d268 1 4 a0)) (x3 := ((q_I d268 1 9 a0) + (1 : Int32))) k_a0 hnu knu (show 0 ≤ (((q_I d268 1 3 a0) + (1 : Int32))).toInt by first | with_reducible assumption | omega) (show (((q_I d268 1 3 a0) + (1 : Int32))).toInt ≤ ((q_I d268 1 4 a0)).toInt by first | with_reducible assumption | omega) (show ((q_I d268 1 4 a0)).toInt ≤ (q_I d268 3 1 nu).toInt by first | with_reducible assumption | omega) i270) (fun r274 hr275 => ?_)
            obtain ⟨i284, p285, p286⟩ := hr275
            try rw [i284]
            have f287 := ti_b r274.1
            refine ok_bdv (fun d288 e289 => ?_)
            have i290 : CI ad h.1 δ0 d288 := by rw [e289]; exact cs_1_11 L i270
            have u291 := kp_I u271 e289
            have v292 : q_V d288 = q_V δ := ((show q_V d288 = q_V d268 by rw [e289]; rfl)).trans v272
            have v293 : q_R d288 = q_R δ := ((show q_R d288 = q_R d268 by rw [e289]; rfl)).trans v273
            have f296 := ti_b (q_I d288 1 11 a0)
            have f297 : (q_I d288 1 11 a0).toInt = r274.1.toInt := congrArg Int32.toInt (show q_I d288 1 11 a0 = r274.1 by rw [e289]; exact rI_s)
            have f298 : (q_I d288 1 4 a0).toInt = (q_I d268 1 4 a0).toInt := congrArg Int32.toInt (by rw [e289]; exact rI_o (by decide))
            have f299 : (q_I d288 3 1 nu).toInt = (q_I d268 3 1 nu).toInt := congrArg Int32.toInt (by rw [e289]; exact rI_o (by decide))
            refine ok_bind (k_X1_firstFrom L hN (a0 := a0) (x1 := (q_I d288 1 11 a0)) (x2 := (q_I d288 1 4 a0)) (x3 := (q_I d288 1 10 a0)) k_a0 hnu knu (show 0 ≤ ((q_I d288 1 11 a0)).toInt by first | with_reducible assumption | omega) (show ((q_I d288 1 11 a0)).toInt ≤ ((q_I d288 1 4 a0)).toInt by first | with_reducible assumption | omega) (show ((q_I d288 1 4 a0)).toInt ≤ (q_I d288 3 1 nu).toInt by first | with_reducible assumption | omega) i290) (fun r294 hr295 => ?_)
            obtain ⟨i300, p301, p302⟩ := hr295
            try rw [i300]
            have f303 := ti_b r294.1
            refine ok_bdv (fun d304 e305 => ?_)
            have i306 : CI ad h.1 δ0 d304 := by rw [e305]; exact cs_1_12 L i290
            have u307 := kp_I u291 e305
            have v308 : q_V d304 = q_V δ := ((show q_V d304 = q_V d288 by rw [e305]; rfl)).trans v292
            have v309 : q_R d304 = q_R δ := ((show q_R d304 = q_R d288 by rw [e305]; rfl)).trans v293
            unfold J_X1_look_154
            have f310 : (q_I d304 1 15 a0).toInt = (q_I d252 1 15 a0).toInt := ((show (q_I d304 1 15 a0).toInt = (q_I d288 1 15 a0).toInt from congrArg Int32.toInt (by rw [e305]; exact rI_o (by decide))).trans ((show (q_I d288 1 15 a0).toInt = (q_I d268 1 15 a0).toInt from congrArg Int32.toInt (by rw [e289]; exact rI_o (by decide))).trans (show (q_I d268 1 15 a0).toInt = (q_I d252 1 15 a0).toInt from congrArg Int32.toInt (by rw [e269]; exact rI_o (by decide)))))
            have f311 : (q_I d304 1 11 a0).toInt = (q_I d288 1 11 a0).toInt := congrArg Int32.toInt (by rw [e305]; exact rI_o (by decide))
            have f312 := ti_b (q_I d304 1 12 a0)
            have f313 : (q_I d304 1 12 a0).toInt = r294.1.toInt := congrArg Int32.toInt (show q_I d304 1 12 a0 = r294.1 by rw [e305]; exact rI_s)
            exact ok_some (show CI ad h.1 δ0 d304 ∧ (kp [(1, 7), (1, 9), (1, 10), (1, 11), (1, 12), (1, 15)] δ d304 ∧ q_V d304 = q_V δ ∧ q_R d304 = q_R δ) ∧ ((q_I d304 1 15 a0).toInt = 0 → 0 ≤ (q_I d304 1 11 a0).toInt ∧ (q_I d304 1 11 a0).toInt ≤ (q_I d304 1 12 a0).toInt ∧ (q_I d304 1 12 a0).toInt ≤ (q_I δ 3 1 nu).toInt) from ⟨i306, ⟨kp_w (by decide) u307, v308, v309⟩, by first | with_reducible assumption | omega⟩)
          · have c314 : (q_I d252 1 15 a0).toInt ≠ (0 : Int) := o_ne h260
            unfold J_X1_look_154
            have f315 : (q_I d252 1 11 a0).toInt = (q_I δ 1 11 a0).toInt := ((show (q_I d252 1 11 a0).toInt = (q_I d239 1 11 a0).toInt from congrArg Int32.toInt (by rw [e253]; exact rI_o (by decide))).trans ((show (q_I d239 1 11 a0).toInt = (q_I d222 1 11 a0).toInt from congrArg Int32.toInt (by rw [e240]; exact rI_o (by decide))).trans ((show (q_I d222 1 11 a0).toInt = (q_I d206 1 11 a0).toInt from congrArg Int32.toInt (by rw [e223]; exact rI_o (by decide))).trans (show (q_I d206 1 11 a0).toInt = (q_I δ 1 11 a0).toInt from congrArg Int32.toInt (by rw [e207]; exact rI_o (by decide))))))
            have f316 := ti_b (q_I δ 1 11 a0)
            have f317 : (q_I d252 1 12 a0).toInt = (q_I δ 1 12 a0).toInt := ((show (q_I d252 1 12 a0).toInt = (q_I d239 1 12 a0).toInt from congrArg Int32.toInt (by rw [e253]; exact rI_o (by decide))).trans ((show (q_I d239 1 12 a0).toInt = (q_I d222 1 12 a0).toInt from congrArg Int32.toInt (by rw [e240]; exact rI_o (by decide))).trans ((show (q_I d222 1 12 a0).toInt = (q_I d206 1 12 a0).toInt from congrArg Int32.toInt (by rw [e223]; exact rI_o (by decide))).trans (show (q_I d206 1 12 a0).toInt = (q_I δ 1 12 a0).toInt from congrArg Int32.toInt (by rw [e207]; exact rI_o (by decide))))))
            have f318 := ti_b (q_I δ 1 12 a0)
            exact ok_some (show CI ad h.1 δ0 d252 ∧ (kp [(1, 7), (1, 9), (1, 10), (1, 11), (1, 12), (1, 15)] δ d252 ∧ q_V d252 = q_V δ ∧ q_R d252 = q_R δ) ∧ ((q_I d252 1 15 a0).toInt = 0 → 0 ≤ (q_I d252 1 11 a0).toInt ∧ (q_I d252 1 11 a0).toInt ≤ (q_I d252 1 12 a0).toInt ∧ (q_I d252 1 12 a0).toInt ≤ (q_I δ 3 1 nu).toInt) from ⟨i254, ⟨kp_w (by decide) u255, v256, v257⟩, by first | with_reducible assumption | omega⟩)
        · have c319 : (q_I d239 1 9 a0).toInt ≠ (q_I d239 1 10 a0).toInt := o_ne h250
          unfold J_X1_look_85
          refine ok_gp (by decide) ?_
          refine ok_bdv (fun d320 e321 => ?_)
          have i322 : CI ad h.1 δ0 d320 := by rw [e321]; exact cs_1_15 L i241 k_a0 (show 0 ≤ (0 : Int) by omega) (show (0 : Int) ≤ 1 by omega)
          have u323 := kp_I u242 e321
          have v324 : q_V d320 = q_V δ := ((show q_V d320 = q_V d239 by rw [e321]; rfl)).trans v243
          have v325 : q_R d320 = q_R δ := ((show q_R d320 = q_R d239 by rw [e321]; rfl)).trans v244
          have f326 := cb_1_15 i322 k_a0
          have f327 : (q_I d320 1 15 a0).toInt = (0 : Int) := congrArg Int32.toInt (show q_I d320 1 15 a0 = (0 : Int32) by rw [e321]; exact rI_s)
          refine ok_ite (fun h328 => ?_) (fun h328 => ?_)
          · have c329 : (q_I d320 1 15 a0).toInt = (0 : Int) := o_eq h328
            refine ok_at o11 ?_
            refine ok_bind (k_X5_lowerBits L hN (a0 := b10) (x1 := (q_I d320 1 6 a0)) k12 i322) (fun r330 hr331 => ?_)
            obtain ⟨i332, p333⟩ := hr331
            try rw [i332]
            have f334 : (q_I d320 1 6 a0).toInt = (q_I δ 1 6 a0).toInt := ((show (q_I d320 1 6 a0).toInt = (q_I d239 1 6 a0).toInt from congrArg Int32.toInt (by rw [e321]; exact rI_o (by decide))).trans ((show (q_I d239 1 6 a0).toInt = (q_I d222 1 6 a0).toInt from congrArg Int32.toInt (by rw [e240]; exact rI_o (by decide))).trans ((show (q_I d222 1 6 a0).toInt = (q_I d206 1 6 a0).toInt from congrArg Int32.toInt (by rw [e223]; exact rI_o (by decide))).trans (show (q_I d206 1 6 a0).toInt = (q_I δ 1 6 a0).toInt from congrArg Int32.toInt (by rw [e207]; exact rI_o (by decide))))))
            have f335 := ti_b r330.1
            refine ok_bdv (fun d336 e337 => ?_)
            have i338 : CI ad h.1 δ0 d336 := by rw [e337]; exact cs_1_7 L i322
            have u339 := kp_I u323 e337
            have v340 : q_V d336 = q_V δ := ((show q_V d336 = q_V d320 by rw [e337]; rfl)).trans v324
            have v341 : q_R d336 = q_R δ := ((show q_R d336 = q_R d320 by rw [e337]; rfl)).trans v325
            have f344 : (q_I d336 1 3 a0).toInt = (q_I d206 1 3 a0).toInt := ((show (q_I d336 1 3 a0).toInt = (q_I d320 1 3 a0).toInt from congrArg Int32.toInt (by rw [e337]; exact rI_o (by decide))).trans ((show (q_I d320 1 3 a0).toInt = (q_I d239 1 3 a0).toInt from congrArg Int32.toInt (by rw [e321]; exact rI_o (by decide))).trans ((show (q_I d239 1 3 a0).toInt = (q_I d222 1 3 a0).toInt from congrArg Int32.toInt (by rw [e240]; exact rI_o (by decide))).trans (show (q_I d222 1 3 a0).toInt = (q_I d206 1 3 a0).toInt from congrArg Int32.toInt (by rw [e223]; exact rI_o (by decide))))))
            first | (have q346 := te_addc (c := 1) (n := 1) rfl (q_I d336 1 3 a0) (by omega) (by omega); obtain ⟨f347, f348, f349⟩ := q346) | (obtain ⟨q346, f347, f348, f349⟩ := ti_addc (c := 1) (n := 1) rfl (q_I d336 1 3 a0))
            have f350 : (q_I d336 1 4 a0).toInt = (q_I d222 1 4 a0).toInt := ((show (q_I d336 1 4 a0).toInt = (q_I d320 1 4 a0).toInt from congrArg Int32.toInt (by rw [e337]; exact rI_o (by decide))).trans ((show (q_I d320 1 4 a0).toInt = (q_I d239 1 4 a0).toInt from congrArg Int32.toInt (by rw [e321]; exact rI_o (by decide))).trans (show (q_I d239 1 4 a0).toInt = (q_I d222 1 4 a0).toInt from congrArg Int32.toInt (by rw [e240]; exact rI_o (by decide)))))
            have f351 : (q_I d336 3 1 nu).toInt = (q_I d222 3 1 nu).toInt := ((show (q_I d336 3 1 nu).toInt = (q_I d320 3 1 nu).toInt from congrArg Int32.toInt (by rw [e337]; exact rI_o (by decide))).trans ((show (q_I d320 3 1 nu).toInt = (q_I d239 3 1 nu).toInt from congrArg Int32.toInt (by rw [e321]; exact rI_o (by decide))).trans (show (q_I d239 3 1 nu).toInt = (q_I d222 3 1 nu).toInt from congrArg Int32.toInt (by rw [e240]; exact rI_o (by decide)))))
            refine ok_bind (k_X1_firstFrom L hN (a0 := a0) (x1 := ((q_I d336 1 3 a0) + (1 : Int32))) (x2 := (q_I d336 1 4 a0)) (x3 := ((q_I d336 1 9 a0) + (1 : Int32))) k_a0 hnu knu (show 0 ≤ (((q_I d336 1 3 a0) + (1 : Int32))).toInt by first | with_reducible assumption | omega) (show (((q_I d336 1 3 a0) + (1 : Int32))).toInt ≤ ((q_I d336 1 4 a0)).toInt by first | with_reducible assumption | omega) (show ((q_I d336 1 4 a0)).toInt ≤ (q_I d336 3 1 nu).toInt by first | with_reducible assumption | omega) i338) (fun r342 hr343 => ?_)
            obtain ⟨i352, p353, p354⟩ := hr343
            try rw [i352]
            have f355 := ti_b r342.1
            refine ok_bdv (fun d356 e357 => ?_)
            have i358 : CI ad h.1 δ0 d356 := by rw [e357]; exact cs_1_11 L i338
            have u359 := kp_I u339 e357
            have v360 : q_V d356 = q_V δ := ((show q_V d356 = q_V d336 by rw [e357]; rfl)).trans v340
            have v361 : q_R d356 = q_R δ := ((show q_R d356 = q_R d336 by rw [e357]; rfl)).trans v341
            have f364 := ti_b (q_I d356 1 11 a0)
            have f365 : (q_I d356 1 11 a0).toInt = r342.1.toInt := congrArg Int32.toInt (show q_I d356 1 11 a0 = r342.1 by rw [e357]; exact rI_s)
            have f366 : (q_I d356 1 4 a0).toInt = (q_I d336 1 4 a0).toInt := congrArg Int32.toInt (by rw [e357]; exact rI_o (by decide))
            have f367 : (q_I d356 3 1 nu).toInt = (q_I d336 3 1 nu).toInt := congrArg Int32.toInt (by rw [e357]; exact rI_o (by decide))
            refine ok_bind (k_X1_firstFrom L hN (a0 := a0) (x1 := (q_I d356 1 11 a0)) (x2 := (q_I d356 1 4 a0)) (x3 := (q_I d356 1 10 a0)) k_a0 hnu knu (show 0 ≤ ((q_I d356 1 11 a0)).toInt by first | with_reducible assumption | omega) (show ((q_I d356 1 11 a0)).toInt ≤ ((q_I d356 1 4 a0)).toInt by first | with_reducible assumption | omega) (show ((q_I d356 1 4 a0)).toInt ≤ (q_I d356 3 1 nu).toInt by first | with_reducible assumption | omega) i358) (fun r362 hr363 => ?_)
            obtain ⟨i368, p369, p370⟩ := hr363
            try rw [i368]
            have f371 := ti_b r362.1
            refine ok_bdv (fun d372 e373 => ?_)
            have i374 : CI ad h.1 δ0 d372 := by rw [e373]; exact cs_1_12 L i358
            have u375 := kp_I u359 e373
            have v376 : q_V d372 = q_V δ := ((show q_V d372 = q_V d356 by rw [e373]; rfl)).trans v360
            have v377 : q_R d372 = q_R δ := ((show q_R d372 = q_R d356 by rw [e373]; rfl)).trans v361
            unfold J_X1_look_154
            have f378 : (q_I d372 1 15 a0).toInt = (q_I d320 1 15 a0).toInt := ((show (q_I d372 1 15 a0).toInt = (q_I d356 1 15 a0).toInt from congrArg Int32.toInt (by rw [e373]; exact rI_o (by decide))).trans ((show (q_I d356 1 15 a0).toInt = (q_I d336 1 15 a0).toInt from congrArg Int32.toInt (by rw [e357]; exact rI_o (by decide))).trans (show (q_I d336 1 15 a0).toInt = (q_I d320 1 15 a0).toInt from congrArg Int32.toInt (by rw [e337]; exact rI_o (by decide)))))
            have f379 : (q_I d372 1 11 a0).toInt = (q_I d356 1 11 a0).toInt := congrArg Int32.toInt (by rw [e373]; exact rI_o (by decide))
            have f380 := ti_b (q_I d372 1 12 a0)
            have f381 : (q_I d372 1 12 a0).toInt = r362.1.toInt := congrArg Int32.toInt (show q_I d372 1 12 a0 = r362.1 by rw [e373]; exact rI_s)
            exact ok_some (show CI ad h.1 δ0 d372 ∧ (kp [(1, 7), (1, 9), (1, 10), (1, 11), (1, 12), (1, 15)] δ d372 ∧ q_V d372 = q_V δ ∧ q_R d372 = q_R δ) ∧ ((q_I d372 1 15 a0).toInt = 0 → 0 ≤ (q_I d372 1 11 a0).toInt ∧ (q_I d372 1 11 a0).toInt ≤ (q_I d372 1 12 a0).toInt ∧ (q_I d372 1 12 a0).toInt ≤ (q_I δ 3 1 nu).toInt) from ⟨i374, ⟨kp_w (by decide) u375, v376, v377⟩, by first | with_reducible assumption | omega⟩)
          · have c382 : (q_I d320 1 15 a0).toInt ≠ (0 : Int) := o_ne h328
            unfold J_X1_look_154
            have f383 : (q_I d320 1 11 a0).toInt = (q_I δ 1 11 a0).toInt := ((show (q_I d320 1 11 a0).toInt = (q_I d239 1 11 a0).toInt from congrArg Int32.toInt (by rw [e321]; exact rI_o (by decide))).trans ((show (q_I d239 1 11 a0).toInt = (q_I d222 1 11 a0).toInt from congrArg Int32.toInt (by rw [e240]; exact rI_o (by decide))).trans ((show (q_I d222 1 11 a0).toInt = (q_I d206 1 11 a0).toInt from congrArg Int32.toInt (by rw [e223]; exact rI_o (by decide))).trans (show (q_I d206 1 11 a0).toInt = (q_I δ 1 11 a0).toInt from congrArg Int32.toInt (by rw [e207]; exact rI_o (by decide))))))
            have f384 := ti_b (q_I δ 1 11 a0)
            have f385 : (q_I d320 1 12 a0).toInt = (q_I δ 1 12 a0).toInt := ((show (q_I d320 1 12 a0).toInt = (q_I d239 1 12 a0).toInt from congrArg Int32.toInt (by rw [e321]; exact rI_o (by decide))).trans ((show (q_I d239 1 12 a0).toInt = (q_I d222 1 12 a0).toInt from congrArg Int32.toInt (by rw [e240]; exact rI_o (by decide))).trans ((show (q_I d222 1 12 a0).toInt = (q_I d206 1 12 a0).toInt from congrArg Int32.toInt (by rw [e223]; exact rI_o (by decide))).trans (show (q_I d206 1 12 a0).toInt = (q_I δ 1 12 a0).toInt from congrArg Int32.toInt (by rw [e207]; exact rI_o (by decide))))))
            have f386 := ti_b (q_I δ 1 12 a0)
            exact ok_some (show CI ad h.1 δ0 d320 ∧ (kp [(1, 7), (1, 9), (1, 10), (1, 11), (1, 12), (1, 15)] δ d320 ∧ q_V d320 = q_V δ ∧ q_R d320 = q_R δ) ∧ ((q_I d320 1 15 a0).toInt = 0 → 0 ≤ (q_I d320 1 11 a0).toInt ∧ (q_I d320 1 11 a0).toInt ≤ (q_I d320 1 12 a0).toInt ∧ (q_I d320 1 12 a0).toInt ≤ (q_I δ 3 1 nu).toInt) from ⟨i322, ⟨kp_w (by decide) u323, v324, v325⟩, by first | with_reducible assumption | omega⟩)
      · have c387 : (q_I d206 1 15 a0).toInt ≠ (0 : Int) := o_ne h214
        have f388 : (q_I d206 1 11 a0).toInt = (q_I δ 1 11 a0).toInt := congrArg Int32.toInt (by rw [e207]; exact rI_o (by decide))
        have f389 := ti_b (q_I δ 1 11 a0)
        have f390 : (q_I d206 1 12 a0).toInt = (q_I δ 1 12 a0).toInt := congrArg Int32.toInt (by rw [e207]; exact rI_o (by decide))
        have f391 := ti_b (q_I δ 1 12 a0)
        exact ok_some (show CI ad h.1 δ0 d206 ∧ (kp [(1, 7), (1, 9), (1, 10), (1, 11), (1, 12), (1, 15)] δ d206 ∧ q_V d206 = q_V δ ∧ q_R d206 = q_R δ) ∧ ((q_I d206 1 15 a0).toInt = 0 → 0 ≤ (q_I d206 1 11 a0).toInt ∧ (q_I d206 1 11 a0).toInt ≤ (q_I d206 1 12 a0).toInt ∧ (q_I d206 1 12 a0).toInt ≤ (q_I δ 3 1 nu).toInt) from ⟨i208, ⟨kp_w (by decide) u209, v210, v211⟩, by first | with_reducible assumption | omega⟩)
    · have c392 : (q_I δ 1 4 a0).toInt ≤ (q_I δ 1 3 a0).toInt := o_nlt h204
      unfold J_X1_look_26
      unfold J_X1_look_31
      refine ok_gp (by decide) ?_
      refine ok_bdv (fun d393 e394 => ?_)
      have i395 : CI ad h.1 δ0 d393 := by rw [e394]; exact cs_1_15 L I k_a0 (show 0 ≤ (1 : Int) by omega) (show (1 : Int) ≤ 1 by omega)
      have u396 := kp_I kp_r e394
      have v397 : q_V d393 = q_V δ := ((show q_V d393 = q_V δ by rw [e394]; rfl)).trans rfl
      have v398 : q_R d393 = q_R δ := ((show q_R d393 = q_R δ by rw [e394]; rfl)).trans rfl
      have f399 := cb_1_15 i395 k_a0
      have f400 : (q_I d393 1 15 a0).toInt = (1 : Int) := congrArg Int32.toInt (show q_I d393 1 15 a0 = (1 : Int32) by rw [e394]; exact rI_s)
      refine ok_ite (fun h401 => ?_) (fun h401 => ?_)
      · have c402 : (q_I d393 1 15 a0).toInt = (0 : Int) := o_eq h401
        have f405 : (q_I d393 1 3 a0).toInt = (q_I δ 1 3 a0).toInt := congrArg Int32.toInt (by rw [e394]; exact rI_o (by decide))
        have f406 : (q_I d393 3 1 nu).toInt = (q_I δ 3 1 nu).toInt := congrArg Int32.toInt (by rw [e394]; exact rI_o (by decide))
        refine ok_bind (k_X1_valueAt L hN (a0 := a0) (x1 := (q_I d393 1 3 a0)) k_a0 hnu knu (show 0 ≤ ((q_I d393 1 3 a0)).toInt by first | with_reducible assumption | omega) (show ((q_I d393 1 3 a0)).toInt < (q_I d393 3 1 nu).toInt by first | with_reducible assumption | omega) i395) (fun r403 hr404 => ?_)
        have i407 := hr404
        try rw [i407]
        have f408 := ti_b r403.1
        refine ok_bdv (fun d409 e410 => ?_)
        have i411 : CI ad h.1 δ0 d409 := by rw [e410]; exact cs_1_9 L i395
        have u412 := kp_I u396 e410
        have v413 : q_V d409 = q_V δ := ((show q_V d409 = q_V d393 by rw [e410]; rfl)).trans v397
        have v414 : q_R d409 = q_R δ := ((show q_R d409 = q_R d393 by rw [e410]; rfl)).trans v398
        have f417 : (q_I d409 1 4 a0).toInt = (q_I δ 1 4 a0).toInt := ((show (q_I d409 1 4 a0).toInt = (q_I d393 1 4 a0).toInt from congrArg Int32.toInt (by rw [e410]; exact rI_o (by decide))).trans (show (q_I d393 1 4 a0).toInt = (q_I δ 1 4 a0).toInt from congrArg Int32.toInt (by rw [e394]; exact rI_o (by decide))))
        first | (have q419 := te_subc (c := 1) (n := 1) rfl (q_I d409 1 4 a0) (by omega) (by omega); obtain ⟨f420, f421, f422⟩ := q419) | (obtain ⟨q419, f420, f421, f422⟩ := ti_subc (c := 1) (n := 1) rfl (q_I d409 1 4 a0))
        have f423 : (q_I d409 3 1 nu).toInt = (q_I d393 3 1 nu).toInt := congrArg Int32.toInt (by rw [e410]; exact rI_o (by decide))
        refine ok_bind (k_X1_valueAt L hN (a0 := a0) (x1 := ((q_I d409 1 4 a0) - (1 : Int32))) k_a0 hnu knu (show 0 ≤ (((q_I d409 1 4 a0) - (1 : Int32))).toInt by first | with_reducible assumption | omega) (show (((q_I d409 1 4 a0) - (1 : Int32))).toInt < (q_I d409 3 1 nu).toInt by first | with_reducible assumption | omega) i411) (fun r415 hr416 => ?_)
        have i424 := hr416
        try rw [i424]
        have f425 := ti_b r415.1
        refine ok_bdv (fun d426 e427 => ?_)
        have i428 : CI ad h.1 δ0 d426 := by rw [e427]; exact cs_1_10 L i411
        have u429 := kp_I u412 e427
        have v430 : q_V d426 = q_V δ := ((show q_V d426 = q_V d409 by rw [e427]; rfl)).trans v413
        have v431 : q_R d426 = q_R δ := ((show q_R d426 = q_R d409 by rw [e427]; rfl)).trans v414
        have f432 : (q_I d426 1 9 a0).toInt = (q_I d409 1 9 a0).toInt := congrArg Int32.toInt (by rw [e427]; exact rI_o (by decide))
        have f433 := ti_b (q_I d409 1 9 a0)
        have f434 : (q_I d409 1 9 a0).toInt = r403.1.toInt := congrArg Int32.toInt (show q_I d409 1 9 a0 = r403.1 by rw [e410]; exact rI_s)
        have f435 := ti_b (q_I d426 1 10 a0)
        have f436 : (q_I d426 1 10 a0).toInt = r415.1.toInt := congrArg Int32.toInt (show q_I d426 1 10 a0 = r415.1 by rw [e427]; exact rI_s)
        refine ok_ite (fun h437 => ?_) (fun h437 => ?_)
        · have c438 : (q_I d426 1 9 a0).toInt = (q_I d426 1 10 a0).toInt := o_eq h437
          unfold J_X1_look_85
          refine ok_gp (by decide) ?_
          refine ok_bdv (fun d439 e440 => ?_)
          have i441 : CI ad h.1 δ0 d439 := by rw [e440]; exact cs_1_15 L i428 k_a0 (show 0 ≤ (1 : Int) by omega) (show (1 : Int) ≤ 1 by omega)
          have u442 := kp_I u429 e440
          have v443 : q_V d439 = q_V δ := ((show q_V d439 = q_V d426 by rw [e440]; rfl)).trans v430
          have v444 : q_R d439 = q_R δ := ((show q_R d439 = q_R d426 by rw [e440]; rfl)).trans v431
          have f445 := cb_1_15 i441 k_a0
          have f446 : (q_I d439 1 15 a0).toInt = (1 : Int) := congrArg Int32.toInt (show q_I d439 1 15 a0 = (1 : Int32) by rw [e440]; exact rI_s)
          refine ok_ite (fun h447 => ?_) (fun h447 => ?_)
          · have c448 : (q_I d439 1 15 a0).toInt = (0 : Int) := o_eq h447
            refine ok_at o11 ?_
            refine ok_bind (k_X5_lowerBits L hN (a0 := b10) (x1 := (q_I d439 1 6 a0)) k12 i441) (fun r449 hr450 => ?_)
            obtain ⟨i451, p452⟩ := hr450
            try rw [i451]
            have f453 : (q_I d439 1 6 a0).toInt = (q_I δ 1 6 a0).toInt := ((show (q_I d439 1 6 a0).toInt = (q_I d426 1 6 a0).toInt from congrArg Int32.toInt (by rw [e440]; exact rI_o (by decide))).trans ((show (q_I d426 1 6 a0).toInt = (q_I d409 1 6 a0).toInt from congrArg Int32.toInt (by rw [e427]; exact rI_o (by decide))).trans ((show (q_I d409 1 6 a0).toInt = (q_I d393 1 6 a0).toInt from congrArg Int32.toInt (by rw [e410]; exact rI_o (by decide))).trans (show (q_I d393 1 6 a0).toInt = (q_I δ 1 6 a0).toInt from congrArg Int32.toInt (by rw [e394]; exact rI_o (by decide))))))
            have f454 := ti_b r449.1
            refine ok_bdv (fun d455 e456 => ?_)
            have i457 : CI ad h.1 δ0 d455 := by rw [e456]; exact cs_1_7 L i441
            have u458 := kp_I u442 e456
            have v459 : q_V d455 = q_V δ := ((show q_V d455 = q_V d439 by rw [e456]; rfl)).trans v443
            have v460 : q_R d455 = q_R δ := ((show q_R d455 = q_R d439 by rw [e456]; rfl)).trans v444
            have f463 : (q_I d455 1 3 a0).toInt = (q_I d393 1 3 a0).toInt := ((show (q_I d455 1 3 a0).toInt = (q_I d439 1 3 a0).toInt from congrArg Int32.toInt (by rw [e456]; exact rI_o (by decide))).trans ((show (q_I d439 1 3 a0).toInt = (q_I d426 1 3 a0).toInt from congrArg Int32.toInt (by rw [e440]; exact rI_o (by decide))).trans ((show (q_I d426 1 3 a0).toInt = (q_I d409 1 3 a0).toInt from congrArg Int32.toInt (by rw [e427]; exact rI_o (by decide))).trans (show (q_I d409 1 3 a0).toInt = (q_I d393 1 3 a0).toInt from congrArg Int32.toInt (by rw [e410]; exact rI_o (by decide))))))
            first | (have q465 := te_addc (c := 1) (n := 1) rfl (q_I d455 1 3 a0) (by omega) (by omega); obtain ⟨f466, f467, f468⟩ := q465) | (obtain ⟨q465, f466, f467, f468⟩ := ti_addc (c := 1) (n := 1) rfl (q_I d455 1 3 a0))
            have f469 : (q_I d455 1 4 a0).toInt = (q_I d409 1 4 a0).toInt := ((show (q_I d455 1 4 a0).toInt = (q_I d439 1 4 a0).toInt from congrArg Int32.toInt (by rw [e456]; exact rI_o (by decide))).trans ((show (q_I d439 1 4 a0).toInt = (q_I d426 1 4 a0).toInt from congrArg Int32.toInt (by rw [e440]; exact rI_o (by decide))).trans (show (q_I d426 1 4 a0).toInt = (q_I d409 1 4 a0).toInt from congrArg Int32.toInt (by rw [e427]; exact rI_o (by decide)))))
            have f470 : (q_I d455 3 1 nu).toInt = (q_I d409 3 1 nu).toInt := ((show (q_I d455 3 1 nu).toInt = (q_I d439 3 1 nu).toInt from congrArg Int32.toInt (by rw [e456]; exact rI_o (by decide))).trans ((show (q_I d439 3 1 nu).toInt = (q_I d426 3 1 nu).toInt from congrArg Int32.toInt (by rw [e440]; exact rI_o (by decide))).trans (show (q_I d426 3 1 nu).toInt = (q_I d409 3 1 nu).toInt from congrArg Int32.toInt (by rw [e427]; exact rI_o (by decide)))))
            refine ok_bind (k_X1_firstFrom L hN (a0 := a0) (x1 := ((q_I d455 1 3 a0) + (1 : Int32))) (x2 := (q_I d455 1 4 a0)) (x3 := ((q_I d455 1 9 a0) + (1 : Int32))) k_a0 hnu knu (show 0 ≤ (((q_I d455 1 3 a0) + (1 : Int32))).toInt by first | with_reducible assumption | omega) (show (((q_I d455 1 3 a0) + (1 : Int32))).toInt ≤ ((q_I d455 1 4 a0)).toInt by first | with_reducible assumption | omega) (show ((q_I d455 1 4 a0)).toInt ≤ (q_I d455 3 1 nu).toInt by first | with_reducible assumption | omega) i457) (fun r461 hr462 => ?_)
            obtain ⟨i471, p472, p473⟩ := hr462
            try rw [i471]
            have f474 := ti_b r461.1
            refine ok_bdv (fun d475 e476 => ?_)
            have i477 : CI ad h.1 δ0 d475 := by rw [e476]; exact cs_1_11 L i457
            have u478 := kp_I u458 e476
            have v479 : q_V d475 = q_V δ := ((show q_V d475 = q_V d455 by rw [e476]; rfl)).trans v459
            have v480 : q_R d475 = q_R δ := ((show q_R d475 = q_R d455 by rw [e476]; rfl)).trans v460
            have f483 := ti_b (q_I d475 1 11 a0)
            have f484 : (q_I d475 1 11 a0).toInt = r461.1.toInt := congrArg Int32.toInt (show q_I d475 1 11 a0 = r461.1 by rw [e476]; exact rI_s)
            have f485 : (q_I d475 1 4 a0).toInt = (q_I d455 1 4 a0).toInt := congrArg Int32.toInt (by rw [e476]; exact rI_o (by decide))
            have f486 : (q_I d475 3 1 nu).toInt = (q_I d455 3 1 nu).toInt := congrArg Int32.toInt (by rw [e476]; exact rI_o (by decide))
            refine ok_bind (k_X1_firstFrom L hN (a0 := a0) (x1 := (q_I d475 1 11 a0)) (x2 := (q_I d475 1 4 a0)) (x3 := (q_I d475 1 10 a0)) k_a0 hnu knu (show 0 ≤ ((q_I d475 1 11 a0)).toInt by first | with_reducible assumption | omega) (show ((q_I d475 1 11 a0)).toInt ≤ ((q_I d475 1 4 a0)).toInt by first | with_reducible assumption | omega) (show ((q_I d475 1 4 a0)).toInt ≤ (q_I d475 3 1 nu).toInt by first | with_reducible assumption | omega) i477) (fun r481 hr482 => ?_)
            obtain ⟨i487, p488, p489⟩ := hr482
            try rw [i487]
            have f490 := ti_b r481.1
            refine ok_bdv (fun d491 e492 => ?_)
            have i493 : CI ad h.1 δ0 d491 := by rw [e492]; exact cs_1_12 L i477
            have u494 := kp_I u478 e492
            have v495 : q_V d491 = q_V δ := ((show q_V d491 = q_V d475 by rw [e492]; rfl)).trans v479
            have v496 : q_R d491 = q_R δ := ((show q_R d491 = q_R d475 by rw [e492]; rfl)).trans v480
            unfold J_X1_look_154
            have f497 : (q_I d491 1 15 a0).toInt = (q_I d439 1 15 a0).toInt := ((show (q_I d491 1 15 a0).toInt = (q_I d475 1 15 a0).toInt from congrArg Int32.toInt (by rw [e492]; exact rI_o (by decide))).trans ((show (q_I d475 1 15 a0).toInt = (q_I d455 1 15 a0).toInt from congrArg Int32.toInt (by rw [e476]; exact rI_o (by decide))).trans (show (q_I d455 1 15 a0).toInt = (q_I d439 1 15 a0).toInt from congrArg Int32.toInt (by rw [e456]; exact rI_o (by decide)))))
            have f498 : (q_I d491 1 11 a0).toInt = (q_I d475 1 11 a0).toInt := congrArg Int32.toInt (by rw [e492]; exact rI_o (by decide))
            have f499 := ti_b (q_I d491 1 12 a0)
            have f500 : (q_I d491 1 12 a0).toInt = r481.1.toInt := congrArg Int32.toInt (show q_I d491 1 12 a0 = r481.1 by rw [e492]; exact rI_s)
            exact ok_some (show CI ad h.1 δ0 d491 ∧ (kp [(1, 7), (1, 9), (1, 10), (1, 11), (1, 12), (1, 15)] δ d491 ∧ q_V d491 = q_V δ ∧ q_R d491 = q_R δ) ∧ ((q_I d491 1 15 a0).toInt = 0 → 0 ≤ (q_I d491 1 11 a0).toInt ∧ (q_I d491 1 11 a0).toInt ≤ (q_I d491 1 12 a0).toInt ∧ (q_I d491 1 12 a0).toInt ≤ (q_I δ 3 1 nu).toInt) from ⟨i493, ⟨kp_w (by decide) u494, v495, v496⟩, by first | with_reducible assumption | omega⟩)
          · have c501 : (q_I d439 1 15 a0).toInt ≠ (0 : Int) := o_ne h447
            unfold J_X1_look_154
            have f502 : (q_I d439 1 11 a0).toInt = (q_I δ 1 11 a0).toInt := ((show (q_I d439 1 11 a0).toInt = (q_I d426 1 11 a0).toInt from congrArg Int32.toInt (by rw [e440]; exact rI_o (by decide))).trans ((show (q_I d426 1 11 a0).toInt = (q_I d409 1 11 a0).toInt from congrArg Int32.toInt (by rw [e427]; exact rI_o (by decide))).trans ((show (q_I d409 1 11 a0).toInt = (q_I d393 1 11 a0).toInt from congrArg Int32.toInt (by rw [e410]; exact rI_o (by decide))).trans (show (q_I d393 1 11 a0).toInt = (q_I δ 1 11 a0).toInt from congrArg Int32.toInt (by rw [e394]; exact rI_o (by decide))))))
            have f503 := ti_b (q_I δ 1 11 a0)
            have f504 : (q_I d439 1 12 a0).toInt = (q_I δ 1 12 a0).toInt := ((show (q_I d439 1 12 a0).toInt = (q_I d426 1 12 a0).toInt from congrArg Int32.toInt (by rw [e440]; exact rI_o (by decide))).trans ((show (q_I d426 1 12 a0).toInt = (q_I d409 1 12 a0).toInt from congrArg Int32.toInt (by rw [e427]; exact rI_o (by decide))).trans ((show (q_I d409 1 12 a0).toInt = (q_I d393 1 12 a0).toInt from congrArg Int32.toInt (by rw [e410]; exact rI_o (by decide))).trans (show (q_I d393 1 12 a0).toInt = (q_I δ 1 12 a0).toInt from congrArg Int32.toInt (by rw [e394]; exact rI_o (by decide))))))
            have f505 := ti_b (q_I δ 1 12 a0)
            exact ok_some (show CI ad h.1 δ0 d439 ∧ (kp [(1, 7), (1, 9), (1, 10), (1, 11), (1, 12), (1, 15)] δ d439 ∧ q_V d439 = q_V δ ∧ q_R d439 = q_R δ) ∧ ((q_I d439 1 15 a0).toInt = 0 → 0 ≤ (q_I d439 1 11 a0).toInt ∧ (q_I d439 1 11 a0).toInt ≤ (q_I d439 1 12 a0).toInt ∧ (q_I d439 1 12 a0).toInt ≤ (q_I δ 3 1 nu).toInt) from ⟨i441, ⟨kp_w (by decide) u442, v443, v444⟩, by first | with_reducible assumption | omega⟩)
        · have c506 : (q_I d426 1 9 a0).toInt ≠ (q_I d426 1 10 a0).toInt := o_ne h437
          unfold J_X1_look_85
          refine ok_gp (by decide) ?_
          refine ok_bdv (fun d507 e508 => ?_)
          have i509 : CI ad h.1 δ0 d507 := by rw [e508]; exact cs_1_15 L i428 k_a0 (show 0 ≤ (0 : Int) by omega) (show (0 : Int) ≤ 1 by omega)
          have u510 := kp_I u429 e508
          have v511 : q_V d507 = q_V δ := ((show q_V d507 = q_V d426 by rw [e508]; rfl)).trans v430
          have v512 : q_R d507 = q_R δ := ((show q_R d507 = q_R d426 by rw [e508]; rfl)).trans v431
          have f513 := cb_1_15 i509 k_a0
          have f514 : (q_I d507 1 15 a0).toInt = (0 : Int) := congrArg Int32.toInt (show q_I d507 1 15 a0 = (0 : Int32) by rw [e508]; exact rI_s)
          refine ok_ite (fun h515 => ?_) (fun h515 => ?_)
          · have c516 : (q_I d507 1 15 a0).toInt = (0 : Int) := o_eq h515
            refine ok_at o11 ?_
            refine ok_bind (k_X5_lowerBits L hN (a0 := b10) (x1 := (q_I d507 1 6 a0)) k12 i509) (fun r517 hr518 => ?_)
            obtain ⟨i519, p520⟩ := hr518
            try rw [i519]
            have f521 : (q_I d507 1 6 a0).toInt = (q_I δ 1 6 a0).toInt := ((show (q_I d507 1 6 a0).toInt = (q_I d426 1 6 a0).toInt from congrArg Int32.toInt (by rw [e508]; exact rI_o (by decide))).trans ((show (q_I d426 1 6 a0).toInt = (q_I d409 1 6 a0).toInt from congrArg Int32.toInt (by rw [e427]; exact rI_o (by decide))).trans ((show (q_I d409 1 6 a0).toInt = (q_I d393 1 6 a0).toInt from congrArg Int32.toInt (by rw [e410]; exact rI_o (by decide))).trans (show (q_I d393 1 6 a0).toInt = (q_I δ 1 6 a0).toInt from congrArg Int32.toInt (by rw [e394]; exact rI_o (by decide))))))
            have f522 := ti_b r517.1
            refine ok_bdv (fun d523 e524 => ?_)
            have i525 : CI ad h.1 δ0 d523 := by rw [e524]; exact cs_1_7 L i509
            have u526 := kp_I u510 e524
            have v527 : q_V d523 = q_V δ := ((show q_V d523 = q_V d507 by rw [e524]; rfl)).trans v511
            have v528 : q_R d523 = q_R δ := ((show q_R d523 = q_R d507 by rw [e524]; rfl)).trans v512
            have f531 : (q_I d523 1 3 a0).toInt = (q_I d393 1 3 a0).toInt := ((show (q_I d523 1 3 a0).toInt = (q_I d507 1 3 a0).toInt from congrArg Int32.toInt (by rw [e524]; exact rI_o (by decide))).trans ((show (q_I d507 1 3 a0).toInt = (q_I d426 1 3 a0).toInt from congrArg Int32.toInt (by rw [e508]; exact rI_o (by decide))).trans ((show (q_I d426 1 3 a0).toInt = (q_I d409 1 3 a0).toInt from congrArg Int32.toInt (by rw [e427]; exact rI_o (by decide))).trans (show (q_I d409 1 3 a0).toInt = (q_I d393 1 3 a0).toInt from congrArg Int32.toInt (by rw [e410]; exact rI_o (by decide))))))
            first | (have q533 := te_addc (c := 1) (n := 1) rfl (q_I d523 1 3 a0) (by omega) (by omega); obtain ⟨f534, f535, f536⟩ := q533) | (obtain ⟨q533, f534, f535, f536⟩ := ti_addc (c := 1) (n := 1) rfl (q_I d523 1 3 a0))
            have f537 : (q_I d523 1 4 a0).toInt = (q_I d409 1 4 a0).toInt := ((show (q_I d523 1 4 a0).toInt = (q_I d507 1 4 a0).toInt from congrArg Int32.toInt (by rw [e524]; exact rI_o (by decide))).trans ((show (q_I d507 1 4 a0).toInt = (q_I d426 1 4 a0).toInt from congrArg Int32.toInt (by rw [e508]; exact rI_o (by decide))).trans (show (q_I d426 1 4 a0).toInt = (q_I d409 1 4 a0).toInt from congrArg Int32.toInt (by rw [e427]; exact rI_o (by decide)))))
            have f538 : (q_I d523 3 1 nu).toInt = (q_I d409 3 1 nu).toInt := ((show (q_I d523 3 1 nu).toInt = (q_I d507 3 1 nu).toInt from congrArg Int32.toInt (by rw [e524]; exact rI_o (by decide))).trans ((show (q_I d507 3 1 nu).toInt = (q_I d426 3 1 nu).toInt from congrArg Int32.toInt (by rw [e508]; exact rI_o (by decide))).trans (show (q_I d426 3 1 nu).toInt = (q_I d409 3 1 nu).toInt from congrArg Int32.toInt (by rw [e427]; exact rI_o (by decide)))))
            refine ok_bind (k_X1_firstFrom L hN (a0 := a0) (x1 := ((q_I d523 1 3 a0) + (1 : Int32))) (x2 := (q_I d523 1 4 a0)) (x3 := ((q_I d523 1 9 a0) + (1 : Int32))) k_a0 hnu knu (show 0 ≤ (((q_I d523 1 3 a0) + (1 : Int32))).toInt by first | with_reducible assumption | omega) (show (((q_I d523 1 3 a0) + (1 : Int32))).toInt ≤ ((q_I d523 1 4 a0)).toInt by first | with_reducible assumption | omega) (show ((q_I d523 1 4 a0)).toInt ≤ (q_I d523 3 1 nu).toInt by first | with_reducible assumption | omega) i525) (fun r529 hr530 => ?_)
            obtain ⟨i539, p540, p541⟩ := hr530
            try rw [i539]
            have f542 := ti_b r529.1
            refine ok_bdv (fun d543 e544 => ?_)
            have i545 : CI ad h.1 δ0 d543 := by rw [e544]; exact cs_1_11 L i525
            have u546 := kp_I u526 e544
            have v547 : q_V d543 = q_V δ := ((show q_V d543 = q_V d523 by rw [e544]; rfl)).trans v527
            have v548 : q_R d543 = q_R δ := ((show q_R d543 = q_R d523 by rw [e544]; rfl)).trans v528
            have f551 := ti_b (q_I d543 1 11 a0)
            have f552 : (q_I d543 1 11 a0).toInt = r529.1.toInt := congrArg Int32.toInt (show q_I d543 1 11 a0 = r529.1 by rw [e544]; exact rI_s)
            have f553 : (q_I d543 1 4 a0).toInt = (q_I d523 1 4 a0).toInt := congrArg Int32.toInt (by rw [e544]; exact rI_o (by decide))
            have f554 : (q_I d543 3 1 nu).toInt = (q_I d523 3 1 nu).toInt := congrArg Int32.toInt (by rw [e544]; exact rI_o (by decide))
            refine ok_bind (k_X1_firstFrom L hN (a0 := a0) (x1 := (q_I d543 1 11 a0)) (x2 := (q_I d543 1 4 a0)) (x3 := (q_I d543 1 10 a0)) k_a0 hnu knu (show 0 ≤ ((q_I d543 1 11 a0)).toInt by first | with_reducible assumption | omega) (show ((q_I d543 1 11 a0)).toInt ≤ ((q_I d543 1 4 a0)).toInt by first | with_reducible assumption | omega) (show ((q_I d543 1 4 a0)).toInt ≤ (q_I d543 3 1 nu).toInt by first | with_reducible assumption | omega) i545) (fun r549 hr550 => ?_)
            obtain ⟨i555, p556, p557⟩ := hr550
            try rw [i555]
            have f558 := ti_b r549.1
            refine ok_bdv (fun d559 e560 => ?_)
            have i561 : CI ad h.1 δ0 d559 := by rw [e560]; exact cs_1_12 L i545
            have u562 := kp_I u546 e560
            have v563 : q_V d559 = q_V δ := ((show q_V d559 = q_V d543 by rw [e560]; rfl)).trans v547
            have v564 : q_R d559 = q_R δ := ((show q_R d559 = q_R d543 by rw [e560]; rfl)).trans v548
            unfold J_X1_look_154
            have f565 : (q_I d559 1 15 a0).toInt = (q_I d507 1 15 a0).toInt := ((show (q_I d559 1 15 a0).toInt = (q_I d543 1 15 a0).toInt from congrArg Int32.toInt (by rw [e560]; exact rI_o (by decide))).trans ((show (q_I d543 1 15 a0).toInt = (q_I d523 1 15 a0).toInt from congrArg Int32.toInt (by rw [e544]; exact rI_o (by decide))).trans (show (q_I d523 1 15 a0).toInt = (q_I d507 1 15 a0).toInt from congrArg Int32.toInt (by rw [e524]; exact rI_o (by decide)))))
            have f566 : (q_I d559 1 11 a0).toInt = (q_I d543 1 11 a0).toInt := congrArg Int32.toInt (by rw [e560]; exact rI_o (by decide))
            have f567 := ti_b (q_I d559 1 12 a0)
            have f568 : (q_I d559 1 12 a0).toInt = r549.1.toInt := congrArg Int32.toInt (show q_I d559 1 12 a0 = r549.1 by rw [e560]; exact rI_s)
            exact ok_some (show CI ad h.1 δ0 d559 ∧ (kp [(1, 7), (1, 9), (1, 10), (1, 11), (1, 12), (1, 15)] δ d559 ∧ q_V d559 = q_V δ ∧ q_R d559 = q_R δ) ∧ ((q_I d559 1 15 a0).toInt = 0 → 0 ≤ (q_I d559 1 11 a0).toInt ∧ (q_I d559 1 11 a0).toInt ≤ (q_I d559 1 12 a0).toInt ∧ (q_I d559 1 12 a0).toInt ≤ (q_I δ 3 1 nu).toInt) from ⟨i561, ⟨kp_w (by decide) u562, v563, v564⟩, by first | with_reducible assumption | omega⟩)
          · have c569 : (q_I d507 1 15 a0).toInt ≠ (0 : Int) := o_ne h515
            unfold J_X1_look_154
            have f570 : (q_I d507 1 11 a0).toInt = (q_I δ 1 11 a0).toInt := ((show (q_I d507 1 11 a0).toInt = (q_I d426 1 11 a0).toInt from congrArg Int32.toInt (by rw [e508]; exact rI_o (by decide))).trans ((show (q_I d426 1 11 a0).toInt = (q_I d409 1 11 a0).toInt from congrArg Int32.toInt (by rw [e427]; exact rI_o (by decide))).trans ((show (q_I d409 1 11 a0).toInt = (q_I d393 1 11 a0).toInt from congrArg Int32.toInt (by rw [e410]; exact rI_o (by decide))).trans (show (q_I d393 1 11 a0).toInt = (q_I δ 1 11 a0).toInt from congrArg Int32.toInt (by rw [e394]; exact rI_o (by decide))))))
            have f571 := ti_b (q_I δ 1 11 a0)
            have f572 : (q_I d507 1 12 a0).toInt = (q_I δ 1 12 a0).toInt := ((show (q_I d507 1 12 a0).toInt = (q_I d426 1 12 a0).toInt from congrArg Int32.toInt (by rw [e508]; exact rI_o (by decide))).trans ((show (q_I d426 1 12 a0).toInt = (q_I d409 1 12 a0).toInt from congrArg Int32.toInt (by rw [e427]; exact rI_o (by decide))).trans ((show (q_I d409 1 12 a0).toInt = (q_I d393 1 12 a0).toInt from congrArg Int32.toInt (by rw [e410]; exact rI_o (by decide))).trans (show (q_I d393 1 12 a0).toInt = (q_I δ 1 12 a0).toInt from congrArg Int32.toInt (by rw [e394]; exact rI_o (by decide))))))
            have f573 := ti_b (q_I δ 1 12 a0)
            exact ok_some (show CI ad h.1 δ0 d507 ∧ (kp [(1, 7), (1, 9), (1, 10), (1, 11), (1, 12), (1, 15)] δ d507 ∧ q_V d507 = q_V δ ∧ q_R d507 = q_R δ) ∧ ((q_I d507 1 15 a0).toInt = 0 → 0 ≤ (q_I d507 1 11 a0).toInt ∧ (q_I d507 1 11 a0).toInt ≤ (q_I d507 1 12 a0).toInt ∧ (q_I d507 1 12 a0).toInt ≤ (q_I δ 3 1 nu).toInt) from ⟨i509, ⟨kp_w (by decide) u510, v511, v512⟩, by first | with_reducible assumption | omega⟩)
      · have c574 : (q_I d393 1 15 a0).toInt ≠ (0 : Int) := o_ne h401
        have f575 : (q_I d393 1 11 a0).toInt = (q_I δ 1 11 a0).toInt := congrArg Int32.toInt (by rw [e394]; exact rI_o (by decide))
        have f576 := ti_b (q_I δ 1 11 a0)
        have f577 : (q_I d393 1 12 a0).toInt = (q_I δ 1 12 a0).toInt := congrArg Int32.toInt (by rw [e394]; exact rI_o (by decide))
        have f578 := ti_b (q_I δ 1 12 a0)
        exact ok_some (show CI ad h.1 δ0 d393 ∧ (kp [(1, 7), (1, 9), (1, 10), (1, 11), (1, 12), (1, 15)] δ d393 ∧ q_V d393 = q_V δ ∧ q_R d393 = q_R δ) ∧ ((q_I d393 1 15 a0).toInt = 0 → 0 ≤ (q_I d393 1 11 a0).toInt ∧ (q_I d393 1 11 a0).toInt ≤ (q_I d393 1 12 a0).toInt ∧ (q_I d393 1 12 a0).toInt ≤ (q_I δ 3 1 nu).toInt) from ⟨i395, ⟨kp_w (by decide) u396, v397, v398⟩, by first | with_reducible assumption | omega⟩)
set_option maxHeartbeats 4000000 in
theorem k_X1_findRoom {ad : List Nat} {h : hp} (L : Lay TLx ad h) {δ0 : dp} {N : Nat} (hN : 10000000 ≤ N) {a0 : Nat} {x1 : Int32} {nu : Nat} (k_a0 : q_K h.1 a0 = 1) (hnu : q_O h.1 1 1 a0 = some nu) (knu : q_K h.1 nu = 3) {δ : dp} (z0 : 0 ≤ (q_I δ 1 11 a0).toInt) (z1 : (q_I δ 1 11 a0).toInt ≤ (q_I δ 1 12 a0).toInt) (z2 : (q_I δ 1 12 a0).toInt ≤ (q_I δ 3 1 nu).toInt) (I : CI ad h.1 δ0 δ) : ok (D_X1_findRoom N h.1 a0 x1 δ) (fun r => CI ad h.1 δ0 r.2 ∧ (kp [(1, 13), (1, 14)] δ r.2 ∧ q_V r.2 = q_V δ ∧ q_R r.2 = q_R δ) ∧ bo (r.1) ∧ (q_I δ 1 11 a0).toInt ≤ (q_I r.2 1 13 a0).toInt ∧ (q_I r.2 1 13 a0).toInt ≤ (q_I r.2 1 14 a0).toInt ∧ (q_I r.2 1 14 a0).toInt ≤ (q_I δ 1 12 a0).toInt ∧ ((r.1).toInt = 1 → (q_I r.2 1 13 a0).toInt < (q_I r.2 1 14 a0).toInt)) := by
  unfold D_X1_findRoom
  have f1 := ti_b (q_I δ 1 11 a0)
  have f2 := ti_b (q_I δ 1 12 a0)
  obtain ⟨b3, o4, k5, ⟨n6, n7⟩, w8⟩ := gO_3_0 L knu
  have f9 := cb_3_1 I knu o4
  have f12 := ti_b ((x1 >>> ((q_I δ 1 7 a0) &&& 31)) <<< ((q_I δ 1 7 a0) &&& 31))
  refine ok_biv (fun vx10 e11 => ?_)
  have f13 : vx10.toInt = ((x1 >>> ((q_I δ 1 7 a0) &&& 31)) <<< ((q_I δ 1 7 a0) &&& 31)).toInt := congrArg Int32.toInt e11
  refine ok_bind (k_X1_firstFrom L hN (a0 := a0) (x1 := (q_I δ 1 11 a0)) (x2 := (q_I δ 1 12 a0)) (x3 := vx10) k_a0 hnu knu (show 0 ≤ ((q_I δ 1 11 a0)).toInt by first | with_reducible assumption | omega) (show ((q_I δ 1 11 a0)).toInt ≤ ((q_I δ 1 12 a0)).toInt by first | with_reducible assumption | omega) (show ((q_I δ 1 12 a0)).toInt ≤ (q_I δ 3 1 nu).toInt by first | with_reducible assumption | omega) I) (fun r14 hr15 => ?_)
  obtain ⟨i16, p17, p18⟩ := hr15
  try rw [i16]
  have f19 := ti_b r14.1
  refine ok_bdv (fun d20 e21 => ?_)
  have i22 : CI ad h.1 δ0 d20 := by rw [e21]; exact cs_1_13 L I
  have u23 := kp_I kp_r e21
  have v24 : q_V d20 = q_V δ := ((show q_V d20 = q_V δ by rw [e21]; rfl)).trans rfl
  have v25 : q_R d20 = q_R δ := ((show q_R d20 = q_R δ by rw [e21]; rfl)).trans rfl
  have f28 := ti_b (q_I d20 1 13 a0)
  have f29 : (q_I d20 1 13 a0).toInt = r14.1.toInt := congrArg Int32.toInt (show q_I d20 1 13 a0 = r14.1 by rw [e21]; exact rI_s)
  have f30 : (q_I d20 1 12 a0).toInt = (q_I δ 1 12 a0).toInt := congrArg Int32.toInt (by rw [e21]; exact rI_o (by decide))
  have f31 : (q_I d20 3 1 nu).toInt = (q_I δ 3 1 nu).toInt := congrArg Int32.toInt (by rw [e21]; exact rI_o (by decide))
  refine ok_bind (k_X1_firstFrom L hN (a0 := a0) (x1 := (q_I d20 1 13 a0)) (x2 := (q_I d20 1 12 a0)) (x3 := (vx10 + ((1 : Int32) <<< ((q_I d20 1 7 a0) &&& 31)))) k_a0 hnu knu (show 0 ≤ ((q_I d20 1 13 a0)).toInt by first | with_reducible assumption | omega) (show ((q_I d20 1 13 a0)).toInt ≤ ((q_I d20 1 12 a0)).toInt by first | with_reducible assumption | omega) (show ((q_I d20 1 12 a0)).toInt ≤ (q_I d20 3 1 nu).toInt by first | with_reducible assumption | omega) i22) (fun r26 hr27 => ?_)
  obtain ⟨i32, p33, p34⟩ := hr27
  try rw [i32]
  have f35 := ti_b r26.1
  refine ok_bdv (fun d36 e37 => ?_)
  have i38 : CI ad h.1 δ0 d36 := by rw [e37]; exact cs_1_14 L i22
  have u39 := kp_I u23 e37
  have v40 : q_V d36 = q_V δ := ((show q_V d36 = q_V d20 by rw [e37]; rfl)).trans v24
  have v41 : q_R d36 = q_R δ := ((show q_R d36 = q_R d20 by rw [e37]; rfl)).trans v25
  have f42 := ti_b (q_I d36 1 14 a0)
  have f43 : (q_I d36 1 14 a0).toInt = r26.1.toInt := congrArg Int32.toInt (show q_I d36 1 14 a0 = r26.1 by rw [e37]; exact rI_s)
  have f44 : (q_I d36 1 13 a0).toInt = (q_I d20 1 13 a0).toInt := congrArg Int32.toInt (by rw [e37]; exact rI_o (by decide))
  refine ok_ite (fun h45 => ?_) (fun h45 => ?_)
  · have c46 : (q_I d36 1 14 a0).toInt ≤ (q_I d36 1 13 a0).toInt := o_le h45
    unfold J_X1_findRoom_69
    refine ok_gp (by decide) ?_
    exact ok_some (show CI ad h.1 δ0 d36 ∧ (kp [(1, 13), (1, 14)] δ d36 ∧ q_V d36 = q_V δ ∧ q_R d36 = q_R δ) ∧ bo ((0 : Int32)) ∧ (q_I δ 1 11 a0).toInt ≤ (q_I d36 1 13 a0).toInt ∧ (q_I d36 1 13 a0).toInt ≤ (q_I d36 1 14 a0).toInt ∧ (q_I d36 1 14 a0).toInt ≤ (q_I δ 1 12 a0).toInt ∧ ((0 : Int) = 1 → (q_I d36 1 13 a0).toInt < (q_I d36 1 14 a0).toInt) from ⟨i38, ⟨kp_w (by decide) u39, v40, v41⟩, bo_0, by first | with_reducible assumption | omega, by first | with_reducible assumption | omega, by first | with_reducible assumption | omega, by first | with_reducible assumption | omega⟩)
  · have c47 : (q_I d36 1 13 a0).toInt < (q_I d36 1 14 a0).toInt := o_nle h45
    unfold J_X1_findRoom_69
    refine ok_gp (by decide) ?_
    exact ok_some (show CI ad h.1 δ0 d36 ∧ (kp [(1, 13), (1, 14)] δ d36 ∧ q_V d36 = q_V δ ∧ q_R d36 = q_R δ) ∧ bo ((1 : Int32)) ∧ (q_I δ 1 11 a0).toInt ≤ (q_I d36 1 13 a0).toInt ∧ (q_I d36 1 13 a0).toInt ≤ (q_I d36 1 14 a0).toInt ∧ (q_I d36 1 14 a0).toInt ≤ (q_I δ 1 12 a0).toInt ∧ ((1 : Int) = 1 → (q_I d36 1 13 a0).toInt < (q_I d36 1 14 a0).toInt) from ⟨i38, ⟨kp_w (by decide) u39, v40, v41⟩, bo_1, by first | with_reducible assumption | omega, by first | with_reducible assumption | omega, by first | with_reducible assumption | omega, by first | with_reducible assumption | omega⟩)
set_option maxHeartbeats 4000000 in
theorem k_X1_enterRoom {ad : List Nat} {h : hp} (L : Lay TLx ad h) {δ0 : dp} {N : Nat} (hN : 10000000 ≤ N) {a0 : Nat} {x1 : Int32} (k_a0 : q_K h.1 a0 = 1) {δ : dp} (I : CI ad h.1 δ0 δ) : ok (D_X1_enterRoom N h.1 a0 x1 δ) (fun r => CI ad h.1 δ0 r ∧ (kp [(1, 3), (1, 4), (1, 6), (1, 8)] δ r ∧ q_V r = q_V δ ∧ q_R r = q_R δ) ∧ (q_I r 1 3 a0).toInt = (q_I δ 1 13 a0).toInt ∧ (q_I r 1 4 a0).toInt = (q_I δ 1 14 a0).toInt) := by
  unfold D_X1_enterRoom
  have f4 := ti_b (q_I δ 1 13 a0)
  refine ok_bdv (fun d1 e2 => ?_)
  have i3 : CI ad h.1 δ0 d1 := by rw [e2]; exact cs_1_3 L I
  have u5 := kp_I kp_r e2
  have v6 : q_V d1 = q_V δ := ((show q_V d1 = q_V δ by rw [e2]; rfl)).trans rfl
  have v7 : q_R d1 = q_R δ := ((show q_R d1 = q_R δ by rw [e2]; rfl)).trans rfl
  have f11 : (q_I d1 1 14 a0).toInt = (q_I δ 1 14 a0).toInt := congrArg Int32.toInt (by rw [e2]; exact rI_o (by decide))
  have f12 := ti_b (q_I δ 1 14 a0)
  refine ok_bdv (fun d8 e9 => ?_)
  have i10 : CI ad h.1 δ0 d8 := by rw [e9]; exact cs_1_4 L i3
  have u13 := kp_I u5 e9
  have v14 : q_V d8 = q_V δ := ((show q_V d8 = q_V d1 by rw [e9]; rfl)).trans v6
  have v15 : q_R d8 = q_R δ := ((show q_R d8 = q_R d1 by rw [e9]; rfl)).trans v7
  have f19 : (q_I d8 1 7 a0).toInt = (q_I δ 1 7 a0).toInt := ((show (q_I d8 1 7 a0).toInt = (q_I d1 1 7 a0).toInt from congrArg Int32.toInt (by rw [e9]; exact rI_o (by decide))).trans (show (q_I d1 1 7 a0).toInt = (q_I δ 1 7 a0).toInt from congrArg Int32.toInt (by rw [e2]; exact rI_o (by decide))))
  have f20 := ti_b (q_I δ 1 7 a0)
  refine ok_bdv (fun d16 e17 => ?_)
  have i18 : CI ad h.1 δ0 d16 := by rw [e17]; exact cs_1_6 L i10
  have u21 := kp_I u13 e17
  have v22 : q_V d16 = q_V δ := ((show q_V d16 = q_V d8 by rw [e17]; rfl)).trans v14
  have v23 : q_R d16 = q_R δ := ((show q_R d16 = q_R d8 by rw [e17]; rfl)).trans v15
  have f27 := ti_b (x1 &&& (((1 : Int32) <<< ((q_I d16 1 7 a0) &&& 31)) - (1 : Int32)))
  refine ok_bdv (fun d24 e25 => ?_)
  have i26 : CI ad h.1 δ0 d24 := by rw [e25]; exact cs_1_8 L i18
  have u28 := kp_I u21 e25
  have v29 : q_V d24 = q_V δ := ((show q_V d24 = q_V d16 by rw [e25]; rfl)).trans v22
  have v30 : q_R d24 = q_R δ := ((show q_R d24 = q_R d16 by rw [e25]; rfl)).trans v23
  have f31 : (q_I d24 1 3 a0).toInt = (q_I d1 1 3 a0).toInt := ((show (q_I d24 1 3 a0).toInt = (q_I d16 1 3 a0).toInt from congrArg Int32.toInt (by rw [e25]; exact rI_o (by decide))).trans ((show (q_I d16 1 3 a0).toInt = (q_I d8 1 3 a0).toInt from congrArg Int32.toInt (by rw [e17]; exact rI_o (by decide))).trans (show (q_I d8 1 3 a0).toInt = (q_I d1 1 3 a0).toInt from congrArg Int32.toInt (by rw [e9]; exact rI_o (by decide)))))
  have f32 := ti_b (q_I d1 1 3 a0)
  have f33 : (q_I d1 1 3 a0).toInt = (q_I δ 1 13 a0).toInt := congrArg Int32.toInt (show q_I d1 1 3 a0 = (q_I δ 1 13 a0) by rw [e2]; exact rI_s)
  have f34 : (q_I d24 1 4 a0).toInt = (q_I d8 1 4 a0).toInt := ((show (q_I d24 1 4 a0).toInt = (q_I d16 1 4 a0).toInt from congrArg Int32.toInt (by rw [e25]; exact rI_o (by decide))).trans (show (q_I d16 1 4 a0).toInt = (q_I d8 1 4 a0).toInt from congrArg Int32.toInt (by rw [e17]; exact rI_o (by decide))))
  have f35 := ti_b (q_I d8 1 4 a0)
  have f36 : (q_I d8 1 4 a0).toInt = (q_I d1 1 14 a0).toInt := congrArg Int32.toInt (show q_I d8 1 4 a0 = (q_I d1 1 14 a0) by rw [e9]; exact rI_s)
  exact ok_some (show CI ad h.1 δ0 d24 ∧ (kp [(1, 3), (1, 4), (1, 6), (1, 8)] δ d24 ∧ q_V d24 = q_V δ ∧ q_R d24 = q_R δ) ∧ (q_I d24 1 3 a0).toInt = (q_I δ 1 13 a0).toInt ∧ (q_I d24 1 4 a0).toInt = (q_I δ 1 14 a0).toInt from ⟨i26, ⟨kp_w (by decide) u28, v29, v30⟩, by first | with_reducible assumption | omega, by first | with_reducible assumption | omega⟩)
set_option maxHeartbeats 4000000 in
theorem k_X1_enterList {ad : List Nat} {h : hp} (L : Lay TLx ad h) {δ0 : dp} {N : Nat} (hN : 10000000 ≤ N) {a0 : Nat} {x1 : Int32} (k_a0 : q_K h.1 a0 = 1) {δ : dp} (I : CI ad h.1 δ0 δ) : ok (D_X1_enterList N h.1 a0 x1 δ) (fun r => CI ad h.1 δ0 r ∧ (kp [(1, 3), (1, 4), (1, 5), (1, 6), (1, 8)] δ r ∧ q_V r = q_V δ ∧ q_R r = q_R δ) ∧ (q_I r 1 3 a0).toInt = (q_I δ 1 11 a0).toInt ∧ (q_I r 1 4 a0).toInt = (q_I δ 1 12 a0).toInt) := by
  unfold D_X1_enterList
  have f4 := ti_b (q_I δ 1 11 a0)
  refine ok_bdv (fun d1 e2 => ?_)
  have i3 : CI ad h.1 δ0 d1 := by rw [e2]; exact cs_1_3 L I
  have u5 := kp_I kp_r e2
  have v6 : q_V d1 = q_V δ := ((show q_V d1 = q_V δ by rw [e2]; rfl)).trans rfl
  have v7 : q_R d1 = q_R δ := ((show q_R d1 = q_R δ by rw [e2]; rfl)).trans rfl
  have f11 : (q_I d1 1 12 a0).toInt = (q_I δ 1 12 a0).toInt := congrArg Int32.toInt (by rw [e2]; exact rI_o (by decide))
  have f12 := ti_b (q_I δ 1 12 a0)
  refine ok_bdv (fun d8 e9 => ?_)
  have i10 : CI ad h.1 δ0 d8 := by rw [e9]; exact cs_1_4 L i3
  have u13 := kp_I u5 e9
  have v14 : q_V d8 = q_V δ := ((show q_V d8 = q_V d1 by rw [e9]; rfl)).trans v6
  have v15 : q_R d8 = q_R δ := ((show q_R d8 = q_R d1 by rw [e9]; rfl)).trans v7
  have f19 : (q_I d8 1 5 a0).toInt = (q_I δ 1 5 a0).toInt := ((show (q_I d8 1 5 a0).toInt = (q_I d1 1 5 a0).toInt from congrArg Int32.toInt (by rw [e9]; exact rI_o (by decide))).trans (show (q_I d1 1 5 a0).toInt = (q_I δ 1 5 a0).toInt from congrArg Int32.toInt (by rw [e2]; exact rI_o (by decide))))
  have f20 := ti_b (q_I δ 1 5 a0)
  have f21 : (q_I d8 1 7 a0).toInt = (q_I δ 1 7 a0).toInt := ((show (q_I d8 1 7 a0).toInt = (q_I d1 1 7 a0).toInt from congrArg Int32.toInt (by rw [e9]; exact rI_o (by decide))).trans (show (q_I d1 1 7 a0).toInt = (q_I δ 1 7 a0).toInt from congrArg Int32.toInt (by rw [e2]; exact rI_o (by decide))))
  have f22 := ti_b (q_I δ 1 7 a0)
  first | (have q24 := te_add (q_I d8 1 5 a0) (q_I d8 1 7 a0) (by omega) (by omega); obtain ⟨f25, f26, f27⟩ := q24) | (obtain ⟨q24, f25, f26, f27⟩ := ti_add (q_I d8 1 5 a0) (q_I d8 1 7 a0))
  refine ok_bdv (fun d16 e17 => ?_)
  have i18 : CI ad h.1 δ0 d16 := by rw [e17]; exact cs_1_5 L i10
  have u28 := kp_I u13 e17
  have v29 : q_V d16 = q_V δ := ((show q_V d16 = q_V d8 by rw [e17]; rfl)).trans v14
  have v30 : q_R d16 = q_R δ := ((show q_R d16 = q_R d8 by rw [e17]; rfl)).trans v15
  have f34 : (q_I d16 1 6 a0).toInt = (q_I δ 1 6 a0).toInt := ((show (q_I d16 1 6 a0).toInt = (q_I d8 1 6 a0).toInt from congrArg Int32.toInt (by rw [e17]; exact rI_o (by decide))).trans ((show (q_I d8 1 6 a0).toInt = (q_I d1 1 6 a0).toInt from congrArg Int32.toInt (by rw [e9]; exact rI_o (by decide))).trans (show (q_I d1 1 6 a0).toInt = (q_I δ 1 6 a0).toInt from congrArg Int32.toInt (by rw [e2]; exact rI_o (by decide)))))
  have f35 := ti_b (q_I δ 1 6 a0)
  have f36 : (q_I d16 1 7 a0).toInt = (q_I d8 1 7 a0).toInt := congrArg Int32.toInt (by rw [e17]; exact rI_o (by decide))
  first | (have q38 := te_sub (q_I d16 1 6 a0) (q_I d16 1 7 a0) (by omega) (by omega); obtain ⟨f39, f40, f41⟩ := q38) | (obtain ⟨q38, f39, f40, f41⟩ := ti_sub (q_I d16 1 6 a0) (q_I d16 1 7 a0))
  refine ok_bdv (fun d31 e32 => ?_)
  have i33 : CI ad h.1 δ0 d31 := by rw [e32]; exact cs_1_6 L i18
  have u42 := kp_I u28 e32
  have v43 : q_V d31 = q_V δ := ((show q_V d31 = q_V d16 by rw [e32]; rfl)).trans v29
  have v44 : q_R d31 = q_R δ := ((show q_R d31 = q_R d16 by rw [e32]; rfl)).trans v30
  have f48 := ti_b (x1 >>> ((q_I d31 1 7 a0) &&& 31))
  refine ok_bdv (fun d45 e46 => ?_)
  have i47 : CI ad h.1 δ0 d45 := by rw [e46]; exact cs_1_8 L i33
  have u49 := kp_I u42 e46
  have v50 : q_V d45 = q_V δ := ((show q_V d45 = q_V d31 by rw [e46]; rfl)).trans v43
  have v51 : q_R d45 = q_R δ := ((show q_R d45 = q_R d31 by rw [e46]; rfl)).trans v44
  have f52 : (q_I d45 1 3 a0).toInt = (q_I d1 1 3 a0).toInt := ((show (q_I d45 1 3 a0).toInt = (q_I d31 1 3 a0).toInt from congrArg Int32.toInt (by rw [e46]; exact rI_o (by decide))).trans ((show (q_I d31 1 3 a0).toInt = (q_I d16 1 3 a0).toInt from congrArg Int32.toInt (by rw [e32]; exact rI_o (by decide))).trans ((show (q_I d16 1 3 a0).toInt = (q_I d8 1 3 a0).toInt from congrArg Int32.toInt (by rw [e17]; exact rI_o (by decide))).trans (show (q_I d8 1 3 a0).toInt = (q_I d1 1 3 a0).toInt from congrArg Int32.toInt (by rw [e9]; exact rI_o (by decide))))))
  have f53 := ti_b (q_I d1 1 3 a0)
  have f54 : (q_I d1 1 3 a0).toInt = (q_I δ 1 11 a0).toInt := congrArg Int32.toInt (show q_I d1 1 3 a0 = (q_I δ 1 11 a0) by rw [e2]; exact rI_s)
  have f55 : (q_I d45 1 4 a0).toInt = (q_I d8 1 4 a0).toInt := ((show (q_I d45 1 4 a0).toInt = (q_I d31 1 4 a0).toInt from congrArg Int32.toInt (by rw [e46]; exact rI_o (by decide))).trans ((show (q_I d31 1 4 a0).toInt = (q_I d16 1 4 a0).toInt from congrArg Int32.toInt (by rw [e32]; exact rI_o (by decide))).trans (show (q_I d16 1 4 a0).toInt = (q_I d8 1 4 a0).toInt from congrArg Int32.toInt (by rw [e17]; exact rI_o (by decide)))))
  have f56 := ti_b (q_I d8 1 4 a0)
  have f57 : (q_I d8 1 4 a0).toInt = (q_I d1 1 12 a0).toInt := congrArg Int32.toInt (show q_I d8 1 4 a0 = (q_I d1 1 12 a0) by rw [e9]; exact rI_s)
  exact ok_some (show CI ad h.1 δ0 d45 ∧ (kp [(1, 3), (1, 4), (1, 5), (1, 6), (1, 8)] δ d45 ∧ q_V d45 = q_V δ ∧ q_R d45 = q_R δ) ∧ (q_I d45 1 3 a0).toInt = (q_I δ 1 11 a0).toInt ∧ (q_I d45 1 4 a0).toInt = (q_I δ 1 12 a0).toInt from ⟨i47, ⟨kp_w (by decide) u49, v50, v51⟩, by first | with_reducible assumption | omega, by first | with_reducible assumption | omega⟩)
set_option maxHeartbeats 4000000 in
theorem k_X1_goOnPutting {ad : List Nat} {h : hp} (L : Lay TLx ad h) {δ0 : dp} {N : Nat} (hN : 10000000 ≤ N) {a0 : Nat} {nu : Nat} (k_a0 : q_K h.1 a0 = 1) (hnu : q_O h.1 1 1 a0 = some nu) (knu : q_K h.1 nu = 3) {δ : dp} (z0 : 0 ≤ (q_I δ 1 11 a0).toInt) (z1 : (q_I δ 1 11 a0).toInt ≤ (q_I δ 1 12 a0).toInt) (z2 : (q_I δ 1 12 a0).toInt ≤ (q_I δ 3 1 nu).toInt) (z3 : 0 ≤ (q_I δ 1 3 a0).toInt) (z4 : (q_I δ 1 4 a0).toInt ≤ (q_I δ 3 1 nu).toInt) (I : CI ad h.1 δ0 δ) : ok (D_X1_goOnPutting N h.1 a0 δ) (fun r => CI ad h.1 δ0 r.2 ∧ (kp [(1, 3), (1, 4), (1, 5), (1, 6), (1, 8), (1, 13), (1, 14), (1, 15)] δ r.2 ∧ q_V r.2 = q_V δ ∧ q_R r.2 = q_R δ) ∧ 0 ≤ (q_I r.2 1 3 a0).toInt ∧ (q_I r.2 1 4 a0).toInt ≤ (q_I δ 3 1 nu).toInt) := by
  unfold D_X1_goOnPutting
  have f1 := ti_b (q_I δ 1 11 a0)
  have f2 := ti_b (q_I δ 1 12 a0)
  obtain ⟨b3, o4, k5, ⟨n6, n7⟩, w8⟩ := gO_3_0 L knu
  have f9 := cb_3_1 I knu o4
  have f10 := ti_b (q_I δ 1 3 a0)
  have f11 := ti_b (q_I δ 1 4 a0)
  have f12 := ti_b (q_I δ 1 8 a0)
  have f13 := ti_b (q_I δ 1 9 a0)
  refine ok_ite (fun h14 => ?_) (fun h14 => ?_)
  · have c15 : (q_I δ 1 8 a0).toInt = (q_I δ 1 9 a0).toInt := o_eq h14
    unfold J_X1_goOnPutting_22
    refine ok_bdv (fun d16 e17 => ?_)
    have i18 : CI ad h.1 δ0 d16 := by rw [e17]; exact cs_1_15 L I k_a0 (show 0 ≤ (1 : Int) by omega) (show (1 : Int) ≤ 1 by omega)
    have u19 := kp_I kp_r e17
    have v20 : q_V d16 = q_V δ := ((show q_V d16 = q_V δ by rw [e17]; rfl)).trans rfl
    have v21 : q_R d16 = q_R δ := ((show q_R d16 = q_R δ by rw [e17]; rfl)).trans rfl
    have f22 : (q_I d16 1 3 a0).toInt = (q_I δ 1 3 a0).toInt := congrArg Int32.toInt (by rw [e17]; exact rI_o (by decide))
    have f23 : (q_I d16 1 4 a0).toInt = (q_I δ 1 4 a0).toInt := congrArg Int32.toInt (by rw [e17]; exact rI_o (by decide))
    exact ok_some (show CI ad h.1 δ0 d16 ∧ (kp [(1, 3), (1, 4), (1, 5), (1, 6), (1, 8), (1, 13), (1, 14), (1, 15)] δ d16 ∧ q_V d16 = q_V δ ∧ q_R d16 = q_R δ) ∧ 0 ≤ (q_I d16 1 3 a0).toInt ∧ (q_I d16 1 4 a0).toInt ≤ (q_I δ 3 1 nu).toInt from ⟨i18, ⟨kp_w (by decide) u19, v20, v21⟩, by first | with_reducible assumption | omega, by first | with_reducible assumption | omega⟩)
  · have c24 : (q_I δ 1 8 a0).toInt ≠ (q_I δ 1 9 a0).toInt := o_ne h14
    have f25 := ti_b (q_I δ 1 10 a0)
    refine ok_ite (fun h26 => ?_) (fun h26 => ?_)
    · have c27 : (q_I δ 1 8 a0).toInt = (q_I δ 1 10 a0).toInt := o_eq h26
      unfold J_X1_goOnPutting_22
      refine ok_bdv (fun d28 e29 => ?_)
      have i30 : CI ad h.1 δ0 d28 := by rw [e29]; exact cs_1_15 L I k_a0 (show 0 ≤ (1 : Int) by omega) (show (1 : Int) ≤ 1 by omega)
      have u31 := kp_I kp_r e29
      have v32 : q_V d28 = q_V δ := ((show q_V d28 = q_V δ by rw [e29]; rfl)).trans rfl
      have v33 : q_R d28 = q_R δ := ((show q_R d28 = q_R δ by rw [e29]; rfl)).trans rfl
      have f34 : (q_I d28 1 3 a0).toInt = (q_I δ 1 3 a0).toInt := congrArg Int32.toInt (by rw [e29]; exact rI_o (by decide))
      have f35 : (q_I d28 1 4 a0).toInt = (q_I δ 1 4 a0).toInt := congrArg Int32.toInt (by rw [e29]; exact rI_o (by decide))
      exact ok_some (show CI ad h.1 δ0 d28 ∧ (kp [(1, 3), (1, 4), (1, 5), (1, 6), (1, 8), (1, 13), (1, 14), (1, 15)] δ d28 ∧ q_V d28 = q_V δ ∧ q_R d28 = q_R δ) ∧ 0 ≤ (q_I d28 1 3 a0).toInt ∧ (q_I d28 1 4 a0).toInt ≤ (q_I δ 3 1 nu).toInt from ⟨i30, ⟨kp_w (by decide) u31, v32, v33⟩, by first | with_reducible assumption | omega, by first | with_reducible assumption | omega⟩)
    · have c36 : (q_I δ 1 8 a0).toInt ≠ (q_I δ 1 10 a0).toInt := o_ne h26
      refine ok_bind (k_J9_max_7cf53 L hN (x0 := (q_I δ 1 8 a0)) (x1 := (q_I δ 1 9 a0))  I) (fun r37 hr38 => ?_)
      obtain ⟨i39, p40, p41, p42⟩ := hr38
      try rw [i39]
      have f43 := ti_b r37.1
      refine ok_bind (k_J9_min_7cf53 L hN (x0 := r37.1) (x1 := (q_I δ 1 10 a0))  I) (fun r44 hr45 => ?_)
      obtain ⟨i46, p47, p48, p49⟩ := hr45
      try rw [i46]
      have f50 := ti_b r44.1
      refine ok_bind (k_X1_findRoom L hN (a0 := a0) (x1 := r44.1) k_a0 hnu knu (show 0 ≤ (q_I δ 1 11 a0).toInt by first | with_reducible assumption | omega) (show (q_I δ 1 11 a0).toInt ≤ (q_I δ 1 12 a0).toInt by first | with_reducible assumption | omega) (show (q_I δ 1 12 a0).toInt ≤ (q_I δ 3 1 nu).toInt by first | with_reducible assumption | omega) I) (fun r51 hr52 => ?_)
      obtain ⟨i53, ⟨u59, u60, u61⟩, p54, p55, p56, p57, p58⟩ := hr52
      have u62 := kp_t kp_r u59
      have v63 : q_V r51.2 = q_V δ := (u60).trans rfl
      have v64 : q_R r51.2 = q_R δ := (u61).trans rfl
      have f65 := bo_t p54
      have f66 := ti_b (q_I r51.2 1 13 a0)
      have f67 := ti_b (q_I r51.2 1 14 a0)
      have f68 := ti_b r51.1
      refine ok_ite (fun h69 => ?_) (fun h69 => ?_)
      · have c70 : r51.1.toInt = (0 : Int) := o_eq h69
        refine ok_bind (k_X1_enterList L hN (a0 := a0) (x1 := r44.1) k_a0 i53) (fun r71 hr72 => ?_)
        obtain ⟨i73, ⟨u76, u77, u78⟩, p74, p75⟩ := hr72
        have u79 := kp_t u62 u76
        have v80 : q_V r71 = q_V δ := (u77).trans v63
        have v81 : q_R r71 = q_R δ := (u78).trans v64
        have f82 := ti_b (q_I r71 1 3 a0)
        have f83 : (q_I r51.2 1 11 a0).toInt = (q_I δ 1 11 a0).toInt := congrArg Int32.toInt (u59 1 11 a0 (by decide))
        have f84 := ti_b (q_I r71 1 4 a0)
        have f85 : (q_I r51.2 1 12 a0).toInt = (q_I δ 1 12 a0).toInt := congrArg Int32.toInt (u59 1 12 a0 (by decide))
        exact ok_some (show CI ad h.1 δ0 r71 ∧ (kp [(1, 3), (1, 4), (1, 5), (1, 6), (1, 8), (1, 13), (1, 14), (1, 15)] δ r71 ∧ q_V r71 = q_V δ ∧ q_R r71 = q_R δ) ∧ 0 ≤ (q_I r71 1 3 a0).toInt ∧ (q_I r71 1 4 a0).toInt ≤ (q_I δ 3 1 nu).toInt from ⟨i73, ⟨kp_w (by decide) u79, v80, v81⟩, by first | with_reducible assumption | omega, by first | with_reducible assumption | omega⟩)
      · have c86 : r51.1.toInt ≠ (0 : Int) := o_ne h69
        refine ok_bind (k_X1_enterRoom L hN (a0 := a0) (x1 := r44.1) k_a0 i53) (fun r87 hr88 => ?_)
        obtain ⟨i89, ⟨u92, u93, u94⟩, p90, p91⟩ := hr88
        have u95 := kp_t u62 u92
        have v96 : q_V r87 = q_V δ := (u93).trans v63
        have v97 : q_R r87 = q_R δ := (u94).trans v64
        have f98 := ti_b (q_I r87 1 3 a0)
        have f99 := ti_b (q_I r87 1 4 a0)
        exact ok_some (show CI ad h.1 δ0 r87 ∧ (kp [(1, 3), (1, 4), (1, 5), (1, 6), (1, 8), (1, 13), (1, 14), (1, 15)] δ r87 ∧ q_V r87 = q_V δ ∧ q_R r87 = q_R δ) ∧ 0 ≤ (q_I r87 1 3 a0).toInt ∧ (q_I r87 1 4 a0).toInt ≤ (q_I δ 3 1 nu).toInt from ⟨i89, ⟨kp_w (by decide) u95, v96, v97⟩, by first | with_reducible assumption | omega, by first | with_reducible assumption | omega⟩)
set_option maxHeartbeats 4000000 in
theorem kj_X1_goOnDropping_121 {ad : List Nat} {h : hp} (L : Lay TLx ad h) {δ0 : dp} {N : Nat} (hN : 10000000 ≤ N) {a0 : Nat} {xs0 : Int32} {x2v : Int32} {nu : Nat} (k_a0 : q_K h.1 a0 = 1) (hnu : q_O h.1 1 1 a0 = some nu) (knu : q_K h.1 nu = 3) {δ : dp} (z0 : 0 ≤ (q_I δ 1 11 a0).toInt) (z1 : (q_I δ 1 11 a0).toInt ≤ (q_I δ 1 12 a0).toInt) (z2 : (q_I δ 1 12 a0).toInt ≤ (q_I δ 3 1 nu).toInt) (z3 : 0 ≤ (q_I δ 1 3 a0).toInt) (z4 : (q_I δ 1 4 a0).toInt ≤ (q_I δ 3 1 nu).toInt) (I : CI ad h.1 δ0 δ) : ok (J_X1_goOnDropping_121 N h.1 a0 xs0 x2v δ) (fun r => CI ad h.1 δ0 r.2 ∧ (kp [(1, 3), (1, 4), (1, 5), (1, 6), (1, 8), (1, 13), (1, 14), (1, 15)] δ r.2 ∧ q_V r.2 = q_V δ ∧ q_R r.2 = q_R δ) ∧ 0 ≤ (q_I r.2 1 3 a0).toInt ∧ (q_I r.2 1 4 a0).toInt ≤ (q_I δ 3 1 nu).toInt) := by
  unfold J_X1_goOnDropping_121
  have f1 := ti_b (q_I δ 1 11 a0)
  have f2 := ti_b (q_I δ 1 12 a0)
  obtain ⟨b3, o4, k5, ⟨n6, n7⟩, w8⟩ := gO_3_0 L knu
  have f9 := cb_3_1 I knu o4
  have f10 := ti_b (q_I δ 1 3 a0)
  have f11 := ti_b (q_I δ 1 4 a0)
  refine ok_bind (k_X1_findRoom L hN (a0 := a0) (x1 := xs0) k_a0 hnu knu (show 0 ≤ (q_I δ 1 11 a0).toInt by first | with_reducible assumption | omega) (show (q_I δ 1 11 a0).toInt ≤ (q_I δ 1 12 a0).toInt by first | with_reducible assumption | omega) (show (q_I δ 1 12 a0).toInt ≤ (q_I δ 3 1 nu).toInt by first | with_reducible assumption | omega) I) (fun r12 hr13 => ?_)
  obtain ⟨i14, ⟨u20, u21, u22⟩, p15, p16, p17, p18, p19⟩ := hr13
  have u23 := kp_t kp_r u20
  have v24 : q_V r12.2 = q_V δ := (u21).trans rfl
  have v25 : q_R r12.2 = q_R δ := (u22).trans rfl
  have f26 := bo_t p15
  have f27 := ti_b (q_I r12.2 1 13 a0)
  have f28 := ti_b (q_I r12.2 1 14 a0)
  have f29 := ti_b r12.1
  refine ok_ite (fun h30 => ?_) (fun h30 => ?_)
  · have c31 : r12.1.toInt = (0 : Int) := o_eq h30
    refine ok_bdv (fun d32 e33 => ?_)
    have i34 : CI ad h.1 δ0 d32 := by rw [e33]; exact cs_1_15 L i14 k_a0 (show 0 ≤ (1 : Int) by omega) (show (1 : Int) ≤ 1 by omega)
    have u35 := kp_I u23 e33
    have v36 : q_V d32 = q_V δ := ((show q_V d32 = q_V r12.2 by rw [e33]; rfl)).trans v24
    have v37 : q_R d32 = q_R δ := ((show q_R d32 = q_R r12.2 by rw [e33]; rfl)).trans v25
    have f38 : (q_I d32 1 3 a0).toInt = (q_I δ 1 3 a0).toInt := ((show (q_I d32 1 3 a0).toInt = (q_I r12.2 1 3 a0).toInt from congrArg Int32.toInt (by rw [e33]; exact rI_o (by decide))).trans (show (q_I r12.2 1 3 a0).toInt = (q_I δ 1 3 a0).toInt from congrArg Int32.toInt (u20 1 3 a0 (by decide))))
    have f39 : (q_I d32 1 4 a0).toInt = (q_I δ 1 4 a0).toInt := ((show (q_I d32 1 4 a0).toInt = (q_I r12.2 1 4 a0).toInt from congrArg Int32.toInt (by rw [e33]; exact rI_o (by decide))).trans (show (q_I r12.2 1 4 a0).toInt = (q_I δ 1 4 a0).toInt from congrArg Int32.toInt (u20 1 4 a0 (by decide))))
    exact ok_some (show CI ad h.1 δ0 d32 ∧ (kp [(1, 3), (1, 4), (1, 5), (1, 6), (1, 8), (1, 13), (1, 14), (1, 15)] δ d32 ∧ q_V d32 = q_V δ ∧ q_R d32 = q_R δ) ∧ 0 ≤ (q_I d32 1 3 a0).toInt ∧ (q_I d32 1 4 a0).toInt ≤ (q_I δ 3 1 nu).toInt from ⟨i34, ⟨kp_w (by decide) u35, v36, v37⟩, by first | with_reducible assumption | omega, by first | with_reducible assumption | omega⟩)
  · have c40 : r12.1.toInt ≠ (0 : Int) := o_ne h30
    have f43 : (q_I r12.2 3 1 nu).toInt = (q_I δ 3 1 nu).toInt := congrArg Int32.toInt (u20 3 1 nu (by decide))
    refine ok_bind (k_X1_valueAt L hN (a0 := a0) (x1 := (q_I r12.2 1 13 a0)) k_a0 hnu knu (show 0 ≤ ((q_I r12.2 1 13 a0)).toInt by first | with_reducible assumption | omega) (show ((q_I r12.2 1 13 a0)).toInt < (q_I r12.2 3 1 nu).toInt by first | with_reducible assumption | omega) i14) (fun r41 hr42 => ?_)
    have i44 := hr42
    try rw [i44]
    have f45 := ti_b r41.1
    have f46 := ti_b xs0
    refine ok_ite (fun h47 => ?_) (fun h47 => ?_)
    · have c48 : r41.1.toInt = xs0.toInt := o_eq h47
      first | (have q52 := te_subc (c := 1) (n := 1) rfl (q_I r12.2 1 14 a0) (by omega) (by omega); obtain ⟨f53, f54, f55⟩ := q52) | (obtain ⟨q52, f53, f54, f55⟩ := ti_subc (c := 1) (n := 1) rfl (q_I r12.2 1 14 a0))
      refine ok_bind (k_X1_valueAt L hN (a0 := a0) (x1 := ((q_I r12.2 1 14 a0) - (1 : Int32))) k_a0 hnu knu (show 0 ≤ (((q_I r12.2 1 14 a0) - (1 : Int32))).toInt by first | with_reducible assumption | omega) (show (((q_I r12.2 1 14 a0) - (1 : Int32))).toInt < (q_I r12.2 3 1 nu).toInt by first | with_reducible assumption | omega) i14) (fun r49 hr50 => ?_)
      have i56 := hr50
      try rw [i56]
      have f57 := ti_b r49.1
      refine ok_ite (fun h58 => ?_) (fun h58 => ?_)
      · have c59 : r49.1.toInt = xs0.toInt := o_eq h58
        refine ok_bind (k_X1_enterList L hN (a0 := a0) (x1 := xs0) k_a0 i14) (fun r60 hr61 => ?_)
        obtain ⟨i62, ⟨u65, u66, u67⟩, p63, p64⟩ := hr61
        have u68 := kp_t u23 u65
        have v69 : q_V r60 = q_V δ := (u66).trans v24
        have v70 : q_R r60 = q_R δ := (u67).trans v25
        have f71 := ti_b (q_I r60 1 3 a0)
        have f72 : (q_I r12.2 1 11 a0).toInt = (q_I δ 1 11 a0).toInt := congrArg Int32.toInt (u20 1 11 a0 (by decide))
        have f73 := ti_b (q_I r60 1 4 a0)
        have f74 : (q_I r12.2 1 12 a0).toInt = (q_I δ 1 12 a0).toInt := congrArg Int32.toInt (u20 1 12 a0 (by decide))
        exact ok_some (show CI ad h.1 δ0 r60 ∧ (kp [(1, 3), (1, 4), (1, 5), (1, 6), (1, 8), (1, 13), (1, 14), (1, 15)] δ r60 ∧ q_V r60 = q_V δ ∧ q_R r60 = q_R δ) ∧ 0 ≤ (q_I r60 1 3 a0).toInt ∧ (q_I r60 1 4 a0).toInt ≤ (q_I δ 3 1 nu).toInt from ⟨i62, ⟨kp_w (by decide) u68, v69, v70⟩, by first | with_reducible assumption | omega, by first | with_reducible assumption | omega⟩)
      · have c75 : r49.1.toInt ≠ xs0.toInt := o_ne h58
        unfold J_X1_goOnDropping_172
        refine ok_bind (k_X1_enterRoom L hN (a0 := a0) (x1 := xs0) k_a0 i14) (fun r76 hr77 => ?_)
        obtain ⟨i78, ⟨u81, u82, u83⟩, p79, p80⟩ := hr77
        have u84 := kp_t u23 u81
        have v85 : q_V r76 = q_V δ := (u82).trans v24
        have v86 : q_R r76 = q_R δ := (u83).trans v25
        have f87 := ti_b (q_I r76 1 3 a0)
        have f88 := ti_b (q_I r76 1 4 a0)
        exact ok_some (show CI ad h.1 δ0 r76 ∧ (kp [(1, 3), (1, 4), (1, 5), (1, 6), (1, 8), (1, 13), (1, 14), (1, 15)] δ r76 ∧ q_V r76 = q_V δ ∧ q_R r76 = q_R δ) ∧ 0 ≤ (q_I r76 1 3 a0).toInt ∧ (q_I r76 1 4 a0).toInt ≤ (q_I δ 3 1 nu).toInt from ⟨i78, ⟨kp_w (by decide) u84, v85, v86⟩, by first | with_reducible assumption | omega, by first | with_reducible assumption | omega⟩)
    · have c89 : r41.1.toInt ≠ xs0.toInt := o_ne h47
      unfold J_X1_goOnDropping_172
      refine ok_bind (k_X1_enterRoom L hN (a0 := a0) (x1 := xs0) k_a0 i14) (fun r90 hr91 => ?_)
      obtain ⟨i92, ⟨u95, u96, u97⟩, p93, p94⟩ := hr91
      have u98 := kp_t u23 u95
      have v99 : q_V r90 = q_V δ := (u96).trans v24
      have v100 : q_R r90 = q_R δ := (u97).trans v25
      have f101 := ti_b (q_I r90 1 3 a0)
      have f102 := ti_b (q_I r90 1 4 a0)
      exact ok_some (show CI ad h.1 δ0 r90 ∧ (kp [(1, 3), (1, 4), (1, 5), (1, 6), (1, 8), (1, 13), (1, 14), (1, 15)] δ r90 ∧ q_V r90 = q_V δ ∧ q_R r90 = q_R δ) ∧ 0 ≤ (q_I r90 1 3 a0).toInt ∧ (q_I r90 1 4 a0).toInt ≤ (q_I δ 3 1 nu).toInt from ⟨i92, ⟨kp_w (by decide) u98, v99, v100⟩, by first | with_reducible assumption | omega, by first | with_reducible assumption | omega⟩)
set_option maxHeartbeats 4000000 in
theorem kj_X1_goOnDropping_27 {ad : List Nat} {h : hp} (L : Lay TLx ad h) {δ0 : dp} {N : Nat} (hN : 10000000 ≤ N) {a0 : Nat} {xs0 : Int32} {nu : Nat} (k_a0 : q_K h.1 a0 = 1) (hnu : q_O h.1 1 1 a0 = some nu) (knu : q_K h.1 nu = 3) {δ : dp} (z0 : 0 ≤ (q_I δ 1 11 a0).toInt) (z1 : (q_I δ 1 11 a0).toInt ≤ (q_I δ 1 12 a0).toInt) (z2 : (q_I δ 1 12 a0).toInt ≤ (q_I δ 3 1 nu).toInt) (z3 : 0 ≤ (q_I δ 1 3 a0).toInt) (z4 : (q_I δ 1 4 a0).toInt ≤ (q_I δ 3 1 nu).toInt) (I : CI ad h.1 δ0 δ) : ok (J_X1_goOnDropping_27 N h.1 a0 xs0 δ) (fun r => CI ad h.1 δ0 r.2 ∧ (kp [(1, 3), (1, 4), (1, 5), (1, 6), (1, 8), (1, 13), (1, 14), (1, 15)] δ r.2 ∧ q_V r.2 = q_V δ ∧ q_R r.2 = q_R δ) ∧ 0 ≤ (q_I r.2 1 3 a0).toInt ∧ (q_I r.2 1 4 a0).toInt ≤ (q_I δ 3 1 nu).toInt) := by
  unfold J_X1_goOnDropping_27
  have f1 := ti_b (q_I δ 1 11 a0)
  have f2 := ti_b (q_I δ 1 12 a0)
  obtain ⟨b3, o4, k5, ⟨n6, n7⟩, w8⟩ := gO_3_0 L knu
  have f9 := cb_3_1 I knu o4
  have f10 := ti_b (q_I δ 1 3 a0)
  have f11 := ti_b (q_I δ 1 4 a0)
  have f12 := ti_b (q_I δ 1 8 a0)
  have f13 := ti_b (q_I δ 1 9 a0)
  refine ok_ite (fun h14 => ?_) (fun h14 => ?_)
  · have c15 : (q_I δ 1 8 a0).toInt < (q_I δ 1 9 a0).toInt := o_lt h14
    unfold J_X1_goOnDropping_65
    refine ok_bdv (fun d16 e17 => ?_)
    have i18 : CI ad h.1 δ0 d16 := by rw [e17]; exact cs_1_15 L I k_a0 (show 0 ≤ (1 : Int) by omega) (show (1 : Int) ≤ 1 by omega)
    have u19 := kp_I kp_r e17
    have v20 : q_V d16 = q_V δ := ((show q_V d16 = q_V δ by rw [e17]; rfl)).trans rfl
    have v21 : q_R d16 = q_R δ := ((show q_R d16 = q_R δ by rw [e17]; rfl)).trans rfl
    have f22 : (q_I d16 1 3 a0).toInt = (q_I δ 1 3 a0).toInt := congrArg Int32.toInt (by rw [e17]; exact rI_o (by decide))
    have f23 : (q_I d16 1 4 a0).toInt = (q_I δ 1 4 a0).toInt := congrArg Int32.toInt (by rw [e17]; exact rI_o (by decide))
    exact ok_some (show CI ad h.1 δ0 d16 ∧ (kp [(1, 3), (1, 4), (1, 5), (1, 6), (1, 8), (1, 13), (1, 14), (1, 15)] δ d16 ∧ q_V d16 = q_V δ ∧ q_R d16 = q_R δ) ∧ 0 ≤ (q_I d16 1 3 a0).toInt ∧ (q_I d16 1 4 a0).toInt ≤ (q_I δ 3 1 nu).toInt from ⟨i18, ⟨kp_w (by decide) u19, v20, v21⟩, by first | with_reducible assumption | omega, by first | with_reducible assumption | omega⟩)
  · have c24 : (q_I δ 1 9 a0).toInt ≤ (q_I δ 1 8 a0).toInt := o_nlt h14
    have f25 := ti_b (q_I δ 1 10 a0)
    refine ok_ite (fun h26 => ?_) (fun h26 => ?_)
    · have c27 : (q_I δ 1 10 a0).toInt < (q_I δ 1 8 a0).toInt := o_lt h26
      unfold J_X1_goOnDropping_65
      refine ok_bdv (fun d28 e29 => ?_)
      have i30 : CI ad h.1 δ0 d28 := by rw [e29]; exact cs_1_15 L I k_a0 (show 0 ≤ (1 : Int) by omega) (show (1 : Int) ≤ 1 by omega)
      have u31 := kp_I kp_r e29
      have v32 : q_V d28 = q_V δ := ((show q_V d28 = q_V δ by rw [e29]; rfl)).trans rfl
      have v33 : q_R d28 = q_R δ := ((show q_R d28 = q_R δ by rw [e29]; rfl)).trans rfl
      have f34 : (q_I d28 1 3 a0).toInt = (q_I δ 1 3 a0).toInt := congrArg Int32.toInt (by rw [e29]; exact rI_o (by decide))
      have f35 : (q_I d28 1 4 a0).toInt = (q_I δ 1 4 a0).toInt := congrArg Int32.toInt (by rw [e29]; exact rI_o (by decide))
      exact ok_some (show CI ad h.1 δ0 d28 ∧ (kp [(1, 3), (1, 4), (1, 5), (1, 6), (1, 8), (1, 13), (1, 14), (1, 15)] δ d28 ∧ q_V d28 = q_V δ ∧ q_R d28 = q_R δ) ∧ 0 ≤ (q_I d28 1 3 a0).toInt ∧ (q_I d28 1 4 a0).toInt ≤ (q_I δ 3 1 nu).toInt from ⟨i30, ⟨kp_w (by decide) u31, v32, v33⟩, by first | with_reducible assumption | omega, by first | with_reducible assumption | omega⟩)
    · have c36 : (q_I δ 1 8 a0).toInt ≤ (q_I δ 1 10 a0).toInt := o_nlt h26
      have f37 := ti_b xs0
      refine ok_ite (fun h38 => ?_) (fun h38 => ?_)
      · have c39 : xs0.toInt = (0 : Int) := o_eq h38
        unfold J_X1_goOnDropping_72
        refine ok_ite (fun h40 => ?_) (fun h40 => ?_)
        · have c41 : xs0.toInt = (0 : Int) := o_eq h40
          unfold J_X1_goOnDropping_81
          refine ok_ite (fun h42 => ?_) (fun h42 => ?_)
          · have c43 : xs0.toInt = (0 : Int) := o_eq h42
            refine ok_mono (kj_X1_goOnDropping_121 L hN (a0 := a0) (xs0 := (q_I δ 1 8 a0)) (x2v := (0 : Int32)) k_a0 hnu knu (show 0 ≤ (q_I δ 1 11 a0).toInt by first | with_reducible assumption | omega) (show (q_I δ 1 11 a0).toInt ≤ (q_I δ 1 12 a0).toInt by first | with_reducible assumption | omega) (show (q_I δ 1 12 a0).toInt ≤ (q_I δ 3 1 nu).toInt by first | with_reducible assumption | omega) (show 0 ≤ (q_I δ 1 3 a0).toInt by first | with_reducible assumption | omega) (show (q_I δ 1 4 a0).toInt ≤ (q_I δ 3 1 nu).toInt by first | with_reducible assumption | omega) I) (fun r44 hr45 => ?_)
            obtain ⟨i46, ⟨u49, u50, u51⟩, p47, p48⟩ := hr45
            have u52 := kp_t kp_r u49
            have v53 : q_V r44.2 = q_V δ := (u50).trans rfl
            have v54 : q_R r44.2 = q_R δ := (u51).trans rfl
            have f55 := ti_b (q_I r44.2 1 3 a0)
            have f56 := ti_b (q_I r44.2 1 4 a0)
            have f57 := ti_b r44.1
            exact ⟨by first | with_reducible assumption | assumption, ⟨kp_w (by decide) u52, v53, v54⟩, by first | with_reducible assumption | omega, by first | with_reducible assumption | omega⟩
          · have c58 : xs0.toInt ≠ (0 : Int) := o_ne h42
            refine ok_ite (fun h59 => ?_) (fun h59 => ?_)
            · have c60 : (q_I δ 1 8 a0).toInt = (q_I δ 1 9 a0).toInt := o_eq h59
              unfold J_X1_goOnDropping_118
              refine ok_bind (k_X1_valueAt L hN (a0 := a0) (x1 := (q_I δ 1 11 a0)) k_a0 hnu knu (show 0 ≤ ((q_I δ 1 11 a0)).toInt by first | with_reducible assumption | omega) (show ((q_I δ 1 11 a0)).toInt < (q_I δ 3 1 nu).toInt by first | with_reducible assumption | omega) I) (fun r61 hr62 => ?_)
              have i63 := hr62
              try rw [i63]
              have f64 := ti_b r61.1
              refine ok_mono (kj_X1_goOnDropping_121 L hN (a0 := a0) (xs0 := r61.1) (x2v := (0 : Int32)) k_a0 hnu knu (show 0 ≤ (q_I δ 1 11 a0).toInt by first | with_reducible assumption | omega) (show (q_I δ 1 11 a0).toInt ≤ (q_I δ 1 12 a0).toInt by first | with_reducible assumption | omega) (show (q_I δ 1 12 a0).toInt ≤ (q_I δ 3 1 nu).toInt by first | with_reducible assumption | omega) (show 0 ≤ (q_I δ 1 3 a0).toInt by first | with_reducible assumption | omega) (show (q_I δ 1 4 a0).toInt ≤ (q_I δ 3 1 nu).toInt by first | with_reducible assumption | omega) I) (fun r65 hr66 => ?_)
              obtain ⟨i67, ⟨u70, u71, u72⟩, p68, p69⟩ := hr66
              have u73 := kp_t kp_r u70
              have v74 : q_V r65.2 = q_V δ := (u71).trans rfl
              have v75 : q_R r65.2 = q_R δ := (u72).trans rfl
              have f76 := ti_b (q_I r65.2 1 3 a0)
              have f77 := ti_b (q_I r65.2 1 4 a0)
              have f78 := ti_b r65.1
              exact ⟨by first | with_reducible assumption | assumption, ⟨kp_w (by decide) u73, v74, v75⟩, by first | with_reducible assumption | omega, by first | with_reducible assumption | omega⟩
            · have c79 : (q_I δ 1 8 a0).toInt ≠ (q_I δ 1 9 a0).toInt := o_ne h59
              unfold J_X1_goOnDropping_118
              first | (have q83 := te_subc (c := 1) (n := 1) rfl (q_I δ 1 12 a0) (by omega) (by omega); obtain ⟨f84, f85, f86⟩ := q83) | (obtain ⟨q83, f84, f85, f86⟩ := ti_subc (c := 1) (n := 1) rfl (q_I δ 1 12 a0))
              refine ok_bind (k_X1_valueAt L hN (a0 := a0) (x1 := ((q_I δ 1 12 a0) - (1 : Int32))) k_a0 hnu knu (show 0 ≤ (((q_I δ 1 12 a0) - (1 : Int32))).toInt by first | with_reducible assumption | omega) (show (((q_I δ 1 12 a0) - (1 : Int32))).toInt < (q_I δ 3 1 nu).toInt by first | with_reducible assumption | omega) I) (fun r80 hr81 => ?_)
              have i87 := hr81
              try rw [i87]
              have f88 := ti_b r80.1
              refine ok_mono (kj_X1_goOnDropping_121 L hN (a0 := a0) (xs0 := r80.1) (x2v := (0 : Int32)) k_a0 hnu knu (show 0 ≤ (q_I δ 1 11 a0).toInt by first | with_reducible assumption | omega) (show (q_I δ 1 11 a0).toInt ≤ (q_I δ 1 12 a0).toInt by first | with_reducible assumption | omega) (show (q_I δ 1 12 a0).toInt ≤ (q_I δ 3 1 nu).toInt by first | with_reducible assumption | omega) (show 0 ≤ (q_I δ 1 3 a0).toInt by first | with_reducible assumption | omega) (show (q_I δ 1 4 a0).toInt ≤ (q_I δ 3 1 nu).toInt by first | with_reducible assumption | omega) I) (fun r89 hr90 => ?_)
              obtain ⟨i91, ⟨u94, u95, u96⟩, p92, p93⟩ := hr90
              have u97 := kp_t kp_r u94
              have v98 : q_V r89.2 = q_V δ := (u95).trans rfl
              have v99 : q_R r89.2 = q_R δ := (u96).trans rfl
              have f100 := ti_b (q_I r89.2 1 3 a0)
              have f101 := ti_b (q_I r89.2 1 4 a0)
              have f102 := ti_b r89.1
              exact ⟨by first | with_reducible assumption | assumption, ⟨kp_w (by decide) u97, v98, v99⟩, by first | with_reducible assumption | omega, by first | with_reducible assumption | omega⟩
        · have c103 : xs0.toInt ≠ (0 : Int) := o_ne h40
          unfold J_X1_goOnDropping_81
          refine ok_ite (fun h104 => ?_) (fun h104 => ?_)
          · have c105 : xs0.toInt = (0 : Int) := o_eq h104
            refine ok_mono (kj_X1_goOnDropping_121 L hN (a0 := a0) (xs0 := (q_I δ 1 8 a0)) (x2v := (2 : Int32)) k_a0 hnu knu (show 0 ≤ (q_I δ 1 11 a0).toInt by first | with_reducible assumption | omega) (show (q_I δ 1 11 a0).toInt ≤ (q_I δ 1 12 a0).toInt by first | with_reducible assumption | omega) (show (q_I δ 1 12 a0).toInt ≤ (q_I δ 3 1 nu).toInt by first | with_reducible assumption | omega) (show 0 ≤ (q_I δ 1 3 a0).toInt by first | with_reducible assumption | omega) (show (q_I δ 1 4 a0).toInt ≤ (q_I δ 3 1 nu).toInt by first | with_reducible assumption | omega) I) (fun r106 hr107 => ?_)
            obtain ⟨i108, ⟨u111, u112, u113⟩, p109, p110⟩ := hr107
            have u114 := kp_t kp_r u111
            have v115 : q_V r106.2 = q_V δ := (u112).trans rfl
            have v116 : q_R r106.2 = q_R δ := (u113).trans rfl
            have f117 := ti_b (q_I r106.2 1 3 a0)
            have f118 := ti_b (q_I r106.2 1 4 a0)
            have f119 := ti_b r106.1
            exact ⟨by first | with_reducible assumption | assumption, ⟨kp_w (by decide) u114, v115, v116⟩, by first | with_reducible assumption | omega, by first | with_reducible assumption | omega⟩
          · have c120 : xs0.toInt ≠ (0 : Int) := o_ne h104
            refine ok_ite (fun h121 => ?_) (fun h121 => ?_)
            · have c122 : (q_I δ 1 8 a0).toInt = (q_I δ 1 9 a0).toInt := o_eq h121
              unfold J_X1_goOnDropping_118
              refine ok_bind (k_X1_valueAt L hN (a0 := a0) (x1 := (q_I δ 1 11 a0)) k_a0 hnu knu (show 0 ≤ ((q_I δ 1 11 a0)).toInt by first | with_reducible assumption | omega) (show ((q_I δ 1 11 a0)).toInt < (q_I δ 3 1 nu).toInt by first | with_reducible assumption | omega) I) (fun r123 hr124 => ?_)
              have i125 := hr124
              try rw [i125]
              have f126 := ti_b r123.1
              refine ok_mono (kj_X1_goOnDropping_121 L hN (a0 := a0) (xs0 := r123.1) (x2v := (2 : Int32)) k_a0 hnu knu (show 0 ≤ (q_I δ 1 11 a0).toInt by first | with_reducible assumption | omega) (show (q_I δ 1 11 a0).toInt ≤ (q_I δ 1 12 a0).toInt by first | with_reducible assumption | omega) (show (q_I δ 1 12 a0).toInt ≤ (q_I δ 3 1 nu).toInt by first | with_reducible assumption | omega) (show 0 ≤ (q_I δ 1 3 a0).toInt by first | with_reducible assumption | omega) (show (q_I δ 1 4 a0).toInt ≤ (q_I δ 3 1 nu).toInt by first | with_reducible assumption | omega) I) (fun r127 hr128 => ?_)
              obtain ⟨i129, ⟨u132, u133, u134⟩, p130, p131⟩ := hr128
              have u135 := kp_t kp_r u132
              have v136 : q_V r127.2 = q_V δ := (u133).trans rfl
              have v137 : q_R r127.2 = q_R δ := (u134).trans rfl
              have f138 := ti_b (q_I r127.2 1 3 a0)
              have f139 := ti_b (q_I r127.2 1 4 a0)
              have f140 := ti_b r127.1
              exact ⟨by first | with_reducible assumption | assumption, ⟨kp_w (by decide) u135, v136, v137⟩, by first | with_reducible assumption | omega, by first | with_reducible assumption | omega⟩
            · have c141 : (q_I δ 1 8 a0).toInt ≠ (q_I δ 1 9 a0).toInt := o_ne h121
              unfold J_X1_goOnDropping_118
              first | (have q145 := te_subc (c := 1) (n := 1) rfl (q_I δ 1 12 a0) (by omega) (by omega); obtain ⟨f146, f147, f148⟩ := q145) | (obtain ⟨q145, f146, f147, f148⟩ := ti_subc (c := 1) (n := 1) rfl (q_I δ 1 12 a0))
              refine ok_bind (k_X1_valueAt L hN (a0 := a0) (x1 := ((q_I δ 1 12 a0) - (1 : Int32))) k_a0 hnu knu (show 0 ≤ (((q_I δ 1 12 a0) - (1 : Int32))).toInt by first | with_reducible assumption | omega) (show (((q_I δ 1 12 a0) - (1 : Int32))).toInt < (q_I δ 3 1 nu).toInt by first | with_reducible assumption | omega) I) (fun r142 hr143 => ?_)
              have i149 := hr143
              try rw [i149]
              have f150 := ti_b r142.1
              refine ok_mono (kj_X1_goOnDropping_121 L hN (a0 := a0) (xs0 := r142.1) (x2v := (2 : Int32)) k_a0 hnu knu (show 0 ≤ (q_I δ 1 11 a0).toInt by first | with_reducible assumption | omega) (show (q_I δ 1 11 a0).toInt ≤ (q_I δ 1 12 a0).toInt by first | with_reducible assumption | omega) (show (q_I δ 1 12 a0).toInt ≤ (q_I δ 3 1 nu).toInt by first | with_reducible assumption | omega) (show 0 ≤ (q_I δ 1 3 a0).toInt by first | with_reducible assumption | omega) (show (q_I δ 1 4 a0).toInt ≤ (q_I δ 3 1 nu).toInt by first | with_reducible assumption | omega) I) (fun r151 hr152 => ?_)
              obtain ⟨i153, ⟨u156, u157, u158⟩, p154, p155⟩ := hr152
              have u159 := kp_t kp_r u156
              have v160 : q_V r151.2 = q_V δ := (u157).trans rfl
              have v161 : q_R r151.2 = q_R δ := (u158).trans rfl
              have f162 := ti_b (q_I r151.2 1 3 a0)
              have f163 := ti_b (q_I r151.2 1 4 a0)
              have f164 := ti_b r151.1
              exact ⟨by first | with_reducible assumption | assumption, ⟨kp_w (by decide) u159, v160, v161⟩, by first | with_reducible assumption | omega, by first | with_reducible assumption | omega⟩
      · have c165 : xs0.toInt ≠ (0 : Int) := o_ne h38
        refine ok_ite (fun h166 => ?_) (fun h166 => ?_)
        · have c167 : (q_I δ 1 11 a0).toInt < (q_I δ 1 12 a0).toInt := o_lt h166
          unfold J_X1_goOnDropping_72
          refine ok_ite (fun h168 => ?_) (fun h168 => ?_)
          · have c169 : xs0.toInt = (0 : Int) := o_eq h168
            unfold J_X1_goOnDropping_81
            refine ok_ite (fun h170 => ?_) (fun h170 => ?_)
            · have c171 : xs0.toInt = (0 : Int) := o_eq h170
              refine ok_mono (kj_X1_goOnDropping_121 L hN (a0 := a0) (xs0 := (q_I δ 1 8 a0)) (x2v := (0 : Int32)) k_a0 hnu knu (show 0 ≤ (q_I δ 1 11 a0).toInt by first | with_reducible assumption | omega) (show (q_I δ 1 11 a0).toInt ≤ (q_I δ 1 12 a0).toInt by first | with_reducible assumption | omega) (show (q_I δ 1 12 a0).toInt ≤ (q_I δ 3 1 nu).toInt by first | with_reducible assumption | omega) (show 0 ≤ (q_I δ 1 3 a0).toInt by first | with_reducible assumption | omega) (show (q_I δ 1 4 a0).toInt ≤ (q_I δ 3 1 nu).toInt by first | with_reducible assumption | omega) I) (fun r172 hr173 => ?_)
              obtain ⟨i174, ⟨u177, u178, u179⟩, p175, p176⟩ := hr173
              have u180 := kp_t kp_r u177
              have v181 : q_V r172.2 = q_V δ := (u178).trans rfl
              have v182 : q_R r172.2 = q_R δ := (u179).trans rfl
              have f183 := ti_b (q_I r172.2 1 3 a0)
              have f184 := ti_b (q_I r172.2 1 4 a0)
              have f185 := ti_b r172.1
              exact ⟨by first | with_reducible assumption | assumption, ⟨kp_w (by decide) u180, v181, v182⟩, by first | with_reducible assumption | omega, by first | with_reducible assumption | omega⟩
            · have c186 : xs0.toInt ≠ (0 : Int) := o_ne h170
              refine ok_ite (fun h187 => ?_) (fun h187 => ?_)
              · have c188 : (q_I δ 1 8 a0).toInt = (q_I δ 1 9 a0).toInt := o_eq h187
                unfold J_X1_goOnDropping_118
                refine ok_bind (k_X1_valueAt L hN (a0 := a0) (x1 := (q_I δ 1 11 a0)) k_a0 hnu knu (show 0 ≤ ((q_I δ 1 11 a0)).toInt by first | with_reducible assumption | omega) (show ((q_I δ 1 11 a0)).toInt < (q_I δ 3 1 nu).toInt by first | with_reducible assumption | omega) I) (fun r189 hr190 => ?_)
                have i191 := hr190
                try rw [i191]
                have f192 := ti_b r189.1
                refine ok_mono (kj_X1_goOnDropping_121 L hN (a0 := a0) (xs0 := r189.1) (x2v := (0 : Int32)) k_a0 hnu knu (show 0 ≤ (q_I δ 1 11 a0).toInt by first | with_reducible assumption | omega) (show (q_I δ 1 11 a0).toInt ≤ (q_I δ 1 12 a0).toInt by first | with_reducible assumption | omega) (show (q_I δ 1 12 a0).toInt ≤ (q_I δ 3 1 nu).toInt by first | with_reducible assumption | omega) (show 0 ≤ (q_I δ 1 3 a0).toInt by first | with_reducible assumption | omega) (show (q_I δ 1 4 a0).toInt ≤ (q_I δ 3 1 nu).toInt by first | with_reducible assumption | omega) I) (fun r193 hr194 => ?_)
                obtain ⟨i195, ⟨u198, u199, u200⟩, p196, p197⟩ := hr194
                have u201 := kp_t kp_r u198
                have v202 : q_V r193.2 = q_V δ := (u199).trans rfl
                have v203 : q_R r193.2 = q_R δ := (u200).trans rfl
                have f204 := ti_b (q_I r193.2 1 3 a0)
                have f205 := ti_b (q_I r193.2 1 4 a0)
                have f206 := ti_b r193.1
                exact ⟨by first | with_reducible assumption | assumption, ⟨kp_w (by decide) u201, v202, v203⟩, by first | with_reducible assumption | omega, by first | with_reducible assumption | omega⟩
              · have c207 : (q_I δ 1 8 a0).toInt ≠ (q_I δ 1 9 a0).toInt := o_ne h187
                unfold J_X1_goOnDropping_118
                first | (have q211 := te_subc (c := 1) (n := 1) rfl (q_I δ 1 12 a0) (by omega) (by omega); obtain ⟨f212, f213, f214⟩ := q211) | (obtain ⟨q211, f212, f213, f214⟩ := ti_subc (c := 1) (n := 1) rfl (q_I δ 1 12 a0))
                refine ok_bind (k_X1_valueAt L hN (a0 := a0) (x1 := ((q_I δ 1 12 a0) - (1 : Int32))) k_a0 hnu knu (show 0 ≤ (((q_I δ 1 12 a0) - (1 : Int32))).toInt by first | with_reducible assumption | omega) (show (((q_I δ 1 12 a0) - (1 : Int32))).toInt < (q_I δ 3 1 nu).toInt by first | with_reducible assumption | omega) I) (fun r208 hr209 => ?_)
                have i215 := hr209
                try rw [i215]
                have f216 := ti_b r208.1
                refine ok_mono (kj_X1_goOnDropping_121 L hN (a0 := a0) (xs0 := r208.1) (x2v := (0 : Int32)) k_a0 hnu knu (show 0 ≤ (q_I δ 1 11 a0).toInt by first | with_reducible assumption | omega) (show (q_I δ 1 11 a0).toInt ≤ (q_I δ 1 12 a0).toInt by first | with_reducible assumption | omega) (show (q_I δ 1 12 a0).toInt ≤ (q_I δ 3 1 nu).toInt by first | with_reducible assumption | omega) (show 0 ≤ (q_I δ 1 3 a0).toInt by first | with_reducible assumption | omega) (show (q_I δ 1 4 a0).toInt ≤ (q_I δ 3 1 nu).toInt by first | with_reducible assumption | omega) I) (fun r217 hr218 => ?_)
                obtain ⟨i219, ⟨u222, u223, u224⟩, p220, p221⟩ := hr218
                have u225 := kp_t kp_r u222
                have v226 : q_V r217.2 = q_V δ := (u223).trans rfl
                have v227 : q_R r217.2 = q_R δ := (u224).trans rfl
                have f228 := ti_b (q_I r217.2 1 3 a0)
                have f229 := ti_b (q_I r217.2 1 4 a0)
                have f230 := ti_b r217.1
                exact ⟨by first | with_reducible assumption | assumption, ⟨kp_w (by decide) u225, v226, v227⟩, by first | with_reducible assumption | omega, by first | with_reducible assumption | omega⟩
          · have c231 : xs0.toInt ≠ (0 : Int) := o_ne h168
            unfold J_X1_goOnDropping_81
            refine ok_ite (fun h232 => ?_) (fun h232 => ?_)
            · have c233 : xs0.toInt = (0 : Int) := o_eq h232
              refine ok_mono (kj_X1_goOnDropping_121 L hN (a0 := a0) (xs0 := (q_I δ 1 8 a0)) (x2v := (2 : Int32)) k_a0 hnu knu (show 0 ≤ (q_I δ 1 11 a0).toInt by first | with_reducible assumption | omega) (show (q_I δ 1 11 a0).toInt ≤ (q_I δ 1 12 a0).toInt by first | with_reducible assumption | omega) (show (q_I δ 1 12 a0).toInt ≤ (q_I δ 3 1 nu).toInt by first | with_reducible assumption | omega) (show 0 ≤ (q_I δ 1 3 a0).toInt by first | with_reducible assumption | omega) (show (q_I δ 1 4 a0).toInt ≤ (q_I δ 3 1 nu).toInt by first | with_reducible assumption | omega) I) (fun r234 hr235 => ?_)
              obtain ⟨i236, ⟨u239, u240, u241⟩, p237, p238⟩ := hr235
              have u242 := kp_t kp_r u239
              have v243 : q_V r234.2 = q_V δ := (u240).trans rfl
              have v244 : q_R r234.2 = q_R δ := (u241).trans rfl
              have f245 := ti_b (q_I r234.2 1 3 a0)
              have f246 := ti_b (q_I r234.2 1 4 a0)
              have f247 := ti_b r234.1
              exact ⟨by first | with_reducible assumption | assumption, ⟨kp_w (by decide) u242, v243, v244⟩, by first | with_reducible assumption | omega, by first | with_reducible assumption | omega⟩
            · have c248 : xs0.toInt ≠ (0 : Int) := o_ne h232
              refine ok_ite (fun h249 => ?_) (fun h249 => ?_)
              · have c250 : (q_I δ 1 8 a0).toInt = (q_I δ 1 9 a0).toInt := o_eq h249
                unfold J_X1_goOnDropping_118
                refine ok_bind (k_X1_valueAt L hN (a0 := a0) (x1 := (q_I δ 1 11 a0)) k_a0 hnu knu (show 0 ≤ ((q_I δ 1 11 a0)).toInt by first | with_reducible assumption | omega) (show ((q_I δ 1 11 a0)).toInt < (q_I δ 3 1 nu).toInt by first | with_reducible assumption | omega) I) (fun r251 hr252 => ?_)
                have i253 := hr252
                try rw [i253]
                have f254 := ti_b r251.1
                refine ok_mono (kj_X1_goOnDropping_121 L hN (a0 := a0) (xs0 := r251.1) (x2v := (2 : Int32)) k_a0 hnu knu (show 0 ≤ (q_I δ 1 11 a0).toInt by first | with_reducible assumption | omega) (show (q_I δ 1 11 a0).toInt ≤ (q_I δ 1 12 a0).toInt by first | with_reducible assumption | omega) (show (q_I δ 1 12 a0).toInt ≤ (q_I δ 3 1 nu).toInt by first | with_reducible assumption | omega) (show 0 ≤ (q_I δ 1 3 a0).toInt by first | with_reducible assumption | omega) (show (q_I δ 1 4 a0).toInt ≤ (q_I δ 3 1 nu).toInt by first | with_reducible assumption | omega) I) (fun r255 hr256 => ?_)
                obtain ⟨i257, ⟨u260, u261, u262⟩, p258, p259⟩ := hr256
                have u263 := kp_t kp_r u260
                have v264 : q_V r255.2 = q_V δ := (u261).trans rfl
                have v265 : q_R r255.2 = q_R δ := (u262).trans rfl
                have f266 := ti_b (q_I r255.2 1 3 a0)
                have f267 := ti_b (q_I r255.2 1 4 a0)
                have f268 := ti_b r255.1
                exact ⟨by first | with_reducible assumption | assumption, ⟨kp_w (by decide) u263, v264, v265⟩, by first | with_reducible assumption | omega, by first | with_reducible assumption | omega⟩
              · have c269 : (q_I δ 1 8 a0).toInt ≠ (q_I δ 1 9 a0).toInt := o_ne h249
                unfold J_X1_goOnDropping_118
                first | (have q273 := te_subc (c := 1) (n := 1) rfl (q_I δ 1 12 a0) (by omega) (by omega); obtain ⟨f274, f275, f276⟩ := q273) | (obtain ⟨q273, f274, f275, f276⟩ := ti_subc (c := 1) (n := 1) rfl (q_I δ 1 12 a0))
                refine ok_bind (k_X1_valueAt L hN (a0 := a0) (x1 := ((q_I δ 1 12 a0) - (1 : Int32))) k_a0 hnu knu (show 0 ≤ (((q_I δ 1 12 a0) - (1 : Int32))).toInt by first | with_reducible assumption | omega) (show (((q_I δ 1 12 a0) - (1 : Int32))).toInt < (q_I δ 3 1 nu).toInt by first | with_reducible assumption | omega) I) (fun r270 hr271 => ?_)
                have i277 := hr271
                try rw [i277]
                have f278 := ti_b r270.1
                refine ok_mono (kj_X1_goOnDropping_121 L hN (a0 := a0) (xs0 := r270.1) (x2v := (2 : Int32)) k_a0 hnu knu (show 0 ≤ (q_I δ 1 11 a0).toInt by first | with_reducible assumption | omega) (show (q_I δ 1 11 a0).toInt ≤ (q_I δ 1 12 a0).toInt by first | with_reducible assumption | omega) (show (q_I δ 1 12 a0).toInt ≤ (q_I δ 3 1 nu).toInt by first | with_reducible assumption | omega) (show 0 ≤ (q_I δ 1 3 a0).toInt by first | with_reducible assumption | omega) (show (q_I δ 1 4 a0).toInt ≤ (q_I δ 3 1 nu).toInt by first | with_reducible assumption | omega) I) (fun r279 hr280 => ?_)
                obtain ⟨i281, ⟨u284, u285, u286⟩, p282, p283⟩ := hr280
                have u287 := kp_t kp_r u284
                have v288 : q_V r279.2 = q_V δ := (u285).trans rfl
                have v289 : q_R r279.2 = q_R δ := (u286).trans rfl
                have f290 := ti_b (q_I r279.2 1 3 a0)
                have f291 := ti_b (q_I r279.2 1 4 a0)
                have f292 := ti_b r279.1
                exact ⟨by first | with_reducible assumption | assumption, ⟨kp_w (by decide) u287, v288, v289⟩, by first | with_reducible assumption | omega, by first | with_reducible assumption | omega⟩
        · have c293 : (q_I δ 1 12 a0).toInt ≤ (q_I δ 1 11 a0).toInt := o_nlt h166
          unfold J_X1_goOnDropping_65
          refine ok_bdv (fun d294 e295 => ?_)
          have i296 : CI ad h.1 δ0 d294 := by rw [e295]; exact cs_1_15 L I k_a0 (show 0 ≤ (1 : Int) by omega) (show (1 : Int) ≤ 1 by omega)
          have u297 := kp_I kp_r e295
          have v298 : q_V d294 = q_V δ := ((show q_V d294 = q_V δ by rw [e295]; rfl)).trans rfl
          have v299 : q_R d294 = q_R δ := ((show q_R d294 = q_R δ by rw [e295]; rfl)).trans rfl
          have f300 : (q_I d294 1 3 a0).toInt = (q_I δ 1 3 a0).toInt := congrArg Int32.toInt (by rw [e295]; exact rI_o (by decide))
          have f301 : (q_I d294 1 4 a0).toInt = (q_I δ 1 4 a0).toInt := congrArg Int32.toInt (by rw [e295]; exact rI_o (by decide))
          exact ok_some (show CI ad h.1 δ0 d294 ∧ (kp [(1, 3), (1, 4), (1, 5), (1, 6), (1, 8), (1, 13), (1, 14), (1, 15)] δ d294 ∧ q_V d294 = q_V δ ∧ q_R d294 = q_R δ) ∧ 0 ≤ (q_I d294 1 3 a0).toInt ∧ (q_I d294 1 4 a0).toInt ≤ (q_I δ 3 1 nu).toInt from ⟨i296, ⟨kp_w (by decide) u297, v298, v299⟩, by first | with_reducible assumption | omega, by first | with_reducible assumption | omega⟩)
set_option maxHeartbeats 4000000 in
theorem k_X1_goOnDropping {ad : List Nat} {h : hp} (L : Lay TLx ad h) {δ0 : dp} {N : Nat} (hN : 10000000 ≤ N) {a0 : Nat} {nu : Nat} (k_a0 : q_K h.1 a0 = 1) (hnu : q_O h.1 1 1 a0 = some nu) (knu : q_K h.1 nu = 3) {δ : dp} (z0 : 0 ≤ (q_I δ 1 11 a0).toInt) (z1 : (q_I δ 1 11 a0).toInt ≤ (q_I δ 1 12 a0).toInt) (z2 : (q_I δ 1 12 a0).toInt ≤ (q_I δ 3 1 nu).toInt) (z3 : 0 ≤ (q_I δ 1 3 a0).toInt) (z4 : (q_I δ 1 4 a0).toInt ≤ (q_I δ 3 1 nu).toInt) (I : CI ad h.1 δ0 δ) : ok (D_X1_goOnDropping N h.1 a0 δ) (fun r => CI ad h.1 δ0 r.2 ∧ (kp [(1, 3), (1, 4), (1, 5), (1, 6), (1, 8), (1, 13), (1, 14), (1, 15)] δ r.2 ∧ q_V r.2 = q_V δ ∧ q_R r.2 = q_R δ) ∧ 0 ≤ (q_I r.2 1 3 a0).toInt ∧ (q_I r.2 1 4 a0).toInt ≤ (q_I δ 3 1 nu).toInt) := by
  unfold D_X1_goOnDropping
  have f1 := ti_b (q_I δ 1 11 a0)
  have f2 := ti_b (q_I δ 1 12 a0)
  obtain ⟨b3, o4, k5, ⟨n6, n7⟩, w8⟩ := gO_3_0 L knu
  have f9 := cb_3_1 I knu o4
  have f10 := ti_b (q_I δ 1 3 a0)
  have f11 := ti_b (q_I δ 1 4 a0)
  have f12 := ti_b (q_I δ 1 8 a0)
  have f13 := ti_b (q_I δ 1 9 a0)
  refine ok_ite (fun h14 => ?_) (fun h14 => ?_)
  · have c15 : (q_I δ 1 8 a0).toInt = (q_I δ 1 9 a0).toInt := o_eq h14
    unfold J_X1_goOnDropping_22
    refine ok_mono (kj_X1_goOnDropping_27 L hN (a0 := a0) (xs0 := (1 : Int32)) k_a0 hnu knu (show 0 ≤ (q_I δ 1 11 a0).toInt by first | with_reducible assumption | omega) (show (q_I δ 1 11 a0).toInt ≤ (q_I δ 1 12 a0).toInt by first | with_reducible assumption | omega) (show (q_I δ 1 12 a0).toInt ≤ (q_I δ 3 1 nu).toInt by first | with_reducible assumption | omega) (show 0 ≤ (q_I δ 1 3 a0).toInt by first | with_reducible assumption | omega) (show (q_I δ 1 4 a0).toInt ≤ (q_I δ 3 1 nu).toInt by first | with_reducible assumption | omega) I) (fun r16 hr17 => ?_)
    obtain ⟨i18, ⟨u21, u22, u23⟩, p19, p20⟩ := hr17
    have u24 := kp_t kp_r u21
    have v25 : q_V r16.2 = q_V δ := (u22).trans rfl
    have v26 : q_R r16.2 = q_R δ := (u23).trans rfl
    have f27 := ti_b (q_I r16.2 1 3 a0)
    have f28 := ti_b (q_I r16.2 1 4 a0)
    have f29 := ti_b r16.1
    exact ⟨by first | with_reducible assumption | assumption, ⟨kp_w (by decide) u24, v25, v26⟩, by first | with_reducible assumption | omega, by first | with_reducible assumption | omega⟩
  · have c30 : (q_I δ 1 8 a0).toInt ≠ (q_I δ 1 9 a0).toInt := o_ne h14
    have f31 := ti_b (q_I δ 1 10 a0)
    refine ok_ite (fun h32 => ?_) (fun h32 => ?_)
    · have c33 : (q_I δ 1 8 a0).toInt = (q_I δ 1 10 a0).toInt := o_eq h32
      unfold J_X1_goOnDropping_22
      refine ok_mono (kj_X1_goOnDropping_27 L hN (a0 := a0) (xs0 := (1 : Int32)) k_a0 hnu knu (show 0 ≤ (q_I δ 1 11 a0).toInt by first | with_reducible assumption | omega) (show (q_I δ 1 11 a0).toInt ≤ (q_I δ 1 12 a0).toInt by first | with_reducible assumption | omega) (show (q_I δ 1 12 a0).toInt ≤ (q_I δ 3 1 nu).toInt by first | with_reducible assumption | omega) (show 0 ≤ (q_I δ 1 3 a0).toInt by first | with_reducible assumption | omega) (show (q_I δ 1 4 a0).toInt ≤ (q_I δ 3 1 nu).toInt by first | with_reducible assumption | omega) I) (fun r34 hr35 => ?_)
      obtain ⟨i36, ⟨u39, u40, u41⟩, p37, p38⟩ := hr35
      have u42 := kp_t kp_r u39
      have v43 : q_V r34.2 = q_V δ := (u40).trans rfl
      have v44 : q_R r34.2 = q_R δ := (u41).trans rfl
      have f45 := ti_b (q_I r34.2 1 3 a0)
      have f46 := ti_b (q_I r34.2 1 4 a0)
      have f47 := ti_b r34.1
      exact ⟨by first | with_reducible assumption | assumption, ⟨kp_w (by decide) u42, v43, v44⟩, by first | with_reducible assumption | omega, by first | with_reducible assumption | omega⟩
    · have c48 : (q_I δ 1 8 a0).toInt ≠ (q_I δ 1 10 a0).toInt := o_ne h32
      refine ok_mono (kj_X1_goOnDropping_27 L hN (a0 := a0) (xs0 := (0 : Int32)) k_a0 hnu knu (show 0 ≤ (q_I δ 1 11 a0).toInt by first | with_reducible assumption | omega) (show (q_I δ 1 11 a0).toInt ≤ (q_I δ 1 12 a0).toInt by first | with_reducible assumption | omega) (show (q_I δ 1 12 a0).toInt ≤ (q_I δ 3 1 nu).toInt by first | with_reducible assumption | omega) (show 0 ≤ (q_I δ 1 3 a0).toInt by first | with_reducible assumption | omega) (show (q_I δ 1 4 a0).toInt ≤ (q_I δ 3 1 nu).toInt by first | with_reducible assumption | omega) I) (fun r49 hr50 => ?_)
      obtain ⟨i51, ⟨u54, u55, u56⟩, p52, p53⟩ := hr50
      have u57 := kp_t kp_r u54
      have v58 : q_V r49.2 = q_V δ := (u55).trans rfl
      have v59 : q_R r49.2 = q_R δ := (u56).trans rfl
      have f60 := ti_b (q_I r49.2 1 3 a0)
      have f61 := ti_b (q_I r49.2 1 4 a0)
      have f62 := ti_b r49.1
      exact ⟨by first | with_reducible assumption | assumption, ⟨kp_w (by decide) u57, v58, v59⟩, by first | with_reducible assumption | omega, by first | with_reducible assumption | omega⟩
set_option maxHeartbeats 4000000 in
theorem k_X1_goOnAsking {ad : List Nat} {h : hp} (L : Lay TLx ad h) {δ0 : dp} {N : Nat} (hN : 10000000 ≤ N) {a0 : Nat} {nu : Nat} (k_a0 : q_K h.1 a0 = 1) (hnu : q_O h.1 1 1 a0 = some nu) (knu : q_K h.1 nu = 3) {δ : dp} (z0 : 0 ≤ (q_I δ 1 11 a0).toInt) (z1 : (q_I δ 1 11 a0).toInt ≤ (q_I δ 1 12 a0).toInt) (z2 : (q_I δ 1 12 a0).toInt ≤ (q_I δ 3 1 nu).toInt) (z3 : 0 ≤ (q_I δ 1 3 a0).toInt) (z4 : (q_I δ 1 4 a0).toInt ≤ (q_I δ 3 1 nu).toInt) (I : CI ad h.1 δ0 δ) : ok (D_X1_goOnAsking N h.1 a0 δ) (fun r => CI ad h.1 δ0 r ∧ (kp [(1, 3), (1, 4), (1, 6), (1, 8), (1, 13), (1, 14), (1, 15)] δ r ∧ q_V r = q_V δ ∧ q_R r = q_R δ) ∧ 0 ≤ (q_I r 1 3 a0).toInt ∧ (q_I r 1 4 a0).toInt ≤ (q_I δ 3 1 nu).toInt) := by
  unfold D_X1_goOnAsking
  have f1 := ti_b (q_I δ 1 11 a0)
  have f2 := ti_b (q_I δ 1 12 a0)
  obtain ⟨b3, o4, k5, ⟨n6, n7⟩, w8⟩ := gO_3_0 L knu
  have f9 := cb_3_1 I knu o4
  have f10 := ti_b (q_I δ 1 3 a0)
  have f11 := ti_b (q_I δ 1 4 a0)
  have f12 := ti_b (q_I δ 1 8 a0)
  have f13 := ti_b (q_I δ 1 9 a0)
  refine ok_ite (fun h14 => ?_) (fun h14 => ?_)
  · have c15 : (q_I δ 1 8 a0).toInt ≤ (q_I δ 1 9 a0).toInt := o_le h14
    unfold J_X1_goOnAsking_33
    refine ok_bdv (fun d16 e17 => ?_)
    have i18 : CI ad h.1 δ0 d16 := by rw [e17]; exact cs_1_15 L I k_a0 (show 0 ≤ (1 : Int) by omega) (show (1 : Int) ≤ 1 by omega)
    have u19 := kp_I kp_r e17
    have v20 : q_V d16 = q_V δ := ((show q_V d16 = q_V δ by rw [e17]; rfl)).trans rfl
    have v21 : q_R d16 = q_R δ := ((show q_R d16 = q_R δ by rw [e17]; rfl)).trans rfl
    unfold J_X1_goOnAsking_49
    have f22 : (q_I d16 1 3 a0).toInt = (q_I δ 1 3 a0).toInt := congrArg Int32.toInt (by rw [e17]; exact rI_o (by decide))
    have f23 : (q_I d16 1 4 a0).toInt = (q_I δ 1 4 a0).toInt := congrArg Int32.toInt (by rw [e17]; exact rI_o (by decide))
    exact ok_some (show CI ad h.1 δ0 d16 ∧ (kp [(1, 3), (1, 4), (1, 6), (1, 8), (1, 13), (1, 14), (1, 15)] δ d16 ∧ q_V d16 = q_V δ ∧ q_R d16 = q_R δ) ∧ 0 ≤ (q_I d16 1 3 a0).toInt ∧ (q_I d16 1 4 a0).toInt ≤ (q_I δ 3 1 nu).toInt from ⟨i18, ⟨kp_w (by decide) u19, v20, v21⟩, by first | with_reducible assumption | omega, by first | with_reducible assumption | omega⟩)
  · have c24 : (q_I δ 1 9 a0).toInt < (q_I δ 1 8 a0).toInt := o_nle h14
    have f25 := ti_b (q_I δ 1 10 a0)
    refine ok_ite (fun h26 => ?_) (fun h26 => ?_)
    · have c27 : (q_I δ 1 10 a0).toInt ≤ (q_I δ 1 8 a0).toInt := o_le h26
      unfold J_X1_goOnAsking_33
      refine ok_bdv (fun d28 e29 => ?_)
      have i30 : CI ad h.1 δ0 d28 := by rw [e29]; exact cs_1_15 L I k_a0 (show 0 ≤ (1 : Int) by omega) (show (1 : Int) ≤ 1 by omega)
      have u31 := kp_I kp_r e29
      have v32 : q_V d28 = q_V δ := ((show q_V d28 = q_V δ by rw [e29]; rfl)).trans rfl
      have v33 : q_R d28 = q_R δ := ((show q_R d28 = q_R δ by rw [e29]; rfl)).trans rfl
      unfold J_X1_goOnAsking_49
      have f34 : (q_I d28 1 3 a0).toInt = (q_I δ 1 3 a0).toInt := congrArg Int32.toInt (by rw [e29]; exact rI_o (by decide))
      have f35 : (q_I d28 1 4 a0).toInt = (q_I δ 1 4 a0).toInt := congrArg Int32.toInt (by rw [e29]; exact rI_o (by decide))
      exact ok_some (show CI ad h.1 δ0 d28 ∧ (kp [(1, 3), (1, 4), (1, 6), (1, 8), (1, 13), (1, 14), (1, 15)] δ d28 ∧ q_V d28 = q_V δ ∧ q_R d28 = q_R δ) ∧ 0 ≤ (q_I d28 1 3 a0).toInt ∧ (q_I d28 1 4 a0).toInt ≤ (q_I δ 3 1 nu).toInt from ⟨i30, ⟨kp_w (by decide) u31, v32, v33⟩, by first | with_reducible assumption | omega, by first | with_reducible assumption | omega⟩)
    · have c36 : (q_I δ 1 8 a0).toInt < (q_I δ 1 10 a0).toInt := o_nle h26
      refine ok_bind (k_X1_findRoom L hN (a0 := a0) (x1 := (q_I δ 1 8 a0)) k_a0 hnu knu (show 0 ≤ (q_I δ 1 11 a0).toInt by first | with_reducible assumption | omega) (show (q_I δ 1 11 a0).toInt ≤ (q_I δ 1 12 a0).toInt by first | with_reducible assumption | omega) (show (q_I δ 1 12 a0).toInt ≤ (q_I δ 3 1 nu).toInt by first | with_reducible assumption | omega) I) (fun r37 hr38 => ?_)
      obtain ⟨i39, ⟨u45, u46, u47⟩, p40, p41, p42, p43, p44⟩ := hr38
      have u48 := kp_t kp_r u45
      have v49 : q_V r37.2 = q_V δ := (u46).trans rfl
      have v50 : q_R r37.2 = q_R δ := (u47).trans rfl
      have f51 := bo_t p40
      have f52 := ti_b (q_I r37.2 1 13 a0)
      have f53 := ti_b (q_I r37.2 1 14 a0)
      have f54 := ti_b r37.1
      refine ok_ite (fun h55 => ?_) (fun h55 => ?_)
      · have c56 : r37.1.toInt = (0 : Int) := o_eq h55
        unfold J_X1_goOnAsking_33
        refine ok_bdv (fun d57 e58 => ?_)
        have i59 : CI ad h.1 δ0 d57 := by rw [e58]; exact cs_1_15 L i39 k_a0 (show 0 ≤ (1 : Int) by omega) (show (1 : Int) ≤ 1 by omega)
        have u60 := kp_I u48 e58
        have v61 : q_V d57 = q_V δ := ((show q_V d57 = q_V r37.2 by rw [e58]; rfl)).trans v49
        have v62 : q_R d57 = q_R δ := ((show q_R d57 = q_R r37.2 by rw [e58]; rfl)).trans v50
        unfold J_X1_goOnAsking_49
        have f63 : (q_I d57 1 3 a0).toInt = (q_I δ 1 3 a0).toInt := ((show (q_I d57 1 3 a0).toInt = (q_I r37.2 1 3 a0).toInt from congrArg Int32.toInt (by rw [e58]; exact rI_o (by decide))).trans (show (q_I r37.2 1 3 a0).toInt = (q_I δ 1 3 a0).toInt from congrArg Int32.toInt (u45 1 3 a0 (by decide))))
        have f64 : (q_I d57 1 4 a0).toInt = (q_I δ 1 4 a0).toInt := ((show (q_I d57 1 4 a0).toInt = (q_I r37.2 1 4 a0).toInt from congrArg Int32.toInt (by rw [e58]; exact rI_o (by decide))).trans (show (q_I r37.2 1 4 a0).toInt = (q_I δ 1 4 a0).toInt from congrArg Int32.toInt (u45 1 4 a0 (by decide))))
        exact ok_some (show CI ad h.1 δ0 d57 ∧ (kp [(1, 3), (1, 4), (1, 6), (1, 8), (1, 13), (1, 14), (1, 15)] δ d57 ∧ q_V d57 = q_V δ ∧ q_R d57 = q_R δ) ∧ 0 ≤ (q_I d57 1 3 a0).toInt ∧ (q_I d57 1 4 a0).toInt ≤ (q_I δ 3 1 nu).toInt from ⟨i59, ⟨kp_w (by decide) u60, v61, v62⟩, by first | with_reducible assumption | omega, by first | with_reducible assumption | omega⟩)
      · have c65 : r37.1.toInt ≠ (0 : Int) := o_ne h55
        refine ok_bind (k_X1_enterRoom L hN (a0 := a0) (x1 := (q_I r37.2 1 8 a0)) k_a0 i39) (fun r66 hr67 => ?_)
        obtain ⟨i68, ⟨u71, u72, u73⟩, p69, p70⟩ := hr67
        have u74 := kp_t u48 u71
        have v75 : q_V r66 = q_V δ := (u72).trans v49
        have v76 : q_R r66 = q_R δ := (u73).trans v50
        have f77 := ti_b (q_I r66 1 3 a0)
        have f78 := ti_b (q_I r66 1 4 a0)
        unfold J_X1_goOnAsking_49
        exact ok_some (show CI ad h.1 δ0 r66 ∧ (kp [(1, 3), (1, 4), (1, 6), (1, 8), (1, 13), (1, 14), (1, 15)] δ r66 ∧ q_V r66 = q_V δ ∧ q_R r66 = q_R δ) ∧ 0 ≤ (q_I r66 1 3 a0).toInt ∧ (q_I r66 1 4 a0).toInt ≤ (q_I δ 3 1 nu).toInt from ⟨i68, ⟨kp_w (by decide) u74, v75, v76⟩, by first | with_reducible assumption | omega, by first | with_reducible assumption | omega⟩)
set_option maxHeartbeats 4000000 in
theorem k_X1_goOnUp {ad : List Nat} {h : hp} (L : Lay TLx ad h) {δ0 : dp} {N : Nat} (hN : 10000000 ≤ N) {a0 : Nat} {nu : Nat} (k_a0 : q_K h.1 a0 = 1) (hnu : q_O h.1 1 1 a0 = some nu) (knu : q_K h.1 nu = 3) {δ : dp} (z0 : 0 ≤ (q_I δ 1 11 a0).toInt) (z1 : (q_I δ 1 11 a0).toInt ≤ (q_I δ 1 12 a0).toInt) (z2 : (q_I δ 1 12 a0).toInt ≤ (q_I δ 3 1 nu).toInt) (z3 : 0 ≤ (q_I δ 1 3 a0).toInt) (z4 : (q_I δ 1 4 a0).toInt ≤ (q_I δ 3 1 nu).toInt) (I : CI ad h.1 δ0 δ) : ok (D_X1_goOnUp N h.1 a0 δ) (fun r => CI ad h.1 δ0 r.2 ∧ (kp [(1, 3), (1, 4), (1, 5), (1, 6), (1, 8), (1, 13), (1, 14), (1, 15)] δ r.2 ∧ q_V r.2 = q_V δ ∧ q_R r.2 = q_R δ) ∧ 0 ≤ (q_I r.2 1 3 a0).toInt ∧ (q_I r.2 1 4 a0).toInt ≤ (q_I δ 3 1 nu).toInt) := by
  unfold D_X1_goOnUp
  have f1 := ti_b (q_I δ 1 11 a0)
  have f2 := ti_b (q_I δ 1 12 a0)
  obtain ⟨b3, o4, k5, ⟨n6, n7⟩, w8⟩ := gO_3_0 L knu
  have f9 := cb_3_1 I knu o4
  have f10 := ti_b (q_I δ 1 3 a0)
  have f11 := ti_b (q_I δ 1 4 a0)
  have f12 := ti_b (q_I δ 1 8 a0)
  have f13 := ti_b (q_I δ 1 9 a0)
  refine ok_ite (fun h14 => ?_) (fun h14 => ?_)
  · have c15 : (q_I δ 1 8 a0).toInt < (q_I δ 1 9 a0).toInt := o_lt h14
    unfold J_X1_goOnUp_33
    refine ok_bdv (fun d16 e17 => ?_)
    have i18 : CI ad h.1 δ0 d16 := by rw [e17]; exact cs_1_15 L I k_a0 (show 0 ≤ (1 : Int) by omega) (show (1 : Int) ≤ 1 by omega)
    have u19 := kp_I kp_r e17
    have v20 : q_V d16 = q_V δ := ((show q_V d16 = q_V δ by rw [e17]; rfl)).trans rfl
    have v21 : q_R d16 = q_R δ := ((show q_R d16 = q_R δ by rw [e17]; rfl)).trans rfl
    have f22 : (q_I d16 1 3 a0).toInt = (q_I δ 1 3 a0).toInt := congrArg Int32.toInt (by rw [e17]; exact rI_o (by decide))
    have f23 : (q_I d16 1 4 a0).toInt = (q_I δ 1 4 a0).toInt := congrArg Int32.toInt (by rw [e17]; exact rI_o (by decide))
    exact ok_some (show CI ad h.1 δ0 d16 ∧ (kp [(1, 3), (1, 4), (1, 5), (1, 6), (1, 8), (1, 13), (1, 14), (1, 15)] δ d16 ∧ q_V d16 = q_V δ ∧ q_R d16 = q_R δ) ∧ 0 ≤ (q_I d16 1 3 a0).toInt ∧ (q_I d16 1 4 a0).toInt ≤ (q_I δ 3 1 nu).toInt from ⟨i18, ⟨kp_w (by decide) u19, v20, v21⟩, by first | with_reducible assumption | omega, by first | with_reducible assumption | omega⟩)
  · have c24 : (q_I δ 1 9 a0).toInt ≤ (q_I δ 1 8 a0).toInt := o_nlt h14
    have f25 := ti_b (q_I δ 1 10 a0)
    refine ok_ite (fun h26 => ?_) (fun h26 => ?_)
    · have c27 : (q_I δ 1 10 a0).toInt ≤ (q_I δ 1 8 a0).toInt := o_le h26
      unfold J_X1_goOnUp_33
      refine ok_bdv (fun d28 e29 => ?_)
      have i30 : CI ad h.1 δ0 d28 := by rw [e29]; exact cs_1_15 L I k_a0 (show 0 ≤ (1 : Int) by omega) (show (1 : Int) ≤ 1 by omega)
      have u31 := kp_I kp_r e29
      have v32 : q_V d28 = q_V δ := ((show q_V d28 = q_V δ by rw [e29]; rfl)).trans rfl
      have v33 : q_R d28 = q_R δ := ((show q_R d28 = q_R δ by rw [e29]; rfl)).trans rfl
      have f34 : (q_I d28 1 3 a0).toInt = (q_I δ 1 3 a0).toInt := congrArg Int32.toInt (by rw [e29]; exact rI_o (by decide))
      have f35 : (q_I d28 1 4 a0).toInt = (q_I δ 1 4 a0).toInt := congrArg Int32.toInt (by rw [e29]; exact rI_o (by decide))
      exact ok_some (show CI ad h.1 δ0 d28 ∧ (kp [(1, 3), (1, 4), (1, 5), (1, 6), (1, 8), (1, 13), (1, 14), (1, 15)] δ d28 ∧ q_V d28 = q_V δ ∧ q_R d28 = q_R δ) ∧ 0 ≤ (q_I d28 1 3 a0).toInt ∧ (q_I d28 1 4 a0).toInt ≤ (q_I δ 3 1 nu).toInt from ⟨i30, ⟨kp_w (by decide) u31, v32, v33⟩, by first | with_reducible assumption | omega, by first | with_reducible assumption | omega⟩)
    · have c36 : (q_I δ 1 8 a0).toInt < (q_I δ 1 10 a0).toInt := o_nle h26
      refine ok_ite (fun h37 => ?_) (fun h37 => ?_)
      · have c38 : (q_I δ 1 11 a0).toInt < (q_I δ 1 12 a0).toInt := o_lt h37
        refine ok_bind (k_X1_findRoom L hN (a0 := a0) (x1 := (q_I δ 1 8 a0)) k_a0 hnu knu (show 0 ≤ (q_I δ 1 11 a0).toInt by first | with_reducible assumption | omega) (show (q_I δ 1 11 a0).toInt ≤ (q_I δ 1 12 a0).toInt by first | with_reducible assumption | omega) (show (q_I δ 1 12 a0).toInt ≤ (q_I δ 3 1 nu).toInt by first | with_reducible assumption | omega) I) (fun r39 hr40 => ?_)
        obtain ⟨i41, ⟨u47, u48, u49⟩, p42, p43, p44, p45, p46⟩ := hr40
        have u50 := kp_t kp_r u47
        have v51 : q_V r39.2 = q_V δ := (u48).trans rfl
        have v52 : q_R r39.2 = q_R δ := (u49).trans rfl
        have f53 := bo_t p42
        have f54 := ti_b (q_I r39.2 1 13 a0)
        have f55 := ti_b (q_I r39.2 1 14 a0)
        have f56 := ti_b r39.1
        refine ok_ite (fun h57 => ?_) (fun h57 => ?_)
        · have c58 : r39.1.toInt = (0 : Int) := o_eq h57
          unfold J_X1_goOnUp_82
          have f61 : (q_I r39.2 1 12 a0).toInt = (q_I δ 1 12 a0).toInt := congrArg Int32.toInt (u47 1 12 a0 (by decide))
          first | (have q63 := te_subc (c := 1) (n := 1) rfl (q_I r39.2 1 12 a0) (by omega) (by omega); obtain ⟨f64, f65, f66⟩ := q63) | (obtain ⟨q63, f64, f65, f66⟩ := ti_subc (c := 1) (n := 1) rfl (q_I r39.2 1 12 a0))
          have f67 : (q_I r39.2 3 1 nu).toInt = (q_I δ 3 1 nu).toInt := congrArg Int32.toInt (u47 3 1 nu (by decide))
          refine ok_bind (k_X1_valueAt L hN (a0 := a0) (x1 := ((q_I r39.2 1 12 a0) - (1 : Int32))) k_a0 hnu knu (show 0 ≤ (((q_I r39.2 1 12 a0) - (1 : Int32))).toInt by first | with_reducible assumption | omega) (show (((q_I r39.2 1 12 a0) - (1 : Int32))).toInt < (q_I r39.2 3 1 nu).toInt by first | with_reducible assumption | omega) i41) (fun r59 hr60 => ?_)
          have i68 := hr60
          try rw [i68]
          have f69 := ti_b r59.1
          have f70 := ti_b (r59.1 >>> ((q_I r39.2 1 7 a0) &&& 31))
          have f71 := ti_b ((q_I r39.2 1 8 a0) >>> ((q_I r39.2 1 7 a0) &&& 31))
          refine ok_ite (fun h72 => ?_) (fun h72 => ?_)
          · have c73 : (r59.1 >>> ((q_I r39.2 1 7 a0) &&& 31)).toInt ≤ ((q_I r39.2 1 8 a0) >>> ((q_I r39.2 1 7 a0) &&& 31)).toInt := o_le h72
            unfold J_X1_goOnUp_112
            refine ok_bind (k_X1_enterList L hN (a0 := a0) (x1 := (q_I r39.2 1 8 a0)) k_a0 i41) (fun r74 hr75 => ?_)
            obtain ⟨i76, ⟨u79, u80, u81⟩, p77, p78⟩ := hr75
            have u82 := kp_t u50 u79
            have v83 : q_V r74 = q_V δ := (u80).trans v51
            have v84 : q_R r74 = q_R δ := (u81).trans v52
            have f85 := ti_b (q_I r74 1 3 a0)
            have f86 : (q_I r39.2 1 11 a0).toInt = (q_I δ 1 11 a0).toInt := congrArg Int32.toInt (u47 1 11 a0 (by decide))
            have f87 := ti_b (q_I r74 1 4 a0)
            exact ok_some (show CI ad h.1 δ0 r74 ∧ (kp [(1, 3), (1, 4), (1, 5), (1, 6), (1, 8), (1, 13), (1, 14), (1, 15)] δ r74 ∧ q_V r74 = q_V δ ∧ q_R r74 = q_R δ) ∧ 0 ≤ (q_I r74 1 3 a0).toInt ∧ (q_I r74 1 4 a0).toInt ≤ (q_I δ 3 1 nu).toInt from ⟨i76, ⟨kp_w (by decide) u82, v83, v84⟩, by first | with_reducible assumption | omega, by first | with_reducible assumption | omega⟩)
          · have c88 : ((q_I r39.2 1 8 a0) >>> ((q_I r39.2 1 7 a0) &&& 31)).toInt < (r59.1 >>> ((q_I r39.2 1 7 a0) &&& 31)).toInt := o_nle h72
            refine ok_biv (fun vx89 e90 => ?_)
            first | (have q91 := te_cadd (c := 0) (n := 0) rfl (1 : Int32) (by omega) (by omega); rw [← e90] at q91; obtain ⟨f92, f93, f94⟩ := q91) | (obtain ⟨q91, f92, f93, f94⟩ : ∃ q : Int, vx89.toInt = (0 : Int) + (1 : Int) + 4294967296 * q ∧ -2147483648 ≤ vx89.toInt ∧ vx89.toInt ≤ 2147483647 := by rw [e90]; exact ti_cadd (c := 0) (n := 0) rfl (1 : Int32))
            unfold J_X1_goOnUp_112
            refine ok_bind (k_X1_enterList L hN (a0 := a0) (x1 := (q_I r39.2 1 8 a0)) k_a0 i41) (fun r95 hr96 => ?_)
            obtain ⟨i97, ⟨u100, u101, u102⟩, p98, p99⟩ := hr96
            have u103 := kp_t u50 u100
            have v104 : q_V r95 = q_V δ := (u101).trans v51
            have v105 : q_R r95 = q_R δ := (u102).trans v52
            have f106 := ti_b (q_I r95 1 3 a0)
            have f107 : (q_I r39.2 1 11 a0).toInt = (q_I δ 1 11 a0).toInt := congrArg Int32.toInt (u47 1 11 a0 (by decide))
            have f108 := ti_b (q_I r95 1 4 a0)
            exact ok_some (show CI ad h.1 δ0 r95 ∧ (kp [(1, 3), (1, 4), (1, 5), (1, 6), (1, 8), (1, 13), (1, 14), (1, 15)] δ r95 ∧ q_V r95 = q_V δ ∧ q_R r95 = q_R δ) ∧ 0 ≤ (q_I r95 1 3 a0).toInt ∧ (q_I r95 1 4 a0).toInt ≤ (q_I δ 3 1 nu).toInt from ⟨i97, ⟨kp_w (by decide) u103, v104, v105⟩, by first | with_reducible assumption | omega, by first | with_reducible assumption | omega⟩)
        · have c109 : r39.1.toInt ≠ (0 : Int) := o_ne h57
          first | (have q113 := te_subc (c := 1) (n := 1) rfl (q_I r39.2 1 14 a0) (by omega) (by omega); obtain ⟨f114, f115, f116⟩ := q113) | (obtain ⟨q113, f114, f115, f116⟩ := ti_subc (c := 1) (n := 1) rfl (q_I r39.2 1 14 a0))
          have f117 : (q_I r39.2 3 1 nu).toInt = (q_I δ 3 1 nu).toInt := congrArg Int32.toInt (u47 3 1 nu (by decide))
          refine ok_bind (k_X1_valueAt L hN (a0 := a0) (x1 := ((q_I r39.2 1 14 a0) - (1 : Int32))) k_a0 hnu knu (show 0 ≤ (((q_I r39.2 1 14 a0) - (1 : Int32))).toInt by first | with_reducible assumption | omega) (show (((q_I r39.2 1 14 a0) - (1 : Int32))).toInt < (q_I r39.2 3 1 nu).toInt by first | with_reducible assumption | omega) i41) (fun r110 hr111 => ?_)
          have i118 := hr111
          try rw [i118]
          have f119 := ti_b r110.1
          have f120 : (q_I r39.2 1 8 a0).toInt = (q_I δ 1 8 a0).toInt := congrArg Int32.toInt (u47 1 8 a0 (by decide))
          refine ok_ite (fun h121 => ?_) (fun h121 => ?_)
          · have c122 : r110.1.toInt ≤ (q_I r39.2 1 8 a0).toInt := o_le h121
            unfold J_X1_goOnUp_82
            have f125 : (q_I r39.2 1 12 a0).toInt = (q_I δ 1 12 a0).toInt := congrArg Int32.toInt (u47 1 12 a0 (by decide))
            first | (have q127 := te_subc (c := 1) (n := 1) rfl (q_I r39.2 1 12 a0) (by omega) (by omega); obtain ⟨f128, f129, f130⟩ := q127) | (obtain ⟨q127, f128, f129, f130⟩ := ti_subc (c := 1) (n := 1) rfl (q_I r39.2 1 12 a0))
            refine ok_bind (k_X1_valueAt L hN (a0 := a0) (x1 := ((q_I r39.2 1 12 a0) - (1 : Int32))) k_a0 hnu knu (show 0 ≤ (((q_I r39.2 1 12 a0) - (1 : Int32))).toInt by first | with_reducible assumption | omega) (show (((q_I r39.2 1 12 a0) - (1 : Int32))).toInt < (q_I r39.2 3 1 nu).toInt by first | with_reducible assumption | omega) i41) (fun r123 hr124 => ?_)
            have i131 := hr124
            try rw [i131]
            have f132 := ti_b r123.1
            have f133 := ti_b (r123.1 >>> ((q_I r39.2 1 7 a0) &&& 31))
            have f134 := ti_b ((q_I r39.2 1 8 a0) >>> ((q_I r39.2 1 7 a0) &&& 31))
            refine ok_ite (fun h135 => ?_) (fun h135 => ?_)
            · have c136 : (r123.1 >>> ((q_I r39.2 1 7 a0) &&& 31)).toInt ≤ ((q_I r39.2 1 8 a0) >>> ((q_I r39.2 1 7 a0) &&& 31)).toInt := o_le h135
              unfold J_X1_goOnUp_112
              refine ok_bind (k_X1_enterList L hN (a0 := a0) (x1 := (q_I r39.2 1 8 a0)) k_a0 i41) (fun r137 hr138 => ?_)
              obtain ⟨i139, ⟨u142, u143, u144⟩, p140, p141⟩ := hr138
              have u145 := kp_t u50 u142
              have v146 : q_V r137 = q_V δ := (u143).trans v51
              have v147 : q_R r137 = q_R δ := (u144).trans v52
              have f148 := ti_b (q_I r137 1 3 a0)
              have f149 : (q_I r39.2 1 11 a0).toInt = (q_I δ 1 11 a0).toInt := congrArg Int32.toInt (u47 1 11 a0 (by decide))
              have f150 := ti_b (q_I r137 1 4 a0)
              exact ok_some (show CI ad h.1 δ0 r137 ∧ (kp [(1, 3), (1, 4), (1, 5), (1, 6), (1, 8), (1, 13), (1, 14), (1, 15)] δ r137 ∧ q_V r137 = q_V δ ∧ q_R r137 = q_R δ) ∧ 0 ≤ (q_I r137 1 3 a0).toInt ∧ (q_I r137 1 4 a0).toInt ≤ (q_I δ 3 1 nu).toInt from ⟨i139, ⟨kp_w (by decide) u145, v146, v147⟩, by first | with_reducible assumption | omega, by first | with_reducible assumption | omega⟩)
            · have c151 : ((q_I r39.2 1 8 a0) >>> ((q_I r39.2 1 7 a0) &&& 31)).toInt < (r123.1 >>> ((q_I r39.2 1 7 a0) &&& 31)).toInt := o_nle h135
              refine ok_biv (fun vx152 e153 => ?_)
              first | (have q154 := te_cadd (c := 1) (n := 1) rfl (1 : Int32) (by omega) (by omega); rw [← e153] at q154; obtain ⟨f155, f156, f157⟩ := q154) | (obtain ⟨q154, f155, f156, f157⟩ : ∃ q : Int, vx152.toInt = (1 : Int) + (1 : Int) + 4294967296 * q ∧ -2147483648 ≤ vx152.toInt ∧ vx152.toInt ≤ 2147483647 := by rw [e153]; exact ti_cadd (c := 1) (n := 1) rfl (1 : Int32))
              unfold J_X1_goOnUp_112
              refine ok_bind (k_X1_enterList L hN (a0 := a0) (x1 := (q_I r39.2 1 8 a0)) k_a0 i41) (fun r158 hr159 => ?_)
              obtain ⟨i160, ⟨u163, u164, u165⟩, p161, p162⟩ := hr159
              have u166 := kp_t u50 u163
              have v167 : q_V r158 = q_V δ := (u164).trans v51
              have v168 : q_R r158 = q_R δ := (u165).trans v52
              have f169 := ti_b (q_I r158 1 3 a0)
              have f170 : (q_I r39.2 1 11 a0).toInt = (q_I δ 1 11 a0).toInt := congrArg Int32.toInt (u47 1 11 a0 (by decide))
              have f171 := ti_b (q_I r158 1 4 a0)
              exact ok_some (show CI ad h.1 δ0 r158 ∧ (kp [(1, 3), (1, 4), (1, 5), (1, 6), (1, 8), (1, 13), (1, 14), (1, 15)] δ r158 ∧ q_V r158 = q_V δ ∧ q_R r158 = q_R δ) ∧ 0 ≤ (q_I r158 1 3 a0).toInt ∧ (q_I r158 1 4 a0).toInt ≤ (q_I δ 3 1 nu).toInt from ⟨i160, ⟨kp_w (by decide) u166, v167, v168⟩, by first | with_reducible assumption | omega, by first | with_reducible assumption | omega⟩)
          · have c172 : (q_I r39.2 1 8 a0).toInt < r110.1.toInt := o_nle h121
            refine ok_bind (k_X1_enterRoom L hN (a0 := a0) (x1 := (q_I r39.2 1 8 a0)) k_a0 i41) (fun r173 hr174 => ?_)
            obtain ⟨i175, ⟨u178, u179, u180⟩, p176, p177⟩ := hr174
            have u181 := kp_t u50 u178
            have v182 : q_V r173 = q_V δ := (u179).trans v51
            have v183 : q_R r173 = q_R δ := (u180).trans v52
            have f184 := ti_b (q_I r173 1 3 a0)
            have f185 := ti_b (q_I r173 1 4 a0)
            exact ok_some (show CI ad h.1 δ0 r173 ∧ (kp [(1, 3), (1, 4), (1, 5), (1, 6), (1, 8), (1, 13), (1, 14), (1, 15)] δ r173 ∧ q_V r173 = q_V δ ∧ q_R r173 = q_R δ) ∧ 0 ≤ (q_I r173 1 3 a0).toInt ∧ (q_I r173 1 4 a0).toInt ≤ (q_I δ 3 1 nu).toInt from ⟨i175, ⟨kp_w (by decide) u181, v182, v183⟩, by first | with_reducible assumption | omega, by first | with_reducible assumption | omega⟩)
      · have c186 : (q_I δ 1 12 a0).toInt ≤ (q_I δ 1 11 a0).toInt := o_nlt h37
        unfold J_X1_goOnUp_33
        refine ok_bdv (fun d187 e188 => ?_)
        have i189 : CI ad h.1 δ0 d187 := by rw [e188]; exact cs_1_15 L I k_a0 (show 0 ≤ (1 : Int) by omega) (show (1 : Int) ≤ 1 by omega)
        have u190 := kp_I kp_r e188
        have v191 : q_V d187 = q_V δ := ((show q_V d187 = q_V δ by rw [e188]; rfl)).trans rfl
        have v192 : q_R d187 = q_R δ := ((show q_R d187 = q_R δ by rw [e188]; rfl)).trans rfl
        have f193 : (q_I d187 1 3 a0).toInt = (q_I δ 1 3 a0).toInt := congrArg Int32.toInt (by rw [e188]; exact rI_o (by decide))
        have f194 : (q_I d187 1 4 a0).toInt = (q_I δ 1 4 a0).toInt := congrArg Int32.toInt (by rw [e188]; exact rI_o (by decide))
        exact ok_some (show CI ad h.1 δ0 d187 ∧ (kp [(1, 3), (1, 4), (1, 5), (1, 6), (1, 8), (1, 13), (1, 14), (1, 15)] δ d187 ∧ q_V d187 = q_V δ ∧ q_R d187 = q_R δ) ∧ 0 ≤ (q_I d187 1 3 a0).toInt ∧ (q_I d187 1 4 a0).toInt ≤ (q_I δ 3 1 nu).toInt from ⟨i189, ⟨kp_w (by decide) u190, v191, v192⟩, by first | with_reducible assumption | omega, by first | with_reducible assumption | omega⟩)
set_option maxHeartbeats 4000000 in
theorem k_X1_goOnDown {ad : List Nat} {h : hp} (L : Lay TLx ad h) {δ0 : dp} {N : Nat} (hN : 10000000 ≤ N) {a0 : Nat} {nu : Nat} (k_a0 : q_K h.1 a0 = 1) (hnu : q_O h.1 1 1 a0 = some nu) (knu : q_K h.1 nu = 3) {δ : dp} (z0 : 0 ≤ (q_I δ 1 11 a0).toInt) (z1 : (q_I δ 1 11 a0).toInt ≤ (q_I δ 1 12 a0).toInt) (z2 : (q_I δ 1 12 a0).toInt ≤ (q_I δ 3 1 nu).toInt) (z3 : 0 ≤ (q_I δ 1 3 a0).toInt) (z4 : (q_I δ 1 4 a0).toInt ≤ (q_I δ 3 1 nu).toInt) (I : CI ad h.1 δ0 δ) : ok (D_X1_goOnDown N h.1 a0 δ) (fun r => CI ad h.1 δ0 r.2 ∧ (kp [(1, 3), (1, 4), (1, 5), (1, 6), (1, 8), (1, 13), (1, 14), (1, 15)] δ r.2 ∧ q_V r.2 = q_V δ ∧ q_R r.2 = q_R δ) ∧ 0 ≤ (q_I r.2 1 3 a0).toInt ∧ (q_I r.2 1 4 a0).toInt ≤ (q_I δ 3 1 nu).toInt) := by
  unfold D_X1_goOnDown
  have f1 := ti_b (q_I δ 1 11 a0)
  have f2 := ti_b (q_I δ 1 12 a0)
  obtain ⟨b3, o4, k5, ⟨n6, n7⟩, w8⟩ := gO_3_0 L knu
  have f9 := cb_3_1 I knu o4
  have f10 := ti_b (q_I δ 1 3 a0)
  have f11 := ti_b (q_I δ 1 4 a0)
  have f12 := ti_b (q_I δ 1 10 a0)
  have f13 := ti_b (q_I δ 1 8 a0)
  refine ok_ite (fun h14 => ?_) (fun h14 => ?_)
  · have c15 : (q_I δ 1 10 a0).toInt < (q_I δ 1 8 a0).toInt := o_lt h14
    unfold J_X1_goOnDown_33
    refine ok_bdv (fun d16 e17 => ?_)
    have i18 : CI ad h.1 δ0 d16 := by rw [e17]; exact cs_1_15 L I k_a0 (show 0 ≤ (1 : Int) by omega) (show (1 : Int) ≤ 1 by omega)
    have u19 := kp_I kp_r e17
    have v20 : q_V d16 = q_V δ := ((show q_V d16 = q_V δ by rw [e17]; rfl)).trans rfl
    have v21 : q_R d16 = q_R δ := ((show q_R d16 = q_R δ by rw [e17]; rfl)).trans rfl
    have f22 : (q_I d16 1 3 a0).toInt = (q_I δ 1 3 a0).toInt := congrArg Int32.toInt (by rw [e17]; exact rI_o (by decide))
    have f23 : (q_I d16 1 4 a0).toInt = (q_I δ 1 4 a0).toInt := congrArg Int32.toInt (by rw [e17]; exact rI_o (by decide))
    exact ok_some (show CI ad h.1 δ0 d16 ∧ (kp [(1, 3), (1, 4), (1, 5), (1, 6), (1, 8), (1, 13), (1, 14), (1, 15)] δ d16 ∧ q_V d16 = q_V δ ∧ q_R d16 = q_R δ) ∧ 0 ≤ (q_I d16 1 3 a0).toInt ∧ (q_I d16 1 4 a0).toInt ≤ (q_I δ 3 1 nu).toInt from ⟨i18, ⟨kp_w (by decide) u19, v20, v21⟩, by first | with_reducible assumption | omega, by first | with_reducible assumption | omega⟩)
  · have c24 : (q_I δ 1 8 a0).toInt ≤ (q_I δ 1 10 a0).toInt := o_nlt h14
    have f25 := ti_b (q_I δ 1 9 a0)
    refine ok_ite (fun h26 => ?_) (fun h26 => ?_)
    · have c27 : (q_I δ 1 8 a0).toInt ≤ (q_I δ 1 9 a0).toInt := o_le h26
      unfold J_X1_goOnDown_33
      refine ok_bdv (fun d28 e29 => ?_)
      have i30 : CI ad h.1 δ0 d28 := by rw [e29]; exact cs_1_15 L I k_a0 (show 0 ≤ (1 : Int) by omega) (show (1 : Int) ≤ 1 by omega)
      have u31 := kp_I kp_r e29
      have v32 : q_V d28 = q_V δ := ((show q_V d28 = q_V δ by rw [e29]; rfl)).trans rfl
      have v33 : q_R d28 = q_R δ := ((show q_R d28 = q_R δ by rw [e29]; rfl)).trans rfl
      have f34 : (q_I d28 1 3 a0).toInt = (q_I δ 1 3 a0).toInt := congrArg Int32.toInt (by rw [e29]; exact rI_o (by decide))
      have f35 : (q_I d28 1 4 a0).toInt = (q_I δ 1 4 a0).toInt := congrArg Int32.toInt (by rw [e29]; exact rI_o (by decide))
      exact ok_some (show CI ad h.1 δ0 d28 ∧ (kp [(1, 3), (1, 4), (1, 5), (1, 6), (1, 8), (1, 13), (1, 14), (1, 15)] δ d28 ∧ q_V d28 = q_V δ ∧ q_R d28 = q_R δ) ∧ 0 ≤ (q_I d28 1 3 a0).toInt ∧ (q_I d28 1 4 a0).toInt ≤ (q_I δ 3 1 nu).toInt from ⟨i30, ⟨kp_w (by decide) u31, v32, v33⟩, by first | with_reducible assumption | omega, by first | with_reducible assumption | omega⟩)
    · have c36 : (q_I δ 1 9 a0).toInt < (q_I δ 1 8 a0).toInt := o_nle h26
      refine ok_ite (fun h37 => ?_) (fun h37 => ?_)
      · have c38 : (q_I δ 1 11 a0).toInt < (q_I δ 1 12 a0).toInt := o_lt h37
        refine ok_bind (k_X1_findRoom L hN (a0 := a0) (x1 := (q_I δ 1 8 a0)) k_a0 hnu knu (show 0 ≤ (q_I δ 1 11 a0).toInt by first | with_reducible assumption | omega) (show (q_I δ 1 11 a0).toInt ≤ (q_I δ 1 12 a0).toInt by first | with_reducible assumption | omega) (show (q_I δ 1 12 a0).toInt ≤ (q_I δ 3 1 nu).toInt by first | with_reducible assumption | omega) I) (fun r39 hr40 => ?_)
        obtain ⟨i41, ⟨u47, u48, u49⟩, p42, p43, p44, p45, p46⟩ := hr40
        have u50 := kp_t kp_r u47
        have v51 : q_V r39.2 = q_V δ := (u48).trans rfl
        have v52 : q_R r39.2 = q_R δ := (u49).trans rfl
        have f53 := bo_t p42
        have f54 := ti_b (q_I r39.2 1 13 a0)
        have f55 := ti_b (q_I r39.2 1 14 a0)
        have f56 := ti_b r39.1
        refine ok_ite (fun h57 => ?_) (fun h57 => ?_)
        · have c58 : r39.1.toInt = (0 : Int) := o_eq h57
          unfold J_X1_goOnDown_80
          have f61 : (q_I r39.2 1 11 a0).toInt = (q_I δ 1 11 a0).toInt := congrArg Int32.toInt (u47 1 11 a0 (by decide))
          have f62 : (q_I r39.2 3 1 nu).toInt = (q_I δ 3 1 nu).toInt := congrArg Int32.toInt (u47 3 1 nu (by decide))
          refine ok_bind (k_X1_valueAt L hN (a0 := a0) (x1 := (q_I r39.2 1 11 a0)) k_a0 hnu knu (show 0 ≤ ((q_I r39.2 1 11 a0)).toInt by first | with_reducible assumption | omega) (show ((q_I r39.2 1 11 a0)).toInt < (q_I r39.2 3 1 nu).toInt by first | with_reducible assumption | omega) i41) (fun r59 hr60 => ?_)
          have i63 := hr60
          try rw [i63]
          have f64 := ti_b r59.1
          have f65 := ti_b ((q_I r39.2 1 8 a0) >>> ((q_I r39.2 1 7 a0) &&& 31))
          have f66 := ti_b (r59.1 >>> ((q_I r39.2 1 7 a0) &&& 31))
          refine ok_ite (fun h67 => ?_) (fun h67 => ?_)
          · have c68 : ((q_I r39.2 1 8 a0) >>> ((q_I r39.2 1 7 a0) &&& 31)).toInt ≤ (r59.1 >>> ((q_I r39.2 1 7 a0) &&& 31)).toInt := o_le h67
            unfold J_X1_goOnDown_108
            refine ok_bind (k_X1_enterList L hN (a0 := a0) (x1 := (q_I r39.2 1 8 a0)) k_a0 i41) (fun r69 hr70 => ?_)
            obtain ⟨i71, ⟨u74, u75, u76⟩, p72, p73⟩ := hr70
            have u77 := kp_t u50 u74
            have v78 : q_V r69 = q_V δ := (u75).trans v51
            have v79 : q_R r69 = q_R δ := (u76).trans v52
            have f80 := ti_b (q_I r69 1 3 a0)
            have f81 := ti_b (q_I r69 1 4 a0)
            have f82 : (q_I r39.2 1 12 a0).toInt = (q_I δ 1 12 a0).toInt := congrArg Int32.toInt (u47 1 12 a0 (by decide))
            exact ok_some (show CI ad h.1 δ0 r69 ∧ (kp [(1, 3), (1, 4), (1, 5), (1, 6), (1, 8), (1, 13), (1, 14), (1, 15)] δ r69 ∧ q_V r69 = q_V δ ∧ q_R r69 = q_R δ) ∧ 0 ≤ (q_I r69 1 3 a0).toInt ∧ (q_I r69 1 4 a0).toInt ≤ (q_I δ 3 1 nu).toInt from ⟨i71, ⟨kp_w (by decide) u77, v78, v79⟩, by first | with_reducible assumption | omega, by first | with_reducible assumption | omega⟩)
          · have c83 : (r59.1 >>> ((q_I r39.2 1 7 a0) &&& 31)).toInt < ((q_I r39.2 1 8 a0) >>> ((q_I r39.2 1 7 a0) &&& 31)).toInt := o_nle h67
            refine ok_biv (fun vx84 e85 => ?_)
            first | (have q86 := te_cadd (c := 0) (n := 0) rfl (1 : Int32) (by omega) (by omega); rw [← e85] at q86; obtain ⟨f87, f88, f89⟩ := q86) | (obtain ⟨q86, f87, f88, f89⟩ : ∃ q : Int, vx84.toInt = (0 : Int) + (1 : Int) + 4294967296 * q ∧ -2147483648 ≤ vx84.toInt ∧ vx84.toInt ≤ 2147483647 := by rw [e85]; exact ti_cadd (c := 0) (n := 0) rfl (1 : Int32))
            unfold J_X1_goOnDown_108
            refine ok_bind (k_X1_enterList L hN (a0 := a0) (x1 := (q_I r39.2 1 8 a0)) k_a0 i41) (fun r90 hr91 => ?_)
            obtain ⟨i92, ⟨u95, u96, u97⟩, p93, p94⟩ := hr91
            have u98 := kp_t u50 u95
            have v99 : q_V r90 = q_V δ := (u96).trans v51
            have v100 : q_R r90 = q_R δ := (u97).trans v52
            have f101 := ti_b (q_I r90 1 3 a0)
            have f102 := ti_b (q_I r90 1 4 a0)
            have f103 : (q_I r39.2 1 12 a0).toInt = (q_I δ 1 12 a0).toInt := congrArg Int32.toInt (u47 1 12 a0 (by decide))
            exact ok_some (show CI ad h.1 δ0 r90 ∧ (kp [(1, 3), (1, 4), (1, 5), (1, 6), (1, 8), (1, 13), (1, 14), (1, 15)] δ r90 ∧ q_V r90 = q_V δ ∧ q_R r90 = q_R δ) ∧ 0 ≤ (q_I r90 1 3 a0).toInt ∧ (q_I r90 1 4 a0).toInt ≤ (q_I δ 3 1 nu).toInt from ⟨i92, ⟨kp_w (by decide) u98, v99, v100⟩, by first | with_reducible assumption | omega, by first | with_reducible assumption | omega⟩)
        · have c104 : r39.1.toInt ≠ (0 : Int) := o_ne h57
          have f107 : (q_I r39.2 3 1 nu).toInt = (q_I δ 3 1 nu).toInt := congrArg Int32.toInt (u47 3 1 nu (by decide))
          refine ok_bind (k_X1_valueAt L hN (a0 := a0) (x1 := (q_I r39.2 1 13 a0)) k_a0 hnu knu (show 0 ≤ ((q_I r39.2 1 13 a0)).toInt by first | with_reducible assumption | omega) (show ((q_I r39.2 1 13 a0)).toInt < (q_I r39.2 3 1 nu).toInt by first | with_reducible assumption | omega) i41) (fun r105 hr106 => ?_)
          have i108 := hr106
          try rw [i108]
          have f109 := ti_b r105.1
          have f110 : (q_I r39.2 1 8 a0).toInt = (q_I δ 1 8 a0).toInt := congrArg Int32.toInt (u47 1 8 a0 (by decide))
          refine ok_ite (fun h111 => ?_) (fun h111 => ?_)
          · have c112 : (q_I r39.2 1 8 a0).toInt ≤ r105.1.toInt := o_le h111
            unfold J_X1_goOnDown_80
            have f115 : (q_I r39.2 1 11 a0).toInt = (q_I δ 1 11 a0).toInt := congrArg Int32.toInt (u47 1 11 a0 (by decide))
            refine ok_bind (k_X1_valueAt L hN (a0 := a0) (x1 := (q_I r39.2 1 11 a0)) k_a0 hnu knu (show 0 ≤ ((q_I r39.2 1 11 a0)).toInt by first | with_reducible assumption | omega) (show ((q_I r39.2 1 11 a0)).toInt < (q_I r39.2 3 1 nu).toInt by first | with_reducible assumption | omega) i41) (fun r113 hr114 => ?_)
            have i116 := hr114
            try rw [i116]
            have f117 := ti_b r113.1
            have f118 := ti_b ((q_I r39.2 1 8 a0) >>> ((q_I r39.2 1 7 a0) &&& 31))
            have f119 := ti_b (r113.1 >>> ((q_I r39.2 1 7 a0) &&& 31))
            refine ok_ite (fun h120 => ?_) (fun h120 => ?_)
            · have c121 : ((q_I r39.2 1 8 a0) >>> ((q_I r39.2 1 7 a0) &&& 31)).toInt ≤ (r113.1 >>> ((q_I r39.2 1 7 a0) &&& 31)).toInt := o_le h120
              unfold J_X1_goOnDown_108
              refine ok_bind (k_X1_enterList L hN (a0 := a0) (x1 := (q_I r39.2 1 8 a0)) k_a0 i41) (fun r122 hr123 => ?_)
              obtain ⟨i124, ⟨u127, u128, u129⟩, p125, p126⟩ := hr123
              have u130 := kp_t u50 u127
              have v131 : q_V r122 = q_V δ := (u128).trans v51
              have v132 : q_R r122 = q_R δ := (u129).trans v52
              have f133 := ti_b (q_I r122 1 3 a0)
              have f134 := ti_b (q_I r122 1 4 a0)
              have f135 : (q_I r39.2 1 12 a0).toInt = (q_I δ 1 12 a0).toInt := congrArg Int32.toInt (u47 1 12 a0 (by decide))
              exact ok_some (show CI ad h.1 δ0 r122 ∧ (kp [(1, 3), (1, 4), (1, 5), (1, 6), (1, 8), (1, 13), (1, 14), (1, 15)] δ r122 ∧ q_V r122 = q_V δ ∧ q_R r122 = q_R δ) ∧ 0 ≤ (q_I r122 1 3 a0).toInt ∧ (q_I r122 1 4 a0).toInt ≤ (q_I δ 3 1 nu).toInt from ⟨i124, ⟨kp_w (by decide) u130, v131, v132⟩, by first | with_reducible assumption | omega, by first | with_reducible assumption | omega⟩)
            · have c136 : (r113.1 >>> ((q_I r39.2 1 7 a0) &&& 31)).toInt < ((q_I r39.2 1 8 a0) >>> ((q_I r39.2 1 7 a0) &&& 31)).toInt := o_nle h120
              refine ok_biv (fun vx137 e138 => ?_)
              first | (have q139 := te_cadd (c := 1) (n := 1) rfl (1 : Int32) (by omega) (by omega); rw [← e138] at q139; obtain ⟨f140, f141, f142⟩ := q139) | (obtain ⟨q139, f140, f141, f142⟩ : ∃ q : Int, vx137.toInt = (1 : Int) + (1 : Int) + 4294967296 * q ∧ -2147483648 ≤ vx137.toInt ∧ vx137.toInt ≤ 2147483647 := by rw [e138]; exact ti_cadd (c := 1) (n := 1) rfl (1 : Int32))
              unfold J_X1_goOnDown_108
              refine ok_bind (k_X1_enterList L hN (a0 := a0) (x1 := (q_I r39.2 1 8 a0)) k_a0 i41) (fun r143 hr144 => ?_)
              obtain ⟨i145, ⟨u148, u149, u150⟩, p146, p147⟩ := hr144
              have u151 := kp_t u50 u148
              have v152 : q_V r143 = q_V δ := (u149).trans v51
              have v153 : q_R r143 = q_R δ := (u150).trans v52
              have f154 := ti_b (q_I r143 1 3 a0)
              have f155 := ti_b (q_I r143 1 4 a0)
              have f156 : (q_I r39.2 1 12 a0).toInt = (q_I δ 1 12 a0).toInt := congrArg Int32.toInt (u47 1 12 a0 (by decide))
              exact ok_some (show CI ad h.1 δ0 r143 ∧ (kp [(1, 3), (1, 4), (1, 5), (1, 6), (1, 8), (1, 13), (1, 14), (1, 15)] δ r143 ∧ q_V r143 = q_V δ ∧ q_R r143 = q_R δ) ∧ 0 ≤ (q_I r143 1 3 a0).toInt ∧ (q_I r143 1 4 a0).toInt ≤ (q_I δ 3 1 nu).toInt from ⟨i145, ⟨kp_w (by decide) u151, v152, v153⟩, by first | with_reducible assumption | omega, by first | with_reducible assumption | omega⟩)
          · have c157 : r105.1.toInt < (q_I r39.2 1 8 a0).toInt := o_nle h111
            refine ok_bind (k_X1_enterRoom L hN (a0 := a0) (x1 := (q_I r39.2 1 8 a0)) k_a0 i41) (fun r158 hr159 => ?_)
            obtain ⟨i160, ⟨u163, u164, u165⟩, p161, p162⟩ := hr159
            have u166 := kp_t u50 u163
            have v167 : q_V r158 = q_V δ := (u164).trans v51
            have v168 : q_R r158 = q_R δ := (u165).trans v52
            have f169 := ti_b (q_I r158 1 3 a0)
            have f170 := ti_b (q_I r158 1 4 a0)
            exact ok_some (show CI ad h.1 δ0 r158 ∧ (kp [(1, 3), (1, 4), (1, 5), (1, 6), (1, 8), (1, 13), (1, 14), (1, 15)] δ r158 ∧ q_V r158 = q_V δ ∧ q_R r158 = q_R δ) ∧ 0 ≤ (q_I r158 1 3 a0).toInt ∧ (q_I r158 1 4 a0).toInt ≤ (q_I δ 3 1 nu).toInt from ⟨i160, ⟨kp_w (by decide) u166, v167, v168⟩, by first | with_reducible assumption | omega, by first | with_reducible assumption | omega⟩)
      · have c171 : (q_I δ 1 12 a0).toInt ≤ (q_I δ 1 11 a0).toInt := o_nlt h37
        unfold J_X1_goOnDown_33
        refine ok_bdv (fun d172 e173 => ?_)
        have i174 : CI ad h.1 δ0 d172 := by rw [e173]; exact cs_1_15 L I k_a0 (show 0 ≤ (1 : Int) by omega) (show (1 : Int) ≤ 1 by omega)
        have u175 := kp_I kp_r e173
        have v176 : q_V d172 = q_V δ := ((show q_V d172 = q_V δ by rw [e173]; rfl)).trans rfl
        have v177 : q_R d172 = q_R δ := ((show q_R d172 = q_R δ by rw [e173]; rfl)).trans rfl
        have f178 : (q_I d172 1 3 a0).toInt = (q_I δ 1 3 a0).toInt := congrArg Int32.toInt (by rw [e173]; exact rI_o (by decide))
        have f179 : (q_I d172 1 4 a0).toInt = (q_I δ 1 4 a0).toInt := congrArg Int32.toInt (by rw [e173]; exact rI_o (by decide))
        exact ok_some (show CI ad h.1 δ0 d172 ∧ (kp [(1, 3), (1, 4), (1, 5), (1, 6), (1, 8), (1, 13), (1, 14), (1, 15)] δ d172 ∧ q_V d172 = q_V δ ∧ q_R d172 = q_R δ) ∧ 0 ≤ (q_I d172 1 3 a0).toInt ∧ (q_I d172 1 4 a0).toInt ≤ (q_I δ 3 1 nu).toInt from ⟨i174, ⟨kp_w (by decide) u175, v176, v177⟩, by first | with_reducible assumption | omega, by first | with_reducible assumption | omega⟩)
set_option maxHeartbeats 4000000 in
theorem kl_X1_touchesOf_47 {ad : List Nat} {h : hp} (L : Lay TLx ad h) {δ0 : dp} {N : Nat} (hN : 10000000 ≤ N) {a0 : Nat} {x1 : Int32} {x2 : Int32} {nu : Nat} (k_a0 : q_K h.1 a0 = 1) (hnu : q_O h.1 1 1 a0 = some nu) (knu : q_K h.1 nu = 3) : ∀ (n : Nat) (x3v : Int32) (x4v : Int32) (δ : dp), CI ad h.1 δ0 δ → 0 ≤ (q_I δ 1 3 a0).toInt → (q_I δ 1 4 a0).toInt ≤ (q_I δ 3 1 nu).toInt → 0 ≤ (x4v).toInt → (x4v).toInt ≤ 16 → 16 - (x4v).toInt < (n : Int) → ok (L_X1_touchesOf_47 N h.1 a0 x1 x2 n x3v x4v δ) (fun r => CI ad h.1 δ0 r.2 ∧ (kp [(1, 3), (1, 4), (1, 5), (1, 6), (1, 7), (1, 8), (1, 9), (1, 10), (1, 11), (1, 12), (1, 13), (1, 14), (1, 15)] δ r.2 ∧ q_V r.2 = q_V δ ∧ q_R r.2 = q_R δ)) := by
  intro n
  induction n with
  | zero =>
    intro x3v x4v δ I j0 j1 j2 j3 hm
    have f1 := ti_b (q_I δ 1 3 a0)
    have f2 := ti_b (q_I δ 1 4 a0)
    obtain ⟨b3, o4, k5, ⟨n6, n7⟩, w8⟩ := gO_3_0 L knu
    have f9 := cb_3_1 I knu o4
    have f10 := ti_b x4v
    exfalso; omega
  | succ n ih =>
    intro x3v x4v δ I j0 j1 j2 j3 hm
    unfold L_X1_touchesOf_47
    have f1 := ti_b (q_I δ 1 3 a0)
    have f2 := ti_b (q_I δ 1 4 a0)
    obtain ⟨b3, o4, k5, ⟨n6, n7⟩, w8⟩ := gO_3_0 L knu
    have f9 := cb_3_1 I knu o4
    have f10 := ti_b x4v
    refine ok_ite (fun h11 => ?_) (fun h11 => ?_)
    · have c12 : (16 : Int) ≤ x4v.toInt := o_le h11
      unfold J_X1_touchesOf_162
      exact ok_some (show CI ad h.1 δ0 δ ∧ (kp [(1, 3), (1, 4), (1, 5), (1, 6), (1, 7), (1, 8), (1, 9), (1, 10), (1, 11), (1, 12), (1, 13), (1, 14), (1, 15)] δ δ ∧ q_V δ = q_V δ ∧ q_R δ = q_R δ) from ⟨I, ⟨kp_w (by decide) kp_r, rfl, rfl⟩⟩)
    · have c13 : x4v.toInt < (16 : Int) := o_nle h11
      have f14 := cb_1_15 I k_a0
      refine ok_ite (fun h15 => ?_) (fun h15 => ?_)
      · have c16 : (q_I δ 1 15 a0).toInt = (0 : Int) := o_eq h15
        have f19 := ti_b x3v
        refine ok_biv (fun vx17 e18 => ?_)
        first | (have q20 := te_addc (c := 1) (n := 1) rfl x3v (by omega) (by omega); rw [← e18] at q20; obtain ⟨f21, f22, f23⟩ := q20) | (obtain ⟨q20, f21, f22, f23⟩ : ∃ q : Int, vx17.toInt = x3v.toInt + (1 : Int) + 4294967296 * q ∧ -2147483648 ≤ vx17.toInt ∧ vx17.toInt ≤ 2147483647 := by rw [e18]; exact ti_addc (c := 1) (n := 1) rfl x3v)
        refine ok_bind (k_X1_look L hN (a0 := a0) k_a0 hnu knu (show 0 ≤ (q_I δ 1 3 a0).toInt by first | with_reducible assumption | omega) (show (q_I δ 1 4 a0).toInt ≤ (q_I δ 3 1 nu).toInt by first | with_reducible assumption | omega) I) (fun r24 hr25 => ?_)
        obtain ⟨i26, ⟨u28, u29, u30⟩, p27⟩ := hr25
        have u31 := kp_t kp_r u28
        have v32 : q_V r24 = q_V δ := (u29).trans rfl
        have v33 : q_R r24 = q_R δ := (u30).trans rfl
        have f34 := cb_1_15 i26 k_a0
        have f35 := ti_b (q_I r24 1 11 a0)
        have f36 := ti_b (q_I r24 1 12 a0)
        refine ok_ite (fun h37 => ?_) (fun h37 => ?_)
        · have c38 : (q_I r24 1 15 a0).toInt = (0 : Int) := o_eq h37
          have f39 := ti_b x1
          refine ok_ite (fun h40 => ?_) (fun h40 => ?_)
          · have c41 : x1.toInt = (0 : Int) := o_eq h40
            have f44 : (q_I r24 3 1 nu).toInt = (q_I δ 3 1 nu).toInt := congrArg Int32.toInt (u28 3 1 nu (by decide))
            have f45 : (q_I r24 1 3 a0).toInt = (q_I δ 1 3 a0).toInt := congrArg Int32.toInt (u28 1 3 a0 (by decide))
            have f46 : (q_I r24 1 4 a0).toInt = (q_I δ 1 4 a0).toInt := congrArg Int32.toInt (u28 1 4 a0 (by decide))
            refine ok_bind (k_X1_goOnPutting L hN (a0 := a0) k_a0 hnu knu (show 0 ≤ (q_I r24 1 11 a0).toInt by first | with_reducible assumption | omega) (show (q_I r24 1 11 a0).toInt ≤ (q_I r24 1 12 a0).toInt by first | with_reducible assumption | omega) (show (q_I r24 1 12 a0).toInt ≤ (q_I r24 3 1 nu).toInt by first | with_reducible assumption | omega) (show 0 ≤ (q_I r24 1 3 a0).toInt by first | with_reducible assumption | omega) (show (q_I r24 1 4 a0).toInt ≤ (q_I r24 3 1 nu).toInt by first | with_reducible assumption | omega) i26) (fun r42 hr43 => ?_)
            obtain ⟨i47, ⟨u50, u51, u52⟩, p48, p49⟩ := hr43
            have u53 := kp_t u31 u50
            have v54 : q_V r42.2 = q_V δ := (u51).trans v32
            have v55 : q_R r42.2 = q_R δ := (u52).trans v33
            have f56 := ti_b (q_I r42.2 1 3 a0)
            have f57 := ti_b (q_I r42.2 1 4 a0)
            have f58 := ti_b r42.1
            refine ok_biv (fun vx59 e60 => ?_)
            first | (have q61 := te_add vx17 r42.1 (by omega) (by omega); rw [← e60] at q61; obtain ⟨f62, f63, f64⟩ := q61) | (obtain ⟨q61, f62, f63, f64⟩ : ∃ q : Int, vx59.toInt = vx17.toInt + r42.1.toInt + 4294967296 * q ∧ -2147483648 ≤ vx59.toInt ∧ vx59.toInt ≤ 2147483647 := by rw [e60]; exact ti_add vx17 r42.1)
            unfold J_X1_touchesOf_156
            refine ok_biv (fun vx65 e66 => ?_)
            first | (have q67 := te_addc (c := 1) (n := 1) rfl x4v (by omega) (by omega); rw [← e66] at q67; obtain ⟨f68, f69, f70⟩ := q67) | (obtain ⟨q67, f68, f69, f70⟩ : ∃ q : Int, vx65.toInt = x4v.toInt + (1 : Int) + 4294967296 * q ∧ -2147483648 ≤ vx65.toInt ∧ vx65.toInt ≤ 2147483647 := by rw [e66]; exact ti_addc (c := 1) (n := 1) rfl x4v)
            have f71 : (q_I r42.2 3 1 nu).toInt = (q_I r24 3 1 nu).toInt := congrArg Int32.toInt (u50 3 1 nu (by decide))
            refine ok_mono (ih vx59 vx65 r42.2 i47 (show 0 ≤ (q_I r42.2 1 3 a0).toInt by first | with_reducible assumption | omega) (show (q_I r42.2 1 4 a0).toInt ≤ (q_I r42.2 3 1 nu).toInt by first | with_reducible assumption | omega) (show 0 ≤ (vx65).toInt by first | with_reducible assumption | omega) (show (vx65).toInt ≤ 16 by first | with_reducible assumption | omega) (show 16 - (vx65).toInt < _ by omega)) (fun r72 hr73 => ?_)
            obtain ⟨i74, ⟨u75, u76, u77⟩⟩ := hr73
            have u78 := kp_t u53 u75
            have v79 : q_V r72.2 = q_V δ := (u76).trans v54
            have v80 : q_R r72.2 = q_R δ := (u77).trans v55
            have f81 := ti_b r72.1
            exact ⟨by first | with_reducible assumption | assumption, ⟨kp_w (by decide) u78, v79, v80⟩⟩
          · have c82 : x1.toInt ≠ (0 : Int) := o_ne h40
            refine ok_ite (fun h83 => ?_) (fun h83 => ?_)
            · have c84 : x1.toInt = (1 : Int) := o_eq h83
              have f87 : (q_I r24 3 1 nu).toInt = (q_I δ 3 1 nu).toInt := congrArg Int32.toInt (u28 3 1 nu (by decide))
              have f88 : (q_I r24 1 3 a0).toInt = (q_I δ 1 3 a0).toInt := congrArg Int32.toInt (u28 1 3 a0 (by decide))
              have f89 : (q_I r24 1 4 a0).toInt = (q_I δ 1 4 a0).toInt := congrArg Int32.toInt (u28 1 4 a0 (by decide))
              refine ok_bind (k_X1_goOnDropping L hN (a0 := a0) k_a0 hnu knu (show 0 ≤ (q_I r24 1 11 a0).toInt by first | with_reducible assumption | omega) (show (q_I r24 1 11 a0).toInt ≤ (q_I r24 1 12 a0).toInt by first | with_reducible assumption | omega) (show (q_I r24 1 12 a0).toInt ≤ (q_I r24 3 1 nu).toInt by first | with_reducible assumption | omega) (show 0 ≤ (q_I r24 1 3 a0).toInt by first | with_reducible assumption | omega) (show (q_I r24 1 4 a0).toInt ≤ (q_I r24 3 1 nu).toInt by first | with_reducible assumption | omega) i26) (fun r85 hr86 => ?_)
              obtain ⟨i90, ⟨u93, u94, u95⟩, p91, p92⟩ := hr86
              have u96 := kp_t u31 u93
              have v97 : q_V r85.2 = q_V δ := (u94).trans v32
              have v98 : q_R r85.2 = q_R δ := (u95).trans v33
              have f99 := ti_b (q_I r85.2 1 3 a0)
              have f100 := ti_b (q_I r85.2 1 4 a0)
              have f101 := ti_b r85.1
              refine ok_biv (fun vx102 e103 => ?_)
              first | (have q104 := te_add vx17 r85.1 (by omega) (by omega); rw [← e103] at q104; obtain ⟨f105, f106, f107⟩ := q104) | (obtain ⟨q104, f105, f106, f107⟩ : ∃ q : Int, vx102.toInt = vx17.toInt + r85.1.toInt + 4294967296 * q ∧ -2147483648 ≤ vx102.toInt ∧ vx102.toInt ≤ 2147483647 := by rw [e103]; exact ti_add vx17 r85.1)
              unfold J_X1_touchesOf_156
              refine ok_biv (fun vx108 e109 => ?_)
              first | (have q110 := te_addc (c := 1) (n := 1) rfl x4v (by omega) (by omega); rw [← e109] at q110; obtain ⟨f111, f112, f113⟩ := q110) | (obtain ⟨q110, f111, f112, f113⟩ : ∃ q : Int, vx108.toInt = x4v.toInt + (1 : Int) + 4294967296 * q ∧ -2147483648 ≤ vx108.toInt ∧ vx108.toInt ≤ 2147483647 := by rw [e109]; exact ti_addc (c := 1) (n := 1) rfl x4v)
              have f114 : (q_I r85.2 3 1 nu).toInt = (q_I r24 3 1 nu).toInt := congrArg Int32.toInt (u93 3 1 nu (by decide))
              refine ok_mono (ih vx102 vx108 r85.2 i90 (show 0 ≤ (q_I r85.2 1 3 a0).toInt by first | with_reducible assumption | omega) (show (q_I r85.2 1 4 a0).toInt ≤ (q_I r85.2 3 1 nu).toInt by first | with_reducible assumption | omega) (show 0 ≤ (vx108).toInt by first | with_reducible assumption | omega) (show (vx108).toInt ≤ 16 by first | with_reducible assumption | omega) (show 16 - (vx108).toInt < _ by omega)) (fun r115 hr116 => ?_)
              obtain ⟨i117, ⟨u118, u119, u120⟩⟩ := hr116
              have u121 := kp_t u96 u118
              have v122 : q_V r115.2 = q_V δ := (u119).trans v97
              have v123 : q_R r115.2 = q_R δ := (u120).trans v98
              have f124 := ti_b r115.1
              exact ⟨by first | with_reducible assumption | assumption, ⟨kp_w (by decide) u121, v122, v123⟩⟩
            · have c125 : x1.toInt ≠ (1 : Int) := o_ne h83
              refine ok_ite (fun h126 => ?_) (fun h126 => ?_)
              · have c127 : x1.toInt = (2 : Int) := o_eq h126
                unfold J_X1_touchesOf_152
                have f130 : (q_I r24 3 1 nu).toInt = (q_I δ 3 1 nu).toInt := congrArg Int32.toInt (u28 3 1 nu (by decide))
                have f131 : (q_I r24 1 3 a0).toInt = (q_I δ 1 3 a0).toInt := congrArg Int32.toInt (u28 1 3 a0 (by decide))
                have f132 : (q_I r24 1 4 a0).toInt = (q_I δ 1 4 a0).toInt := congrArg Int32.toInt (u28 1 4 a0 (by decide))
                refine ok_bind (k_X1_goOnAsking L hN (a0 := a0) k_a0 hnu knu (show 0 ≤ (q_I r24 1 11 a0).toInt by first | with_reducible assumption | omega) (show (q_I r24 1 11 a0).toInt ≤ (q_I r24 1 12 a0).toInt by first | with_reducible assumption | omega) (show (q_I r24 1 12 a0).toInt ≤ (q_I r24 3 1 nu).toInt by first | with_reducible assumption | omega) (show 0 ≤ (q_I r24 1 3 a0).toInt by first | with_reducible assumption | omega) (show (q_I r24 1 4 a0).toInt ≤ (q_I r24 3 1 nu).toInt by first | with_reducible assumption | omega) i26) (fun r128 hr129 => ?_)
                obtain ⟨i133, ⟨u136, u137, u138⟩, p134, p135⟩ := hr129
                have u139 := kp_t u31 u136
                have v140 : q_V r128 = q_V δ := (u137).trans v32
                have v141 : q_R r128 = q_R δ := (u138).trans v33
                have f142 := ti_b (q_I r128 1 3 a0)
                have f143 := ti_b (q_I r128 1 4 a0)
                unfold J_X1_touchesOf_156
                refine ok_biv (fun vx144 e145 => ?_)
                first | (have q146 := te_addc (c := 1) (n := 1) rfl x4v (by omega) (by omega); rw [← e145] at q146; obtain ⟨f147, f148, f149⟩ := q146) | (obtain ⟨q146, f147, f148, f149⟩ : ∃ q : Int, vx144.toInt = x4v.toInt + (1 : Int) + 4294967296 * q ∧ -2147483648 ≤ vx144.toInt ∧ vx144.toInt ≤ 2147483647 := by rw [e145]; exact ti_addc (c := 1) (n := 1) rfl x4v)
                have f150 : (q_I r128 3 1 nu).toInt = (q_I r24 3 1 nu).toInt := congrArg Int32.toInt (u136 3 1 nu (by decide))
                refine ok_mono (ih vx17 vx144 r128 i133 (show 0 ≤ (q_I r128 1 3 a0).toInt by first | with_reducible assumption | omega) (show (q_I r128 1 4 a0).toInt ≤ (q_I r128 3 1 nu).toInt by first | with_reducible assumption | omega) (show 0 ≤ (vx144).toInt by first | with_reducible assumption | omega) (show (vx144).toInt ≤ 16 by first | with_reducible assumption | omega) (show 16 - (vx144).toInt < _ by omega)) (fun r151 hr152 => ?_)
                obtain ⟨i153, ⟨u154, u155, u156⟩⟩ := hr152
                have u157 := kp_t u139 u154
                have v158 : q_V r151.2 = q_V δ := (u155).trans v140
                have v159 : q_R r151.2 = q_R δ := (u156).trans v141
                have f160 := ti_b r151.1
                exact ⟨by first | with_reducible assumption | assumption, ⟨kp_w (by decide) u157, v158, v159⟩⟩
              · have c161 : x1.toInt ≠ (2 : Int) := o_ne h126
                refine ok_ite (fun h162 => ?_) (fun h162 => ?_)
                · have c163 : x1.toInt = (3 : Int) := o_eq h162
                  have f166 : (q_I r24 3 1 nu).toInt = (q_I δ 3 1 nu).toInt := congrArg Int32.toInt (u28 3 1 nu (by decide))
                  have f167 : (q_I r24 1 3 a0).toInt = (q_I δ 1 3 a0).toInt := congrArg Int32.toInt (u28 1 3 a0 (by decide))
                  have f168 : (q_I r24 1 4 a0).toInt = (q_I δ 1 4 a0).toInt := congrArg Int32.toInt (u28 1 4 a0 (by decide))
                  refine ok_bind (k_X1_goOnUp L hN (a0 := a0) k_a0 hnu knu (show 0 ≤ (q_I r24 1 11 a0).toInt by first | with_reducible assumption | omega) (show (q_I r24 1 11 a0).toInt ≤ (q_I r24 1 12 a0).toInt by first | with_reducible assumption | omega) (show (q_I r24 1 12 a0).toInt ≤ (q_I r24 3 1 nu).toInt by first | with_reducible assumption | omega) (show 0 ≤ (q_I r24 1 3 a0).toInt by first | with_reducible assumption | omega) (show (q_I r24 1 4 a0).toInt ≤ (q_I r24 3 1 nu).toInt by first | with_reducible assumption | omega) i26) (fun r164 hr165 => ?_)
                  obtain ⟨i169, ⟨u172, u173, u174⟩, p170, p171⟩ := hr165
                  have u175 := kp_t u31 u172
                  have v176 : q_V r164.2 = q_V δ := (u173).trans v32
                  have v177 : q_R r164.2 = q_R δ := (u174).trans v33
                  have f178 := ti_b (q_I r164.2 1 3 a0)
                  have f179 := ti_b (q_I r164.2 1 4 a0)
                  have f180 := ti_b r164.1
                  refine ok_biv (fun vx181 e182 => ?_)
                  first | (have q183 := te_add vx17 r164.1 (by omega) (by omega); rw [← e182] at q183; obtain ⟨f184, f185, f186⟩ := q183) | (obtain ⟨q183, f184, f185, f186⟩ : ∃ q : Int, vx181.toInt = vx17.toInt + r164.1.toInt + 4294967296 * q ∧ -2147483648 ≤ vx181.toInt ∧ vx181.toInt ≤ 2147483647 := by rw [e182]; exact ti_add vx17 r164.1)
                  unfold J_X1_touchesOf_156
                  refine ok_biv (fun vx187 e188 => ?_)
                  first | (have q189 := te_addc (c := 1) (n := 1) rfl x4v (by omega) (by omega); rw [← e188] at q189; obtain ⟨f190, f191, f192⟩ := q189) | (obtain ⟨q189, f190, f191, f192⟩ : ∃ q : Int, vx187.toInt = x4v.toInt + (1 : Int) + 4294967296 * q ∧ -2147483648 ≤ vx187.toInt ∧ vx187.toInt ≤ 2147483647 := by rw [e188]; exact ti_addc (c := 1) (n := 1) rfl x4v)
                  have f193 : (q_I r164.2 3 1 nu).toInt = (q_I r24 3 1 nu).toInt := congrArg Int32.toInt (u172 3 1 nu (by decide))
                  refine ok_mono (ih vx181 vx187 r164.2 i169 (show 0 ≤ (q_I r164.2 1 3 a0).toInt by first | with_reducible assumption | omega) (show (q_I r164.2 1 4 a0).toInt ≤ (q_I r164.2 3 1 nu).toInt by first | with_reducible assumption | omega) (show 0 ≤ (vx187).toInt by first | with_reducible assumption | omega) (show (vx187).toInt ≤ 16 by first | with_reducible assumption | omega) (show 16 - (vx187).toInt < _ by omega)) (fun r194 hr195 => ?_)
                  obtain ⟨i196, ⟨u197, u198, u199⟩⟩ := hr195
                  have u200 := kp_t u175 u197
                  have v201 : q_V r194.2 = q_V δ := (u198).trans v176
                  have v202 : q_R r194.2 = q_R δ := (u199).trans v177
                  have f203 := ti_b r194.1
                  exact ⟨by first | with_reducible assumption | assumption, ⟨kp_w (by decide) u200, v201, v202⟩⟩
                · have c204 : x1.toInt ≠ (3 : Int) := o_ne h162
                  refine ok_ite (fun h205 => ?_) (fun h205 => ?_)
                  · have c206 : x1.toInt = (4 : Int) := o_eq h205
                    have f209 : (q_I r24 3 1 nu).toInt = (q_I δ 3 1 nu).toInt := congrArg Int32.toInt (u28 3 1 nu (by decide))
                    have f210 : (q_I r24 1 3 a0).toInt = (q_I δ 1 3 a0).toInt := congrArg Int32.toInt (u28 1 3 a0 (by decide))
                    have f211 : (q_I r24 1 4 a0).toInt = (q_I δ 1 4 a0).toInt := congrArg Int32.toInt (u28 1 4 a0 (by decide))
                    refine ok_bind (k_X1_goOnDown L hN (a0 := a0) k_a0 hnu knu (show 0 ≤ (q_I r24 1 11 a0).toInt by first | with_reducible assumption | omega) (show (q_I r24 1 11 a0).toInt ≤ (q_I r24 1 12 a0).toInt by first | with_reducible assumption | omega) (show (q_I r24 1 12 a0).toInt ≤ (q_I r24 3 1 nu).toInt by first | with_reducible assumption | omega) (show 0 ≤ (q_I r24 1 3 a0).toInt by first | with_reducible assumption | omega) (show (q_I r24 1 4 a0).toInt ≤ (q_I r24 3 1 nu).toInt by first | with_reducible assumption | omega) i26) (fun r207 hr208 => ?_)
                    obtain ⟨i212, ⟨u215, u216, u217⟩, p213, p214⟩ := hr208
                    have u218 := kp_t u31 u215
                    have v219 : q_V r207.2 = q_V δ := (u216).trans v32
                    have v220 : q_R r207.2 = q_R δ := (u217).trans v33
                    have f221 := ti_b (q_I r207.2 1 3 a0)
                    have f222 := ti_b (q_I r207.2 1 4 a0)
                    have f223 := ti_b r207.1
                    refine ok_biv (fun vx224 e225 => ?_)
                    first | (have q226 := te_add vx17 r207.1 (by omega) (by omega); rw [← e225] at q226; obtain ⟨f227, f228, f229⟩ := q226) | (obtain ⟨q226, f227, f228, f229⟩ : ∃ q : Int, vx224.toInt = vx17.toInt + r207.1.toInt + 4294967296 * q ∧ -2147483648 ≤ vx224.toInt ∧ vx224.toInt ≤ 2147483647 := by rw [e225]; exact ti_add vx17 r207.1)
                    unfold J_X1_touchesOf_156
                    refine ok_biv (fun vx230 e231 => ?_)
                    first | (have q232 := te_addc (c := 1) (n := 1) rfl x4v (by omega) (by omega); rw [← e231] at q232; obtain ⟨f233, f234, f235⟩ := q232) | (obtain ⟨q232, f233, f234, f235⟩ : ∃ q : Int, vx230.toInt = x4v.toInt + (1 : Int) + 4294967296 * q ∧ -2147483648 ≤ vx230.toInt ∧ vx230.toInt ≤ 2147483647 := by rw [e231]; exact ti_addc (c := 1) (n := 1) rfl x4v)
                    have f236 : (q_I r207.2 3 1 nu).toInt = (q_I r24 3 1 nu).toInt := congrArg Int32.toInt (u215 3 1 nu (by decide))
                    refine ok_mono (ih vx224 vx230 r207.2 i212 (show 0 ≤ (q_I r207.2 1 3 a0).toInt by first | with_reducible assumption | omega) (show (q_I r207.2 1 4 a0).toInt ≤ (q_I r207.2 3 1 nu).toInt by first | with_reducible assumption | omega) (show 0 ≤ (vx230).toInt by first | with_reducible assumption | omega) (show (vx230).toInt ≤ 16 by first | with_reducible assumption | omega) (show 16 - (vx230).toInt < _ by omega)) (fun r237 hr238 => ?_)
                    obtain ⟨i239, ⟨u240, u241, u242⟩⟩ := hr238
                    have u243 := kp_t u218 u240
                    have v244 : q_V r237.2 = q_V δ := (u241).trans v219
                    have v245 : q_R r237.2 = q_R δ := (u242).trans v220
                    have f246 := ti_b r237.1
                    exact ⟨by first | with_reducible assumption | assumption, ⟨kp_w (by decide) u243, v244, v245⟩⟩
                  · have c247 : x1.toInt ≠ (4 : Int) := o_ne h205
                    unfold J_X1_touchesOf_152
                    have f250 : (q_I r24 3 1 nu).toInt = (q_I δ 3 1 nu).toInt := congrArg Int32.toInt (u28 3 1 nu (by decide))
                    have f251 : (q_I r24 1 3 a0).toInt = (q_I δ 1 3 a0).toInt := congrArg Int32.toInt (u28 1 3 a0 (by decide))
                    have f252 : (q_I r24 1 4 a0).toInt = (q_I δ 1 4 a0).toInt := congrArg Int32.toInt (u28 1 4 a0 (by decide))
                    refine ok_bind (k_X1_goOnAsking L hN (a0 := a0) k_a0 hnu knu (show 0 ≤ (q_I r24 1 11 a0).toInt by first | with_reducible assumption | omega) (show (q_I r24 1 11 a0).toInt ≤ (q_I r24 1 12 a0).toInt by first | with_reducible assumption | omega) (show (q_I r24 1 12 a0).toInt ≤ (q_I r24 3 1 nu).toInt by first | with_reducible assumption | omega) (show 0 ≤ (q_I r24 1 3 a0).toInt by first | with_reducible assumption | omega) (show (q_I r24 1 4 a0).toInt ≤ (q_I r24 3 1 nu).toInt by first | with_reducible assumption | omega) i26) (fun r248 hr249 => ?_)
                    obtain ⟨i253, ⟨u256, u257, u258⟩, p254, p255⟩ := hr249
                    have u259 := kp_t u31 u256
                    have v260 : q_V r248 = q_V δ := (u257).trans v32
                    have v261 : q_R r248 = q_R δ := (u258).trans v33
                    have f262 := ti_b (q_I r248 1 3 a0)
                    have f263 := ti_b (q_I r248 1 4 a0)
                    unfold J_X1_touchesOf_156
                    refine ok_biv (fun vx264 e265 => ?_)
                    first | (have q266 := te_addc (c := 1) (n := 1) rfl x4v (by omega) (by omega); rw [← e265] at q266; obtain ⟨f267, f268, f269⟩ := q266) | (obtain ⟨q266, f267, f268, f269⟩ : ∃ q : Int, vx264.toInt = x4v.toInt + (1 : Int) + 4294967296 * q ∧ -2147483648 ≤ vx264.toInt ∧ vx264.toInt ≤ 2147483647 := by rw [e265]; exact ti_addc (c := 1) (n := 1) rfl x4v)
                    have f270 : (q_I r248 3 1 nu).toInt = (q_I r24 3 1 nu).toInt := congrArg Int32.toInt (u256 3 1 nu (by decide))
                    refine ok_mono (ih vx17 vx264 r248 i253 (show 0 ≤ (q_I r248 1 3 a0).toInt by first | with_reducible assumption | omega) (show (q_I r248 1 4 a0).toInt ≤ (q_I r248 3 1 nu).toInt by first | with_reducible assumption | omega) (show 0 ≤ (vx264).toInt by first | with_reducible assumption | omega) (show (vx264).toInt ≤ 16 by first | with_reducible assumption | omega) (show 16 - (vx264).toInt < _ by omega)) (fun r271 hr272 => ?_)
                    obtain ⟨i273, ⟨u274, u275, u276⟩⟩ := hr272
                    have u277 := kp_t u259 u274
                    have v278 : q_V r271.2 = q_V δ := (u275).trans v260
                    have v279 : q_R r271.2 = q_R δ := (u276).trans v261
                    have f280 := ti_b r271.1
                    exact ⟨by first | with_reducible assumption | assumption, ⟨kp_w (by decide) u277, v278, v279⟩⟩
        · have c281 : (q_I r24 1 15 a0).toInt ≠ (0 : Int) := o_ne h37
          exact ok_some (show CI ad h.1 δ0 r24 ∧ (kp [(1, 3), (1, 4), (1, 5), (1, 6), (1, 7), (1, 8), (1, 9), (1, 10), (1, 11), (1, 12), (1, 13), (1, 14), (1, 15)] δ r24 ∧ q_V r24 = q_V δ ∧ q_R r24 = q_R δ) from ⟨i26, ⟨kp_w (by decide) u31, v32, v33⟩⟩)
      · have c282 : (q_I δ 1 15 a0).toInt ≠ (0 : Int) := o_ne h15
        unfold J_X1_touchesOf_162
        exact ok_some (show CI ad h.1 δ0 δ ∧ (kp [(1, 3), (1, 4), (1, 5), (1, 6), (1, 7), (1, 8), (1, 9), (1, 10), (1, 11), (1, 12), (1, 13), (1, 14), (1, 15)] δ δ ∧ q_V δ = q_V δ ∧ q_R δ = q_R δ) from ⟨I, ⟨kp_w (by decide) kp_r, rfl, rfl⟩⟩)
set_option maxHeartbeats 4000000 in
theorem k_X1_touchesOf {ad : List Nat} {h : hp} (L : Lay TLx ad h) {δ0 : dp} {N : Nat} (hN : 10000000 ≤ N) {a0 : Nat} {x1 : Int32} {x2 : Int32} {nu : Nat} (k_a0 : q_K h.1 a0 = 1) (hnu : q_O h.1 1 1 a0 = some nu) (knu : q_K h.1 nu = 3) {δ : dp} (I : CI ad h.1 δ0 δ) : ok (D_X1_touchesOf N h.1 a0 x1 x2 δ) (fun r => CI ad h.1 δ0 r.2 ∧ (kp [(1, 3), (1, 4), (1, 5), (1, 6), (1, 7), (1, 8), (1, 9), (1, 10), (1, 11), (1, 12), (1, 13), (1, 14), (1, 15)] δ r.2 ∧ q_V r.2 = q_V δ ∧ q_R r.2 = q_R δ)) := by
  unfold D_X1_touchesOf
  refine ok_bdv (fun d1 e2 => ?_)
  have i3 : CI ad h.1 δ0 d1 := by rw [e2]; exact cs_1_3 L I
  have u4 := kp_I kp_r e2
  have v5 : q_V d1 = q_V δ := ((show q_V d1 = q_V δ by rw [e2]; rfl)).trans rfl
  have v6 : q_R d1 = q_R δ := ((show q_R d1 = q_R δ by rw [e2]; rfl)).trans rfl
  refine ok_at hnu ?_
  have f10 : (q_I d1 3 1 nu).toInt = (q_I δ 3 1 nu).toInt := congrArg Int32.toInt (by rw [e2]; exact rI_o (by decide))
  obtain ⟨b11, o12, k13, ⟨n14, n15⟩, w16⟩ := gO_3_0 L knu
  have f17 := cb_3_1 I knu o12
  refine ok_bdv (fun d7 e8 => ?_)
  have i9 : CI ad h.1 δ0 d7 := by rw [e8]; exact cs_1_4 L i3
  have u18 := kp_I u4 e8
  have v19 : q_V d7 = q_V δ := ((show q_V d7 = q_V d1 by rw [e8]; rfl)).trans v5
  have v20 : q_R d7 = q_R δ := ((show q_R d7 = q_R d1 by rw [e8]; rfl)).trans v6
  refine ok_bdv (fun d21 e22 => ?_)
  have i23 : CI ad h.1 δ0 d21 := by rw [e22]; exact cs_1_5 L i9
  have u24 := kp_I u18 e22
  have v25 : q_V d21 = q_V δ := ((show q_V d21 = q_V d7 by rw [e22]; rfl)).trans v19
  have v26 : q_R d21 = q_R δ := ((show q_R d21 = q_R d7 by rw [e22]; rfl)).trans v20
  obtain ⟨b27, o28, k29⟩ := gO_1_0 L k_a0
  refine ok_at o28 ?_
  have f33 : (q_I d21 5 0 b27).toInt = (q_I δ 5 0 b27).toInt := ((show (q_I d21 5 0 b27).toInt = (q_I d7 5 0 b27).toInt from congrArg Int32.toInt (by rw [e22]; exact rI_o (by decide))).trans ((show (q_I d7 5 0 b27).toInt = (q_I d1 5 0 b27).toInt from congrArg Int32.toInt (by rw [e8]; exact rI_o (by decide))).trans (show (q_I d1 5 0 b27).toInt = (q_I δ 5 0 b27).toInt from congrArg Int32.toInt (by rw [e2]; exact rI_o (by decide)))))
  have f34 := cb_5_0 I k29
  refine ok_bdv (fun d30 e31 => ?_)
  have i32 : CI ad h.1 δ0 d30 := by rw [e31]; exact cs_1_6 L i23
  have u35 := kp_I u24 e31
  have v36 : q_V d30 = q_V δ := ((show q_V d30 = q_V d21 by rw [e31]; rfl)).trans v25
  have v37 : q_R d30 = q_R δ := ((show q_R d30 = q_R d21 by rw [e31]; rfl)).trans v26
  have f41 := ti_b x2
  refine ok_bdv (fun d38 e39 => ?_)
  have i40 : CI ad h.1 δ0 d38 := by rw [e39]; exact cs_1_8 L i32
  have u42 := kp_I u35 e39
  have v43 : q_V d38 = q_V δ := ((show q_V d38 = q_V d30 by rw [e39]; rfl)).trans v36
  have v44 : q_R d38 = q_R δ := ((show q_R d38 = q_R d30 by rw [e39]; rfl)).trans v37
  refine ok_bdv (fun d45 e46 => ?_)
  have i47 : CI ad h.1 δ0 d45 := by rw [e46]; exact cs_1_15 L i40 k_a0 (show 0 ≤ (0 : Int) by omega) (show (0 : Int) ≤ 1 by omega)
  have u48 := kp_I u42 e46
  have v49 : q_V d45 = q_V δ := ((show q_V d45 = q_V d38 by rw [e46]; rfl)).trans v43
  have v50 : q_R d45 = q_R δ := ((show q_R d45 = q_R d38 by rw [e46]; rfl)).trans v44
  have f51 : (q_I d45 1 3 a0).toInt = (q_I d1 1 3 a0).toInt := ((show (q_I d45 1 3 a0).toInt = (q_I d38 1 3 a0).toInt from congrArg Int32.toInt (by rw [e46]; exact rI_o (by decide))).trans ((show (q_I d38 1 3 a0).toInt = (q_I d30 1 3 a0).toInt from congrArg Int32.toInt (by rw [e39]; exact rI_o (by decide))).trans ((show (q_I d30 1 3 a0).toInt = (q_I d21 1 3 a0).toInt from congrArg Int32.toInt (by rw [e31]; exact rI_o (by decide))).trans ((show (q_I d21 1 3 a0).toInt = (q_I d7 1 3 a0).toInt from congrArg Int32.toInt (by rw [e22]; exact rI_o (by decide))).trans (show (q_I d7 1 3 a0).toInt = (q_I d1 1 3 a0).toInt from congrArg Int32.toInt (by rw [e8]; exact rI_o (by decide)))))))
  have f52 := ti_b (q_I d1 1 3 a0)
  have f53 : (q_I d1 1 3 a0).toInt = (0 : Int) := congrArg Int32.toInt (show q_I d1 1 3 a0 = (0 : Int32) by rw [e2]; exact rI_s)
  have f54 : (q_I d45 1 4 a0).toInt = (q_I d7 1 4 a0).toInt := ((show (q_I d45 1 4 a0).toInt = (q_I d38 1 4 a0).toInt from congrArg Int32.toInt (by rw [e46]; exact rI_o (by decide))).trans ((show (q_I d38 1 4 a0).toInt = (q_I d30 1 4 a0).toInt from congrArg Int32.toInt (by rw [e39]; exact rI_o (by decide))).trans ((show (q_I d30 1 4 a0).toInt = (q_I d21 1 4 a0).toInt from congrArg Int32.toInt (by rw [e31]; exact rI_o (by decide))).trans (show (q_I d21 1 4 a0).toInt = (q_I d7 1 4 a0).toInt from congrArg Int32.toInt (by rw [e22]; exact rI_o (by decide))))))
  have f55 := ti_b (q_I d7 1 4 a0)
  have f56 : (q_I d7 1 4 a0).toInt = (q_I d1 3 1 nu).toInt := congrArg Int32.toInt (show q_I d7 1 4 a0 = (q_I d1 3 1 nu) by rw [e8]; exact rI_s)
  have f57 : (q_I d45 3 1 nu).toInt = (q_I d1 3 1 nu).toInt := ((show (q_I d45 3 1 nu).toInt = (q_I d38 3 1 nu).toInt from congrArg Int32.toInt (by rw [e46]; exact rI_o (by decide))).trans ((show (q_I d38 3 1 nu).toInt = (q_I d30 3 1 nu).toInt from congrArg Int32.toInt (by rw [e39]; exact rI_o (by decide))).trans ((show (q_I d30 3 1 nu).toInt = (q_I d21 3 1 nu).toInt from congrArg Int32.toInt (by rw [e31]; exact rI_o (by decide))).trans ((show (q_I d21 3 1 nu).toInt = (q_I d7 3 1 nu).toInt from congrArg Int32.toInt (by rw [e22]; exact rI_o (by decide))).trans (show (q_I d7 3 1 nu).toInt = (q_I d1 3 1 nu).toInt from congrArg Int32.toInt (by rw [e8]; exact rI_o (by decide)))))))
  refine ok_mono (kl_X1_touchesOf_47 L hN   k_a0 hnu knu _ (0 : Int32) (0 : Int32) d45 i47 (show 0 ≤ (q_I d45 1 3 a0).toInt by first | with_reducible assumption | omega) (show (q_I d45 1 4 a0).toInt ≤ (q_I d45 3 1 nu).toInt by first | with_reducible assumption | omega) (show 0 ≤ (0 : Int) by first | with_reducible assumption | omega) (show (0 : Int) ≤ 16 by first | with_reducible assumption | omega) (show 16 - (0 : Int) < _ by omega)) (fun r58 hr59 => ?_)
  obtain ⟨i60, ⟨u61, u62, u63⟩⟩ := hr59
  have u64 := kp_t u48 u61
  have v65 : q_V r58.2 = q_V δ := (u62).trans v49
  have v66 : q_R r58.2 = q_R δ := (u63).trans v50
  have f67 := ti_b r58.1
  exact ⟨by first | with_reducible assumption | assumption, ⟨kp_w (by decide) u64, v65, v66⟩⟩
set_option maxHeartbeats 4000000 in
theorem kl_X1_cellsOf_163 {ad : List Nat} {h : hp} (L : Lay TLx ad h) {δ0 : dp} {N : Nat} (hN : 10000000 ≤ N) {T : Nat → Int32 → Int32 → Int32 → Int32 → dp → Option (Int32 × dp)} {K : Int} (hT : ∀ (a0 : Nat) (x1 : Int32) (x2 : Int32) (x3 : Int32) (x4 : Int32) (δ : dp) (nu : Nat), q_K h.1 a0 = 1 → q_O h.1 1 1 a0 = some nu → q_K h.1 nu = 3 → 0 ≤ (x1).toInt → (x2).toInt ≤ (q_I δ 3 1 nu).toInt → 0 ≤ (x4).toInt → (x4).toInt ≤ 16 → (x4).toInt < K → CI ad h.1 δ0 δ → ok (T a0 x1 x2 x3 x4 δ) (fun r => r.2 = δ)) {a0 : Nat} {x1 : Int32} {x2 : Int32} {x3 : Int32} {x4 : Int32} {nu : Nat} (k_a0 : q_K h.1 a0 = 1) (hnu : q_O h.1 1 1 a0 = some nu) (knu : q_K h.1 nu = 3) : ∀ (n : Nat) (x7v : Int32) (x8v : Int32) (x9v : Int32) (x10v : Int32) (x11v : Int32) (δ : dp), CI ad h.1 δ0 δ → 0 ≤ (x1).toInt → (x1).toInt < (x2).toInt → (x2).toInt ≤ (q_I δ 3 1 nu).toInt → 2 ≤ (x4).toInt → (x4).toInt ≤ 16 → (x4).toInt ≤ K → 0 ≤ (x11v).toInt → (x11v).toInt ≤ (x7v).toInt → (x7v).toInt ≤ (x2).toInt → 0 ≤ (x10v).toInt → 1 ≤ (x8v).toInt → (x8v).toInt < (x4).toInt → (x7v).toInt - (x11v).toInt < (n : Int) → ok (L_X1_cellsOf_163 N h.1 T a0 x1 x2 x3 x4 n x7v x8v x9v x10v x11v δ) (fun r => r.2 = δ) := by
  intro n
  induction n with
  | zero =>
    intro x7v x8v x9v x10v x11v δ I j0 j1 j2 j3 j4 j5 j6 j7 j8 j9 j10 j11 hm
    have f1 := ti_b x1
    have f2 := ti_b x2
    obtain ⟨b3, o4, k5, ⟨n6, n7⟩, w8⟩ := gO_3_0 L knu
    have f9 := cb_3_1 I knu o4
    have f10 := ti_b x4
    have f11 := ti_b x11v
    have f12 := ti_b x7v
    have f13 := ti_b x10v
    have f14 := ti_b x8v
    exfalso; omega
  | succ n ih =>
    intro x7v x8v x9v x10v x11v δ I j0 j1 j2 j3 j4 j5 j6 j7 j8 j9 j10 j11 hm
    unfold L_X1_cellsOf_163
    have f1 := ti_b x1
    have f2 := ti_b x2
    obtain ⟨b3, o4, k5, ⟨n6, n7⟩, w8⟩ := gO_3_0 L knu
    have f9 := cb_3_1 I knu o4
    have f10 := ti_b x4
    have f11 := ti_b x11v
    have f12 := ti_b x7v
    have f13 := ti_b x10v
    have f14 := ti_b x8v
    refine ok_ite (fun h15 => ?_) (fun h15 => ?_)
    · have c16 : x7v.toInt ≤ x11v.toInt := o_le h15
      exact ok_some (show δ = δ from rfl)
    · have c17 : x11v.toInt < x7v.toInt := o_nle h15
      first | (have q19 := te_addc (c := 1) (n := 1) rfl x11v (by omega) (by omega); obtain ⟨f20, f21, f22⟩ := q19) | (obtain ⟨q19, f20, f21, f22⟩ := ti_addc (c := 1) (n := 1) rfl x11v)
      refine ok_ite (fun h23 => ?_) (fun h23 => ?_)
      · have c24 : x7v.toInt ≤ (x11v + (1 : Int32)).toInt := o_le h23
        unfold J_X1_cellsOf_208
        unfold J_X1_cellsOf_213
        refine ok_ite (fun h25 => ?_) (fun h25 => ?_)
        · have c26 : (1 : Int) = (0 : Int) := o_eq h25
          unfold J_X1_cellsOf_244
          refine ok_biv (fun vx27 e28 => ?_)
          first | (have q29 := te_addc (c := 1) (n := 1) rfl x11v (by omega) (by omega); rw [← e28] at q29; obtain ⟨f30, f31, f32⟩ := q29) | (obtain ⟨q29, f30, f31, f32⟩ : ∃ q : Int, vx27.toInt = x11v.toInt + (1 : Int) + 4294967296 * q ∧ -2147483648 ≤ vx27.toInt ∧ vx27.toInt ≤ 2147483647 := by rw [e28]; exact ti_addc (c := 1) (n := 1) rfl x11v)
          refine ok_mono (ih x7v x8v x9v x10v vx27 δ I (show 0 ≤ (x1).toInt by first | with_reducible assumption | omega) (show (x1).toInt < (x2).toInt by first | with_reducible assumption | omega) (show (x2).toInt ≤ (q_I δ 3 1 nu).toInt by first | with_reducible assumption | omega) (show 2 ≤ (x4).toInt by first | with_reducible assumption | omega) (show (x4).toInt ≤ 16 by first | with_reducible assumption | omega) (show (x4).toInt ≤ K by first | with_reducible assumption | omega) (show 0 ≤ (vx27).toInt by first | with_reducible assumption | omega) (show (vx27).toInt ≤ (x7v).toInt by first | with_reducible assumption | omega) (show (x7v).toInt ≤ (x2).toInt by first | with_reducible assumption | omega) (show 0 ≤ (x10v).toInt by first | with_reducible assumption | omega) (show 1 ≤ (x8v).toInt by first | with_reducible assumption | omega) (show (x8v).toInt < (x4).toInt by first | with_reducible assumption | omega) (show (x7v).toInt - (vx27).toInt < _ by omega)) (fun r33 hr34 => ?_)
          have i35 := hr34
          have f36 := ti_b r33.1
          exact by assumption
        · have c37 : (1 : Int) ≠ (0 : Int) := o_ne h25
          refine ok_bind (hT a0 x10v (x11v + (1 : Int32)) x3 x8v δ nu k_a0 hnu knu (show 0 ≤ (x10v).toInt by first | with_reducible assumption | omega) (show ((x11v + (1 : Int32))).toInt ≤ (q_I δ 3 1 nu).toInt by first | with_reducible assumption | omega) (show 0 ≤ (x8v).toInt by first | with_reducible assumption | omega) (show (x8v).toInt ≤ 16 by first | with_reducible assumption | omega) (show (x8v).toInt < _ by first | with_reducible assumption | omega) I) (fun r38 hr39 => ?_)
          have i40 := hr39
          try rw [i40]
          have f41 := ti_b r38.1
          have f44 := ti_b x9v
          refine ok_biv (fun vx42 e43 => ?_)
          first | (have q45 := te_add x9v r38.1 (by omega) (by omega); rw [← e43] at q45; obtain ⟨f46, f47, f48⟩ := q45) | (obtain ⟨q45, f46, f47, f48⟩ : ∃ q : Int, vx42.toInt = x9v.toInt + r38.1.toInt + 4294967296 * q ∧ -2147483648 ≤ vx42.toInt ∧ vx42.toInt ≤ 2147483647 := by rw [e43]; exact ti_add x9v r38.1)
          refine ok_biv (fun vx49 e50 => ?_)
          first | (have q51 := te_addc (c := 1) (n := 1) rfl x11v (by omega) (by omega); rw [← e50] at q51; obtain ⟨f52, f53, f54⟩ := q51) | (obtain ⟨q51, f52, f53, f54⟩ : ∃ q : Int, vx49.toInt = x11v.toInt + (1 : Int) + 4294967296 * q ∧ -2147483648 ≤ vx49.toInt ∧ vx49.toInt ≤ 2147483647 := by rw [e50]; exact ti_addc (c := 1) (n := 1) rfl x11v)
          unfold J_X1_cellsOf_244
          refine ok_biv (fun vx55 e56 => ?_)
          first | (have q57 := te_addc (c := 1) (n := 1) rfl x11v (by omega) (by omega); rw [← e56] at q57; obtain ⟨f58, f59, f60⟩ := q57) | (obtain ⟨q57, f58, f59, f60⟩ : ∃ q : Int, vx55.toInt = x11v.toInt + (1 : Int) + 4294967296 * q ∧ -2147483648 ≤ vx55.toInt ∧ vx55.toInt ≤ 2147483647 := by rw [e56]; exact ti_addc (c := 1) (n := 1) rfl x11v)
          refine ok_mono (ih x7v x8v vx42 vx49 vx55 δ I (show 0 ≤ (x1).toInt by first | with_reducible assumption | omega) (show (x1).toInt < (x2).toInt by first | with_reducible assumption | omega) (show (x2).toInt ≤ (q_I δ 3 1 nu).toInt by first | with_reducible assumption | omega) (show 2 ≤ (x4).toInt by first | with_reducible assumption | omega) (show (x4).toInt ≤ 16 by first | with_reducible assumption | omega) (show (x4).toInt ≤ K by first | with_reducible assumption | omega) (show 0 ≤ (vx55).toInt by first | with_reducible assumption | omega) (show (vx55).toInt ≤ (x7v).toInt by first | with_reducible assumption | omega) (show (x7v).toInt ≤ (x2).toInt by first | with_reducible assumption | omega) (show 0 ≤ (vx49).toInt by first | with_reducible assumption | omega) (show 1 ≤ (x8v).toInt by first | with_reducible assumption | omega) (show (x8v).toInt < (x4).toInt by first | with_reducible assumption | omega) (show (x7v).toInt - (vx55).toInt < _ by omega)) (fun r61 hr62 => ?_)
          have i63 := hr62
          have f64 := ti_b r61.1
          exact by assumption
      · have c65 : (x11v + (1 : Int32)).toInt < x7v.toInt := o_nle h23
        have o66 := gH L k_a0 hnu o4
        refine ok_at o66 ?_
        have t67 := ti_tn x11v
        refine ok_gd (fun hc68 => ?_) ?_
        · rcases hc68 with hc68 | hc68
          · have c69 : x11v.toInt < (0 : Int) := o_lt hc68
            omega
          · omega
        refine ok_at o66 ?_
        have t70 := ti_tn (x11v + (1 : Int32))
        refine ok_gd (fun hc71 => ?_) ?_
        · rcases hc71 with hc71 | hc71
          · have c72 : (x11v + (1 : Int32)).toInt < (0 : Int) := o_lt hc71
            omega
          · omega
        have f73 := ti_b ((q_R δ b3 x11v.toNatClampNeg) >>> ((x3 + x8v) &&& 31))
        have f74 := ti_b ((q_R δ b3 (x11v + (1 : Int32)).toNatClampNeg) >>> ((x3 + x8v) &&& 31))
        refine ok_ite (fun h75 => ?_) (fun h75 => ?_)
        · have c76 : ((q_R δ b3 x11v.toNatClampNeg) >>> ((x3 + x8v) &&& 31)).toInt = ((q_R δ b3 (x11v + (1 : Int32)).toNatClampNeg) >>> ((x3 + x8v) &&& 31)).toInt := o_eq h75
          unfold J_X1_cellsOf_213
          refine ok_ite (fun h77 => ?_) (fun h77 => ?_)
          · have c78 : (0 : Int) = (0 : Int) := o_eq h77
            unfold J_X1_cellsOf_244
            refine ok_biv (fun vx79 e80 => ?_)
            first | (have q81 := te_addc (c := 1) (n := 1) rfl x11v (by omega) (by omega); rw [← e80] at q81; obtain ⟨f82, f83, f84⟩ := q81) | (obtain ⟨q81, f82, f83, f84⟩ : ∃ q : Int, vx79.toInt = x11v.toInt + (1 : Int) + 4294967296 * q ∧ -2147483648 ≤ vx79.toInt ∧ vx79.toInt ≤ 2147483647 := by rw [e80]; exact ti_addc (c := 1) (n := 1) rfl x11v)
            refine ok_mono (ih x7v x8v x9v x10v vx79 δ I (show 0 ≤ (x1).toInt by first | with_reducible assumption | omega) (show (x1).toInt < (x2).toInt by first | with_reducible assumption | omega) (show (x2).toInt ≤ (q_I δ 3 1 nu).toInt by first | with_reducible assumption | omega) (show 2 ≤ (x4).toInt by first | with_reducible assumption | omega) (show (x4).toInt ≤ 16 by first | with_reducible assumption | omega) (show (x4).toInt ≤ K by first | with_reducible assumption | omega) (show 0 ≤ (vx79).toInt by first | with_reducible assumption | omega) (show (vx79).toInt ≤ (x7v).toInt by first | with_reducible assumption | omega) (show (x7v).toInt ≤ (x2).toInt by first | with_reducible assumption | omega) (show 0 ≤ (x10v).toInt by first | with_reducible assumption | omega) (show 1 ≤ (x8v).toInt by first | with_reducible assumption | omega) (show (x8v).toInt < (x4).toInt by first | with_reducible assumption | omega) (show (x7v).toInt - (vx79).toInt < _ by omega)) (fun r85 hr86 => ?_)
            have i87 := hr86
            have f88 := ti_b r85.1
            exact by assumption
          · have c89 : (0 : Int) ≠ (0 : Int) := o_ne h77
            refine ok_bind (hT a0 x10v (x11v + (1 : Int32)) x3 x8v δ nu k_a0 hnu knu (show 0 ≤ (x10v).toInt by first | with_reducible assumption | omega) (show ((x11v + (1 : Int32))).toInt ≤ (q_I δ 3 1 nu).toInt by first | with_reducible assumption | omega) (show 0 ≤ (x8v).toInt by first | with_reducible assumption | omega) (show (x8v).toInt ≤ 16 by first | with_reducible assumption | omega) (show (x8v).toInt < _ by first | with_reducible assumption | omega) I) (fun r90 hr91 => ?_)
            have i92 := hr91
            try rw [i92]
            have f93 := ti_b r90.1
            have f96 := ti_b x9v
            refine ok_biv (fun vx94 e95 => ?_)
            first | (have q97 := te_add x9v r90.1 (by omega) (by omega); rw [← e95] at q97; obtain ⟨f98, f99, f100⟩ := q97) | (obtain ⟨q97, f98, f99, f100⟩ : ∃ q : Int, vx94.toInt = x9v.toInt + r90.1.toInt + 4294967296 * q ∧ -2147483648 ≤ vx94.toInt ∧ vx94.toInt ≤ 2147483647 := by rw [e95]; exact ti_add x9v r90.1)
            refine ok_biv (fun vx101 e102 => ?_)
            first | (have q103 := te_addc (c := 1) (n := 1) rfl x11v (by omega) (by omega); rw [← e102] at q103; obtain ⟨f104, f105, f106⟩ := q103) | (obtain ⟨q103, f104, f105, f106⟩ : ∃ q : Int, vx101.toInt = x11v.toInt + (1 : Int) + 4294967296 * q ∧ -2147483648 ≤ vx101.toInt ∧ vx101.toInt ≤ 2147483647 := by rw [e102]; exact ti_addc (c := 1) (n := 1) rfl x11v)
            unfold J_X1_cellsOf_244
            refine ok_biv (fun vx107 e108 => ?_)
            first | (have q109 := te_addc (c := 1) (n := 1) rfl x11v (by omega) (by omega); rw [← e108] at q109; obtain ⟨f110, f111, f112⟩ := q109) | (obtain ⟨q109, f110, f111, f112⟩ : ∃ q : Int, vx107.toInt = x11v.toInt + (1 : Int) + 4294967296 * q ∧ -2147483648 ≤ vx107.toInt ∧ vx107.toInt ≤ 2147483647 := by rw [e108]; exact ti_addc (c := 1) (n := 1) rfl x11v)
            refine ok_mono (ih x7v x8v vx94 vx101 vx107 δ I (show 0 ≤ (x1).toInt by first | with_reducible assumption | omega) (show (x1).toInt < (x2).toInt by first | with_reducible assumption | omega) (show (x2).toInt ≤ (q_I δ 3 1 nu).toInt by first | with_reducible assumption | omega) (show 2 ≤ (x4).toInt by first | with_reducible assumption | omega) (show (x4).toInt ≤ 16 by first | with_reducible assumption | omega) (show (x4).toInt ≤ K by first | with_reducible assumption | omega) (show 0 ≤ (vx107).toInt by first | with_reducible assumption | omega) (show (vx107).toInt ≤ (x7v).toInt by first | with_reducible assumption | omega) (show (x7v).toInt ≤ (x2).toInt by first | with_reducible assumption | omega) (show 0 ≤ (vx101).toInt by first | with_reducible assumption | omega) (show 1 ≤ (x8v).toInt by first | with_reducible assumption | omega) (show (x8v).toInt < (x4).toInt by first | with_reducible assumption | omega) (show (x7v).toInt - (vx107).toInt < _ by omega)) (fun r113 hr114 => ?_)
            have i115 := hr114
            have f116 := ti_b r113.1
            exact by assumption
        · have c117 : ((q_R δ b3 x11v.toNatClampNeg) >>> ((x3 + x8v) &&& 31)).toInt ≠ ((q_R δ b3 (x11v + (1 : Int32)).toNatClampNeg) >>> ((x3 + x8v) &&& 31)).toInt := o_ne h75
          unfold J_X1_cellsOf_208
          unfold J_X1_cellsOf_213
          refine ok_ite (fun h118 => ?_) (fun h118 => ?_)
          · have c119 : (1 : Int) = (0 : Int) := o_eq h118
            unfold J_X1_cellsOf_244
            refine ok_biv (fun vx120 e121 => ?_)
            first | (have q122 := te_addc (c := 1) (n := 1) rfl x11v (by omega) (by omega); rw [← e121] at q122; obtain ⟨f123, f124, f125⟩ := q122) | (obtain ⟨q122, f123, f124, f125⟩ : ∃ q : Int, vx120.toInt = x11v.toInt + (1 : Int) + 4294967296 * q ∧ -2147483648 ≤ vx120.toInt ∧ vx120.toInt ≤ 2147483647 := by rw [e121]; exact ti_addc (c := 1) (n := 1) rfl x11v)
            refine ok_mono (ih x7v x8v x9v x10v vx120 δ I (show 0 ≤ (x1).toInt by first | with_reducible assumption | omega) (show (x1).toInt < (x2).toInt by first | with_reducible assumption | omega) (show (x2).toInt ≤ (q_I δ 3 1 nu).toInt by first | with_reducible assumption | omega) (show 2 ≤ (x4).toInt by first | with_reducible assumption | omega) (show (x4).toInt ≤ 16 by first | with_reducible assumption | omega) (show (x4).toInt ≤ K by first | with_reducible assumption | omega) (show 0 ≤ (vx120).toInt by first | with_reducible assumption | omega) (show (vx120).toInt ≤ (x7v).toInt by first | with_reducible assumption | omega) (show (x7v).toInt ≤ (x2).toInt by first | with_reducible assumption | omega) (show 0 ≤ (x10v).toInt by first | with_reducible assumption | omega) (show 1 ≤ (x8v).toInt by first | with_reducible assumption | omega) (show (x8v).toInt < (x4).toInt by first | with_reducible assumption | omega) (show (x7v).toInt - (vx120).toInt < _ by omega)) (fun r126 hr127 => ?_)
            have i128 := hr127
            have f129 := ti_b r126.1
            exact by assumption
          · have c130 : (1 : Int) ≠ (0 : Int) := o_ne h118
            refine ok_bind (hT a0 x10v (x11v + (1 : Int32)) x3 x8v δ nu k_a0 hnu knu (show 0 ≤ (x10v).toInt by first | with_reducible assumption | omega) (show ((x11v + (1 : Int32))).toInt ≤ (q_I δ 3 1 nu).toInt by first | with_reducible assumption | omega) (show 0 ≤ (x8v).toInt by first | with_reducible assumption | omega) (show (x8v).toInt ≤ 16 by first | with_reducible assumption | omega) (show (x8v).toInt < _ by first | with_reducible assumption | omega) I) (fun r131 hr132 => ?_)
            have i133 := hr132
            try rw [i133]
            have f134 := ti_b r131.1
            have f137 := ti_b x9v
            refine ok_biv (fun vx135 e136 => ?_)
            first | (have q138 := te_add x9v r131.1 (by omega) (by omega); rw [← e136] at q138; obtain ⟨f139, f140, f141⟩ := q138) | (obtain ⟨q138, f139, f140, f141⟩ : ∃ q : Int, vx135.toInt = x9v.toInt + r131.1.toInt + 4294967296 * q ∧ -2147483648 ≤ vx135.toInt ∧ vx135.toInt ≤ 2147483647 := by rw [e136]; exact ti_add x9v r131.1)
            refine ok_biv (fun vx142 e143 => ?_)
            first | (have q144 := te_addc (c := 1) (n := 1) rfl x11v (by omega) (by omega); rw [← e143] at q144; obtain ⟨f145, f146, f147⟩ := q144) | (obtain ⟨q144, f145, f146, f147⟩ : ∃ q : Int, vx142.toInt = x11v.toInt + (1 : Int) + 4294967296 * q ∧ -2147483648 ≤ vx142.toInt ∧ vx142.toInt ≤ 2147483647 := by rw [e143]; exact ti_addc (c := 1) (n := 1) rfl x11v)
            unfold J_X1_cellsOf_244
            refine ok_biv (fun vx148 e149 => ?_)
            first | (have q150 := te_addc (c := 1) (n := 1) rfl x11v (by omega) (by omega); rw [← e149] at q150; obtain ⟨f151, f152, f153⟩ := q150) | (obtain ⟨q150, f151, f152, f153⟩ : ∃ q : Int, vx148.toInt = x11v.toInt + (1 : Int) + 4294967296 * q ∧ -2147483648 ≤ vx148.toInt ∧ vx148.toInt ≤ 2147483647 := by rw [e149]; exact ti_addc (c := 1) (n := 1) rfl x11v)
            refine ok_mono (ih x7v x8v vx135 vx142 vx148 δ I (show 0 ≤ (x1).toInt by first | with_reducible assumption | omega) (show (x1).toInt < (x2).toInt by first | with_reducible assumption | omega) (show (x2).toInt ≤ (q_I δ 3 1 nu).toInt by first | with_reducible assumption | omega) (show 2 ≤ (x4).toInt by first | with_reducible assumption | omega) (show (x4).toInt ≤ 16 by first | with_reducible assumption | omega) (show (x4).toInt ≤ K by first | with_reducible assumption | omega) (show 0 ≤ (vx148).toInt by first | with_reducible assumption | omega) (show (vx148).toInt ≤ (x7v).toInt by first | with_reducible assumption | omega) (show (x7v).toInt ≤ (x2).toInt by first | with_reducible assumption | omega) (show 0 ≤ (vx142).toInt by first | with_reducible assumption | omega) (show 1 ≤ (x8v).toInt by first | with_reducible assumption | omega) (show (x8v).toInt < (x4).toInt by first | with_reducible assumption | omega) (show (x7v).toInt - (vx148).toInt < _ by omega)) (fun r154 hr155 => ?_)
            have i156 := hr155
            have f157 := ti_b r154.1
            exact by assumption
set_option maxHeartbeats 4000000 in
theorem kl_X1_cellsOf_80 {ad : List Nat} {h : hp} (L : Lay TLx ad h) {δ0 : dp} {N : Nat} (hN : 10000000 ≤ N) {T : Nat → Int32 → Int32 → Int32 → Int32 → dp → Option (Int32 × dp)} {K : Int} (hT : ∀ (a0 : Nat) (x1 : Int32) (x2 : Int32) (x3 : Int32) (x4 : Int32) (δ : dp) (nu : Nat), q_K h.1 a0 = 1 → q_O h.1 1 1 a0 = some nu → q_K h.1 nu = 3 → 0 ≤ (x1).toInt → (x2).toInt ≤ (q_I δ 3 1 nu).toInt → 0 ≤ (x4).toInt → (x4).toInt ≤ 16 → (x4).toInt < K → CI ad h.1 δ0 δ → ok (T a0 x1 x2 x3 x4 δ) (fun r => r.2 = δ)) {a0 : Nat} {x1 : Int32} {x2 : Int32} {x3 : Int32} {x4 : Int32} {nu : Nat} (k_a0 : q_K h.1 a0 = 1) (hnu : q_O h.1 1 1 a0 = some nu) (knu : q_K h.1 nu = 3) : ∀ (n : Nat) (x5v : Int32) (x6v : Int32) (x7v : Int32) (δ : dp), CI ad h.1 δ0 δ → 0 ≤ (x1).toInt → (x1).toInt < (x2).toInt → (x2).toInt ≤ (q_I δ 3 1 nu).toInt → 2 ≤ (x4).toInt → (x4).toInt ≤ 16 → (x4).toInt ≤ K → (x1).toInt ≤ (x6v).toInt → (x6v).toInt ≤ (x7v).toInt → (x7v).toInt ≤ (x2).toInt → (x7v).toInt - (x6v).toInt < (n : Int) → ok (L_X1_cellsOf_80 N h.1 T a0 x1 x2 x3 x4 n x5v x6v x7v δ) (fun r => r.2 = δ) := by
  intro n
  induction n with
  | zero =>
    intro x5v x6v x7v δ I j0 j1 j2 j3 j4 j5 j6 j7 j8 hm
    have f1 := ti_b x1
    have f2 := ti_b x2
    obtain ⟨b3, o4, k5, ⟨n6, n7⟩, w8⟩ := gO_3_0 L knu
    have f9 := cb_3_1 I knu o4
    have f10 := ti_b x4
    have f11 := ti_b x6v
    have f12 := ti_b x7v
    exfalso; omega
  | succ n ih =>
    intro x5v x6v x7v δ I j0 j1 j2 j3 j4 j5 j6 j7 j8 hm
    unfold L_X1_cellsOf_80
    have f1 := ti_b x1
    have f2 := ti_b x2
    obtain ⟨b3, o4, k5, ⟨n6, n7⟩, w8⟩ := gO_3_0 L knu
    have f9 := cb_3_1 I knu o4
    have f10 := ti_b x4
    have f11 := ti_b x6v
    have f12 := ti_b x7v
    refine ok_ite (fun h13 => ?_) (fun h13 => ?_)
    · have c14 : x7v.toInt ≤ x6v.toInt := o_le h13
      unfold J_X1_cellsOf_123
      obtain ⟨b15, o16, k17⟩ := gO_1_0 L k_a0
      refine ok_at o16 ?_
      refine ok_bind (k_X5_lowerBits L hN (a0 := b15) (x1 := x4) k17 I) (fun r18 hr19 => ?_)
      obtain ⟨i20, p21⟩ := hr19
      try rw [i20]
      have f22 := ti_b r18.1
      first | (have q26 := te_sub x4 r18.1 (by omega) (by omega); obtain ⟨f27, f28, f29⟩ := q26) | (obtain ⟨q26, f27, f28, f29⟩ := ti_sub x4 r18.1)
      refine ok_bind (hT a0 x6v x7v (x3 + r18.1) (x4 - r18.1) δ nu k_a0 hnu knu (show 0 ≤ (x6v).toInt by first | with_reducible assumption | omega) (show (x7v).toInt ≤ (q_I δ 3 1 nu).toInt by first | with_reducible assumption | omega) (show 0 ≤ ((x4 - r18.1)).toInt by first | with_reducible assumption | omega) (show ((x4 - r18.1)).toInt ≤ 16 by first | with_reducible assumption | omega) (show ((x4 - r18.1)).toInt < _ by first | with_reducible assumption | omega) I) (fun r23 hr24 => ?_)
      have i30 := hr24
      try rw [i30]
      have f31 := ti_b r23.1
      refine ok_biv (fun vx32 e33 => ?_)
      first | (have q34 := te_cadd (c := 2) (n := 2) rfl r23.1 (by omega) (by omega); rw [← e33] at q34; obtain ⟨f35, f36, f37⟩ := q34) | (obtain ⟨q34, f35, f36, f37⟩ : ∃ q : Int, vx32.toInt = (2 : Int) + r23.1.toInt + 4294967296 * q ∧ -2147483648 ≤ vx32.toInt ∧ vx32.toInt ≤ 2147483647 := by rw [e33]; exact ti_cadd (c := 2) (n := 2) rfl r23.1)
      refine ok_mono (kl_X1_cellsOf_163 L hN   hT k_a0 hnu knu _ x7v r18.1 vx32 x6v x6v δ I (show 0 ≤ (x1).toInt by first | with_reducible assumption | omega) (show (x1).toInt < (x2).toInt by first | with_reducible assumption | omega) (show (x2).toInt ≤ (q_I δ 3 1 nu).toInt by first | with_reducible assumption | omega) (show 2 ≤ (x4).toInt by first | with_reducible assumption | omega) (show (x4).toInt ≤ 16 by first | with_reducible assumption | omega) (show (x4).toInt ≤ K by first | with_reducible assumption | omega) (show 0 ≤ (x6v).toInt by first | with_reducible assumption | omega) (show (x6v).toInt ≤ (x7v).toInt by first | with_reducible assumption | omega) (show (x7v).toInt ≤ (x2).toInt by first | with_reducible assumption | omega) (show 0 ≤ (x6v).toInt by first | with_reducible assumption | omega) (show 1 ≤ (r18.1).toInt by first | with_reducible assumption | omega) (show (r18.1).toInt < (x4).toInt by first | with_reducible assumption | omega) (show (x7v).toInt - (x6v).toInt < _ by omega)) (fun r38 hr39 => ?_)
      have i40 := hr39
      have f41 := ti_b r38.1
      exact by assumption
    · have c42 : x6v.toInt < x7v.toInt := o_nle h13
      have o43 := gH L k_a0 hnu o4
      refine ok_at o43 ?_
      first | (have q45 := te_subc (c := 1) (n := 1) rfl x7v (by omega) (by omega); obtain ⟨f46, f47, f48⟩ := q45) | (obtain ⟨q45, f46, f47, f48⟩ := ti_subc (c := 1) (n := 1) rfl x7v)
      have t49 := ti_tn (x7v - (1 : Int32))
      refine ok_gd (fun hc50 => ?_) ?_
      · rcases hc50 with hc50 | hc50
        · have c51 : (x7v - (1 : Int32)).toInt < (0 : Int) := o_lt hc50
          omega
        · omega
      refine ok_at o43 ?_
      first | (have q53 := te_subc (c := 1) (n := 1) rfl x2 (by omega) (by omega); obtain ⟨f54, f55, f56⟩ := q53) | (obtain ⟨q53, f54, f55, f56⟩ := ti_subc (c := 1) (n := 1) rfl x2)
      have t57 := ti_tn (x2 - (1 : Int32))
      refine ok_gd (fun hc58 => ?_) ?_
      · rcases hc58 with hc58 | hc58
        · have c59 : (x2 - (1 : Int32)).toInt < (0 : Int) := o_lt hc58
          omega
        · omega
      have f60 := ti_b (((q_R δ b3 (x7v - (1 : Int32)).toNatClampNeg) >>> (x3 &&& 31)) &&& x5v)
      have f61 := ti_b (((q_R δ b3 (x2 - (1 : Int32)).toNatClampNeg) >>> (x3 &&& 31)) &&& x5v)
      refine ok_ite (fun h62 => ?_) (fun h62 => ?_)
      · have c63 : (((q_R δ b3 (x7v - (1 : Int32)).toNatClampNeg) >>> (x3 &&& 31)) &&& x5v).toInt = (((q_R δ b3 (x2 - (1 : Int32)).toNatClampNeg) >>> (x3 &&& 31)) &&& x5v).toInt := o_eq h62
        refine ok_biv (fun vx64 e65 => ?_)
        first | (have q66 := te_addc (c := -1) (n := -1) (by decide) x7v (by omega) (by omega); rw [← e65] at q66; obtain ⟨f67, f68, f69⟩ := q66) | (obtain ⟨q66, f67, f68, f69⟩ : ∃ q : Int, vx64.toInt = x7v.toInt + (-1 : Int) + 4294967296 * q ∧ -2147483648 ≤ vx64.toInt ∧ vx64.toInt ≤ 2147483647 := by rw [e65]; exact ti_addc (c := -1) (n := -1) (by decide) x7v)
        refine ok_mono (ih x5v x6v vx64 δ I (show 0 ≤ (x1).toInt by first | with_reducible assumption | omega) (show (x1).toInt < (x2).toInt by first | with_reducible assumption | omega) (show (x2).toInt ≤ (q_I δ 3 1 nu).toInt by first | with_reducible assumption | omega) (show 2 ≤ (x4).toInt by first | with_reducible assumption | omega) (show (x4).toInt ≤ 16 by first | with_reducible assumption | omega) (show (x4).toInt ≤ K by first | with_reducible assumption | omega) (show (x1).toInt ≤ (x6v).toInt by first | with_reducible assumption | omega) (show (x6v).toInt ≤ (vx64).toInt by first | with_reducible assumption | omega) (show (vx64).toInt ≤ (x2).toInt by first | with_reducible assumption | omega) (show (vx64).toInt - (x6v).toInt < _ by omega)) (fun r70 hr71 => ?_)
        have i72 := hr71
        have f73 := ti_b r70.1
        exact by assumption
      · have c74 : (((q_R δ b3 (x7v - (1 : Int32)).toNatClampNeg) >>> (x3 &&& 31)) &&& x5v).toInt ≠ (((q_R δ b3 (x2 - (1 : Int32)).toNatClampNeg) >>> (x3 &&& 31)) &&& x5v).toInt := o_ne h62
        unfold J_X1_cellsOf_123
        obtain ⟨b75, o76, k77⟩ := gO_1_0 L k_a0
        refine ok_at o76 ?_
        refine ok_bind (k_X5_lowerBits L hN (a0 := b75) (x1 := x4) k77 I) (fun r78 hr79 => ?_)
        obtain ⟨i80, p81⟩ := hr79
        try rw [i80]
        have f82 := ti_b r78.1
        first | (have q86 := te_sub x4 r78.1 (by omega) (by omega); obtain ⟨f87, f88, f89⟩ := q86) | (obtain ⟨q86, f87, f88, f89⟩ := ti_sub x4 r78.1)
        refine ok_bind (hT a0 x6v x7v (x3 + r78.1) (x4 - r78.1) δ nu k_a0 hnu knu (show 0 ≤ (x6v).toInt by first | with_reducible assumption | omega) (show (x7v).toInt ≤ (q_I δ 3 1 nu).toInt by first | with_reducible assumption | omega) (show 0 ≤ ((x4 - r78.1)).toInt by first | with_reducible assumption | omega) (show ((x4 - r78.1)).toInt ≤ 16 by first | with_reducible assumption | omega) (show ((x4 - r78.1)).toInt < _ by first | with_reducible assumption | omega) I) (fun r83 hr84 => ?_)
        have i90 := hr84
        try rw [i90]
        have f91 := ti_b r83.1
        refine ok_biv (fun vx92 e93 => ?_)
        first | (have q94 := te_cadd (c := 2) (n := 2) rfl r83.1 (by omega) (by omega); rw [← e93] at q94; obtain ⟨f95, f96, f97⟩ := q94) | (obtain ⟨q94, f95, f96, f97⟩ : ∃ q : Int, vx92.toInt = (2 : Int) + r83.1.toInt + 4294967296 * q ∧ -2147483648 ≤ vx92.toInt ∧ vx92.toInt ≤ 2147483647 := by rw [e93]; exact ti_cadd (c := 2) (n := 2) rfl r83.1)
        refine ok_mono (kl_X1_cellsOf_163 L hN   hT k_a0 hnu knu _ x7v r78.1 vx92 x6v x6v δ I (show 0 ≤ (x1).toInt by first | with_reducible assumption | omega) (show (x1).toInt < (x2).toInt by first | with_reducible assumption | omega) (show (x2).toInt ≤ (q_I δ 3 1 nu).toInt by first | with_reducible assumption | omega) (show 2 ≤ (x4).toInt by first | with_reducible assumption | omega) (show (x4).toInt ≤ 16 by first | with_reducible assumption | omega) (show (x4).toInt ≤ K by first | with_reducible assumption | omega) (show 0 ≤ (x6v).toInt by first | with_reducible assumption | omega) (show (x6v).toInt ≤ (x7v).toInt by first | with_reducible assumption | omega) (show (x7v).toInt ≤ (x2).toInt by first | with_reducible assumption | omega) (show 0 ≤ (x6v).toInt by first | with_reducible assumption | omega) (show 1 ≤ (r78.1).toInt by first | with_reducible assumption | omega) (show (r78.1).toInt < (x4).toInt by first | with_reducible assumption | omega) (show (x7v).toInt - (x6v).toInt < _ by omega)) (fun r98 hr99 => ?_)
        have i100 := hr99
        have f101 := ti_b r98.1
        exact by assumption
set_option maxHeartbeats 4000000 in
theorem kl_X1_cellsOf_39 {ad : List Nat} {h : hp} (L : Lay TLx ad h) {δ0 : dp} {N : Nat} (hN : 10000000 ≤ N) {T : Nat → Int32 → Int32 → Int32 → Int32 → dp → Option (Int32 × dp)} {K : Int} (hT : ∀ (a0 : Nat) (x1 : Int32) (x2 : Int32) (x3 : Int32) (x4 : Int32) (δ : dp) (nu : Nat), q_K h.1 a0 = 1 → q_O h.1 1 1 a0 = some nu → q_K h.1 nu = 3 → 0 ≤ (x1).toInt → (x2).toInt ≤ (q_I δ 3 1 nu).toInt → 0 ≤ (x4).toInt → (x4).toInt ≤ 16 → (x4).toInt < K → CI ad h.1 δ0 δ → ok (T a0 x1 x2 x3 x4 δ) (fun r => r.2 = δ)) {a0 : Nat} {x1 : Int32} {x2 : Int32} {x3 : Int32} {x4 : Int32} {nu : Nat} (k_a0 : q_K h.1 a0 = 1) (hnu : q_O h.1 1 1 a0 = some nu) (knu : q_K h.1 nu = 3) : ∀ (n : Nat) (x5v : Int32) (x6v : Int32) (δ : dp), CI ad h.1 δ0 δ → 0 ≤ (x1).toInt → (x1).toInt < (x2).toInt → (x2).toInt ≤ (q_I δ 3 1 nu).toInt → 2 ≤ (x4).toInt → (x4).toInt ≤ 16 → (x4).toInt ≤ K → (x1).toInt ≤ (x6v).toInt → (x6v).toInt ≤ (x2).toInt → (x2).toInt - (x6v).toInt < (n : Int) → ok (L_X1_cellsOf_39 N h.1 T a0 x1 x2 x3 x4 n x5v x6v δ) (fun r => r.2 = δ) := by
  intro n
  induction n with
  | zero =>
    intro x5v x6v δ I j0 j1 j2 j3 j4 j5 j6 j7 hm
    have f1 := ti_b x1
    have f2 := ti_b x2
    obtain ⟨b3, o4, k5, ⟨n6, n7⟩, w8⟩ := gO_3_0 L knu
    have f9 := cb_3_1 I knu o4
    have f10 := ti_b x4
    have f11 := ti_b x6v
    exfalso; omega
  | succ n ih =>
    intro x5v x6v δ I j0 j1 j2 j3 j4 j5 j6 j7 hm
    unfold L_X1_cellsOf_39
    have f1 := ti_b x1
    have f2 := ti_b x2
    obtain ⟨b3, o4, k5, ⟨n6, n7⟩, w8⟩ := gO_3_0 L knu
    have f9 := cb_3_1 I knu o4
    have f10 := ti_b x4
    have f11 := ti_b x6v
    refine ok_ite (fun h12 => ?_) (fun h12 => ?_)
    · have c13 : x2.toInt ≤ x6v.toInt := o_le h12
      unfold J_X1_cellsOf_77
      refine ok_mono (kl_X1_cellsOf_80 L hN   hT k_a0 hnu knu _ x5v x6v x2 δ I (show 0 ≤ (x1).toInt by first | with_reducible assumption | omega) (show (x1).toInt < (x2).toInt by first | with_reducible assumption | omega) (show (x2).toInt ≤ (q_I δ 3 1 nu).toInt by first | with_reducible assumption | omega) (show 2 ≤ (x4).toInt by first | with_reducible assumption | omega) (show (x4).toInt ≤ 16 by first | with_reducible assumption | omega) (show (x4).toInt ≤ K by first | with_reducible assumption | omega) (show (x1).toInt ≤ (x6v).toInt by first | with_reducible assumption | omega) (show (x6v).toInt ≤ (x2).toInt by first | with_reducible assumption | omega) (show (x2).toInt ≤ (x2).toInt by first | with_reducible assumption | omega) (show (x2).toInt - (x6v).toInt < _ by omega)) (fun r14 hr15 => ?_)
      have i16 := hr15
      have f17 := ti_b r14.1
      exact by assumption
    · have c18 : x6v.toInt < x2.toInt := o_nle h12
      have o19 := gH L k_a0 hnu o4
      refine ok_at o19 ?_
      have t20 := ti_tn x6v
      refine ok_gd (fun hc21 => ?_) ?_
      · rcases hc21 with hc21 | hc21
        · have c22 : x6v.toInt < (0 : Int) := o_lt hc21
          omega
        · omega
      refine ok_at o19 ?_
      have t23 := ti_tn x1
      refine ok_gd (fun hc24 => ?_) ?_
      · rcases hc24 with hc24 | hc24
        · have c25 : x1.toInt < (0 : Int) := o_lt hc24
          omega
        · omega
      have f26 := ti_b (((q_R δ b3 x6v.toNatClampNeg) >>> (x3 &&& 31)) &&& x5v)
      have f27 := ti_b (((q_R δ b3 x1.toNatClampNeg) >>> (x3 &&& 31)) &&& x5v)
      refine ok_ite (fun h28 => ?_) (fun h28 => ?_)
      · have c29 : (((q_R δ b3 x6v.toNatClampNeg) >>> (x3 &&& 31)) &&& x5v).toInt = (((q_R δ b3 x1.toNatClampNeg) >>> (x3 &&& 31)) &&& x5v).toInt := o_eq h28
        refine ok_biv (fun vx30 e31 => ?_)
        first | (have q32 := te_addc (c := 1) (n := 1) rfl x6v (by omega) (by omega); rw [← e31] at q32; obtain ⟨f33, f34, f35⟩ := q32) | (obtain ⟨q32, f33, f34, f35⟩ : ∃ q : Int, vx30.toInt = x6v.toInt + (1 : Int) + 4294967296 * q ∧ -2147483648 ≤ vx30.toInt ∧ vx30.toInt ≤ 2147483647 := by rw [e31]; exact ti_addc (c := 1) (n := 1) rfl x6v)
        refine ok_mono (ih x5v vx30 δ I (show 0 ≤ (x1).toInt by first | with_reducible assumption | omega) (show (x1).toInt < (x2).toInt by first | with_reducible assumption | omega) (show (x2).toInt ≤ (q_I δ 3 1 nu).toInt by first | with_reducible assumption | omega) (show 2 ≤ (x4).toInt by first | with_reducible assumption | omega) (show (x4).toInt ≤ 16 by first | with_reducible assumption | omega) (show (x4).toInt ≤ K by first | with_reducible assumption | omega) (show (x1).toInt ≤ (vx30).toInt by first | with_reducible assumption | omega) (show (vx30).toInt ≤ (x2).toInt by first | with_reducible assumption | omega) (show (x2).toInt - (vx30).toInt < _ by omega)) (fun r36 hr37 => ?_)
        have i38 := hr37
        have f39 := ti_b r36.1
        exact by assumption
      · have c40 : (((q_R δ b3 x6v.toNatClampNeg) >>> (x3 &&& 31)) &&& x5v).toInt ≠ (((q_R δ b3 x1.toNatClampNeg) >>> (x3 &&& 31)) &&& x5v).toInt := o_ne h28
        unfold J_X1_cellsOf_77
        refine ok_mono (kl_X1_cellsOf_80 L hN   hT k_a0 hnu knu _ x5v x6v x2 δ I (show 0 ≤ (x1).toInt by first | with_reducible assumption | omega) (show (x1).toInt < (x2).toInt by first | with_reducible assumption | omega) (show (x2).toInt ≤ (q_I δ 3 1 nu).toInt by first | with_reducible assumption | omega) (show 2 ≤ (x4).toInt by first | with_reducible assumption | omega) (show (x4).toInt ≤ 16 by first | with_reducible assumption | omega) (show (x4).toInt ≤ K by first | with_reducible assumption | omega) (show (x1).toInt ≤ (x6v).toInt by first | with_reducible assumption | omega) (show (x6v).toInt ≤ (x2).toInt by first | with_reducible assumption | omega) (show (x2).toInt ≤ (x2).toInt by first | with_reducible assumption | omega) (show (x2).toInt - (x6v).toInt < _ by omega)) (fun r41 hr42 => ?_)
        have i43 := hr42
        have f44 := ti_b r41.1
        exact by assumption
set_option maxHeartbeats 4000000 in
theorem ke_X1_cellsOf {ad : List Nat} {h : hp} (L : Lay TLx ad h) {δ0 : dp} {N : Nat} (hN : 10000000 ≤ N) : ∀ (k : Nat), ∀ (a0 : Nat) (x1 : Int32) (x2 : Int32) (x3 : Int32) (x4 : Int32) (δ : dp) (nu : Nat), q_K h.1 a0 = 1 → q_O h.1 1 1 a0 = some nu → q_K h.1 nu = 3 → 0 ≤ (x1).toInt → (x2).toInt ≤ (q_I δ 3 1 nu).toInt → 0 ≤ (x4).toInt → (x4).toInt ≤ 16 → (x4).toInt < (k : Int) → CI ad h.1 δ0 δ → ok (E_X1_cellsOf N h.1 k a0 x1 x2 x3 x4 δ) (fun r => r.2 = δ) := by
  intro k
  induction k with
  | zero =>
    intro a0 x1 x2 x3 x4 δ nu k_a0 hnu knu z0 z1 z2 z3 hd I
    exfalso; omega
  | succ k ih =>
    intro a0 x1 x2 x3 x4 δ nu k_a0 hnu knu z0 z1 z2 z3 hd I
    unfold E_X1_cellsOf B_X1_cellsOf
    have f1 := ti_b x1
    have f2 := ti_b x2
    obtain ⟨b3, o4, k5, ⟨n6, n7⟩, w8⟩ := gO_3_0 L knu
    have f9 := cb_3_1 I knu o4
    have f10 := ti_b x4
    refine ok_ite (fun h11 => ?_) (fun h11 => ?_)
    · have c12 : x2.toInt ≤ x1.toInt := o_le h11
      unfold J_X1_cellsOf_17
      refine ok_ite (fun h13 => ?_) (fun h13 => ?_)
      · have c14 : x1.toInt < x2.toInt := o_lt h13
        unfold J_X1_cellsOf_27
        exact ok_some (show δ = δ from rfl)
      · have c15 : x2.toInt ≤ x1.toInt := o_nlt h13
        unfold J_X1_cellsOf_27
        exact ok_some (show δ = δ from rfl)
    · have c16 : x1.toInt < x2.toInt := o_nle h11
      obtain ⟨b17, o18, k19⟩ := gO_1_0 L k_a0
      refine ok_at o18 ?_
      have f20 := cb_5_2 I k19
      refine ok_ite (fun h21 => ?_) (fun h21 => ?_)
      · have c22 : (q_I δ 5 2 b17).toInt < x4.toInt := o_lt h21
        have f25 := sh_b x4
        have f26 := ti_b ((1 : Int32) <<< (x4 &&& 31))
        refine ok_biv (fun vx23 e24 => ?_)
        first | (have q27 := te_subc (c := 1) (n := 1) rfl ((1 : Int32) <<< (x4 &&& 31)) (by omega) (by omega); rw [← e24] at q27; obtain ⟨f28, f29, f30⟩ := q27) | (obtain ⟨q27, f28, f29, f30⟩ : ∃ q : Int, vx23.toInt = ((1 : Int32) <<< (x4 &&& 31)).toInt - (1 : Int) + 4294967296 * q ∧ -2147483648 ≤ vx23.toInt ∧ vx23.toInt ≤ 2147483647 := by rw [e24]; exact ti_subc (c := 1) (n := 1) rfl ((1 : Int32) <<< (x4 &&& 31)))
        refine ok_mono (kl_X1_cellsOf_39 L hN   ih k_a0 hnu knu _ vx23 x1 δ I (show 0 ≤ (x1).toInt by first | with_reducible assumption | omega) (show (x1).toInt < (x2).toInt by first | with_reducible assumption | omega) (show (x2).toInt ≤ (q_I δ 3 1 nu).toInt by first | with_reducible assumption | omega) (show 2 ≤ (x4).toInt by first | with_reducible assumption | omega) (show (x4).toInt ≤ 16 by first | with_reducible assumption | omega) (show (x4).toInt ≤ (k : Int) by first | with_reducible assumption | omega) (show (x1).toInt ≤ (x1).toInt by first | with_reducible assumption | omega) (show (x1).toInt ≤ (x2).toInt by first | with_reducible assumption | omega) (show (x2).toInt - (x1).toInt < _ by omega)) (fun r31 hr32 => ?_)
        have i33 := hr32
        have f34 := ti_b r31.1
        exact by assumption
      · have c35 : x4.toInt ≤ (q_I δ 5 2 b17).toInt := o_nlt h21
        unfold J_X1_cellsOf_17
        refine ok_ite (fun h36 => ?_) (fun h36 => ?_)
        · have c37 : x1.toInt < x2.toInt := o_lt h36
          unfold J_X1_cellsOf_27
          exact ok_some (show δ = δ from rfl)
        · have c38 : x2.toInt ≤ x1.toInt := o_nlt h36
          unfold J_X1_cellsOf_27
          exact ok_some (show δ = δ from rfl)
set_option maxHeartbeats 4000000 in
theorem k_X1_cellsOf {ad : List Nat} {h : hp} (L : Lay TLx ad h) {δ0 : dp} {N : Nat} (hN : 10000000 ≤ N) {a0 : Nat} {x1 : Int32} {x2 : Int32} {x3 : Int32} {x4 : Int32} {nu : Nat} (k_a0 : q_K h.1 a0 = 1) (hnu : q_O h.1 1 1 a0 = some nu) (knu : q_K h.1 nu = 3) {δ : dp} (z0 : 0 ≤ (x1).toInt) (z1 : (x2).toInt ≤ (q_I δ 3 1 nu).toInt) (z2 : 0 ≤ (x4).toInt) (z3 : (x4).toInt ≤ 16) (hd : (x4).toInt < 20) (I : CI ad h.1 δ0 δ) : ok (D_X1_cellsOf N h.1 a0 x1 x2 x3 x4 δ) (fun r => r.2 = δ) := ke_X1_cellsOf L hN 20 a0 x1 x2 x3 x4 δ nu k_a0 hnu knu z0 z1 z2 z3 hd I
set_option maxHeartbeats 4000000 in
theorem k_X1_allCells {ad : List Nat} {h : hp} (L : Lay TLx ad h) {δ0 : dp} {N : Nat} (hN : 10000000 ≤ N) {a0 : Nat} (k_a0 : q_K h.1 a0 = 1) {δ : dp} (I : CI ad h.1 δ0 δ) : ok (D_X1_allCells N h.1 a0 δ) (fun r => r.2 = δ) := by
  unfold D_X1_allCells
  obtain ⟨b1, o2, k3⟩ := gO_1_1 L k_a0
  refine ok_at o2 ?_
  obtain ⟨b4, o5, k6⟩ := gO_1_0 L k_a0
  refine ok_at o5 ?_
  obtain ⟨b9, o10, k11, ⟨n12, n13⟩, w14⟩ := gO_3_0 L k3
  have f15 := cb_3_1 I k3 o10
  have f16 := cb_5_0 I k6
  refine ok_bind (k_X1_cellsOf L hN (a0 := a0) (x1 := (0 : Int32)) (x2 := (q_I δ 3 1 b1)) (x3 := (0 : Int32)) (x4 := (q_I δ 5 0 b4)) k_a0 o2 k3 (show 0 ≤ (0 : Int) by first | with_reducible assumption | omega) (show ((q_I δ 3 1 b1)).toInt ≤ (q_I δ 3 1 b1).toInt by first | with_reducible assumption | omega) (show 0 ≤ ((q_I δ 5 0 b4)).toInt by first | with_reducible assumption | omega) (show ((q_I δ 5 0 b4)).toInt ≤ 16 by first | with_reducible assumption | omega) (show ((q_I δ 5 0 b4)).toInt < 20 by first | with_reducible assumption | omega) I) (fun r7 hr8 => ?_)
  have i17 := hr8
  try rw [i17]
  have f18 := ti_b r7.1
  exact ok_some (show δ = δ from rfl)
