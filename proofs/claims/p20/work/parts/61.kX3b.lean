/-! 61.kX3b (by gen_safe.py) -/
set_option maxHeartbeats 4000000 in
theorem k_X3_copyFrom {ad : List Nat} {h : hp} (L : Lay TLx ad h) {δ0 : dp} {N : Nat} (hN : 10000000 ≤ N) {a0 : Nat} {a1 : Nat} (k_a0 : q_K h.1 a0 = 3) (k_a1 : q_K h.1 a1 = 3) {δ : dp} (I : CI ad h.1 δ0 δ) : ok (D_X3_copyFrom N h.1 a0 a1 δ) (fun r => CI ad h.1 δ0 r ∧ (kp [(3, 1)] δ r ∧ q_V r = q_V δ)) := by
  unfold D_X3_copyFrom
  obtain ⟨b1, o2, k3, ⟨n4, n5⟩, w6⟩ := gO_3_0 L k_a0
  refine ok_at o2 ?_
  refine ok_bind (k_J9_min_7cf53 L hN (x0 := (q_I δ 3 1 a1)) (x1 := (Int32.ofNat (q_N h.1 b1)))  I) (fun r7 hr8 => ?_)
  obtain ⟨i9, p10, p11, p12⟩ := hr8
  try rw [i9]
  have f13 := ti_b r7.1
  obtain ⟨b14, o15, k16, ⟨n17, n18⟩, w19⟩ := gO_3_0 L k_a1
  have f20 := cb_3_1 I k_a1 o15
  have f21 := n_ti (q_N h.1 b1) (by omega)
  refine ok_bdv (fun d22 e23 => ?_)
  have i24 : CI ad h.1 δ0 d22 := by rw [e23]; exact cs_3_1 L I o2 (show 0 ≤ r7.1.toInt by omega) (show r7.1.toInt ≤ (q_N h.1 b1 : Int) by omega)
  have u25 := kp_I kp_r e23
  have v26 : q_V d22 = q_V δ := ((show q_V d22 = q_V δ by rw [e23]; rfl)).trans rfl
  refine ok_at o15 ?_
  refine ok_at o2 ?_
  have f27 := cb_3_1 i24 k_a0 o2
  have f28 : (q_I d22 3 1 a0).toInt = r7.1.toInt := congrArg Int32.toInt (show q_I d22 3 1 a0 = r7.1 by rw [e23]; exact rI_s)
  have t29 : (0 : Int32).toNatClampNeg = 0 := rfl
  have t30 := ti_tn (q_I d22 3 1 a0)
  refine ok_gd (fun hc31 => ?_) ?_
  · rcases hc31 with hc31 | hc31 | hc31 | hc31 | hc31
    · have c32 : (0 : Int) < (0 : Int) := o_lt hc31
      omega
    · have c33 : (0 : Int) < (0 : Int) := o_lt hc31
      omega
    · have c34 : (q_I d22 3 1 a0).toInt < (0 : Int) := o_lt hc31
      omega
    · omega
    · omega
  refine ok_bdv (fun d35 e36 => ?_)
  have i37 : CI ad h.1 δ0 d35 := by rw [e36]; exact CI.sC L i24 w6
  have u38 := kp_N u25 (show q_I d35 = q_I d22 by rw [e36]; rfl)
  have v39 : q_V d35 = q_V δ := ((show q_V d35 = q_V d22 by rw [e36]; rfl)).trans v26
  exact ok_some (show CI ad h.1 δ0 d35 ∧ (kp [(3, 1)] δ d35 ∧ q_V d35 = q_V δ) from ⟨i37, ⟨kp_w (by decide) u38, v39⟩⟩)
set_option maxHeartbeats 4000000 in
theorem kl_X3_commonFrom_5 {ad : List Nat} {h : hp} (L : Lay TLx ad h) {δ0 : dp} {N : Nat} (hN : 10000000 ≤ N) {a0 : Nat} {x1 : Int32} {a2 : Nat} (k_a0 : q_K h.1 a0 = 3) (k_a2 : q_K h.1 a2 = 3) : ∀ (n : Nat) (x3v : Int32) (x4v : Int32) (δ : dp), CI ad h.1 δ0 δ → 0 ≤ (x4v).toInt → (x4v).toInt ≤ 2000 → 2000 - (x4v).toInt < (n : Int) → ok (L_X3_commonFrom_5 N h.1 a0 x1 a2 n x3v x4v δ) (fun r => r.2 = δ) := by
  intro n
  induction n with
  | zero =>
    intro x3v x4v δ I j0 j1 hm
    have f1 := ti_b x4v
    exfalso; omega
  | succ n ih =>
    intro x3v x4v δ I j0 j1 hm
    unfold L_X3_commonFrom_5
    have f1 := ti_b x4v
    obtain ⟨b2, o3, k4, ⟨n5, n6⟩, w7⟩ := gO_3_0 L k_a0
    have f8 := cb_3_1 I k_a0 o3
    refine ok_ite (fun h9 => ?_) (fun h9 => ?_)
    · have c10 : (q_I δ 3 1 a0).toInt ≤ x4v.toInt := o_le h9
      exact ok_some (show δ = δ from rfl)
    · have c11 : x4v.toInt < (q_I δ 3 1 a0).toInt := o_nle h9
      refine ok_at o3 ?_
      have t12 := ti_tn x4v
      refine ok_gd (fun hc13 => ?_) ?_
      · rcases hc13 with hc13 | hc13
        · have c14 : x4v.toInt < (0 : Int) := o_lt hc13
          omega
        · omega
      refine ok_bind (k_X3_holds L hN (a0 := a2) (x1 := (q_R δ b2 x4v.toNatClampNeg)) k_a2 I) (fun r15 hr16 => ?_)
      obtain ⟨i17, p18⟩ := hr16
      try rw [i17]
      have f19 := bo_t p18
      have f20 := ti_b r15.1
      refine ok_ite (fun h21 => ?_) (fun h21 => ?_)
      · have c22 : r15.1.toInt = (0 : Int) := o_eq h21
        unfold J_X3_commonFrom_31
        refine ok_biv (fun vx23 e24 => ?_)
        first | (have q25 := te_addc (c := 1) (n := 1) rfl x4v (by omega) (by omega); rw [← e24] at q25; obtain ⟨f26, f27, f28⟩ := q25) | (obtain ⟨q25, f26, f27, f28⟩ : ∃ q : Int, vx23.toInt = x4v.toInt + (1 : Int) + 4294967296 * q ∧ -2147483648 ≤ vx23.toInt ∧ vx23.toInt ≤ 2147483647 := by rw [e24]; exact ti_addc (c := 1) (n := 1) rfl x4v)
        refine ok_mono (ih x3v vx23 δ I (show 0 ≤ (vx23).toInt by first | with_reducible assumption | omega) (show (vx23).toInt ≤ 2000 by first | with_reducible assumption | omega) (show 2000 - (vx23).toInt < _ by omega)) (fun r29 hr30 => ?_)
        have i31 := hr30
        have f32 := ti_b r29.1
        exact by assumption
      · have c33 : r15.1.toInt ≠ (0 : Int) := o_ne h21
        have f36 := ti_b x3v
        refine ok_biv (fun vx34 e35 => ?_)
        first | (have q37 := te_addc (c := 1) (n := 1) rfl x3v (by omega) (by omega); rw [← e35] at q37; obtain ⟨f38, f39, f40⟩ := q37) | (obtain ⟨q37, f38, f39, f40⟩ : ∃ q : Int, vx34.toInt = x3v.toInt + (1 : Int) + 4294967296 * q ∧ -2147483648 ≤ vx34.toInt ∧ vx34.toInt ≤ 2147483647 := by rw [e35]; exact ti_addc (c := 1) (n := 1) rfl x3v)
        unfold J_X3_commonFrom_31
        refine ok_biv (fun vx41 e42 => ?_)
        first | (have q43 := te_addc (c := 1) (n := 1) rfl x4v (by omega) (by omega); rw [← e42] at q43; obtain ⟨f44, f45, f46⟩ := q43) | (obtain ⟨q43, f44, f45, f46⟩ : ∃ q : Int, vx41.toInt = x4v.toInt + (1 : Int) + 4294967296 * q ∧ -2147483648 ≤ vx41.toInt ∧ vx41.toInt ≤ 2147483647 := by rw [e42]; exact ti_addc (c := 1) (n := 1) rfl x4v)
        refine ok_mono (ih vx34 vx41 δ I (show 0 ≤ (vx41).toInt by first | with_reducible assumption | omega) (show (vx41).toInt ≤ 2000 by first | with_reducible assumption | omega) (show 2000 - (vx41).toInt < _ by omega)) (fun r47 hr48 => ?_)
        have i49 := hr48
        have f50 := ti_b r47.1
        exact by assumption
set_option maxHeartbeats 4000000 in
theorem k_X3_commonFrom {ad : List Nat} {h : hp} (L : Lay TLx ad h) {δ0 : dp} {N : Nat} (hN : 10000000 ≤ N) {a0 : Nat} {x1 : Int32} {a2 : Nat} (k_a0 : q_K h.1 a0 = 3) (k_a2 : q_K h.1 a2 = 3) {δ : dp} (z0 : 0 ≤ (x1).toInt) (z1 : (x1).toInt ≤ 2000) (I : CI ad h.1 δ0 δ) : ok (D_X3_commonFrom N h.1 a0 x1 a2 δ) (fun r => r.2 = δ) := by
  unfold D_X3_commonFrom
  have f1 := ti_b x1
  refine ok_mono (kl_X3_commonFrom_5 L hN   k_a0 k_a2 _ (0 : Int32) x1 δ I (show 0 ≤ (x1).toInt by first | with_reducible assumption | omega) (show (x1).toInt ≤ 2000 by first | with_reducible assumption | omega) (show 2000 - (x1).toInt < _ by omega)) (fun r2 hr3 => ?_)
  have i4 := hr3
  have f5 := ti_b r2.1
  exact by assumption
set_option maxHeartbeats 4000000 in
theorem kj_X3_runsWith_71 {ad : List Nat} {h : hp} (L : Lay TLx ad h) {δ0 : dp} {N : Nat} (hN : 10000000 ≤ N) {a0 : Nat} {a1 : Nat} {kt10 : Int32 → Int32 → Int32 → Int32 → dp → Option (Int32 × dp)} {K10 : Int} (h_kt10 : ∀ (x2v : Int32) (x3v : Int32) (x4v : Int32) (x5v : Int32) (δ : dp), CI ad h.1 δ0 δ → 0 ≤ (x4v).toInt → (x4v).toInt ≤ (q_I δ 3 1 a0).toInt → 0 ≤ (x5v).toInt → (x5v).toInt ≤ (q_I δ 3 1 a1).toInt → (q_I δ 3 1 a0).toInt - (x4v).toInt + ((q_I δ 3 1 a1).toInt - (x5v).toInt) < K10 → ok (kt10 x2v x3v x4v x5v δ) (fun r => r.2 = δ)) {xs0 : Int32} {x2v : Int32} {x3v : Int32} {x4v : Int32} {x5v : Int32} (k_a0 : q_K h.1 a0 = 3) (k_a1 : q_K h.1 a1 = 3) {δ : dp} (z0 : 0 ≤ (x4v).toInt) (z1 : (x4v).toInt ≤ (q_I δ 3 1 a0).toInt) (z2 : 0 ≤ (x5v).toInt) (z3 : (x5v).toInt ≤ (q_I δ 3 1 a1).toInt) (z4 : (xs0).toInt ≤ 0 → (x4v).toInt < (q_I δ 3 1 a0).toInt) (z5 : 0 ≤ (xs0).toInt → (x5v).toInt < (q_I δ 3 1 a1).toInt) (z6 : (q_I δ 3 1 a0).toInt - (x4v).toInt + ((q_I δ 3 1 a1).toInt - (x5v).toInt) ≤ K10) (I : CI ad h.1 δ0 δ) : ok (J_X3_runsWith_71 N h.1 a0 a1 kt10 xs0 x2v x3v x4v x5v δ) (fun r => r.2 = δ) := by
  unfold J_X3_runsWith_71
  have f1 := ti_b x4v
  obtain ⟨b2, o3, k4, ⟨n5, n6⟩, w7⟩ := gO_3_0 L k_a0
  have f8 := cb_3_1 I k_a0 o3
  have f9 := ti_b x5v
  obtain ⟨b10, o11, k12, ⟨n13, n14⟩, w15⟩ := gO_3_0 L k_a1
  have f16 := cb_3_1 I k_a1 o11
  have f17 := ti_b xs0
  refine ok_ite (fun h18 => ?_) (fun h18 => ?_)
  · have c19 : xs0.toInt = (0 : Int) := o_eq h18
    unfold J_X3_runsWith_90
    refine ok_ite (fun h20 => ?_) (fun h20 => ?_)
    · have c21 : (0 : Int) < xs0.toInt := o_lt h20
      unfold J_X3_runsWith_98
      refine ok_ite (fun h22 => ?_) (fun h22 => ?_)
      · have c23 : xs0.toInt < (0 : Int) := o_lt h22
        unfold J_X3_runsWith_106
        refine ok_mono (h_kt10 x2v x3v x4v x5v δ I (show 0 ≤ (x4v).toInt by first | with_reducible assumption | omega) (show (x4v).toInt ≤ (q_I δ 3 1 a0).toInt by first | with_reducible assumption | omega) (show 0 ≤ (x5v).toInt by first | with_reducible assumption | omega) (show (x5v).toInt ≤ (q_I δ 3 1 a1).toInt by first | with_reducible assumption | omega) (show (q_I δ 3 1 a0).toInt - (x4v).toInt + ((q_I δ 3 1 a1).toInt - (x5v).toInt) < _ by omega)) (fun r24 hr25 => ?_)
        have i26 := hr25
        have f27 := ti_b r24.1
        exact by assumption
      · have c28 : (0 : Int) ≤ xs0.toInt := o_nlt h22
        refine ok_biv (fun vx29 e30 => ?_)
        first | (have q31 := te_addc (c := 1) (n := 1) rfl x5v (by omega) (by omega); rw [← e30] at q31; obtain ⟨f32, f33, f34⟩ := q31) | (obtain ⟨q31, f32, f33, f34⟩ : ∃ q : Int, vx29.toInt = x5v.toInt + (1 : Int) + 4294967296 * q ∧ -2147483648 ≤ vx29.toInt ∧ vx29.toInt ≤ 2147483647 := by rw [e30]; exact ti_addc (c := 1) (n := 1) rfl x5v)
        unfold J_X3_runsWith_106
        refine ok_mono (h_kt10 x2v x3v x4v vx29 δ I (show 0 ≤ (x4v).toInt by first | with_reducible assumption | omega) (show (x4v).toInt ≤ (q_I δ 3 1 a0).toInt by first | with_reducible assumption | omega) (show 0 ≤ (vx29).toInt by first | with_reducible assumption | omega) (show (vx29).toInt ≤ (q_I δ 3 1 a1).toInt by first | with_reducible assumption | omega) (show (q_I δ 3 1 a0).toInt - (x4v).toInt + ((q_I δ 3 1 a1).toInt - (vx29).toInt) < _ by omega)) (fun r35 hr36 => ?_)
        have i37 := hr36
        have f38 := ti_b r35.1
        exact by assumption
    · have c39 : xs0.toInt ≤ (0 : Int) := o_nlt h20
      refine ok_biv (fun vx40 e41 => ?_)
      first | (have q42 := te_addc (c := 1) (n := 1) rfl x4v (by omega) (by omega); rw [← e41] at q42; obtain ⟨f43, f44, f45⟩ := q42) | (obtain ⟨q42, f43, f44, f45⟩ : ∃ q : Int, vx40.toInt = x4v.toInt + (1 : Int) + 4294967296 * q ∧ -2147483648 ≤ vx40.toInt ∧ vx40.toInt ≤ 2147483647 := by rw [e41]; exact ti_addc (c := 1) (n := 1) rfl x4v)
      unfold J_X3_runsWith_98
      refine ok_ite (fun h46 => ?_) (fun h46 => ?_)
      · have c47 : xs0.toInt < (0 : Int) := o_lt h46
        unfold J_X3_runsWith_106
        refine ok_mono (h_kt10 x2v x3v vx40 x5v δ I (show 0 ≤ (vx40).toInt by first | with_reducible assumption | omega) (show (vx40).toInt ≤ (q_I δ 3 1 a0).toInt by first | with_reducible assumption | omega) (show 0 ≤ (x5v).toInt by first | with_reducible assumption | omega) (show (x5v).toInt ≤ (q_I δ 3 1 a1).toInt by first | with_reducible assumption | omega) (show (q_I δ 3 1 a0).toInt - (vx40).toInt + ((q_I δ 3 1 a1).toInt - (x5v).toInt) < _ by omega)) (fun r48 hr49 => ?_)
        have i50 := hr49
        have f51 := ti_b r48.1
        exact by assumption
      · have c52 : (0 : Int) ≤ xs0.toInt := o_nlt h46
        refine ok_biv (fun vx53 e54 => ?_)
        first | (have q55 := te_addc (c := 1) (n := 1) rfl x5v (by omega) (by omega); rw [← e54] at q55; obtain ⟨f56, f57, f58⟩ := q55) | (obtain ⟨q55, f56, f57, f58⟩ : ∃ q : Int, vx53.toInt = x5v.toInt + (1 : Int) + 4294967296 * q ∧ -2147483648 ≤ vx53.toInt ∧ vx53.toInt ≤ 2147483647 := by rw [e54]; exact ti_addc (c := 1) (n := 1) rfl x5v)
        unfold J_X3_runsWith_106
        refine ok_mono (h_kt10 x2v x3v vx40 vx53 δ I (show 0 ≤ (vx40).toInt by first | with_reducible assumption | omega) (show (vx40).toInt ≤ (q_I δ 3 1 a0).toInt by first | with_reducible assumption | omega) (show 0 ≤ (vx53).toInt by first | with_reducible assumption | omega) (show (vx53).toInt ≤ (q_I δ 3 1 a1).toInt by first | with_reducible assumption | omega) (show (q_I δ 3 1 a0).toInt - (vx40).toInt + ((q_I δ 3 1 a1).toInt - (vx53).toInt) < _ by omega)) (fun r59 hr60 => ?_)
        have i61 := hr60
        have f62 := ti_b r59.1
        exact by assumption
  · have c63 : xs0.toInt ≠ (0 : Int) := o_ne h18
    have f64 := ti_b x3v
    refine ok_ite (fun h65 => ?_) (fun h65 => ?_)
    · have c66 : xs0.toInt = x3v.toInt := o_eq h65
      unfold J_X3_runsWith_90
      refine ok_ite (fun h67 => ?_) (fun h67 => ?_)
      · have c68 : (0 : Int) < xs0.toInt := o_lt h67
        unfold J_X3_runsWith_98
        refine ok_ite (fun h69 => ?_) (fun h69 => ?_)
        · have c70 : xs0.toInt < (0 : Int) := o_lt h69
          unfold J_X3_runsWith_106
          refine ok_mono (h_kt10 x2v x3v x4v x5v δ I (show 0 ≤ (x4v).toInt by first | with_reducible assumption | omega) (show (x4v).toInt ≤ (q_I δ 3 1 a0).toInt by first | with_reducible assumption | omega) (show 0 ≤ (x5v).toInt by first | with_reducible assumption | omega) (show (x5v).toInt ≤ (q_I δ 3 1 a1).toInt by first | with_reducible assumption | omega) (show (q_I δ 3 1 a0).toInt - (x4v).toInt + ((q_I δ 3 1 a1).toInt - (x5v).toInt) < _ by omega)) (fun r71 hr72 => ?_)
          have i73 := hr72
          have f74 := ti_b r71.1
          exact by assumption
        · have c75 : (0 : Int) ≤ xs0.toInt := o_nlt h69
          refine ok_biv (fun vx76 e77 => ?_)
          first | (have q78 := te_addc (c := 1) (n := 1) rfl x5v (by omega) (by omega); rw [← e77] at q78; obtain ⟨f79, f80, f81⟩ := q78) | (obtain ⟨q78, f79, f80, f81⟩ : ∃ q : Int, vx76.toInt = x5v.toInt + (1 : Int) + 4294967296 * q ∧ -2147483648 ≤ vx76.toInt ∧ vx76.toInt ≤ 2147483647 := by rw [e77]; exact ti_addc (c := 1) (n := 1) rfl x5v)
          unfold J_X3_runsWith_106
          refine ok_mono (h_kt10 x2v x3v x4v vx76 δ I (show 0 ≤ (x4v).toInt by first | with_reducible assumption | omega) (show (x4v).toInt ≤ (q_I δ 3 1 a0).toInt by first | with_reducible assumption | omega) (show 0 ≤ (vx76).toInt by first | with_reducible assumption | omega) (show (vx76).toInt ≤ (q_I δ 3 1 a1).toInt by first | with_reducible assumption | omega) (show (q_I δ 3 1 a0).toInt - (x4v).toInt + ((q_I δ 3 1 a1).toInt - (vx76).toInt) < _ by omega)) (fun r82 hr83 => ?_)
          have i84 := hr83
          have f85 := ti_b r82.1
          exact by assumption
      · have c86 : xs0.toInt ≤ (0 : Int) := o_nlt h67
        refine ok_biv (fun vx87 e88 => ?_)
        first | (have q89 := te_addc (c := 1) (n := 1) rfl x4v (by omega) (by omega); rw [← e88] at q89; obtain ⟨f90, f91, f92⟩ := q89) | (obtain ⟨q89, f90, f91, f92⟩ : ∃ q : Int, vx87.toInt = x4v.toInt + (1 : Int) + 4294967296 * q ∧ -2147483648 ≤ vx87.toInt ∧ vx87.toInt ≤ 2147483647 := by rw [e88]; exact ti_addc (c := 1) (n := 1) rfl x4v)
        unfold J_X3_runsWith_98
        refine ok_ite (fun h93 => ?_) (fun h93 => ?_)
        · have c94 : xs0.toInt < (0 : Int) := o_lt h93
          unfold J_X3_runsWith_106
          refine ok_mono (h_kt10 x2v x3v vx87 x5v δ I (show 0 ≤ (vx87).toInt by first | with_reducible assumption | omega) (show (vx87).toInt ≤ (q_I δ 3 1 a0).toInt by first | with_reducible assumption | omega) (show 0 ≤ (x5v).toInt by first | with_reducible assumption | omega) (show (x5v).toInt ≤ (q_I δ 3 1 a1).toInt by first | with_reducible assumption | omega) (show (q_I δ 3 1 a0).toInt - (vx87).toInt + ((q_I δ 3 1 a1).toInt - (x5v).toInt) < _ by omega)) (fun r95 hr96 => ?_)
          have i97 := hr96
          have f98 := ti_b r95.1
          exact by assumption
        · have c99 : (0 : Int) ≤ xs0.toInt := o_nlt h93
          refine ok_biv (fun vx100 e101 => ?_)
          first | (have q102 := te_addc (c := 1) (n := 1) rfl x5v (by omega) (by omega); rw [← e101] at q102; obtain ⟨f103, f104, f105⟩ := q102) | (obtain ⟨q102, f103, f104, f105⟩ : ∃ q : Int, vx100.toInt = x5v.toInt + (1 : Int) + 4294967296 * q ∧ -2147483648 ≤ vx100.toInt ∧ vx100.toInt ≤ 2147483647 := by rw [e101]; exact ti_addc (c := 1) (n := 1) rfl x5v)
          unfold J_X3_runsWith_106
          refine ok_mono (h_kt10 x2v x3v vx87 vx100 δ I (show 0 ≤ (vx87).toInt by first | with_reducible assumption | omega) (show (vx87).toInt ≤ (q_I δ 3 1 a0).toInt by first | with_reducible assumption | omega) (show 0 ≤ (vx100).toInt by first | with_reducible assumption | omega) (show (vx100).toInt ≤ (q_I δ 3 1 a1).toInt by first | with_reducible assumption | omega) (show (q_I δ 3 1 a0).toInt - (vx87).toInt + ((q_I δ 3 1 a1).toInt - (vx100).toInt) < _ by omega)) (fun r106 hr107 => ?_)
          have i108 := hr107
          have f109 := ti_b r106.1
          exact by assumption
    · have c110 : xs0.toInt ≠ x3v.toInt := o_ne h65
      have f113 := ti_b x2v
      refine ok_biv (fun vx111 e112 => ?_)
      first | (have q114 := te_addc (c := 1) (n := 1) rfl x2v (by omega) (by omega); rw [← e112] at q114; obtain ⟨f115, f116, f117⟩ := q114) | (obtain ⟨q114, f115, f116, f117⟩ : ∃ q : Int, vx111.toInt = x2v.toInt + (1 : Int) + 4294967296 * q ∧ -2147483648 ≤ vx111.toInt ∧ vx111.toInt ≤ 2147483647 := by rw [e112]; exact ti_addc (c := 1) (n := 1) rfl x2v)
      unfold J_X3_runsWith_90
      refine ok_ite (fun h118 => ?_) (fun h118 => ?_)
      · have c119 : (0 : Int) < xs0.toInt := o_lt h118
        unfold J_X3_runsWith_98
        refine ok_ite (fun h120 => ?_) (fun h120 => ?_)
        · have c121 : xs0.toInt < (0 : Int) := o_lt h120
          unfold J_X3_runsWith_106
          refine ok_mono (h_kt10 vx111 xs0 x4v x5v δ I (show 0 ≤ (x4v).toInt by first | with_reducible assumption | omega) (show (x4v).toInt ≤ (q_I δ 3 1 a0).toInt by first | with_reducible assumption | omega) (show 0 ≤ (x5v).toInt by first | with_reducible assumption | omega) (show (x5v).toInt ≤ (q_I δ 3 1 a1).toInt by first | with_reducible assumption | omega) (show (q_I δ 3 1 a0).toInt - (x4v).toInt + ((q_I δ 3 1 a1).toInt - (x5v).toInt) < _ by omega)) (fun r122 hr123 => ?_)
          have i124 := hr123
          have f125 := ti_b r122.1
          exact by assumption
        · have c126 : (0 : Int) ≤ xs0.toInt := o_nlt h120
          refine ok_biv (fun vx127 e128 => ?_)
          first | (have q129 := te_addc (c := 1) (n := 1) rfl x5v (by omega) (by omega); rw [← e128] at q129; obtain ⟨f130, f131, f132⟩ := q129) | (obtain ⟨q129, f130, f131, f132⟩ : ∃ q : Int, vx127.toInt = x5v.toInt + (1 : Int) + 4294967296 * q ∧ -2147483648 ≤ vx127.toInt ∧ vx127.toInt ≤ 2147483647 := by rw [e128]; exact ti_addc (c := 1) (n := 1) rfl x5v)
          unfold J_X3_runsWith_106
          refine ok_mono (h_kt10 vx111 xs0 x4v vx127 δ I (show 0 ≤ (x4v).toInt by first | with_reducible assumption | omega) (show (x4v).toInt ≤ (q_I δ 3 1 a0).toInt by first | with_reducible assumption | omega) (show 0 ≤ (vx127).toInt by first | with_reducible assumption | omega) (show (vx127).toInt ≤ (q_I δ 3 1 a1).toInt by first | with_reducible assumption | omega) (show (q_I δ 3 1 a0).toInt - (x4v).toInt + ((q_I δ 3 1 a1).toInt - (vx127).toInt) < _ by omega)) (fun r133 hr134 => ?_)
          have i135 := hr134
          have f136 := ti_b r133.1
          exact by assumption
      · have c137 : xs0.toInt ≤ (0 : Int) := o_nlt h118
        refine ok_biv (fun vx138 e139 => ?_)
        first | (have q140 := te_addc (c := 1) (n := 1) rfl x4v (by omega) (by omega); rw [← e139] at q140; obtain ⟨f141, f142, f143⟩ := q140) | (obtain ⟨q140, f141, f142, f143⟩ : ∃ q : Int, vx138.toInt = x4v.toInt + (1 : Int) + 4294967296 * q ∧ -2147483648 ≤ vx138.toInt ∧ vx138.toInt ≤ 2147483647 := by rw [e139]; exact ti_addc (c := 1) (n := 1) rfl x4v)
        unfold J_X3_runsWith_98
        refine ok_ite (fun h144 => ?_) (fun h144 => ?_)
        · have c145 : xs0.toInt < (0 : Int) := o_lt h144
          unfold J_X3_runsWith_106
          refine ok_mono (h_kt10 vx111 xs0 vx138 x5v δ I (show 0 ≤ (vx138).toInt by first | with_reducible assumption | omega) (show (vx138).toInt ≤ (q_I δ 3 1 a0).toInt by first | with_reducible assumption | omega) (show 0 ≤ (x5v).toInt by first | with_reducible assumption | omega) (show (x5v).toInt ≤ (q_I δ 3 1 a1).toInt by first | with_reducible assumption | omega) (show (q_I δ 3 1 a0).toInt - (vx138).toInt + ((q_I δ 3 1 a1).toInt - (x5v).toInt) < _ by omega)) (fun r146 hr147 => ?_)
          have i148 := hr147
          have f149 := ti_b r146.1
          exact by assumption
        · have c150 : (0 : Int) ≤ xs0.toInt := o_nlt h144
          refine ok_biv (fun vx151 e152 => ?_)
          first | (have q153 := te_addc (c := 1) (n := 1) rfl x5v (by omega) (by omega); rw [← e152] at q153; obtain ⟨f154, f155, f156⟩ := q153) | (obtain ⟨q153, f154, f155, f156⟩ : ∃ q : Int, vx151.toInt = x5v.toInt + (1 : Int) + 4294967296 * q ∧ -2147483648 ≤ vx151.toInt ∧ vx151.toInt ≤ 2147483647 := by rw [e152]; exact ti_addc (c := 1) (n := 1) rfl x5v)
          unfold J_X3_runsWith_106
          refine ok_mono (h_kt10 vx111 xs0 vx138 vx151 δ I (show 0 ≤ (vx138).toInt by first | with_reducible assumption | omega) (show (vx138).toInt ≤ (q_I δ 3 1 a0).toInt by first | with_reducible assumption | omega) (show 0 ≤ (vx151).toInt by first | with_reducible assumption | omega) (show (vx151).toInt ≤ (q_I δ 3 1 a1).toInt by first | with_reducible assumption | omega) (show (q_I δ 3 1 a0).toInt - (vx138).toInt + ((q_I δ 3 1 a1).toInt - (vx151).toInt) < _ by omega)) (fun r157 hr158 => ?_)
          have i159 := hr158
          have f160 := ti_b r157.1
          exact by assumption
set_option maxHeartbeats 4000000 in
theorem kl_X3_runsWith_10 {ad : List Nat} {h : hp} (L : Lay TLx ad h) {δ0 : dp} {N : Nat} (hN : 10000000 ≤ N) {a0 : Nat} {a1 : Nat} (k_a0 : q_K h.1 a0 = 3) (k_a1 : q_K h.1 a1 = 3) : ∀ (n : Nat) (x2v : Int32) (x3v : Int32) (x4v : Int32) (x5v : Int32) (δ : dp), CI ad h.1 δ0 δ → 0 ≤ (x4v).toInt → (x4v).toInt ≤ (q_I δ 3 1 a0).toInt → 0 ≤ (x5v).toInt → (x5v).toInt ≤ (q_I δ 3 1 a1).toInt → (q_I δ 3 1 a0).toInt - (x4v).toInt + ((q_I δ 3 1 a1).toInt - (x5v).toInt) < (n : Int) → ok (L_X3_runsWith_10 N h.1 a0 a1 n x2v x3v x4v x5v δ) (fun r => r.2 = δ) := by
  intro n
  induction n with
  | zero =>
    intro x2v x3v x4v x5v δ I j0 j1 j2 j3 hm
    have f1 := ti_b x4v
    obtain ⟨b2, o3, k4, ⟨n5, n6⟩, w7⟩ := gO_3_0 L k_a0
    have f8 := cb_3_1 I k_a0 o3
    have f9 := ti_b x5v
    obtain ⟨b10, o11, k12, ⟨n13, n14⟩, w15⟩ := gO_3_0 L k_a1
    have f16 := cb_3_1 I k_a1 o11
    exfalso; omega
  | succ n ih =>
    intro x2v x3v x4v x5v δ I j0 j1 j2 j3 hm
    unfold L_X3_runsWith_10
    have f1 := ti_b x4v
    obtain ⟨b2, o3, k4, ⟨n5, n6⟩, w7⟩ := gO_3_0 L k_a0
    have f8 := cb_3_1 I k_a0 o3
    have f9 := ti_b x5v
    obtain ⟨b10, o11, k12, ⟨n13, n14⟩, w15⟩ := gO_3_0 L k_a1
    have f16 := cb_3_1 I k_a1 o11
    refine ok_ite (fun h17 => ?_) (fun h17 => ?_)
    · have c18 : x4v.toInt < (q_I δ 3 1 a0).toInt := o_lt h17
      unfold J_X3_runsWith_28
      refine ok_ite (fun h19 => ?_) (fun h19 => ?_)
      · have c20 : x4v.toInt < (q_I δ 3 1 a0).toInt := o_lt h19
        refine ok_ite (fun h21 => ?_) (fun h21 => ?_)
        · have c22 : x5v.toInt < (q_I δ 3 1 a1).toInt := o_lt h21
          refine ok_at o3 ?_
          have t23 := ti_tn x4v
          refine ok_gd (fun hc24 => ?_) ?_
          · rcases hc24 with hc24 | hc24
            · have c25 : x4v.toInt < (0 : Int) := o_lt hc24
              omega
            · omega
          refine ok_at o11 ?_
          have t26 := ti_tn x5v
          refine ok_gd (fun hc27 => ?_) ?_
          · rcases hc27 with hc27 | hc27
            · have c28 : x5v.toInt < (0 : Int) := o_lt hc27
              omega
            · omega
          refine ok_bind (k_J6_compare_7cf53 L hN (x0 := (q_R δ b2 x4v.toNatClampNeg)) (x1 := (q_R δ b10 x5v.toNatClampNeg))  I) (fun r29 hr30 => ?_)
          obtain ⟨i31, p32⟩ := hr30
          try rw [i31]
          have f33 := ti_b r29.1
          refine ok_mono (kj_X3_runsWith_71 L hN (K10 := (n : Int)) (a0 := a0) (a1 := a1) (xs0 := r29.1) (x2v := x2v) (x3v := x3v) (x4v := x4v) (x5v := x5v) ih k_a0 k_a1 (show 0 ≤ (x4v).toInt by first | with_reducible assumption | omega) (show (x4v).toInt ≤ (q_I δ 3 1 a0).toInt by first | with_reducible assumption | omega) (show 0 ≤ (x5v).toInt by first | with_reducible assumption | omega) (show (x5v).toInt ≤ (q_I δ 3 1 a1).toInt by first | with_reducible assumption | omega) (show (r29.1).toInt ≤ 0 → (x4v).toInt < (q_I δ 3 1 a0).toInt by first | with_reducible assumption | omega) (show 0 ≤ (r29.1).toInt → (x5v).toInt < (q_I δ 3 1 a1).toInt by first | with_reducible assumption | omega) (show (q_I δ 3 1 a0).toInt - (x4v).toInt + ((q_I δ 3 1 a1).toInt - (x5v).toInt) ≤ (n : Int) by first | with_reducible assumption | omega) I) (fun r34 hr35 => ?_)
          have i36 := hr35
          have f37 := ti_b r34.1
          exact by assumption
        · have c38 : (q_I δ 3 1 a1).toInt ≤ x5v.toInt := o_nlt h21
          refine ok_mono (kj_X3_runsWith_71 L hN (K10 := (n : Int)) (a0 := a0) (a1 := a1) (xs0 := (-1 : Int32)) (x2v := x2v) (x3v := x3v) (x4v := x4v) (x5v := x5v) ih k_a0 k_a1 (show 0 ≤ (x4v).toInt by first | with_reducible assumption | omega) (show (x4v).toInt ≤ (q_I δ 3 1 a0).toInt by first | with_reducible assumption | omega) (show 0 ≤ (x5v).toInt by first | with_reducible assumption | omega) (show (x5v).toInt ≤ (q_I δ 3 1 a1).toInt by first | with_reducible assumption | omega) (show (-1 : Int) ≤ 0 → (x4v).toInt < (q_I δ 3 1 a0).toInt by first | with_reducible assumption | omega) (show 0 ≤ (-1 : Int) → (x5v).toInt < (q_I δ 3 1 a1).toInt by first | with_reducible assumption | omega) (show (q_I δ 3 1 a0).toInt - (x4v).toInt + ((q_I δ 3 1 a1).toInt - (x5v).toInt) ≤ (n : Int) by first | with_reducible assumption | omega) I) (fun r39 hr40 => ?_)
          have i41 := hr40
          have f42 := ti_b r39.1
          exact by assumption
      · have c43 : (q_I δ 3 1 a0).toInt ≤ x4v.toInt := o_nlt h19
        refine ok_mono (kj_X3_runsWith_71 L hN (K10 := (n : Int)) (a0 := a0) (a1 := a1) (xs0 := (1 : Int32)) (x2v := x2v) (x3v := x3v) (x4v := x4v) (x5v := x5v) ih k_a0 k_a1 (show 0 ≤ (x4v).toInt by first | with_reducible assumption | omega) (show (x4v).toInt ≤ (q_I δ 3 1 a0).toInt by first | with_reducible assumption | omega) (show 0 ≤ (x5v).toInt by first | with_reducible assumption | omega) (show (x5v).toInt ≤ (q_I δ 3 1 a1).toInt by first | with_reducible assumption | omega) (show (1 : Int) ≤ 0 → (x4v).toInt < (q_I δ 3 1 a0).toInt by first | with_reducible assumption | omega) (show 0 ≤ (1 : Int) → (x5v).toInt < (q_I δ 3 1 a1).toInt by first | with_reducible assumption | omega) (show (q_I δ 3 1 a0).toInt - (x4v).toInt + ((q_I δ 3 1 a1).toInt - (x5v).toInt) ≤ (n : Int) by first | with_reducible assumption | omega) I) (fun r44 hr45 => ?_)
        have i46 := hr45
        have f47 := ti_b r44.1
        exact by assumption
    · have c48 : (q_I δ 3 1 a0).toInt ≤ x4v.toInt := o_nlt h17
      refine ok_ite (fun h49 => ?_) (fun h49 => ?_)
      · have c50 : (q_I δ 3 1 a1).toInt ≤ x5v.toInt := o_le h49
        exact ok_some (show δ = δ from rfl)
      · have c51 : x5v.toInt < (q_I δ 3 1 a1).toInt := o_nle h49
        unfold J_X3_runsWith_28
        refine ok_ite (fun h52 => ?_) (fun h52 => ?_)
        · have c53 : x4v.toInt < (q_I δ 3 1 a0).toInt := o_lt h52
          refine ok_ite (fun h54 => ?_) (fun h54 => ?_)
          · have c55 : x5v.toInt < (q_I δ 3 1 a1).toInt := o_lt h54
            refine ok_at o3 ?_
            have t56 := ti_tn x4v
            refine ok_gd (fun hc57 => ?_) ?_
            · rcases hc57 with hc57 | hc57
              · have c58 : x4v.toInt < (0 : Int) := o_lt hc57
                omega
              · omega
            refine ok_at o11 ?_
            have t59 := ti_tn x5v
            refine ok_gd (fun hc60 => ?_) ?_
            · rcases hc60 with hc60 | hc60
              · have c61 : x5v.toInt < (0 : Int) := o_lt hc60
                omega
              · omega
            refine ok_bind (k_J6_compare_7cf53 L hN (x0 := (q_R δ b2 x4v.toNatClampNeg)) (x1 := (q_R δ b10 x5v.toNatClampNeg))  I) (fun r62 hr63 => ?_)
            obtain ⟨i64, p65⟩ := hr63
            try rw [i64]
            have f66 := ti_b r62.1
            refine ok_mono (kj_X3_runsWith_71 L hN (K10 := (n : Int)) (a0 := a0) (a1 := a1) (xs0 := r62.1) (x2v := x2v) (x3v := x3v) (x4v := x4v) (x5v := x5v) ih k_a0 k_a1 (show 0 ≤ (x4v).toInt by first | with_reducible assumption | omega) (show (x4v).toInt ≤ (q_I δ 3 1 a0).toInt by first | with_reducible assumption | omega) (show 0 ≤ (x5v).toInt by first | with_reducible assumption | omega) (show (x5v).toInt ≤ (q_I δ 3 1 a1).toInt by first | with_reducible assumption | omega) (show (r62.1).toInt ≤ 0 → (x4v).toInt < (q_I δ 3 1 a0).toInt by first | with_reducible assumption | omega) (show 0 ≤ (r62.1).toInt → (x5v).toInt < (q_I δ 3 1 a1).toInt by first | with_reducible assumption | omega) (show (q_I δ 3 1 a0).toInt - (x4v).toInt + ((q_I δ 3 1 a1).toInt - (x5v).toInt) ≤ (n : Int) by first | with_reducible assumption | omega) I) (fun r67 hr68 => ?_)
            have i69 := hr68
            have f70 := ti_b r67.1
            exact by assumption
          · have c71 : (q_I δ 3 1 a1).toInt ≤ x5v.toInt := o_nlt h54
            refine ok_mono (kj_X3_runsWith_71 L hN (K10 := (n : Int)) (a0 := a0) (a1 := a1) (xs0 := (-1 : Int32)) (x2v := x2v) (x3v := x3v) (x4v := x4v) (x5v := x5v) ih k_a0 k_a1 (show 0 ≤ (x4v).toInt by first | with_reducible assumption | omega) (show (x4v).toInt ≤ (q_I δ 3 1 a0).toInt by first | with_reducible assumption | omega) (show 0 ≤ (x5v).toInt by first | with_reducible assumption | omega) (show (x5v).toInt ≤ (q_I δ 3 1 a1).toInt by first | with_reducible assumption | omega) (show (-1 : Int) ≤ 0 → (x4v).toInt < (q_I δ 3 1 a0).toInt by first | with_reducible assumption | omega) (show 0 ≤ (-1 : Int) → (x5v).toInt < (q_I δ 3 1 a1).toInt by first | with_reducible assumption | omega) (show (q_I δ 3 1 a0).toInt - (x4v).toInt + ((q_I δ 3 1 a1).toInt - (x5v).toInt) ≤ (n : Int) by first | with_reducible assumption | omega) I) (fun r72 hr73 => ?_)
            have i74 := hr73
            have f75 := ti_b r72.1
            exact by assumption
        · have c76 : (q_I δ 3 1 a0).toInt ≤ x4v.toInt := o_nlt h52
          refine ok_mono (kj_X3_runsWith_71 L hN (K10 := (n : Int)) (a0 := a0) (a1 := a1) (xs0 := (1 : Int32)) (x2v := x2v) (x3v := x3v) (x4v := x4v) (x5v := x5v) ih k_a0 k_a1 (show 0 ≤ (x4v).toInt by first | with_reducible assumption | omega) (show (x4v).toInt ≤ (q_I δ 3 1 a0).toInt by first | with_reducible assumption | omega) (show 0 ≤ (x5v).toInt by first | with_reducible assumption | omega) (show (x5v).toInt ≤ (q_I δ 3 1 a1).toInt by first | with_reducible assumption | omega) (show (1 : Int) ≤ 0 → (x4v).toInt < (q_I δ 3 1 a0).toInt by first | with_reducible assumption | omega) (show 0 ≤ (1 : Int) → (x5v).toInt < (q_I δ 3 1 a1).toInt by first | with_reducible assumption | omega) (show (q_I δ 3 1 a0).toInt - (x4v).toInt + ((q_I δ 3 1 a1).toInt - (x5v).toInt) ≤ (n : Int) by first | with_reducible assumption | omega) I) (fun r77 hr78 => ?_)
          have i79 := hr78
          have f80 := ti_b r77.1
          exact by assumption
set_option maxHeartbeats 4000000 in
theorem k_X3_runsWith {ad : List Nat} {h : hp} (L : Lay TLx ad h) {δ0 : dp} {N : Nat} (hN : 10000000 ≤ N) {a0 : Nat} {a1 : Nat} (k_a0 : q_K h.1 a0 = 3) (k_a1 : q_K h.1 a1 = 3) {δ : dp} (I : CI ad h.1 δ0 δ) : ok (D_X3_runsWith N h.1 a0 a1 δ) (fun r => r.2 = δ) := by
  unfold D_X3_runsWith
  obtain ⟨b1, o2, k3, ⟨n4, n5⟩, w6⟩ := gO_3_0 L k_a0
  have f7 := cb_3_1 I k_a0 o2
  obtain ⟨b8, o9, k10, ⟨n11, n12⟩, w13⟩ := gO_3_0 L k_a1
  have f14 := cb_3_1 I k_a1 o9
  refine ok_mono (kl_X3_runsWith_10 L hN   k_a0 k_a1 _ (0 : Int32) (0 : Int32) (0 : Int32) (0 : Int32) δ I (show 0 ≤ (0 : Int) by first | with_reducible assumption | omega) (show (0 : Int) ≤ (q_I δ 3 1 a0).toInt by first | with_reducible assumption | omega) (show 0 ≤ (0 : Int) by first | with_reducible assumption | omega) (show (0 : Int) ≤ (q_I δ 3 1 a1).toInt by first | with_reducible assumption | omega) (show (q_I δ 3 1 a0).toInt - (0 : Int) + ((q_I δ 3 1 a1).toInt - (0 : Int)) < _ by omega)) (fun r15 hr16 => ?_)
  have i17 := hr16
  have f18 := ti_b r15.1
  exact by assumption
set_option maxHeartbeats 4000000 in
theorem kl_X3_widestGap_6 {ad : List Nat} {h : hp} (L : Lay TLx ad h) {δ0 : dp} {N : Nat} (hN : 10000000 ≤ N) {a0 : Nat} (k_a0 : q_K h.1 a0 = 3) : ∀ (n : Nat) (x1v : Int32) (x2v : Int32) (x3v : Int32) (δ : dp), CI ad h.1 δ0 δ → 0 ≤ (x3v).toInt → (x3v).toInt ≤ 2000 → 2000 - (x3v).toInt < (n : Int) → ok (L_X3_widestGap_6 N h.1 a0 n x1v x2v x3v δ) (fun r => r.2 = δ) := by
  intro n
  induction n with
  | zero =>
    intro x1v x2v x3v δ I j0 j1 hm
    have f1 := ti_b x3v
    exfalso; omega
  | succ n ih =>
    intro x1v x2v x3v δ I j0 j1 hm
    unfold L_X3_widestGap_6
    have f1 := ti_b x3v
    obtain ⟨b2, o3, k4, ⟨n5, n6⟩, w7⟩ := gO_3_0 L k_a0
    have f8 := cb_3_1 I k_a0 o3
    first | (have q10 := te_addc (c := 1) (n := 1) rfl x3v (by omega) (by omega); obtain ⟨f11, f12, f13⟩ := q10) | (obtain ⟨q10, f11, f12, f13⟩ := ti_addc (c := 1) (n := 1) rfl x3v)
    refine ok_ite (fun h14 => ?_) (fun h14 => ?_)
    · have c15 : (q_I δ 3 1 a0).toInt ≤ (x3v + (1 : Int32)).toInt := o_le h14
      exact ok_some (show δ = δ from rfl)
    · have c16 : (x3v + (1 : Int32)).toInt < (q_I δ 3 1 a0).toInt := o_nle h14
      refine ok_at o3 ?_
      have t17 := ti_tn (x3v + (1 : Int32))
      refine ok_gd (fun hc18 => ?_) ?_
      · rcases hc18 with hc18 | hc18
        · have c19 : (x3v + (1 : Int32)).toInt < (0 : Int) := o_lt hc18
          omega
        · omega
      refine ok_at o3 ?_
      have t20 := ti_tn x3v
      refine ok_gd (fun hc21 => ?_) ?_
      · rcases hc21 with hc21 | hc21
        · have c22 : x3v.toInt < (0 : Int) := o_lt hc21
          omega
        · omega
      have f25 := ti_b (q_R δ b2 (x3v + (1 : Int32)).toNatClampNeg)
      have f26 := ti_b (q_R δ b2 x3v.toNatClampNeg)
      refine ok_biv (fun vx23 e24 => ?_)
      first | (have q27 := te_sub (q_R δ b2 (x3v + (1 : Int32)).toNatClampNeg) (q_R δ b2 x3v.toNatClampNeg) (by omega) (by omega); rw [← e24] at q27; obtain ⟨f28, f29, f30⟩ := q27) | (obtain ⟨q27, f28, f29, f30⟩ : ∃ q : Int, vx23.toInt = (q_R δ b2 (x3v + (1 : Int32)).toNatClampNeg).toInt - (q_R δ b2 x3v.toNatClampNeg).toInt + 4294967296 * q ∧ -2147483648 ≤ vx23.toInt ∧ vx23.toInt ≤ 2147483647 := by rw [e24]; exact ti_sub (q_R δ b2 (x3v + (1 : Int32)).toNatClampNeg) (q_R δ b2 x3v.toNatClampNeg))
      have f31 := ti_b x2v
      refine ok_ite (fun h32 => ?_) (fun h32 => ?_)
      · have c33 : vx23.toInt ≤ x2v.toInt := o_le h32
        unfold J_X3_widestGap_44
        refine ok_biv (fun vx34 e35 => ?_)
        first | (have q36 := te_addc (c := 1) (n := 1) rfl x3v (by omega) (by omega); rw [← e35] at q36; obtain ⟨f37, f38, f39⟩ := q36) | (obtain ⟨q36, f37, f38, f39⟩ : ∃ q : Int, vx34.toInt = x3v.toInt + (1 : Int) + 4294967296 * q ∧ -2147483648 ≤ vx34.toInt ∧ vx34.toInt ≤ 2147483647 := by rw [e35]; exact ti_addc (c := 1) (n := 1) rfl x3v)
        refine ok_mono (ih x1v x2v vx34 δ I (show 0 ≤ (vx34).toInt by first | with_reducible assumption | omega) (show (vx34).toInt ≤ 2000 by first | with_reducible assumption | omega) (show 2000 - (vx34).toInt < _ by omega)) (fun r40 hr41 => ?_)
        have i42 := hr41
        have f43 := ti_b r40.1
        exact by assumption
      · have c44 : x2v.toInt < vx23.toInt := o_nle h32
        unfold J_X3_widestGap_44
        refine ok_biv (fun vx45 e46 => ?_)
        first | (have q47 := te_addc (c := 1) (n := 1) rfl x3v (by omega) (by omega); rw [← e46] at q47; obtain ⟨f48, f49, f50⟩ := q47) | (obtain ⟨q47, f48, f49, f50⟩ : ∃ q : Int, vx45.toInt = x3v.toInt + (1 : Int) + 4294967296 * q ∧ -2147483648 ≤ vx45.toInt ∧ vx45.toInt ≤ 2147483647 := by rw [e46]; exact ti_addc (c := 1) (n := 1) rfl x3v)
        refine ok_mono (ih x3v vx23 vx45 δ I (show 0 ≤ (vx45).toInt by first | with_reducible assumption | omega) (show (vx45).toInt ≤ 2000 by first | with_reducible assumption | omega) (show 2000 - (vx45).toInt < _ by omega)) (fun r51 hr52 => ?_)
        have i53 := hr52
        have f54 := ti_b r51.1
        exact by assumption
set_option maxHeartbeats 4000000 in
theorem k_X3_widestGap {ad : List Nat} {h : hp} (L : Lay TLx ad h) {δ0 : dp} {N : Nat} (hN : 10000000 ≤ N) {a0 : Nat} (k_a0 : q_K h.1 a0 = 3) {δ : dp} (I : CI ad h.1 δ0 δ) : ok (D_X3_widestGap N h.1 a0 δ) (fun r => r.2 = δ) := by
  unfold D_X3_widestGap
  refine ok_mono (kl_X3_widestGap_6 L hN   k_a0 _ (-1 : Int32) (0 : Int32) (0 : Int32) δ I (show 0 ≤ (0 : Int) by first | with_reducible assumption | omega) (show (0 : Int) ≤ 2000 by first | with_reducible assumption | omega) (show 2000 - (0 : Int) < _ by omega)) (fun r1 hr2 => ?_)
  have i3 := hr2
  have f4 := ti_b r1.1
  exact by assumption
set_option maxHeartbeats 4000000 in
theorem kl_X3_beFirstSet_15 {ad : List Nat} {h : hp} (L : Lay TLx ad h) {δ0 : dp} {N : Nat} (hN : 10000000 ≤ N) {a0 : Nat} {x1 : Int32} (k_a0 : q_K h.1 a0 = 3) : ∀ (n : Nat) (x2v : Int32) (δ : dp), CI ad h.1 δ0 δ → 0 ≤ (x2v).toInt → (x2v).toInt ≤ 2000 → 2000 - (x2v).toInt < (n : Int) → ok (L_X3_beFirstSet_15 N h.1 a0 x1 n x2v δ) (fun r => CI ad h.1 δ0 r ∧ (kp [(3, 1)] δ r ∧ q_V r = q_V δ)) := by
  intro n
  induction n with
  | zero =>
    intro x2v δ I j0 j1 hm
    have f1 := ti_b x2v
    exfalso; omega
  | succ n ih =>
    intro x2v δ I j0 j1 hm
    unfold L_X3_beFirstSet_15
    have f1 := ti_b x2v
    obtain ⟨b2, o3, k4, ⟨n5, n6⟩, w7⟩ := gO_3_0 L k_a0
    have f8 := cb_3_1 I k_a0 o3
    refine ok_ite (fun h9 => ?_) (fun h9 => ?_)
    · have c10 : (q_I δ 3 1 a0).toInt ≤ x2v.toInt := o_le h9
      exact ok_some (show CI ad h.1 δ0 δ ∧ (kp [(3, 1)] δ δ ∧ q_V δ = q_V δ) from ⟨I, ⟨kp_w (by decide) kp_r, rfl⟩⟩)
    · have c11 : x2v.toInt < (q_I δ 3 1 a0).toInt := o_nle h9
      refine ok_at o3 ?_
      have t12 := ti_tn x2v
      refine ok_gd (fun hc13 => ?_) ?_
      · rcases hc13 with hc13 | hc13
        · have c14 : x2v.toInt < (0 : Int) := o_lt hc13
          omega
        · omega
      refine ok_bdv (fun d15 e16 => ?_)
      have i17 : CI ad h.1 δ0 d15 := by rw [e16]; exact CI.sR L I w7
      have u18 := kp_N kp_r (show q_I d15 = q_I δ by rw [e16]; rfl)
      have v19 : q_V d15 = q_V δ := ((show q_V d15 = q_V δ by rw [e16]; rfl)).trans rfl
      refine ok_biv (fun vx20 e21 => ?_)
      first | (have q22 := te_addc (c := 1) (n := 1) rfl x2v (by omega) (by omega); rw [← e21] at q22; obtain ⟨f23, f24, f25⟩ := q22) | (obtain ⟨q22, f23, f24, f25⟩ : ∃ q : Int, vx20.toInt = x2v.toInt + (1 : Int) + 4294967296 * q ∧ -2147483648 ≤ vx20.toInt ∧ vx20.toInt ≤ 2147483647 := by rw [e21]; exact ti_addc (c := 1) (n := 1) rfl x2v)
      refine ok_mono (ih vx20 d15 i17 (show 0 ≤ (vx20).toInt by first | with_reducible assumption | omega) (show (vx20).toInt ≤ 2000 by first | with_reducible assumption | omega) (show 2000 - (vx20).toInt < _ by omega)) (fun r26 hr27 => ?_)
      obtain ⟨i28, ⟨u29, u30⟩⟩ := hr27
      have u31 := kp_t u18 u29
      have v32 : q_V r26 = q_V δ := (u30).trans v19
      exact ⟨by first | with_reducible assumption | assumption, ⟨kp_w (by decide) u31, v32⟩⟩
set_option maxHeartbeats 4000000 in
theorem k_X3_beFirstSet {ad : List Nat} {h : hp} (L : Lay TLx ad h) {δ0 : dp} {N : Nat} (hN : 10000000 ≤ N) {a0 : Nat} {x1 : Int32} (k_a0 : q_K h.1 a0 = 3) {δ : dp} (z0 : 0 ≤ (x1).toInt) (I : CI ad h.1 δ0 δ) : ok (D_X3_beFirstSet N h.1 a0 x1 δ) (fun r => CI ad h.1 δ0 r ∧ (kp [(3, 1)] δ r ∧ q_V r = q_V δ)) := by
  unfold D_X3_beFirstSet
  have f1 := ti_b x1
  obtain ⟨b2, o3, k4, ⟨n5, n6⟩, w7⟩ := gO_3_0 L k_a0
  refine ok_at o3 ?_
  refine ok_bind (k_J9_min_7cf53 L hN (x0 := x1) (x1 := (Int32.ofNat (q_N h.1 b2)))  I) (fun r8 hr9 => ?_)
  obtain ⟨i10, p11, p12, p13⟩ := hr9
  try rw [i10]
  have f14 := ti_b r8.1
  have f15 := n_ti (q_N h.1 b2) (by omega)
  refine ok_bdv (fun d16 e17 => ?_)
  have i18 : CI ad h.1 δ0 d16 := by rw [e17]; exact cs_3_1 L I o3 (show 0 ≤ r8.1.toInt by omega) (show r8.1.toInt ≤ (q_N h.1 b2 : Int) by omega)
  have u19 := kp_I kp_r e17
  have v20 : q_V d16 = q_V δ := ((show q_V d16 = q_V δ by rw [e17]; rfl)).trans rfl
  refine ok_mono (kl_X3_beFirstSet_15 L hN   k_a0 _ (0 : Int32) d16 i18 (show 0 ≤ (0 : Int) by first | with_reducible assumption | omega) (show (0 : Int) ≤ 2000 by first | with_reducible assumption | omega) (show 2000 - (0 : Int) < _ by omega)) (fun r21 hr22 => ?_)
  obtain ⟨i23, ⟨u24, u25⟩⟩ := hr22
  have u26 := kp_t u19 u24
  have v27 : q_V r21 = q_V δ := (u25).trans v20
  exact ⟨by first | with_reducible assumption | assumption, ⟨kp_w (by decide) u26, v27⟩⟩
set_option maxHeartbeats 4000000 in
theorem kl_X3_beNextSet_58 {ad : List Nat} {h : hp} (L : Lay TLx ad h) {δ0 : dp} {N : Nat} (hN : 10000000 ≤ N) {a0 : Nat} {x1 : Int32} (k_a0 : q_K h.1 a0 = 3) : ∀ (n : Nat) (x2v : Int32) (x4v : Int32) (δ : dp), CI ad h.1 δ0 δ → 0 ≤ (x4v).toInt → (x4v).toInt ≤ (x2v).toInt → (x2v).toInt < (q_I δ 3 1 a0).toInt → (x2v).toInt - (x4v).toInt < (n : Int) → ok (L_X3_beNextSet_58 N h.1 a0 x1 n x2v x4v δ) (fun r => CI ad h.1 δ0 r.2 ∧ (kp [] δ r.2 ∧ q_V r.2 = q_V δ) ∧ bo (r.1)) := by
  intro n
  induction n with
  | zero =>
    intro x2v x4v δ I j0 j1 j2 hm
    have f1 := ti_b x4v
    have f2 := ti_b x2v
    obtain ⟨b3, o4, k5, ⟨n6, n7⟩, w8⟩ := gO_3_0 L k_a0
    have f9 := cb_3_1 I k_a0 o4
    exfalso; omega
  | succ n ih =>
    intro x2v x4v δ I j0 j1 j2 hm
    unfold L_X3_beNextSet_58
    have f1 := ti_b x4v
    have f2 := ti_b x2v
    obtain ⟨b3, o4, k5, ⟨n6, n7⟩, w8⟩ := gO_3_0 L k_a0
    have f9 := cb_3_1 I k_a0 o4
    refine ok_ite (fun h10 => ?_) (fun h10 => ?_)
    · have c11 : x2v.toInt ≤ x4v.toInt := o_le h10
      refine ok_gp (by decide) ?_
      exact ok_some (show CI ad h.1 δ0 δ ∧ (kp [] δ δ ∧ q_V δ = q_V δ) ∧ bo ((1 : Int32)) from ⟨I, ⟨kp_w (by decide) kp_r, rfl⟩, bo_1⟩)
    · have c12 : x4v.toInt < x2v.toInt := o_nle h10
      refine ok_at o4 ?_
      have t13 := ti_tn x4v
      refine ok_gd (fun hc14 => ?_) ?_
      · rcases hc14 with hc14 | hc14
        · have c15 : x4v.toInt < (0 : Int) := o_lt hc14
          omega
        · omega
      refine ok_bdv (fun d16 e17 => ?_)
      have i18 : CI ad h.1 δ0 d16 := by rw [e17]; exact CI.sR L I w8
      have u19 := kp_N kp_r (show q_I d16 = q_I δ by rw [e17]; rfl)
      have v20 : q_V d16 = q_V δ := ((show q_V d16 = q_V δ by rw [e17]; rfl)).trans rfl
      refine ok_biv (fun vx21 e22 => ?_)
      first | (have q23 := te_addc (c := 1) (n := 1) rfl x4v (by omega) (by omega); rw [← e22] at q23; obtain ⟨f24, f25, f26⟩ := q23) | (obtain ⟨q23, f24, f25, f26⟩ : ∃ q : Int, vx21.toInt = x4v.toInt + (1 : Int) + 4294967296 * q ∧ -2147483648 ≤ vx21.toInt ∧ vx21.toInt ≤ 2147483647 := by rw [e22]; exact ti_addc (c := 1) (n := 1) rfl x4v)
      have f27 : (q_I d16 3 1 a0).toInt = (q_I δ 3 1 a0).toInt := congrArg Int32.toInt (by rw [e17]; rfl)
      refine ok_mono (ih x2v vx21 d16 i18 (show 0 ≤ (vx21).toInt by first | with_reducible assumption | omega) (show (vx21).toInt ≤ (x2v).toInt by first | with_reducible assumption | omega) (show (x2v).toInt < (q_I d16 3 1 a0).toInt by first | with_reducible assumption | omega) (show (x2v).toInt - (vx21).toInt < _ by omega)) (fun r28 hr29 => ?_)
      obtain ⟨i30, ⟨u32, u33⟩, p31⟩ := hr29
      have u34 := kp_t u19 u32
      have v35 : q_V r28.2 = q_V δ := (u33).trans v20
      have f36 := bo_t p31
      have f37 := ti_b r28.1
      exact ⟨by first | with_reducible assumption | assumption, ⟨kp_w (by decide) u34, v35⟩, by first | with_reducible assumption | omega⟩
set_option maxHeartbeats 4000000 in
theorem kl_X3_beNextSet_2 {ad : List Nat} {h : hp} (L : Lay TLx ad h) {δ0 : dp} {N : Nat} (hN : 10000000 ≤ N) {a0 : Nat} {x1 : Int32} (k_a0 : q_K h.1 a0 = 3) : ∀ (n : Nat) (x2v : Int32) (δ : dp), CI ad h.1 δ0 δ → 0 ≤ (x2v).toInt → (x2v).toInt ≤ 2000 → 2000 - (x2v).toInt < (n : Int) → ok (L_X3_beNextSet_2 N h.1 a0 x1 n x2v δ) (fun r => CI ad h.1 δ0 r.2 ∧ (kp [] δ r.2 ∧ q_V r.2 = q_V δ) ∧ bo (r.1)) := by
  intro n
  induction n with
  | zero =>
    intro x2v δ I j0 j1 hm
    have f1 := ti_b x2v
    exfalso; omega
  | succ n ih =>
    intro x2v δ I j0 j1 hm
    unfold L_X3_beNextSet_2
    have f1 := ti_b x2v
    obtain ⟨b2, o3, k4, ⟨n5, n6⟩, w7⟩ := gO_3_0 L k_a0
    have f8 := cb_3_1 I k_a0 o3
    refine ok_ite (fun h9 => ?_) (fun h9 => ?_)
    · have c10 : (q_I δ 3 1 a0).toInt ≤ x2v.toInt := o_le h9
      refine ok_gp (by decide) ?_
      exact ok_some (show CI ad h.1 δ0 δ ∧ (kp [] δ δ ∧ q_V δ = q_V δ) ∧ bo ((0 : Int32)) from ⟨I, ⟨kp_w (by decide) kp_r, rfl⟩, bo_0⟩)
    · have c11 : x2v.toInt < (q_I δ 3 1 a0).toInt := o_nle h9
      first | (have q13 := te_addc (c := 1) (n := 1) rfl x2v (by omega) (by omega); obtain ⟨f14, f15, f16⟩ := q13) | (obtain ⟨q13, f14, f15, f16⟩ := ti_addc (c := 1) (n := 1) rfl x2v)
      refine ok_ite (fun h17 => ?_) (fun h17 => ?_)
      · have c18 : (q_I δ 3 1 a0).toInt ≤ (x2v + (1 : Int32)).toInt := o_le h17
        unfold J_X3_beNextSet_32
        refine ok_at o3 ?_
        have t19 := ti_tn x2v
        refine ok_gd (fun hc20 => ?_) ?_
        · rcases hc20 with hc20 | hc20
          · have c21 : x2v.toInt < (0 : Int) := o_lt hc20
            omega
          · omega
        have f22 := ti_b x1
        have f23 := ti_b (q_R δ b2 x2v.toNatClampNeg)
        first | (have q25 := te_addc (c := 1) (n := 1) rfl (q_R δ b2 x2v.toNatClampNeg) (by omega) (by omega); obtain ⟨f26, f27, f28⟩ := q25) | (obtain ⟨q25, f26, f27, f28⟩ := ti_addc (c := 1) (n := 1) rfl (q_R δ b2 x2v.toNatClampNeg))
        refine ok_ite (fun h29 => ?_) (fun h29 => ?_)
        · have c30 : x1.toInt ≤ ((q_R δ b2 x2v.toNatClampNeg) + (1 : Int32)).toInt := o_le h29
          refine ok_biv (fun vx31 e32 => ?_)
          first | (have q33 := te_addc (c := 1) (n := 1) rfl x2v (by omega) (by omega); rw [← e32] at q33; obtain ⟨f34, f35, f36⟩ := q33) | (obtain ⟨q33, f34, f35, f36⟩ : ∃ q : Int, vx31.toInt = x2v.toInt + (1 : Int) + 4294967296 * q ∧ -2147483648 ≤ vx31.toInt ∧ vx31.toInt ≤ 2147483647 := by rw [e32]; exact ti_addc (c := 1) (n := 1) rfl x2v)
          refine ok_mono (ih vx31 δ I (show 0 ≤ (vx31).toInt by first | with_reducible assumption | omega) (show (vx31).toInt ≤ 2000 by first | with_reducible assumption | omega) (show 2000 - (vx31).toInt < _ by omega)) (fun r37 hr38 => ?_)
          obtain ⟨i39, ⟨u41, u42⟩, p40⟩ := hr38
          have u43 := kp_t kp_r u41
          have v44 : q_V r37.2 = q_V δ := (u42).trans rfl
          have f45 := bo_t p40
          have f46 := ti_b r37.1
          exact ⟨by first | with_reducible assumption | assumption, ⟨kp_w (by decide) u43, v44⟩, by first | with_reducible assumption | omega⟩
        · have c47 : ((q_R δ b2 x2v.toNatClampNeg) + (1 : Int32)).toInt < x1.toInt := o_nle h29
          refine ok_at o3 ?_
          refine ok_gd (fun hc48 => ?_) ?_
          · rcases hc48 with hc48 | hc48
            · have c49 : x2v.toInt < (0 : Int) := o_lt hc48
              omega
            · omega
          refine ok_gd (fun hc50 => ?_) ?_
          · rcases hc50 with hc50 | hc50
            · have c51 : x2v.toInt < (0 : Int) := o_lt hc50
              omega
            · omega
          refine ok_bdv (fun d52 e53 => ?_)
          have i54 : CI ad h.1 δ0 d52 := by rw [e53]; exact CI.sR L I w7
          have u55 := kp_N kp_r (show q_I d52 = q_I δ by rw [e53]; rfl)
          have v56 : q_V d52 = q_V δ := ((show q_V d52 = q_V δ by rw [e53]; rfl)).trans rfl
          have f57 : (q_I d52 3 1 a0).toInt = (q_I δ 3 1 a0).toInt := congrArg Int32.toInt (by rw [e53]; rfl)
          refine ok_mono (kl_X3_beNextSet_58 L hN   k_a0 _ x2v (0 : Int32) d52 i54 (show 0 ≤ (0 : Int) by first | with_reducible assumption | omega) (show (0 : Int) ≤ (x2v).toInt by first | with_reducible assumption | omega) (show (x2v).toInt < (q_I d52 3 1 a0).toInt by first | with_reducible assumption | omega) (show (x2v).toInt - (0 : Int) < _ by omega)) (fun r58 hr59 => ?_)
          obtain ⟨i60, ⟨u62, u63⟩, p61⟩ := hr59
          have u64 := kp_t u55 u62
          have v65 : q_V r58.2 = q_V δ := (u63).trans v56
          have f66 := bo_t p61
          have f67 := ti_b r58.1
          exact ⟨by first | with_reducible assumption | assumption, ⟨kp_w (by decide) u64, v65⟩, by first | with_reducible assumption | omega⟩
      · have c68 : (x2v + (1 : Int32)).toInt < (q_I δ 3 1 a0).toInt := o_nle h17
        refine ok_at o3 ?_
        have t69 := ti_tn (x2v + (1 : Int32))
        refine ok_gd (fun hc70 => ?_) ?_
        · rcases hc70 with hc70 | hc70
          · have c71 : (x2v + (1 : Int32)).toInt < (0 : Int) := o_lt hc70
            omega
          · omega
        unfold J_X3_beNextSet_32
        refine ok_at o3 ?_
        have t72 := ti_tn x2v
        refine ok_gd (fun hc73 => ?_) ?_
        · rcases hc73 with hc73 | hc73
          · have c74 : x2v.toInt < (0 : Int) := o_lt hc73
            omega
          · omega
        have f75 := ti_b (q_R δ b2 (x2v + (1 : Int32)).toNatClampNeg)
        have f76 := ti_b (q_R δ b2 x2v.toNatClampNeg)
        first | (have q78 := te_addc (c := 1) (n := 1) rfl (q_R δ b2 x2v.toNatClampNeg) (by omega) (by omega); obtain ⟨f79, f80, f81⟩ := q78) | (obtain ⟨q78, f79, f80, f81⟩ := ti_addc (c := 1) (n := 1) rfl (q_R δ b2 x2v.toNatClampNeg))
        refine ok_ite (fun h82 => ?_) (fun h82 => ?_)
        · have c83 : (q_R δ b2 (x2v + (1 : Int32)).toNatClampNeg).toInt ≤ ((q_R δ b2 x2v.toNatClampNeg) + (1 : Int32)).toInt := o_le h82
          refine ok_biv (fun vx84 e85 => ?_)
          first | (have q86 := te_addc (c := 1) (n := 1) rfl x2v (by omega) (by omega); rw [← e85] at q86; obtain ⟨f87, f88, f89⟩ := q86) | (obtain ⟨q86, f87, f88, f89⟩ : ∃ q : Int, vx84.toInt = x2v.toInt + (1 : Int) + 4294967296 * q ∧ -2147483648 ≤ vx84.toInt ∧ vx84.toInt ≤ 2147483647 := by rw [e85]; exact ti_addc (c := 1) (n := 1) rfl x2v)
          refine ok_mono (ih vx84 δ I (show 0 ≤ (vx84).toInt by first | with_reducible assumption | omega) (show (vx84).toInt ≤ 2000 by first | with_reducible assumption | omega) (show 2000 - (vx84).toInt < _ by omega)) (fun r90 hr91 => ?_)
          obtain ⟨i92, ⟨u94, u95⟩, p93⟩ := hr91
          have u96 := kp_t kp_r u94
          have v97 : q_V r90.2 = q_V δ := (u95).trans rfl
          have f98 := bo_t p93
          have f99 := ti_b r90.1
          exact ⟨by first | with_reducible assumption | assumption, ⟨kp_w (by decide) u96, v97⟩, by first | with_reducible assumption | omega⟩
        · have c100 : ((q_R δ b2 x2v.toNatClampNeg) + (1 : Int32)).toInt < (q_R δ b2 (x2v + (1 : Int32)).toNatClampNeg).toInt := o_nle h82
          refine ok_at o3 ?_
          refine ok_gd (fun hc101 => ?_) ?_
          · rcases hc101 with hc101 | hc101
            · have c102 : x2v.toInt < (0 : Int) := o_lt hc101
              omega
            · omega
          refine ok_gd (fun hc103 => ?_) ?_
          · rcases hc103 with hc103 | hc103
            · have c104 : x2v.toInt < (0 : Int) := o_lt hc103
              omega
            · omega
          refine ok_bdv (fun d105 e106 => ?_)
          have i107 : CI ad h.1 δ0 d105 := by rw [e106]; exact CI.sR L I w7
          have u108 := kp_N kp_r (show q_I d105 = q_I δ by rw [e106]; rfl)
          have v109 : q_V d105 = q_V δ := ((show q_V d105 = q_V δ by rw [e106]; rfl)).trans rfl
          have f110 : (q_I d105 3 1 a0).toInt = (q_I δ 3 1 a0).toInt := congrArg Int32.toInt (by rw [e106]; rfl)
          refine ok_mono (kl_X3_beNextSet_58 L hN   k_a0 _ x2v (0 : Int32) d105 i107 (show 0 ≤ (0 : Int) by first | with_reducible assumption | omega) (show (0 : Int) ≤ (x2v).toInt by first | with_reducible assumption | omega) (show (x2v).toInt < (q_I d105 3 1 a0).toInt by first | with_reducible assumption | omega) (show (x2v).toInt - (0 : Int) < _ by omega)) (fun r111 hr112 => ?_)
          obtain ⟨i113, ⟨u115, u116⟩, p114⟩ := hr112
          have u117 := kp_t u108 u115
          have v118 : q_V r111.2 = q_V δ := (u116).trans v109
          have f119 := bo_t p114
          have f120 := ti_b r111.1
          exact ⟨by first | with_reducible assumption | assumption, ⟨kp_w (by decide) u117, v118⟩, by first | with_reducible assumption | omega⟩
set_option maxHeartbeats 4000000 in
theorem k_X3_beNextSet {ad : List Nat} {h : hp} (L : Lay TLx ad h) {δ0 : dp} {N : Nat} (hN : 10000000 ≤ N) {a0 : Nat} {x1 : Int32} (k_a0 : q_K h.1 a0 = 3) {δ : dp} (I : CI ad h.1 δ0 δ) : ok (D_X3_beNextSet N h.1 a0 x1 δ) (fun r => CI ad h.1 δ0 r.2 ∧ (kp [] δ r.2 ∧ q_V r.2 = q_V δ) ∧ bo (r.1)) := by
  unfold D_X3_beNextSet
  refine ok_mono (kl_X3_beNextSet_2 L hN   k_a0 _ (0 : Int32) δ I (show 0 ≤ (0 : Int) by first | with_reducible assumption | omega) (show (0 : Int) ≤ 2000 by first | with_reducible assumption | omega) (show 2000 - (0 : Int) < _ by omega)) (fun r1 hr2 => ?_)
  obtain ⟨i3, ⟨u5, u6⟩, p4⟩ := hr2
  have u7 := kp_t kp_r u5
  have v8 : q_V r1.2 = q_V δ := (u6).trans rfl
  have f9 := bo_t p4
  have f10 := ti_b r1.1
  exact ⟨by first | with_reducible assumption | assumption, ⟨kp_w (by decide) u7, v8⟩, by first | with_reducible assumption | omega⟩
