/-! 61.kX3b (by gen_safe.py) -/
set_option maxHeartbeats 4000000 in
theorem k_X3_copyFrom {ad : List Nat} {h : hp} (L : Lay TLx ad h) {δ0 : dp} {N : Nat} (hN : 10000000 ≤ N) {a0 : Nat} {a1 : Nat} (k_a0 : q_K h.1 a0 = 3) (k_a1 : q_K h.1 a1 = 3) {δ : dp} (I : CI ad h.1 δ0 δ) : ok (D_X3_copyFrom N h.1 a0 a1 δ) (fun r => CI ad h.1 δ0 r ∧ (kp [(3, 1)] δ r ∧ q_V r = q_V δ)) := by
  unfold D_X3_copyFrom
  obtain ⟨b1, o2, k3, ⟨n4, n5⟩, w6⟩ := gO_3_0 L k_a0
  refine ok_at o2 ?_
  refine ok_bind (k_J9_min_7cf53 L hN (x0 := (q_I δ 3 1 a1)) (x1 := (Int32.ofNat (q_N h.1 b1)))  I) (fun r7 hr8 => ?_)
  obtain ⟨i9, p10, p11, p12⟩ := hr8
  try rw [i9]
  have f13 := ti_b r7.1
  obtain ⟨b14, o15, k16, ⟨n17, n18⟩, w19⟩ := gO_3_0 L k_a1
  have f20 := cb_3_1 I k_a1 o15
  have f21 := n_ti (q_N h.1 b1) (by omega)
  have f22 := ti_b r7.1
  refine ok_bdv (fun d23 e24 => ?_)
  have i25 : CI ad h.1 δ0 d23 := by rw [e24]; exact cs_3_1 L I o2 (show 0 ≤ r7.1.toInt by omega) (show r7.1.toInt ≤ (q_N h.1 b1 : Int) by omega)
  have u26 := kp_I kp_r e24
  have v27 : q_V d23 = q_V δ := ((show q_V d23 = q_V δ by rw [e24]; rfl)).trans rfl
  refine ok_at o15 ?_
  refine ok_at o2 ?_
  have f28 := cb_3_1 i25 k_a0 o2
  have f29 : (q_I d23 3 1 a0).toInt = r7.1.toInt := congrArg Int32.toInt (show q_I d23 3 1 a0 = r7.1 by rw [e24]; exact rI_s)
  have t30 : (0 : Int32).toNatClampNeg = 0 := rfl
  have t31 := ti_tn (q_I d23 3 1 a0)
  refine ok_gd (fun hc32 => ?_) ?_
  · rcases hc32 with hc32 | hc32 | hc32 | hc32 | hc32
    · have c33 : (0 : Int) < (0 : Int) := o_lt hc32
      omega
    · have c34 : (0 : Int) < (0 : Int) := o_lt hc32
      omega
    · have c35 : (q_I d23 3 1 a0).toInt < (0 : Int) := o_lt hc32
      omega
    · omega
    · omega
  refine ok_bdv (fun d36 e37 => ?_)
  have i38 : CI ad h.1 δ0 d36 := by rw [e37]; exact CI.sC L i25 w6
  have u39 := kp_N u26 (show q_I d36 = q_I d23 by rw [e37]; rfl)
  have v40 : q_V d36 = q_V δ := ((show q_V d36 = q_V d23 by rw [e37]; rfl)).trans v27
  exact ok_some (show CI ad h.1 δ0 d36 ∧ (kp [(3, 1)] δ d36 ∧ q_V d36 = q_V δ) from ⟨i38, ⟨kp_w (by decide) u39, v40⟩⟩)
set_option maxHeartbeats 4000000 in
theorem kl_X3_commonFrom_5 {ad : List Nat} {h : hp} (L : Lay TLx ad h) {δ0 : dp} {N : Nat} (hN : 10000000 ≤ N) {a0 : Nat} {x1 : Int32} {a2 : Nat} (k_a0 : q_K h.1 a0 = 3) (k_a2 : q_K h.1 a2 = 3) : ∀ (n : Nat) (x3v : Int32) (x4v : Int32) (δ : dp), CI ad h.1 δ0 δ → 0 ≤ (x4v).toInt → (x4v).toInt ≤ 2000 → 2000 - (x4v).toInt < (n : Int) → ok (L_X3_commonFrom_5 N h.1 a0 x1 a2 n x3v x4v δ) (fun r => r.2 = δ) := by
  intro n
  induction n with
  | zero =>
    intro x3v x4v δ I j0 j1 hm
    have f1 := ti_b x4v
    exfalso; omega
  | succ n ih =>
    intro x3v x4v δ I j0 j1 hm
    unfold L_X3_commonFrom_5
    have f1 := ti_b x4v
    obtain ⟨b2, o3, k4, ⟨n5, n6⟩, w7⟩ := gO_3_0 L k_a0
    have f8 := cb_3_1 I k_a0 o3
    refine ok_ite (fun h9 => ?_) (fun h9 => ?_)
    · have c10 : (q_I δ 3 1 a0).toInt ≤ x4v.toInt := o_le h9
      exact ok_some (show δ = δ from rfl)
    · have c11 : x4v.toInt < (q_I δ 3 1 a0).toInt := o_nle h9
      refine ok_at o3 ?_
      have t12 := ti_tn x4v
      refine ok_gd (fun hc13 => ?_) ?_
      · rcases hc13 with hc13 | hc13
        · have c14 : x4v.toInt < (0 : Int) := o_lt hc13
          omega
        · omega
      refine ok_bind (k_X3_holds L hN (a0 := a2) (x1 := (q_R δ b2 x4v.toNatClampNeg)) k_a2 I) (fun r15 hr16 => ?_)
      obtain ⟨i17, p18⟩ := hr16
      try rw [i17]
      have f19 := bo_t p18
      have f20 := ti_b r15.1
      refine ok_ite (fun h21 => ?_) (fun h21 => ?_)
      · have c22 : r15.1.toInt = (0 : Int) := o_eq h21
        unfold J_X3_commonFrom_31
        refine ok_biv (fun vx23 e24 => ?_)
        first | (have q25 := te_addc (c := 1) (n := 1) rfl x4v (by omega) (by omega); rw [← e24] at q25; obtain ⟨f26, f27, f28⟩ := q25) | (obtain ⟨q25, f26, f27, f28⟩ : ∃ q : Int, vx23.toInt = x4v.toInt + (1 : Int) + 4294967296 * q ∧ -2147483648 ≤ vx23.toInt ∧ vx23.toInt ≤ 2147483647 := by rw [e24]; exact ti_addc (c := 1) (n := 1) rfl x4v)
        refine ok_mono (ih x3v vx23 δ I (show 0 ≤ (vx23).toInt by first | assumption | omega) (show (vx23).toInt ≤ 2000 by first | assumption | omega) (show 2000 - (vx23).toInt < _ by omega)) (fun r29 hr30 => ?_)
        have i31 := hr30
        have f32 := ti_b r29.1
        exact by assumption
      · have c33 : r15.1.toInt ≠ (0 : Int) := o_ne h21
        have f36 := ti_b x3v
        refine ok_biv (fun vx34 e35 => ?_)
        first | (have q37 := te_addc (c := 1) (n := 1) rfl x3v (by omega) (by omega); rw [← e35] at q37; obtain ⟨f38, f39, f40⟩ := q37) | (obtain ⟨q37, f38, f39, f40⟩ : ∃ q : Int, vx34.toInt = x3v.toInt + (1 : Int) + 4294967296 * q ∧ -2147483648 ≤ vx34.toInt ∧ vx34.toInt ≤ 2147483647 := by rw [e35]; exact ti_addc (c := 1) (n := 1) rfl x3v)
        unfold J_X3_commonFrom_31
        refine ok_biv (fun vx41 e42 => ?_)
        first | (have q43 := te_addc (c := 1) (n := 1) rfl x4v (by omega) (by omega); rw [← e42] at q43; obtain ⟨f44, f45, f46⟩ := q43) | (obtain ⟨q43, f44, f45, f46⟩ : ∃ q : Int, vx41.toInt = x4v.toInt + (1 : Int) + 4294967296 * q ∧ -2147483648 ≤ vx41.toInt ∧ vx41.toInt ≤ 2147483647 := by rw [e42]; exact ti_addc (c := 1) (n := 1) rfl x4v)
        refine ok_mono (ih vx34 vx41 δ I (show 0 ≤ (vx41).toInt by first | assumption | omega) (show (vx41).toInt ≤ 2000 by first | assumption | omega) (show 2000 - (vx41).toInt < _ by omega)) (fun r47 hr48 => ?_)
        have i49 := hr48
        have f50 := ti_b r47.1
        exact by assumption
set_option maxHeartbeats 4000000 in
theorem k_X3_commonFrom {ad : List Nat} {h : hp} (L : Lay TLx ad h) {δ0 : dp} {N : Nat} (hN : 10000000 ≤ N) {a0 : Nat} {x1 : Int32} {a2 : Nat} (k_a0 : q_K h.1 a0 = 3) (k_a2 : q_K h.1 a2 = 3) {δ : dp} (z0 : 0 ≤ (x1).toInt) (z1 : (x1).toInt ≤ 2000) (I : CI ad h.1 δ0 δ) : ok (D_X3_commonFrom N h.1 a0 x1 a2 δ) (fun r => r.2 = δ) := by
  unfold D_X3_commonFrom
  have f1 := ti_b x1
  refine ok_mono (kl_X3_commonFrom_5 L hN   k_a0 k_a2 _ (0 : Int32) x1 δ I (show 0 ≤ (x1).toInt by first | assumption | omega) (show (x1).toInt ≤ 2000 by first | assumption | omega) (show 2000 - (x1).toInt < _ by omega)) (fun r2 hr3 => ?_)
  have i4 := hr3
  have f5 := ti_b r2.1
  exact by assumption
set_option maxHeartbeats 4000000 in
theorem kl_X3_runsWith_10 {ad : List Nat} {h : hp} (L : Lay TLx ad h) {δ0 : dp} {N : Nat} (hN : 10000000 ≤ N) {a0 : Nat} {a1 : Nat} (k_a0 : q_K h.1 a0 = 3) (k_a1 : q_K h.1 a1 = 3) : ∀ (n : Nat) (x2v : Int32) (x3v : Int32) (x4v : Int32) (x5v : Int32) (δ : dp), CI ad h.1 δ0 δ → 0 ≤ (x4v).toInt → (x4v).toInt ≤ (q_I δ 3 1 a0).toInt → 0 ≤ (x5v).toInt → (x5v).toInt ≤ (q_I δ 3 1 a1).toInt → (q_I δ 3 1 a0).toInt - (x4v).toInt + ((q_I δ 3 1 a1).toInt - (x5v).toInt) < (n : Int) → ok (L_X3_runsWith_10 N h.1 a0 a1 n x2v x3v x4v x5v δ) (fun r => r.2 = δ) := by
  intro n
  induction n with
  | zero =>
    intro x2v x3v x4v x5v δ I j0 j1 j2 j3 hm
    have f1 := ti_b x4v
    obtain ⟨b2, o3, k4, ⟨n5, n6⟩, w7⟩ := gO_3_0 L k_a0
    have f8 := cb_3_1 I k_a0 o3
    have f9 := ti_b x5v
    obtain ⟨b10, o11, k12, ⟨n13, n14⟩, w15⟩ := gO_3_0 L k_a1
    have f16 := cb_3_1 I k_a1 o11
    exfalso; omega
  | succ n ih =>
    intro x2v x3v x4v x5v δ I j0 j1 j2 j3 hm
    unfold L_X3_runsWith_10
    have f1 := ti_b x4v
    obtain ⟨b2, o3, k4, ⟨n5, n6⟩, w7⟩ := gO_3_0 L k_a0
    have f8 := cb_3_1 I k_a0 o3
    have f9 := ti_b x5v
    obtain ⟨b10, o11, k12, ⟨n13, n14⟩, w15⟩ := gO_3_0 L k_a1
    have f16 := cb_3_1 I k_a1 o11
    refine ok_ite (fun h17 => ?_) (fun h17 => ?_)
    · have c18 : x4v.toInt < (q_I δ 3 1 a0).toInt := o_lt h17
      unfold J_X3_runsWith_28
      refine ok_ite (fun h19 => ?_) (fun h19 => ?_)
      · have c20 : x4v.toInt < (q_I δ 3 1 a0).toInt := o_lt h19
        refine ok_ite (fun h21 => ?_) (fun h21 => ?_)
        · have c22 : x5v.toInt < (q_I δ 3 1 a1).toInt := o_lt h21
          refine ok_at o3 ?_
          have t23 := ti_tn x4v
          refine ok_gd (fun hc24 => ?_) ?_
          · rcases hc24 with hc24 | hc24
            · have c25 : x4v.toInt < (0 : Int) := o_lt hc24
              omega
            · omega
          refine ok_at o11 ?_
          have t26 := ti_tn x5v
          refine ok_gd (fun hc27 => ?_) ?_
          · rcases hc27 with hc27 | hc27
            · have c28 : x5v.toInt < (0 : Int) := o_lt hc27
              omega
            · omega
          refine ok_bind (k_J6_compare_7cf53 L hN (x0 := (q_R δ b2 x4v.toNatClampNeg)) (x1 := (q_R δ b10 x5v.toNatClampNeg))  I) (fun r29 hr30 => ?_)
          obtain ⟨i31, p32⟩ := hr30
          try rw [i31]
          have f33 := ti_b r29.1
          have f34 := ti_b r29.1
          unfold J_X3_runsWith_71
          refine ok_ite (fun h35 => ?_) (fun h35 => ?_)
          · have c36 : r29.1.toInt = (0 : Int) := o_eq h35
            unfold J_X3_runsWith_90
            refine ok_ite (fun h37 => ?_) (fun h37 => ?_)
            · have c38 : (0 : Int) < r29.1.toInt := o_lt h37
              unfold J_X3_runsWith_98
              refine ok_ite (fun h39 => ?_) (fun h39 => ?_)
              · have c40 : r29.1.toInt < (0 : Int) := o_lt h39
                unfold J_X3_runsWith_106
                refine ok_mono (ih x2v x3v x4v x5v δ I (show 0 ≤ (x4v).toInt by first | assumption | omega) (show (x4v).toInt ≤ (q_I δ 3 1 a0).toInt by first | assumption | omega) (show 0 ≤ (x5v).toInt by first | assumption | omega) (show (x5v).toInt ≤ (q_I δ 3 1 a1).toInt by first | assumption | omega) (show (q_I δ 3 1 a0).toInt - (x4v).toInt + ((q_I δ 3 1 a1).toInt - (x5v).toInt) < _ by omega)) (fun r41 hr42 => ?_)
                have i43 := hr42
                have f44 := ti_b r41.1
                exact by assumption
              · have c45 : (0 : Int) ≤ r29.1.toInt := o_nlt h39
                refine ok_biv (fun vx46 e47 => ?_)
                first | (have q48 := te_addc (c := 1) (n := 1) rfl x5v (by omega) (by omega); rw [← e47] at q48; obtain ⟨f49, f50, f51⟩ := q48) | (obtain ⟨q48, f49, f50, f51⟩ : ∃ q : Int, vx46.toInt = x5v.toInt + (1 : Int) + 4294967296 * q ∧ -2147483648 ≤ vx46.toInt ∧ vx46.toInt ≤ 2147483647 := by rw [e47]; exact ti_addc (c := 1) (n := 1) rfl x5v)
                unfold J_X3_runsWith_106
                refine ok_mono (ih x2v x3v x4v vx46 δ I (show 0 ≤ (x4v).toInt by first | assumption | omega) (show (x4v).toInt ≤ (q_I δ 3 1 a0).toInt by first | assumption | omega) (show 0 ≤ (vx46).toInt by first | assumption | omega) (show (vx46).toInt ≤ (q_I δ 3 1 a1).toInt by first | assumption | omega) (show (q_I δ 3 1 a0).toInt - (x4v).toInt + ((q_I δ 3 1 a1).toInt - (vx46).toInt) < _ by omega)) (fun r52 hr53 => ?_)
                have i54 := hr53
                have f55 := ti_b r52.1
                exact by assumption
            · have c56 : r29.1.toInt ≤ (0 : Int) := o_nlt h37
              refine ok_biv (fun vx57 e58 => ?_)
              first | (have q59 := te_addc (c := 1) (n := 1) rfl x4v (by omega) (by omega); rw [← e58] at q59; obtain ⟨f60, f61, f62⟩ := q59) | (obtain ⟨q59, f60, f61, f62⟩ : ∃ q : Int, vx57.toInt = x4v.toInt + (1 : Int) + 4294967296 * q ∧ -2147483648 ≤ vx57.toInt ∧ vx57.toInt ≤ 2147483647 := by rw [e58]; exact ti_addc (c := 1) (n := 1) rfl x4v)
              unfold J_X3_runsWith_98
              refine ok_ite (fun h63 => ?_) (fun h63 => ?_)
              · have c64 : r29.1.toInt < (0 : Int) := o_lt h63
                unfold J_X3_runsWith_106
                refine ok_mono (ih x2v x3v vx57 x5v δ I (show 0 ≤ (vx57).toInt by first | assumption | omega) (show (vx57).toInt ≤ (q_I δ 3 1 a0).toInt by first | assumption | omega) (show 0 ≤ (x5v).toInt by first | assumption | omega) (show (x5v).toInt ≤ (q_I δ 3 1 a1).toInt by first | assumption | omega) (show (q_I δ 3 1 a0).toInt - (vx57).toInt + ((q_I δ 3 1 a1).toInt - (x5v).toInt) < _ by omega)) (fun r65 hr66 => ?_)
                have i67 := hr66
                have f68 := ti_b r65.1
                exact by assumption
              · have c69 : (0 : Int) ≤ r29.1.toInt := o_nlt h63
                refine ok_biv (fun vx70 e71 => ?_)
                first | (have q72 := te_addc (c := 1) (n := 1) rfl x5v (by omega) (by omega); rw [← e71] at q72; obtain ⟨f73, f74, f75⟩ := q72) | (obtain ⟨q72, f73, f74, f75⟩ : ∃ q : Int, vx70.toInt = x5v.toInt + (1 : Int) + 4294967296 * q ∧ -2147483648 ≤ vx70.toInt ∧ vx70.toInt ≤ 2147483647 := by rw [e71]; exact ti_addc (c := 1) (n := 1) rfl x5v)
                unfold J_X3_runsWith_106
                refine ok_mono (ih x2v x3v vx57 vx70 δ I (show 0 ≤ (vx57).toInt by first | assumption | omega) (show (vx57).toInt ≤ (q_I δ 3 1 a0).toInt by first | assumption | omega) (show 0 ≤ (vx70).toInt by first | assumption | omega) (show (vx70).toInt ≤ (q_I δ 3 1 a1).toInt by first | assumption | omega) (show (q_I δ 3 1 a0).toInt - (vx57).toInt + ((q_I δ 3 1 a1).toInt - (vx70).toInt) < _ by omega)) (fun r76 hr77 => ?_)
                have i78 := hr77
                have f79 := ti_b r76.1
                exact by assumption
          · have c80 : r29.1.toInt ≠ (0 : Int) := o_ne h35
            have f81 := ti_b x3v
            refine ok_ite (fun h82 => ?_) (fun h82 => ?_)
            · have c83 : r29.1.toInt = x3v.toInt := o_eq h82
              unfold J_X3_runsWith_90
              refine ok_ite (fun h84 => ?_) (fun h84 => ?_)
              · have c85 : (0 : Int) < r29.1.toInt := o_lt h84
                unfold J_X3_runsWith_98
                refine ok_ite (fun h86 => ?_) (fun h86 => ?_)
                · have c87 : r29.1.toInt < (0 : Int) := o_lt h86
                  unfold J_X3_runsWith_106
                  refine ok_mono (ih x2v x3v x4v x5v δ I (show 0 ≤ (x4v).toInt by first | assumption | omega) (show (x4v).toInt ≤ (q_I δ 3 1 a0).toInt by first | assumption | omega) (show 0 ≤ (x5v).toInt by first | assumption | omega) (show (x5v).toInt ≤ (q_I δ 3 1 a1).toInt by first | assumption | omega) (show (q_I δ 3 1 a0).toInt - (x4v).toInt + ((q_I δ 3 1 a1).toInt - (x5v).toInt) < _ by omega)) (fun r88 hr89 => ?_)
                  have i90 := hr89
                  have f91 := ti_b r88.1
                  exact by assumption
                · have c92 : (0 : Int) ≤ r29.1.toInt := o_nlt h86
                  refine ok_biv (fun vx93 e94 => ?_)
                  first | (have q95 := te_addc (c := 1) (n := 1) rfl x5v (by omega) (by omega); rw [← e94] at q95; obtain ⟨f96, f97, f98⟩ := q95) | (obtain ⟨q95, f96, f97, f98⟩ : ∃ q : Int, vx93.toInt = x5v.toInt + (1 : Int) + 4294967296 * q ∧ -2147483648 ≤ vx93.toInt ∧ vx93.toInt ≤ 2147483647 := by rw [e94]; exact ti_addc (c := 1) (n := 1) rfl x5v)
                  unfold J_X3_runsWith_106
                  refine ok_mono (ih x2v x3v x4v vx93 δ I (show 0 ≤ (x4v).toInt by first | assumption | omega) (show (x4v).toInt ≤ (q_I δ 3 1 a0).toInt by first | assumption | omega) (show 0 ≤ (vx93).toInt by first | assumption | omega) (show (vx93).toInt ≤ (q_I δ 3 1 a1).toInt by first | assumption | omega) (show (q_I δ 3 1 a0).toInt - (x4v).toInt + ((q_I δ 3 1 a1).toInt - (vx93).toInt) < _ by omega)) (fun r99 hr100 => ?_)
                  have i101 := hr100
                  have f102 := ti_b r99.1
                  exact by assumption
              · have c103 : r29.1.toInt ≤ (0 : Int) := o_nlt h84
                refine ok_biv (fun vx104 e105 => ?_)
                first | (have q106 := te_addc (c := 1) (n := 1) rfl x4v (by omega) (by omega); rw [← e105] at q106; obtain ⟨f107, f108, f109⟩ := q106) | (obtain ⟨q106, f107, f108, f109⟩ : ∃ q : Int, vx104.toInt = x4v.toInt + (1 : Int) + 4294967296 * q ∧ -2147483648 ≤ vx104.toInt ∧ vx104.toInt ≤ 2147483647 := by rw [e105]; exact ti_addc (c := 1) (n := 1) rfl x4v)
                unfold J_X3_runsWith_98
                refine ok_ite (fun h110 => ?_) (fun h110 => ?_)
                · have c111 : r29.1.toInt < (0 : Int) := o_lt h110
                  unfold J_X3_runsWith_106
                  refine ok_mono (ih x2v x3v vx104 x5v δ I (show 0 ≤ (vx104).toInt by first | assumption | omega) (show (vx104).toInt ≤ (q_I δ 3 1 a0).toInt by first | assumption | omega) (show 0 ≤ (x5v).toInt by first | assumption | omega) (show (x5v).toInt ≤ (q_I δ 3 1 a1).toInt by first | assumption | omega) (show (q_I δ 3 1 a0).toInt - (vx104).toInt + ((q_I δ 3 1 a1).toInt - (x5v).toInt) < _ by omega)) (fun r112 hr113 => ?_)
                  have i114 := hr113
                  have f115 := ti_b r112.1
                  exact by assumption
                · have c116 : (0 : Int) ≤ r29.1.toInt := o_nlt h110
                  refine ok_biv (fun vx117 e118 => ?_)
                  first | (have q119 := te_addc (c := 1) (n := 1) rfl x5v (by omega) (by omega); rw [← e118] at q119; obtain ⟨f120, f121, f122⟩ := q119) | (obtain ⟨q119, f120, f121, f122⟩ : ∃ q : Int, vx117.toInt = x5v.toInt + (1 : Int) + 4294967296 * q ∧ -2147483648 ≤ vx117.toInt ∧ vx117.toInt ≤ 2147483647 := by rw [e118]; exact ti_addc (c := 1) (n := 1) rfl x5v)
                  unfold J_X3_runsWith_106
                  refine ok_mono (ih x2v x3v vx104 vx117 δ I (show 0 ≤ (vx104).toInt by first | assumption | omega) (show (vx104).toInt ≤ (q_I δ 3 1 a0).toInt by first | assumption | omega) (show 0 ≤ (vx117).toInt by first | assumption | omega) (show (vx117).toInt ≤ (q_I δ 3 1 a1).toInt by first | assumption | omega) (show (q_I δ 3 1 a0).toInt - (vx104).toInt + ((q_I δ 3 1 a1).toInt - (vx117).toInt) < _ by omega)) (fun r123 hr124 => ?_)
                  have i125 := hr124
                  have f126 := ti_b r123.1
                  exact by assumption
            · have c127 : r29.1.toInt ≠ x3v.toInt := o_ne h82
              have f130 := ti_b x2v
              refine ok_biv (fun vx128 e129 => ?_)
              first | (have q131 := te_addc (c := 1) (n := 1) rfl x2v (by omega) (by omega); rw [← e129] at q131; obtain ⟨f132, f133, f134⟩ := q131) | (obtain ⟨q131, f132, f133, f134⟩ : ∃ q : Int, vx128.toInt = x2v.toInt + (1 : Int) + 4294967296 * q ∧ -2147483648 ≤ vx128.toInt ∧ vx128.toInt ≤ 2147483647 := by rw [e129]; exact ti_addc (c := 1) (n := 1) rfl x2v)
              unfold J_X3_runsWith_90
              refine ok_ite (fun h135 => ?_) (fun h135 => ?_)
              · have c136 : (0 : Int) < r29.1.toInt := o_lt h135
                unfold J_X3_runsWith_98
                refine ok_ite (fun h137 => ?_) (fun h137 => ?_)
                · have c138 : r29.1.toInt < (0 : Int) := o_lt h137
                  unfold J_X3_runsWith_106
                  refine ok_mono (ih vx128 r29.1 x4v x5v δ I (show 0 ≤ (x4v).toInt by first | assumption | omega) (show (x4v).toInt ≤ (q_I δ 3 1 a0).toInt by first | assumption | omega) (show 0 ≤ (x5v).toInt by first | assumption | omega) (show (x5v).toInt ≤ (q_I δ 3 1 a1).toInt by first | assumption | omega) (show (q_I δ 3 1 a0).toInt - (x4v).toInt + ((q_I δ 3 1 a1).toInt - (x5v).toInt) < _ by omega)) (fun r139 hr140 => ?_)
                  have i141 := hr140
                  have f142 := ti_b r139.1
                  exact by assumption
                · have c143 : (0 : Int) ≤ r29.1.toInt := o_nlt h137
                  refine ok_biv (fun vx144 e145 => ?_)
                  first | (have q146 := te_addc (c := 1) (n := 1) rfl x5v (by omega) (by omega); rw [← e145] at q146; obtain ⟨f147, f148, f149⟩ := q146) | (obtain ⟨q146, f147, f148, f149⟩ : ∃ q : Int, vx144.toInt = x5v.toInt + (1 : Int) + 4294967296 * q ∧ -2147483648 ≤ vx144.toInt ∧ vx144.toInt ≤ 2147483647 := by rw [e145]; exact ti_addc (c := 1) (n := 1) rfl x5v)
                  unfold J_X3_runsWith_106
                  refine ok_mono (ih vx128 r29.1 x4v vx144 δ I (show 0 ≤ (x4v).toInt by first | assumption | omega) (show (x4v).toInt ≤ (q_I δ 3 1 a0).toInt by first | assumption | omega) (show 0 ≤ (vx144).toInt by first | assumption | omega) (show (vx144).toInt ≤ (q_I δ 3 1 a1).toInt by first | assumption | omega) (show (q_I δ 3 1 a0).toInt - (x4v).toInt + ((q_I δ 3 1 a1).toInt - (vx144).toInt) < _ by omega)) (fun r150 hr151 => ?_)
                  have i152 := hr151
                  have f153 := ti_b r150.1
                  exact by assumption
              · have c154 : r29.1.toInt ≤ (0 : Int) := o_nlt h135
                refine ok_biv (fun vx155 e156 => ?_)
                first | (have q157 := te_addc (c := 1) (n := 1) rfl x4v (by omega) (by omega); rw [← e156] at q157; obtain ⟨f158, f159, f160⟩ := q157) | (obtain ⟨q157, f158, f159, f160⟩ : ∃ q : Int, vx155.toInt = x4v.toInt + (1 : Int) + 4294967296 * q ∧ -2147483648 ≤ vx155.toInt ∧ vx155.toInt ≤ 2147483647 := by rw [e156]; exact ti_addc (c := 1) (n := 1) rfl x4v)
                unfold J_X3_runsWith_98
                refine ok_ite (fun h161 => ?_) (fun h161 => ?_)
                · have c162 : r29.1.toInt < (0 : Int) := o_lt h161
                  unfold J_X3_runsWith_106
                  refine ok_mono (ih vx128 r29.1 vx155 x5v δ I (show 0 ≤ (vx155).toInt by first | assumption | omega) (show (vx155).toInt ≤ (q_I δ 3 1 a0).toInt by first | assumption | omega) (show 0 ≤ (x5v).toInt by first | assumption | omega) (show (x5v).toInt ≤ (q_I δ 3 1 a1).toInt by first | assumption | omega) (show (q_I δ 3 1 a0).toInt - (vx155).toInt + ((q_I δ 3 1 a1).toInt - (x5v).toInt) < _ by omega)) (fun r163 hr164 => ?_)
                  have i165 := hr164
                  have f166 := ti_b r163.1
                  exact by assumption
                · have c167 : (0 : Int) ≤ r29.1.toInt := o_nlt h161
                  refine ok_biv (fun vx168 e169 => ?_)
                  first | (have q170 := te_addc (c := 1) (n := 1) rfl x5v (by omega) (by omega); rw [← e169] at q170; obtain ⟨f171, f172, f173⟩ := q170) | (obtain ⟨q170, f171, f172, f173⟩ : ∃ q : Int, vx168.toInt = x5v.toInt + (1 : Int) + 4294967296 * q ∧ -2147483648 ≤ vx168.toInt ∧ vx168.toInt ≤ 2147483647 := by rw [e169]; exact ti_addc (c := 1) (n := 1) rfl x5v)
                  unfold J_X3_runsWith_106
                  refine ok_mono (ih vx128 r29.1 vx155 vx168 δ I (show 0 ≤ (vx155).toInt by first | assumption | omega) (show (vx155).toInt ≤ (q_I δ 3 1 a0).toInt by first | assumption | omega) (show 0 ≤ (vx168).toInt by first | assumption | omega) (show (vx168).toInt ≤ (q_I δ 3 1 a1).toInt by first | assumption | omega) (show (q_I δ 3 1 a0).toInt - (vx155).toInt + ((q_I δ 3 1 a1).toInt - (vx168).toInt) < _ by omega)) (fun r174 hr175 => ?_)
                  have i176 := hr175
                  have f177 := ti_b r174.1
                  exact by assumption
        · have c178 : (q_I δ 3 1 a1).toInt ≤ x5v.toInt := o_nlt h21
          unfold J_X3_runsWith_71
          refine ok_ite (fun h179 => ?_) (fun h179 => ?_)
          · have c180 : (-1 : Int) = (0 : Int) := o_eq h179
            unfold J_X3_runsWith_90
            refine ok_ite (fun h181 => ?_) (fun h181 => ?_)
            · have c182 : (0 : Int) < (-1 : Int) := o_lt h181
              unfold J_X3_runsWith_98
              refine ok_ite (fun h183 => ?_) (fun h183 => ?_)
              · have c184 : (-1 : Int) < (0 : Int) := o_lt h183
                unfold J_X3_runsWith_106
                refine ok_mono (ih x2v x3v x4v x5v δ I (show 0 ≤ (x4v).toInt by first | assumption | omega) (show (x4v).toInt ≤ (q_I δ 3 1 a0).toInt by first | assumption | omega) (show 0 ≤ (x5v).toInt by first | assumption | omega) (show (x5v).toInt ≤ (q_I δ 3 1 a1).toInt by first | assumption | omega) (show (q_I δ 3 1 a0).toInt - (x4v).toInt + ((q_I δ 3 1 a1).toInt - (x5v).toInt) < _ by omega)) (fun r185 hr186 => ?_)
                have i187 := hr186
                have f188 := ti_b r185.1
                exact by assumption
              · have c189 : (0 : Int) ≤ (-1 : Int) := o_nlt h183
                refine ok_biv (fun vx190 e191 => ?_)
                first | (have q192 := te_addc (c := 1) (n := 1) rfl x5v (by omega) (by omega); rw [← e191] at q192; obtain ⟨f193, f194, f195⟩ := q192) | (obtain ⟨q192, f193, f194, f195⟩ : ∃ q : Int, vx190.toInt = x5v.toInt + (1 : Int) + 4294967296 * q ∧ -2147483648 ≤ vx190.toInt ∧ vx190.toInt ≤ 2147483647 := by rw [e191]; exact ti_addc (c := 1) (n := 1) rfl x5v)
                unfold J_X3_runsWith_106
                refine ok_mono (ih x2v x3v x4v vx190 δ I (show 0 ≤ (x4v).toInt by first | assumption | omega) (show (x4v).toInt ≤ (q_I δ 3 1 a0).toInt by first | assumption | omega) (show 0 ≤ (vx190).toInt by first | assumption | omega) (show (vx190).toInt ≤ (q_I δ 3 1 a1).toInt by first | assumption | omega) (show (q_I δ 3 1 a0).toInt - (x4v).toInt + ((q_I δ 3 1 a1).toInt - (vx190).toInt) < _ by omega)) (fun r196 hr197 => ?_)
                have i198 := hr197
                have f199 := ti_b r196.1
                exact by assumption
            · have c200 : (-1 : Int) ≤ (0 : Int) := o_nlt h181
              refine ok_biv (fun vx201 e202 => ?_)
              first | (have q203 := te_addc (c := 1) (n := 1) rfl x4v (by omega) (by omega); rw [← e202] at q203; obtain ⟨f204, f205, f206⟩ := q203) | (obtain ⟨q203, f204, f205, f206⟩ : ∃ q : Int, vx201.toInt = x4v.toInt + (1 : Int) + 4294967296 * q ∧ -2147483648 ≤ vx201.toInt ∧ vx201.toInt ≤ 2147483647 := by rw [e202]; exact ti_addc (c := 1) (n := 1) rfl x4v)
              unfold J_X3_runsWith_98
              refine ok_ite (fun h207 => ?_) (fun h207 => ?_)
              · have c208 : (-1 : Int) < (0 : Int) := o_lt h207
                unfold J_X3_runsWith_106
                refine ok_mono (ih x2v x3v vx201 x5v δ I (show 0 ≤ (vx201).toInt by first | assumption | omega) (show (vx201).toInt ≤ (q_I δ 3 1 a0).toInt by first | assumption | omega) (show 0 ≤ (x5v).toInt by first | assumption | omega) (show (x5v).toInt ≤ (q_I δ 3 1 a1).toInt by first | assumption | omega) (show (q_I δ 3 1 a0).toInt - (vx201).toInt + ((q_I δ 3 1 a1).toInt - (x5v).toInt) < _ by omega)) (fun r209 hr210 => ?_)
                have i211 := hr210
                have f212 := ti_b r209.1
                exact by assumption
              · have c213 : (0 : Int) ≤ (-1 : Int) := o_nlt h207
                refine ok_biv (fun vx214 e215 => ?_)
                first | (have q216 := te_addc (c := 1) (n := 1) rfl x5v (by omega) (by omega); rw [← e215] at q216; obtain ⟨f217, f218, f219⟩ := q216) | (obtain ⟨q216, f217, f218, f219⟩ : ∃ q : Int, vx214.toInt = x5v.toInt + (1 : Int) + 4294967296 * q ∧ -2147483648 ≤ vx214.toInt ∧ vx214.toInt ≤ 2147483647 := by rw [e215]; exact ti_addc (c := 1) (n := 1) rfl x5v)
                unfold J_X3_runsWith_106
                refine ok_mono (ih x2v x3v vx201 vx214 δ I (show 0 ≤ (vx201).toInt by first | assumption | omega) (show (vx201).toInt ≤ (q_I δ 3 1 a0).toInt by first | assumption | omega) (show 0 ≤ (vx214).toInt by first | assumption | omega) (show (vx214).toInt ≤ (q_I δ 3 1 a1).toInt by first | assumption | omega) (show (q_I δ 3 1 a0).toInt - (vx201).toInt + ((q_I δ 3 1 a1).toInt - (vx214).toInt) < _ by omega)) (fun r220 hr221 => ?_)
                have i222 := hr221
                have f223 := ti_b r220.1
                exact by assumption
          · have c224 : (-1 : Int) ≠ (0 : Int) := o_ne h179
            have f225 := ti_b x3v
            refine ok_ite (fun h226 => ?_) (fun h226 => ?_)
            · have c227 : (-1 : Int) = x3v.toInt := o_eq h226
              unfold J_X3_runsWith_90
              refine ok_ite (fun h228 => ?_) (fun h228 => ?_)
              · have c229 : (0 : Int) < (-1 : Int) := o_lt h228
                unfold J_X3_runsWith_98
                refine ok_ite (fun h230 => ?_) (fun h230 => ?_)
                · have c231 : (-1 : Int) < (0 : Int) := o_lt h230
                  unfold J_X3_runsWith_106
                  refine ok_mono (ih x2v x3v x4v x5v δ I (show 0 ≤ (x4v).toInt by first | assumption | omega) (show (x4v).toInt ≤ (q_I δ 3 1 a0).toInt by first | assumption | omega) (show 0 ≤ (x5v).toInt by first | assumption | omega) (show (x5v).toInt ≤ (q_I δ 3 1 a1).toInt by first | assumption | omega) (show (q_I δ 3 1 a0).toInt - (x4v).toInt + ((q_I δ 3 1 a1).toInt - (x5v).toInt) < _ by omega)) (fun r232 hr233 => ?_)
                  have i234 := hr233
                  have f235 := ti_b r232.1
                  exact by assumption
                · have c236 : (0 : Int) ≤ (-1 : Int) := o_nlt h230
                  refine ok_biv (fun vx237 e238 => ?_)
                  first | (have q239 := te_addc (c := 1) (n := 1) rfl x5v (by omega) (by omega); rw [← e238] at q239; obtain ⟨f240, f241, f242⟩ := q239) | (obtain ⟨q239, f240, f241, f242⟩ : ∃ q : Int, vx237.toInt = x5v.toInt + (1 : Int) + 4294967296 * q ∧ -2147483648 ≤ vx237.toInt ∧ vx237.toInt ≤ 2147483647 := by rw [e238]; exact ti_addc (c := 1) (n := 1) rfl x5v)
                  unfold J_X3_runsWith_106
                  refine ok_mono (ih x2v x3v x4v vx237 δ I (show 0 ≤ (x4v).toInt by first | assumption | omega) (show (x4v).toInt ≤ (q_I δ 3 1 a0).toInt by first | assumption | omega) (show 0 ≤ (vx237).toInt by first | assumption | omega) (show (vx237).toInt ≤ (q_I δ 3 1 a1).toInt by first | assumption | omega) (show (q_I δ 3 1 a0).toInt - (x4v).toInt + ((q_I δ 3 1 a1).toInt - (vx237).toInt) < _ by omega)) (fun r243 hr244 => ?_)
                  have i245 := hr244
                  have f246 := ti_b r243.1
                  exact by assumption
              · have c247 : (-1 : Int) ≤ (0 : Int) := o_nlt h228
                refine ok_biv (fun vx248 e249 => ?_)
                first | (have q250 := te_addc (c := 1) (n := 1) rfl x4v (by omega) (by omega); rw [← e249] at q250; obtain ⟨f251, f252, f253⟩ := q250) | (obtain ⟨q250, f251, f252, f253⟩ : ∃ q : Int, vx248.toInt = x4v.toInt + (1 : Int) + 4294967296 * q ∧ -2147483648 ≤ vx248.toInt ∧ vx248.toInt ≤ 2147483647 := by rw [e249]; exact ti_addc (c := 1) (n := 1) rfl x4v)
                unfold J_X3_runsWith_98
                refine ok_ite (fun h254 => ?_) (fun h254 => ?_)
                · have c255 : (-1 : Int) < (0 : Int) := o_lt h254
                  unfold J_X3_runsWith_106
                  refine ok_mono (ih x2v x3v vx248 x5v δ I (show 0 ≤ (vx248).toInt by first | assumption | omega) (show (vx248).toInt ≤ (q_I δ 3 1 a0).toInt by first | assumption | omega) (show 0 ≤ (x5v).toInt by first | assumption | omega) (show (x5v).toInt ≤ (q_I δ 3 1 a1).toInt by first | assumption | omega) (show (q_I δ 3 1 a0).toInt - (vx248).toInt + ((q_I δ 3 1 a1).toInt - (x5v).toInt) < _ by omega)) (fun r256 hr257 => ?_)
                  have i258 := hr257
                  have f259 := ti_b r256.1
                  exact by assumption
                · have c260 : (0 : Int) ≤ (-1 : Int) := o_nlt h254
                  refine ok_biv (fun vx261 e262 => ?_)
                  first | (have q263 := te_addc (c := 1) (n := 1) rfl x5v (by omega) (by omega); rw [← e262] at q263; obtain ⟨f264, f265, f266⟩ := q263) | (obtain ⟨q263, f264, f265, f266⟩ : ∃ q : Int, vx261.toInt = x5v.toInt + (1 : Int) + 4294967296 * q ∧ -2147483648 ≤ vx261.toInt ∧ vx261.toInt ≤ 2147483647 := by rw [e262]; exact ti_addc (c := 1) (n := 1) rfl x5v)
                  unfold J_X3_runsWith_106
                  refine ok_mono (ih x2v x3v vx248 vx261 δ I (show 0 ≤ (vx248).toInt by first | assumption | omega) (show (vx248).toInt ≤ (q_I δ 3 1 a0).toInt by first | assumption | omega) (show 0 ≤ (vx261).toInt by first | assumption | omega) (show (vx261).toInt ≤ (q_I δ 3 1 a1).toInt by first | assumption | omega) (show (q_I δ 3 1 a0).toInt - (vx248).toInt + ((q_I δ 3 1 a1).toInt - (vx261).toInt) < _ by omega)) (fun r267 hr268 => ?_)
                  have i269 := hr268
                  have f270 := ti_b r267.1
                  exact by assumption
            · have c271 : (-1 : Int) ≠ x3v.toInt := o_ne h226
              have f274 := ti_b x2v
              refine ok_biv (fun vx272 e273 => ?_)
              first | (have q275 := te_addc (c := 1) (n := 1) rfl x2v (by omega) (by omega); rw [← e273] at q275; obtain ⟨f276, f277, f278⟩ := q275) | (obtain ⟨q275, f276, f277, f278⟩ : ∃ q : Int, vx272.toInt = x2v.toInt + (1 : Int) + 4294967296 * q ∧ -2147483648 ≤ vx272.toInt ∧ vx272.toInt ≤ 2147483647 := by rw [e273]; exact ti_addc (c := 1) (n := 1) rfl x2v)
              unfold J_X3_runsWith_90
              refine ok_ite (fun h279 => ?_) (fun h279 => ?_)
              · have c280 : (0 : Int) < (-1 : Int) := o_lt h279
                unfold J_X3_runsWith_98
                refine ok_ite (fun h281 => ?_) (fun h281 => ?_)
                · have c282 : (-1 : Int) < (0 : Int) := o_lt h281
                  unfold J_X3_runsWith_106
                  refine ok_mono (ih vx272 (-1 : Int32) x4v x5v δ I (show 0 ≤ (x4v).toInt by first | assumption | omega) (show (x4v).toInt ≤ (q_I δ 3 1 a0).toInt by first | assumption | omega) (show 0 ≤ (x5v).toInt by first | assumption | omega) (show (x5v).toInt ≤ (q_I δ 3 1 a1).toInt by first | assumption | omega) (show (q_I δ 3 1 a0).toInt - (x4v).toInt + ((q_I δ 3 1 a1).toInt - (x5v).toInt) < _ by omega)) (fun r283 hr284 => ?_)
                  have i285 := hr284
                  have f286 := ti_b r283.1
                  exact by assumption
                · have c287 : (0 : Int) ≤ (-1 : Int) := o_nlt h281
                  refine ok_biv (fun vx288 e289 => ?_)
                  first | (have q290 := te_addc (c := 1) (n := 1) rfl x5v (by omega) (by omega); rw [← e289] at q290; obtain ⟨f291, f292, f293⟩ := q290) | (obtain ⟨q290, f291, f292, f293⟩ : ∃ q : Int, vx288.toInt = x5v.toInt + (1 : Int) + 4294967296 * q ∧ -2147483648 ≤ vx288.toInt ∧ vx288.toInt ≤ 2147483647 := by rw [e289]; exact ti_addc (c := 1) (n := 1) rfl x5v)
                  unfold J_X3_runsWith_106
                  refine ok_mono (ih vx272 (-1 : Int32) x4v vx288 δ I (show 0 ≤ (x4v).toInt by first | assumption | omega) (show (x4v).toInt ≤ (q_I δ 3 1 a0).toInt by first | assumption | omega) (show 0 ≤ (vx288).toInt by first | assumption | omega) (show (vx288).toInt ≤ (q_I δ 3 1 a1).toInt by first | assumption | omega) (show (q_I δ 3 1 a0).toInt - (x4v).toInt + ((q_I δ 3 1 a1).toInt - (vx288).toInt) < _ by omega)) (fun r294 hr295 => ?_)
                  have i296 := hr295
                  have f297 := ti_b r294.1
                  exact by assumption
              · have c298 : (-1 : Int) ≤ (0 : Int) := o_nlt h279
                refine ok_biv (fun vx299 e300 => ?_)
                first | (have q301 := te_addc (c := 1) (n := 1) rfl x4v (by omega) (by omega); rw [← e300] at q301; obtain ⟨f302, f303, f304⟩ := q301) | (obtain ⟨q301, f302, f303, f304⟩ : ∃ q : Int, vx299.toInt = x4v.toInt + (1 : Int) + 4294967296 * q ∧ -2147483648 ≤ vx299.toInt ∧ vx299.toInt ≤ 2147483647 := by rw [e300]; exact ti_addc (c := 1) (n := 1) rfl x4v)
                unfold J_X3_runsWith_98
                refine ok_ite (fun h305 => ?_) (fun h305 => ?_)
                · have c306 : (-1 : Int) < (0 : Int) := o_lt h305
                  unfold J_X3_runsWith_106
                  refine ok_mono (ih vx272 (-1 : Int32) vx299 x5v δ I (show 0 ≤ (vx299).toInt by first | assumption | omega) (show (vx299).toInt ≤ (q_I δ 3 1 a0).toInt by first | assumption | omega) (show 0 ≤ (x5v).toInt by first | assumption | omega) (show (x5v).toInt ≤ (q_I δ 3 1 a1).toInt by first | assumption | omega) (show (q_I δ 3 1 a0).toInt - (vx299).toInt + ((q_I δ 3 1 a1).toInt - (x5v).toInt) < _ by omega)) (fun r307 hr308 => ?_)
                  have i309 := hr308
                  have f310 := ti_b r307.1
                  exact by assumption
                · have c311 : (0 : Int) ≤ (-1 : Int) := o_nlt h305
                  refine ok_biv (fun vx312 e313 => ?_)
                  first | (have q314 := te_addc (c := 1) (n := 1) rfl x5v (by omega) (by omega); rw [← e313] at q314; obtain ⟨f315, f316, f317⟩ := q314) | (obtain ⟨q314, f315, f316, f317⟩ : ∃ q : Int, vx312.toInt = x5v.toInt + (1 : Int) + 4294967296 * q ∧ -2147483648 ≤ vx312.toInt ∧ vx312.toInt ≤ 2147483647 := by rw [e313]; exact ti_addc (c := 1) (n := 1) rfl x5v)
                  unfold J_X3_runsWith_106
                  refine ok_mono (ih vx272 (-1 : Int32) vx299 vx312 δ I (show 0 ≤ (vx299).toInt by first | assumption | omega) (show (vx299).toInt ≤ (q_I δ 3 1 a0).toInt by first | assumption | omega) (show 0 ≤ (vx312).toInt by first | assumption | omega) (show (vx312).toInt ≤ (q_I δ 3 1 a1).toInt by first | assumption | omega) (show (q_I δ 3 1 a0).toInt - (vx299).toInt + ((q_I δ 3 1 a1).toInt - (vx312).toInt) < _ by omega)) (fun r318 hr319 => ?_)
                  have i320 := hr319
                  have f321 := ti_b r318.1
                  exact by assumption
      · have c322 : (q_I δ 3 1 a0).toInt ≤ x4v.toInt := o_nlt h19
        unfold J_X3_runsWith_71
        refine ok_ite (fun h323 => ?_) (fun h323 => ?_)
        · have c324 : (1 : Int) = (0 : Int) := o_eq h323
          unfold J_X3_runsWith_90
          refine ok_ite (fun h325 => ?_) (fun h325 => ?_)
          · have c326 : (0 : Int) < (1 : Int) := o_lt h325
            unfold J_X3_runsWith_98
            refine ok_ite (fun h327 => ?_) (fun h327 => ?_)
            · have c328 : (1 : Int) < (0 : Int) := o_lt h327
              unfold J_X3_runsWith_106
              refine ok_mono (ih x2v x3v x4v x5v δ I (show 0 ≤ (x4v).toInt by first | assumption | omega) (show (x4v).toInt ≤ (q_I δ 3 1 a0).toInt by first | assumption | omega) (show 0 ≤ (x5v).toInt by first | assumption | omega) (show (x5v).toInt ≤ (q_I δ 3 1 a1).toInt by first | assumption | omega) (show (q_I δ 3 1 a0).toInt - (x4v).toInt + ((q_I δ 3 1 a1).toInt - (x5v).toInt) < _ by omega)) (fun r329 hr330 => ?_)
              have i331 := hr330
              have f332 := ti_b r329.1
              exact by assumption
            · have c333 : (0 : Int) ≤ (1 : Int) := o_nlt h327
              refine ok_biv (fun vx334 e335 => ?_)
              first | (have q336 := te_addc (c := 1) (n := 1) rfl x5v (by omega) (by omega); rw [← e335] at q336; obtain ⟨f337, f338, f339⟩ := q336) | (obtain ⟨q336, f337, f338, f339⟩ : ∃ q : Int, vx334.toInt = x5v.toInt + (1 : Int) + 4294967296 * q ∧ -2147483648 ≤ vx334.toInt ∧ vx334.toInt ≤ 2147483647 := by rw [e335]; exact ti_addc (c := 1) (n := 1) rfl x5v)
              unfold J_X3_runsWith_106
              refine ok_mono (ih x2v x3v x4v vx334 δ I (show 0 ≤ (x4v).toInt by first | assumption | omega) (show (x4v).toInt ≤ (q_I δ 3 1 a0).toInt by first | assumption | omega) (show 0 ≤ (vx334).toInt by first | assumption | omega) (show (vx334).toInt ≤ (q_I δ 3 1 a1).toInt by first | assumption | omega) (show (q_I δ 3 1 a0).toInt - (x4v).toInt + ((q_I δ 3 1 a1).toInt - (vx334).toInt) < _ by omega)) (fun r340 hr341 => ?_)
              have i342 := hr341
              have f343 := ti_b r340.1
              exact by assumption
          · have c344 : (1 : Int) ≤ (0 : Int) := o_nlt h325
            refine ok_biv (fun vx345 e346 => ?_)
            first | (have q347 := te_addc (c := 1) (n := 1) rfl x4v (by omega) (by omega); rw [← e346] at q347; obtain ⟨f348, f349, f350⟩ := q347) | (obtain ⟨q347, f348, f349, f350⟩ : ∃ q : Int, vx345.toInt = x4v.toInt + (1 : Int) + 4294967296 * q ∧ -2147483648 ≤ vx345.toInt ∧ vx345.toInt ≤ 2147483647 := by rw [e346]; exact ti_addc (c := 1) (n := 1) rfl x4v)
            unfold J_X3_runsWith_98
            refine ok_ite (fun h351 => ?_) (fun h351 => ?_)
            · have c352 : (1 : Int) < (0 : Int) := o_lt h351
              unfold J_X3_runsWith_106
              refine ok_mono (ih x2v x3v vx345 x5v δ I (show 0 ≤ (vx345).toInt by first | assumption | omega) (show (vx345).toInt ≤ (q_I δ 3 1 a0).toInt by first | assumption | omega) (show 0 ≤ (x5v).toInt by first | assumption | omega) (show (x5v).toInt ≤ (q_I δ 3 1 a1).toInt by first | assumption | omega) (show (q_I δ 3 1 a0).toInt - (vx345).toInt + ((q_I δ 3 1 a1).toInt - (x5v).toInt) < _ by omega)) (fun r353 hr354 => ?_)
              have i355 := hr354
              have f356 := ti_b r353.1
              exact by assumption
            · have c357 : (0 : Int) ≤ (1 : Int) := o_nlt h351
              refine ok_biv (fun vx358 e359 => ?_)
              first | (have q360 := te_addc (c := 1) (n := 1) rfl x5v (by omega) (by omega); rw [← e359] at q360; obtain ⟨f361, f362, f363⟩ := q360) | (obtain ⟨q360, f361, f362, f363⟩ : ∃ q : Int, vx358.toInt = x5v.toInt + (1 : Int) + 4294967296 * q ∧ -2147483648 ≤ vx358.toInt ∧ vx358.toInt ≤ 2147483647 := by rw [e359]; exact ti_addc (c := 1) (n := 1) rfl x5v)
              unfold J_X3_runsWith_106
              refine ok_mono (ih x2v x3v vx345 vx358 δ I (show 0 ≤ (vx345).toInt by first | assumption | omega) (show (vx345).toInt ≤ (q_I δ 3 1 a0).toInt by first | assumption | omega) (show 0 ≤ (vx358).toInt by first | assumption | omega) (show (vx358).toInt ≤ (q_I δ 3 1 a1).toInt by first | assumption | omega) (show (q_I δ 3 1 a0).toInt - (vx345).toInt + ((q_I δ 3 1 a1).toInt - (vx358).toInt) < _ by omega)) (fun r364 hr365 => ?_)
              have i366 := hr365
              have f367 := ti_b r364.1
              exact by assumption
        · have c368 : (1 : Int) ≠ (0 : Int) := o_ne h323
          have f369 := ti_b x3v
          refine ok_ite (fun h370 => ?_) (fun h370 => ?_)
          · have c371 : (1 : Int) = x3v.toInt := o_eq h370
            unfold J_X3_runsWith_90
            refine ok_ite (fun h372 => ?_) (fun h372 => ?_)
            · have c373 : (0 : Int) < (1 : Int) := o_lt h372
              unfold J_X3_runsWith_98
              refine ok_ite (fun h374 => ?_) (fun h374 => ?_)
              · have c375 : (1 : Int) < (0 : Int) := o_lt h374
                unfold J_X3_runsWith_106
                refine ok_mono (ih x2v x3v x4v x5v δ I (show 0 ≤ (x4v).toInt by first | assumption | omega) (show (x4v).toInt ≤ (q_I δ 3 1 a0).toInt by first | assumption | omega) (show 0 ≤ (x5v).toInt by first | assumption | omega) (show (x5v).toInt ≤ (q_I δ 3 1 a1).toInt by first | assumption | omega) (show (q_I δ 3 1 a0).toInt - (x4v).toInt + ((q_I δ 3 1 a1).toInt - (x5v).toInt) < _ by omega)) (fun r376 hr377 => ?_)
                have i378 := hr377
                have f379 := ti_b r376.1
                exact by assumption
              · have c380 : (0 : Int) ≤ (1 : Int) := o_nlt h374
                refine ok_biv (fun vx381 e382 => ?_)
                first | (have q383 := te_addc (c := 1) (n := 1) rfl x5v (by omega) (by omega); rw [← e382] at q383; obtain ⟨f384, f385, f386⟩ := q383) | (obtain ⟨q383, f384, f385, f386⟩ : ∃ q : Int, vx381.toInt = x5v.toInt + (1 : Int) + 4294967296 * q ∧ -2147483648 ≤ vx381.toInt ∧ vx381.toInt ≤ 2147483647 := by rw [e382]; exact ti_addc (c := 1) (n := 1) rfl x5v)
                unfold J_X3_runsWith_106
                refine ok_mono (ih x2v x3v x4v vx381 δ I (show 0 ≤ (x4v).toInt by first | assumption | omega) (show (x4v).toInt ≤ (q_I δ 3 1 a0).toInt by first | assumption | omega) (show 0 ≤ (vx381).toInt by first | assumption | omega) (show (vx381).toInt ≤ (q_I δ 3 1 a1).toInt by first | assumption | omega) (show (q_I δ 3 1 a0).toInt - (x4v).toInt + ((q_I δ 3 1 a1).toInt - (vx381).toInt) < _ by omega)) (fun r387 hr388 => ?_)
                have i389 := hr388
                have f390 := ti_b r387.1
                exact by assumption
            · have c391 : (1 : Int) ≤ (0 : Int) := o_nlt h372
              refine ok_biv (fun vx392 e393 => ?_)
              first | (have q394 := te_addc (c := 1) (n := 1) rfl x4v (by omega) (by omega); rw [← e393] at q394; obtain ⟨f395, f396, f397⟩ := q394) | (obtain ⟨q394, f395, f396, f397⟩ : ∃ q : Int, vx392.toInt = x4v.toInt + (1 : Int) + 4294967296 * q ∧ -2147483648 ≤ vx392.toInt ∧ vx392.toInt ≤ 2147483647 := by rw [e393]; exact ti_addc (c := 1) (n := 1) rfl x4v)
              unfold J_X3_runsWith_98
              refine ok_ite (fun h398 => ?_) (fun h398 => ?_)
              · have c399 : (1 : Int) < (0 : Int) := o_lt h398
                unfold J_X3_runsWith_106
                refine ok_mono (ih x2v x3v vx392 x5v δ I (show 0 ≤ (vx392).toInt by first | assumption | omega) (show (vx392).toInt ≤ (q_I δ 3 1 a0).toInt by first | assumption | omega) (show 0 ≤ (x5v).toInt by first | assumption | omega) (show (x5v).toInt ≤ (q_I δ 3 1 a1).toInt by first | assumption | omega) (show (q_I δ 3 1 a0).toInt - (vx392).toInt + ((q_I δ 3 1 a1).toInt - (x5v).toInt) < _ by omega)) (fun r400 hr401 => ?_)
                have i402 := hr401
                have f403 := ti_b r400.1
                exact by assumption
              · have c404 : (0 : Int) ≤ (1 : Int) := o_nlt h398
                refine ok_biv (fun vx405 e406 => ?_)
                first | (have q407 := te_addc (c := 1) (n := 1) rfl x5v (by omega) (by omega); rw [← e406] at q407; obtain ⟨f408, f409, f410⟩ := q407) | (obtain ⟨q407, f408, f409, f410⟩ : ∃ q : Int, vx405.toInt = x5v.toInt + (1 : Int) + 4294967296 * q ∧ -2147483648 ≤ vx405.toInt ∧ vx405.toInt ≤ 2147483647 := by rw [e406]; exact ti_addc (c := 1) (n := 1) rfl x5v)
                unfold J_X3_runsWith_106
                refine ok_mono (ih x2v x3v vx392 vx405 δ I (show 0 ≤ (vx392).toInt by first | assumption | omega) (show (vx392).toInt ≤ (q_I δ 3 1 a0).toInt by first | assumption | omega) (show 0 ≤ (vx405).toInt by first | assumption | omega) (show (vx405).toInt ≤ (q_I δ 3 1 a1).toInt by first | assumption | omega) (show (q_I δ 3 1 a0).toInt - (vx392).toInt + ((q_I δ 3 1 a1).toInt - (vx405).toInt) < _ by omega)) (fun r411 hr412 => ?_)
                have i413 := hr412
                have f414 := ti_b r411.1
                exact by assumption
          · have c415 : (1 : Int) ≠ x3v.toInt := o_ne h370
            have f418 := ti_b x2v
            refine ok_biv (fun vx416 e417 => ?_)
            first | (have q419 := te_addc (c := 1) (n := 1) rfl x2v (by omega) (by omega); rw [← e417] at q419; obtain ⟨f420, f421, f422⟩ := q419) | (obtain ⟨q419, f420, f421, f422⟩ : ∃ q : Int, vx416.toInt = x2v.toInt + (1 : Int) + 4294967296 * q ∧ -2147483648 ≤ vx416.toInt ∧ vx416.toInt ≤ 2147483647 := by rw [e417]; exact ti_addc (c := 1) (n := 1) rfl x2v)
            unfold J_X3_runsWith_90
            refine ok_ite (fun h423 => ?_) (fun h423 => ?_)
            · have c424 : (0 : Int) < (1 : Int) := o_lt h423
              unfold J_X3_runsWith_98
              refine ok_ite (fun h425 => ?_) (fun h425 => ?_)
              · have c426 : (1 : Int) < (0 : Int) := o_lt h425
                unfold J_X3_runsWith_106
                refine ok_mono (ih vx416 (1 : Int32) x4v x5v δ I (show 0 ≤ (x4v).toInt by first | assumption | omega) (show (x4v).toInt ≤ (q_I δ 3 1 a0).toInt by first | assumption | omega) (show 0 ≤ (x5v).toInt by first | assumption | omega) (show (x5v).toInt ≤ (q_I δ 3 1 a1).toInt by first | assumption | omega) (show (q_I δ 3 1 a0).toInt - (x4v).toInt + ((q_I δ 3 1 a1).toInt - (x5v).toInt) < _ by omega)) (fun r427 hr428 => ?_)
                have i429 := hr428
                have f430 := ti_b r427.1
                exact by assumption
              · have c431 : (0 : Int) ≤ (1 : Int) := o_nlt h425
                refine ok_biv (fun vx432 e433 => ?_)
                first | (have q434 := te_addc (c := 1) (n := 1) rfl x5v (by omega) (by omega); rw [← e433] at q434; obtain ⟨f435, f436, f437⟩ := q434) | (obtain ⟨q434, f435, f436, f437⟩ : ∃ q : Int, vx432.toInt = x5v.toInt + (1 : Int) + 4294967296 * q ∧ -2147483648 ≤ vx432.toInt ∧ vx432.toInt ≤ 2147483647 := by rw [e433]; exact ti_addc (c := 1) (n := 1) rfl x5v)
                unfold J_X3_runsWith_106
                refine ok_mono (ih vx416 (1 : Int32) x4v vx432 δ I (show 0 ≤ (x4v).toInt by first | assumption | omega) (show (x4v).toInt ≤ (q_I δ 3 1 a0).toInt by first | assumption | omega) (show 0 ≤ (vx432).toInt by first | assumption | omega) (show (vx432).toInt ≤ (q_I δ 3 1 a1).toInt by first | assumption | omega) (show (q_I δ 3 1 a0).toInt - (x4v).toInt + ((q_I δ 3 1 a1).toInt - (vx432).toInt) < _ by omega)) (fun r438 hr439 => ?_)
                have i440 := hr439
                have f441 := ti_b r438.1
                exact by assumption
            · have c442 : (1 : Int) ≤ (0 : Int) := o_nlt h423
              refine ok_biv (fun vx443 e444 => ?_)
              first | (have q445 := te_addc (c := 1) (n := 1) rfl x4v (by omega) (by omega); rw [← e444] at q445; obtain ⟨f446, f447, f448⟩ := q445) | (obtain ⟨q445, f446, f447, f448⟩ : ∃ q : Int, vx443.toInt = x4v.toInt + (1 : Int) + 4294967296 * q ∧ -2147483648 ≤ vx443.toInt ∧ vx443.toInt ≤ 2147483647 := by rw [e444]; exact ti_addc (c := 1) (n := 1) rfl x4v)
              unfold J_X3_runsWith_98
              refine ok_ite (fun h449 => ?_) (fun h449 => ?_)
              · have c450 : (1 : Int) < (0 : Int) := o_lt h449
                unfold J_X3_runsWith_106
                refine ok_mono (ih vx416 (1 : Int32) vx443 x5v δ I (show 0 ≤ (vx443).toInt by first | assumption | omega) (show (vx443).toInt ≤ (q_I δ 3 1 a0).toInt by first | assumption | omega) (show 0 ≤ (x5v).toInt by first | assumption | omega) (show (x5v).toInt ≤ (q_I δ 3 1 a1).toInt by first | assumption | omega) (show (q_I δ 3 1 a0).toInt - (vx443).toInt + ((q_I δ 3 1 a1).toInt - (x5v).toInt) < _ by omega)) (fun r451 hr452 => ?_)
                have i453 := hr452
                have f454 := ti_b r451.1
                exact by assumption
              · have c455 : (0 : Int) ≤ (1 : Int) := o_nlt h449
                refine ok_biv (fun vx456 e457 => ?_)
                first | (have q458 := te_addc (c := 1) (n := 1) rfl x5v (by omega) (by omega); rw [← e457] at q458; obtain ⟨f459, f460, f461⟩ := q458) | (obtain ⟨q458, f459, f460, f461⟩ : ∃ q : Int, vx456.toInt = x5v.toInt + (1 : Int) + 4294967296 * q ∧ -2147483648 ≤ vx456.toInt ∧ vx456.toInt ≤ 2147483647 := by rw [e457]; exact ti_addc (c := 1) (n := 1) rfl x5v)
                unfold J_X3_runsWith_106
                refine ok_mono (ih vx416 (1 : Int32) vx443 vx456 δ I (show 0 ≤ (vx443).toInt by first | assumption | omega) (show (vx443).toInt ≤ (q_I δ 3 1 a0).toInt by first | assumption | omega) (show 0 ≤ (vx456).toInt by first | assumption | omega) (show (vx456).toInt ≤ (q_I δ 3 1 a1).toInt by first | assumption | omega) (show (q_I δ 3 1 a0).toInt - (vx443).toInt + ((q_I δ 3 1 a1).toInt - (vx456).toInt) < _ by omega)) (fun r462 hr463 => ?_)
                have i464 := hr463
                have f465 := ti_b r462.1
                exact by assumption
    · have c466 : (q_I δ 3 1 a0).toInt ≤ x4v.toInt := o_nlt h17
      refine ok_ite (fun h467 => ?_) (fun h467 => ?_)
      · have c468 : (q_I δ 3 1 a1).toInt ≤ x5v.toInt := o_le h467
        exact ok_some (show δ = δ from rfl)
      · have c469 : x5v.toInt < (q_I δ 3 1 a1).toInt := o_nle h467
        unfold J_X3_runsWith_28
        refine ok_ite (fun h470 => ?_) (fun h470 => ?_)
        · have c471 : x4v.toInt < (q_I δ 3 1 a0).toInt := o_lt h470
          refine ok_ite (fun h472 => ?_) (fun h472 => ?_)
          · have c473 : x5v.toInt < (q_I δ 3 1 a1).toInt := o_lt h472
            refine ok_at o3 ?_
            have t474 := ti_tn x4v
            refine ok_gd (fun hc475 => ?_) ?_
            · rcases hc475 with hc475 | hc475
              · have c476 : x4v.toInt < (0 : Int) := o_lt hc475
                omega
              · omega
            refine ok_at o11 ?_
            have t477 := ti_tn x5v
            refine ok_gd (fun hc478 => ?_) ?_
            · rcases hc478 with hc478 | hc478
              · have c479 : x5v.toInt < (0 : Int) := o_lt hc478
                omega
              · omega
            refine ok_bind (k_J6_compare_7cf53 L hN (x0 := (q_R δ b2 x4v.toNatClampNeg)) (x1 := (q_R δ b10 x5v.toNatClampNeg))  I) (fun r480 hr481 => ?_)
            obtain ⟨i482, p483⟩ := hr481
            try rw [i482]
            have f484 := ti_b r480.1
            have f485 := ti_b r480.1
            unfold J_X3_runsWith_71
            refine ok_ite (fun h486 => ?_) (fun h486 => ?_)
            · have c487 : r480.1.toInt = (0 : Int) := o_eq h486
              unfold J_X3_runsWith_90
              refine ok_ite (fun h488 => ?_) (fun h488 => ?_)
              · have c489 : (0 : Int) < r480.1.toInt := o_lt h488
                unfold J_X3_runsWith_98
                refine ok_ite (fun h490 => ?_) (fun h490 => ?_)
                · have c491 : r480.1.toInt < (0 : Int) := o_lt h490
                  unfold J_X3_runsWith_106
                  refine ok_mono (ih x2v x3v x4v x5v δ I (show 0 ≤ (x4v).toInt by first | assumption | omega) (show (x4v).toInt ≤ (q_I δ 3 1 a0).toInt by first | assumption | omega) (show 0 ≤ (x5v).toInt by first | assumption | omega) (show (x5v).toInt ≤ (q_I δ 3 1 a1).toInt by first | assumption | omega) (show (q_I δ 3 1 a0).toInt - (x4v).toInt + ((q_I δ 3 1 a1).toInt - (x5v).toInt) < _ by omega)) (fun r492 hr493 => ?_)
                  have i494 := hr493
                  have f495 := ti_b r492.1
                  exact by assumption
                · have c496 : (0 : Int) ≤ r480.1.toInt := o_nlt h490
                  refine ok_biv (fun vx497 e498 => ?_)
                  first | (have q499 := te_addc (c := 1) (n := 1) rfl x5v (by omega) (by omega); rw [← e498] at q499; obtain ⟨f500, f501, f502⟩ := q499) | (obtain ⟨q499, f500, f501, f502⟩ : ∃ q : Int, vx497.toInt = x5v.toInt + (1 : Int) + 4294967296 * q ∧ -2147483648 ≤ vx497.toInt ∧ vx497.toInt ≤ 2147483647 := by rw [e498]; exact ti_addc (c := 1) (n := 1) rfl x5v)
                  unfold J_X3_runsWith_106
                  refine ok_mono (ih x2v x3v x4v vx497 δ I (show 0 ≤ (x4v).toInt by first | assumption | omega) (show (x4v).toInt ≤ (q_I δ 3 1 a0).toInt by first | assumption | omega) (show 0 ≤ (vx497).toInt by first | assumption | omega) (show (vx497).toInt ≤ (q_I δ 3 1 a1).toInt by first | assumption | omega) (show (q_I δ 3 1 a0).toInt - (x4v).toInt + ((q_I δ 3 1 a1).toInt - (vx497).toInt) < _ by omega)) (fun r503 hr504 => ?_)
                  have i505 := hr504
                  have f506 := ti_b r503.1
                  exact by assumption
              · have c507 : r480.1.toInt ≤ (0 : Int) := o_nlt h488
                refine ok_biv (fun vx508 e509 => ?_)
                first | (have q510 := te_addc (c := 1) (n := 1) rfl x4v (by omega) (by omega); rw [← e509] at q510; obtain ⟨f511, f512, f513⟩ := q510) | (obtain ⟨q510, f511, f512, f513⟩ : ∃ q : Int, vx508.toInt = x4v.toInt + (1 : Int) + 4294967296 * q ∧ -2147483648 ≤ vx508.toInt ∧ vx508.toInt ≤ 2147483647 := by rw [e509]; exact ti_addc (c := 1) (n := 1) rfl x4v)
                unfold J_X3_runsWith_98
                refine ok_ite (fun h514 => ?_) (fun h514 => ?_)
                · have c515 : r480.1.toInt < (0 : Int) := o_lt h514
                  unfold J_X3_runsWith_106
                  refine ok_mono (ih x2v x3v vx508 x5v δ I (show 0 ≤ (vx508).toInt by first | assumption | omega) (show (vx508).toInt ≤ (q_I δ 3 1 a0).toInt by first | assumption | omega) (show 0 ≤ (x5v).toInt by first | assumption | omega) (show (x5v).toInt ≤ (q_I δ 3 1 a1).toInt by first | assumption | omega) (show (q_I δ 3 1 a0).toInt - (vx508).toInt + ((q_I δ 3 1 a1).toInt - (x5v).toInt) < _ by omega)) (fun r516 hr517 => ?_)
                  have i518 := hr517
                  have f519 := ti_b r516.1
                  exact by assumption
                · have c520 : (0 : Int) ≤ r480.1.toInt := o_nlt h514
                  refine ok_biv (fun vx521 e522 => ?_)
                  first | (have q523 := te_addc (c := 1) (n := 1) rfl x5v (by omega) (by omega); rw [← e522] at q523; obtain ⟨f524, f525, f526⟩ := q523) | (obtain ⟨q523, f524, f525, f526⟩ : ∃ q : Int, vx521.toInt = x5v.toInt + (1 : Int) + 4294967296 * q ∧ -2147483648 ≤ vx521.toInt ∧ vx521.toInt ≤ 2147483647 := by rw [e522]; exact ti_addc (c := 1) (n := 1) rfl x5v)
                  unfold J_X3_runsWith_106
                  refine ok_mono (ih x2v x3v vx508 vx521 δ I (show 0 ≤ (vx508).toInt by first | assumption | omega) (show (vx508).toInt ≤ (q_I δ 3 1 a0).toInt by first | assumption | omega) (show 0 ≤ (vx521).toInt by first | assumption | omega) (show (vx521).toInt ≤ (q_I δ 3 1 a1).toInt by first | assumption | omega) (show (q_I δ 3 1 a0).toInt - (vx508).toInt + ((q_I δ 3 1 a1).toInt - (vx521).toInt) < _ by omega)) (fun r527 hr528 => ?_)
                  have i529 := hr528
                  have f530 := ti_b r527.1
                  exact by assumption
            · have c531 : r480.1.toInt ≠ (0 : Int) := o_ne h486
              have f532 := ti_b x3v
              refine ok_ite (fun h533 => ?_) (fun h533 => ?_)
              · have c534 : r480.1.toInt = x3v.toInt := o_eq h533
                unfold J_X3_runsWith_90
                refine ok_ite (fun h535 => ?_) (fun h535 => ?_)
                · have c536 : (0 : Int) < r480.1.toInt := o_lt h535
                  unfold J_X3_runsWith_98
                  refine ok_ite (fun h537 => ?_) (fun h537 => ?_)
                  · have c538 : r480.1.toInt < (0 : Int) := o_lt h537
                    unfold J_X3_runsWith_106
                    refine ok_mono (ih x2v x3v x4v x5v δ I (show 0 ≤ (x4v).toInt by first | assumption | omega) (show (x4v).toInt ≤ (q_I δ 3 1 a0).toInt by first | assumption | omega) (show 0 ≤ (x5v).toInt by first | assumption | omega) (show (x5v).toInt ≤ (q_I δ 3 1 a1).toInt by first | assumption | omega) (show (q_I δ 3 1 a0).toInt - (x4v).toInt + ((q_I δ 3 1 a1).toInt - (x5v).toInt) < _ by omega)) (fun r539 hr540 => ?_)
                    have i541 := hr540
                    have f542 := ti_b r539.1
                    exact by assumption
                  · have c543 : (0 : Int) ≤ r480.1.toInt := o_nlt h537
                    refine ok_biv (fun vx544 e545 => ?_)
                    first | (have q546 := te_addc (c := 1) (n := 1) rfl x5v (by omega) (by omega); rw [← e545] at q546; obtain ⟨f547, f548, f549⟩ := q546) | (obtain ⟨q546, f547, f548, f549⟩ : ∃ q : Int, vx544.toInt = x5v.toInt + (1 : Int) + 4294967296 * q ∧ -2147483648 ≤ vx544.toInt ∧ vx544.toInt ≤ 2147483647 := by rw [e545]; exact ti_addc (c := 1) (n := 1) rfl x5v)
                    unfold J_X3_runsWith_106
                    refine ok_mono (ih x2v x3v x4v vx544 δ I (show 0 ≤ (x4v).toInt by first | assumption | omega) (show (x4v).toInt ≤ (q_I δ 3 1 a0).toInt by first | assumption | omega) (show 0 ≤ (vx544).toInt by first | assumption | omega) (show (vx544).toInt ≤ (q_I δ 3 1 a1).toInt by first | assumption | omega) (show (q_I δ 3 1 a0).toInt - (x4v).toInt + ((q_I δ 3 1 a1).toInt - (vx544).toInt) < _ by omega)) (fun r550 hr551 => ?_)
                    have i552 := hr551
                    have f553 := ti_b r550.1
                    exact by assumption
                · have c554 : r480.1.toInt ≤ (0 : Int) := o_nlt h535
                  refine ok_biv (fun vx555 e556 => ?_)
                  first | (have q557 := te_addc (c := 1) (n := 1) rfl x4v (by omega) (by omega); rw [← e556] at q557; obtain ⟨f558, f559, f560⟩ := q557) | (obtain ⟨q557, f558, f559, f560⟩ : ∃ q : Int, vx555.toInt = x4v.toInt + (1 : Int) + 4294967296 * q ∧ -2147483648 ≤ vx555.toInt ∧ vx555.toInt ≤ 2147483647 := by rw [e556]; exact ti_addc (c := 1) (n := 1) rfl x4v)
                  unfold J_X3_runsWith_98
                  refine ok_ite (fun h561 => ?_) (fun h561 => ?_)
                  · have c562 : r480.1.toInt < (0 : Int) := o_lt h561
                    unfold J_X3_runsWith_106
                    refine ok_mono (ih x2v x3v vx555 x5v δ I (show 0 ≤ (vx555).toInt by first | assumption | omega) (show (vx555).toInt ≤ (q_I δ 3 1 a0).toInt by first | assumption | omega) (show 0 ≤ (x5v).toInt by first | assumption | omega) (show (x5v).toInt ≤ (q_I δ 3 1 a1).toInt by first | assumption | omega) (show (q_I δ 3 1 a0).toInt - (vx555).toInt + ((q_I δ 3 1 a1).toInt - (x5v).toInt) < _ by omega)) (fun r563 hr564 => ?_)
                    have i565 := hr564
                    have f566 := ti_b r563.1
                    exact by assumption
                  · have c567 : (0 : Int) ≤ r480.1.toInt := o_nlt h561
                    refine ok_biv (fun vx568 e569 => ?_)
                    first | (have q570 := te_addc (c := 1) (n := 1) rfl x5v (by omega) (by omega); rw [← e569] at q570; obtain ⟨f571, f572, f573⟩ := q570) | (obtain ⟨q570, f571, f572, f573⟩ : ∃ q : Int, vx568.toInt = x5v.toInt + (1 : Int) + 4294967296 * q ∧ -2147483648 ≤ vx568.toInt ∧ vx568.toInt ≤ 2147483647 := by rw [e569]; exact ti_addc (c := 1) (n := 1) rfl x5v)
                    unfold J_X3_runsWith_106
                    refine ok_mono (ih x2v x3v vx555 vx568 δ I (show 0 ≤ (vx555).toInt by first | assumption | omega) (show (vx555).toInt ≤ (q_I δ 3 1 a0).toInt by first | assumption | omega) (show 0 ≤ (vx568).toInt by first | assumption | omega) (show (vx568).toInt ≤ (q_I δ 3 1 a1).toInt by first | assumption | omega) (show (q_I δ 3 1 a0).toInt - (vx555).toInt + ((q_I δ 3 1 a1).toInt - (vx568).toInt) < _ by omega)) (fun r574 hr575 => ?_)
                    have i576 := hr575
                    have f577 := ti_b r574.1
                    exact by assumption
              · have c578 : r480.1.toInt ≠ x3v.toInt := o_ne h533
                have f581 := ti_b x2v
                refine ok_biv (fun vx579 e580 => ?_)
                first | (have q582 := te_addc (c := 1) (n := 1) rfl x2v (by omega) (by omega); rw [← e580] at q582; obtain ⟨f583, f584, f585⟩ := q582) | (obtain ⟨q582, f583, f584, f585⟩ : ∃ q : Int, vx579.toInt = x2v.toInt + (1 : Int) + 4294967296 * q ∧ -2147483648 ≤ vx579.toInt ∧ vx579.toInt ≤ 2147483647 := by rw [e580]; exact ti_addc (c := 1) (n := 1) rfl x2v)
                unfold J_X3_runsWith_90
                refine ok_ite (fun h586 => ?_) (fun h586 => ?_)
                · have c587 : (0 : Int) < r480.1.toInt := o_lt h586
                  unfold J_X3_runsWith_98
                  refine ok_ite (fun h588 => ?_) (fun h588 => ?_)
                  · have c589 : r480.1.toInt < (0 : Int) := o_lt h588
                    unfold J_X3_runsWith_106
                    refine ok_mono (ih vx579 r480.1 x4v x5v δ I (show 0 ≤ (x4v).toInt by first | assumption | omega) (show (x4v).toInt ≤ (q_I δ 3 1 a0).toInt by first | assumption | omega) (show 0 ≤ (x5v).toInt by first | assumption | omega) (show (x5v).toInt ≤ (q_I δ 3 1 a1).toInt by first | assumption | omega) (show (q_I δ 3 1 a0).toInt - (x4v).toInt + ((q_I δ 3 1 a1).toInt - (x5v).toInt) < _ by omega)) (fun r590 hr591 => ?_)
                    have i592 := hr591
                    have f593 := ti_b r590.1
                    exact by assumption
                  · have c594 : (0 : Int) ≤ r480.1.toInt := o_nlt h588
                    refine ok_biv (fun vx595 e596 => ?_)
                    first | (have q597 := te_addc (c := 1) (n := 1) rfl x5v (by omega) (by omega); rw [← e596] at q597; obtain ⟨f598, f599, f600⟩ := q597) | (obtain ⟨q597, f598, f599, f600⟩ : ∃ q : Int, vx595.toInt = x5v.toInt + (1 : Int) + 4294967296 * q ∧ -2147483648 ≤ vx595.toInt ∧ vx595.toInt ≤ 2147483647 := by rw [e596]; exact ti_addc (c := 1) (n := 1) rfl x5v)
                    unfold J_X3_runsWith_106
                    refine ok_mono (ih vx579 r480.1 x4v vx595 δ I (show 0 ≤ (x4v).toInt by first | assumption | omega) (show (x4v).toInt ≤ (q_I δ 3 1 a0).toInt by first | assumption | omega) (show 0 ≤ (vx595).toInt by first | assumption | omega) (show (vx595).toInt ≤ (q_I δ 3 1 a1).toInt by first | assumption | omega) (show (q_I δ 3 1 a0).toInt - (x4v).toInt + ((q_I δ 3 1 a1).toInt - (vx595).toInt) < _ by omega)) (fun r601 hr602 => ?_)
                    have i603 := hr602
                    have f604 := ti_b r601.1
                    exact by assumption
                · have c605 : r480.1.toInt ≤ (0 : Int) := o_nlt h586
                  refine ok_biv (fun vx606 e607 => ?_)
                  first | (have q608 := te_addc (c := 1) (n := 1) rfl x4v (by omega) (by omega); rw [← e607] at q608; obtain ⟨f609, f610, f611⟩ := q608) | (obtain ⟨q608, f609, f610, f611⟩ : ∃ q : Int, vx606.toInt = x4v.toInt + (1 : Int) + 4294967296 * q ∧ -2147483648 ≤ vx606.toInt ∧ vx606.toInt ≤ 2147483647 := by rw [e607]; exact ti_addc (c := 1) (n := 1) rfl x4v)
                  unfold J_X3_runsWith_98
                  refine ok_ite (fun h612 => ?_) (fun h612 => ?_)
                  · have c613 : r480.1.toInt < (0 : Int) := o_lt h612
                    unfold J_X3_runsWith_106
                    refine ok_mono (ih vx579 r480.1 vx606 x5v δ I (show 0 ≤ (vx606).toInt by first | assumption | omega) (show (vx606).toInt ≤ (q_I δ 3 1 a0).toInt by first | assumption | omega) (show 0 ≤ (x5v).toInt by first | assumption | omega) (show (x5v).toInt ≤ (q_I δ 3 1 a1).toInt by first | assumption | omega) (show (q_I δ 3 1 a0).toInt - (vx606).toInt + ((q_I δ 3 1 a1).toInt - (x5v).toInt) < _ by omega)) (fun r614 hr615 => ?_)
                    have i616 := hr615
                    have f617 := ti_b r614.1
                    exact by assumption
                  · have c618 : (0 : Int) ≤ r480.1.toInt := o_nlt h612
                    refine ok_biv (fun vx619 e620 => ?_)
                    first | (have q621 := te_addc (c := 1) (n := 1) rfl x5v (by omega) (by omega); rw [← e620] at q621; obtain ⟨f622, f623, f624⟩ := q621) | (obtain ⟨q621, f622, f623, f624⟩ : ∃ q : Int, vx619.toInt = x5v.toInt + (1 : Int) + 4294967296 * q ∧ -2147483648 ≤ vx619.toInt ∧ vx619.toInt ≤ 2147483647 := by rw [e620]; exact ti_addc (c := 1) (n := 1) rfl x5v)
                    unfold J_X3_runsWith_106
                    refine ok_mono (ih vx579 r480.1 vx606 vx619 δ I (show 0 ≤ (vx606).toInt by first | assumption | omega) (show (vx606).toInt ≤ (q_I δ 3 1 a0).toInt by first | assumption | omega) (show 0 ≤ (vx619).toInt by first | assumption | omega) (show (vx619).toInt ≤ (q_I δ 3 1 a1).toInt by first | assumption | omega) (show (q_I δ 3 1 a0).toInt - (vx606).toInt + ((q_I δ 3 1 a1).toInt - (vx619).toInt) < _ by omega)) (fun r625 hr626 => ?_)
                    have i627 := hr626
                    have f628 := ti_b r625.1
                    exact by assumption
          · have c629 : (q_I δ 3 1 a1).toInt ≤ x5v.toInt := o_nlt h472
            unfold J_X3_runsWith_71
            refine ok_ite (fun h630 => ?_) (fun h630 => ?_)
            · have c631 : (-1 : Int) = (0 : Int) := o_eq h630
              unfold J_X3_runsWith_90
              refine ok_ite (fun h632 => ?_) (fun h632 => ?_)
              · have c633 : (0 : Int) < (-1 : Int) := o_lt h632
                unfold J_X3_runsWith_98
                refine ok_ite (fun h634 => ?_) (fun h634 => ?_)
                · have c635 : (-1 : Int) < (0 : Int) := o_lt h634
                  unfold J_X3_runsWith_106
                  refine ok_mono (ih x2v x3v x4v x5v δ I (show 0 ≤ (x4v).toInt by first | assumption | omega) (show (x4v).toInt ≤ (q_I δ 3 1 a0).toInt by first | assumption | omega) (show 0 ≤ (x5v).toInt by first | assumption | omega) (show (x5v).toInt ≤ (q_I δ 3 1 a1).toInt by first | assumption | omega) (show (q_I δ 3 1 a0).toInt - (x4v).toInt + ((q_I δ 3 1 a1).toInt - (x5v).toInt) < _ by omega)) (fun r636 hr637 => ?_)
                  have i638 := hr637
                  have f639 := ti_b r636.1
                  exact by assumption
                · have c640 : (0 : Int) ≤ (-1 : Int) := o_nlt h634
                  refine ok_biv (fun vx641 e642 => ?_)
                  first | (have q643 := te_addc (c := 1) (n := 1) rfl x5v (by omega) (by omega); rw [← e642] at q643; obtain ⟨f644, f645, f646⟩ := q643) | (obtain ⟨q643, f644, f645, f646⟩ : ∃ q : Int, vx641.toInt = x5v.toInt + (1 : Int) + 4294967296 * q ∧ -2147483648 ≤ vx641.toInt ∧ vx641.toInt ≤ 2147483647 := by rw [e642]; exact ti_addc (c := 1) (n := 1) rfl x5v)
                  unfold J_X3_runsWith_106
                  refine ok_mono (ih x2v x3v x4v vx641 δ I (show 0 ≤ (x4v).toInt by first | assumption | omega) (show (x4v).toInt ≤ (q_I δ 3 1 a0).toInt by first | assumption | omega) (show 0 ≤ (vx641).toInt by first | assumption | omega) (show (vx641).toInt ≤ (q_I δ 3 1 a1).toInt by first | assumption | omega) (show (q_I δ 3 1 a0).toInt - (x4v).toInt + ((q_I δ 3 1 a1).toInt - (vx641).toInt) < _ by omega)) (fun r647 hr648 => ?_)
                  have i649 := hr648
                  have f650 := ti_b r647.1
                  exact by assumption
              · have c651 : (-1 : Int) ≤ (0 : Int) := o_nlt h632
                refine ok_biv (fun vx652 e653 => ?_)
                first | (have q654 := te_addc (c := 1) (n := 1) rfl x4v (by omega) (by omega); rw [← e653] at q654; obtain ⟨f655, f656, f657⟩ := q654) | (obtain ⟨q654, f655, f656, f657⟩ : ∃ q : Int, vx652.toInt = x4v.toInt + (1 : Int) + 4294967296 * q ∧ -2147483648 ≤ vx652.toInt ∧ vx652.toInt ≤ 2147483647 := by rw [e653]; exact ti_addc (c := 1) (n := 1) rfl x4v)
                unfold J_X3_runsWith_98
                refine ok_ite (fun h658 => ?_) (fun h658 => ?_)
                · have c659 : (-1 : Int) < (0 : Int) := o_lt h658
                  unfold J_X3_runsWith_106
                  refine ok_mono (ih x2v x3v vx652 x5v δ I (show 0 ≤ (vx652).toInt by first | assumption | omega) (show (vx652).toInt ≤ (q_I δ 3 1 a0).toInt by first | assumption | omega) (show 0 ≤ (x5v).toInt by first | assumption | omega) (show (x5v).toInt ≤ (q_I δ 3 1 a1).toInt by first | assumption | omega) (show (q_I δ 3 1 a0).toInt - (vx652).toInt + ((q_I δ 3 1 a1).toInt - (x5v).toInt) < _ by omega)) (fun r660 hr661 => ?_)
                  have i662 := hr661
                  have f663 := ti_b r660.1
                  exact by assumption
                · have c664 : (0 : Int) ≤ (-1 : Int) := o_nlt h658
                  refine ok_biv (fun vx665 e666 => ?_)
                  first | (have q667 := te_addc (c := 1) (n := 1) rfl x5v (by omega) (by omega); rw [← e666] at q667; obtain ⟨f668, f669, f670⟩ := q667) | (obtain ⟨q667, f668, f669, f670⟩ : ∃ q : Int, vx665.toInt = x5v.toInt + (1 : Int) + 4294967296 * q ∧ -2147483648 ≤ vx665.toInt ∧ vx665.toInt ≤ 2147483647 := by rw [e666]; exact ti_addc (c := 1) (n := 1) rfl x5v)
                  unfold J_X3_runsWith_106
                  refine ok_mono (ih x2v x3v vx652 vx665 δ I (show 0 ≤ (vx652).toInt by first | assumption | omega) (show (vx652).toInt ≤ (q_I δ 3 1 a0).toInt by first | assumption | omega) (show 0 ≤ (vx665).toInt by first | assumption | omega) (show (vx665).toInt ≤ (q_I δ 3 1 a1).toInt by first | assumption | omega) (show (q_I δ 3 1 a0).toInt - (vx652).toInt + ((q_I δ 3 1 a1).toInt - (vx665).toInt) < _ by omega)) (fun r671 hr672 => ?_)
                  have i673 := hr672
                  have f674 := ti_b r671.1
                  exact by assumption
            · have c675 : (-1 : Int) ≠ (0 : Int) := o_ne h630
              have f676 := ti_b x3v
              refine ok_ite (fun h677 => ?_) (fun h677 => ?_)
              · have c678 : (-1 : Int) = x3v.toInt := o_eq h677
                unfold J_X3_runsWith_90
                refine ok_ite (fun h679 => ?_) (fun h679 => ?_)
                · have c680 : (0 : Int) < (-1 : Int) := o_lt h679
                  unfold J_X3_runsWith_98
                  refine ok_ite (fun h681 => ?_) (fun h681 => ?_)
                  · have c682 : (-1 : Int) < (0 : Int) := o_lt h681
                    unfold J_X3_runsWith_106
                    refine ok_mono (ih x2v x3v x4v x5v δ I (show 0 ≤ (x4v).toInt by first | assumption | omega) (show (x4v).toInt ≤ (q_I δ 3 1 a0).toInt by first | assumption | omega) (show 0 ≤ (x5v).toInt by first | assumption | omega) (show (x5v).toInt ≤ (q_I δ 3 1 a1).toInt by first | assumption | omega) (show (q_I δ 3 1 a0).toInt - (x4v).toInt + ((q_I δ 3 1 a1).toInt - (x5v).toInt) < _ by omega)) (fun r683 hr684 => ?_)
                    have i685 := hr684
                    have f686 := ti_b r683.1
                    exact by assumption
                  · have c687 : (0 : Int) ≤ (-1 : Int) := o_nlt h681
                    refine ok_biv (fun vx688 e689 => ?_)
                    first | (have q690 := te_addc (c := 1) (n := 1) rfl x5v (by omega) (by omega); rw [← e689] at q690; obtain ⟨f691, f692, f693⟩ := q690) | (obtain ⟨q690, f691, f692, f693⟩ : ∃ q : Int, vx688.toInt = x5v.toInt + (1 : Int) + 4294967296 * q ∧ -2147483648 ≤ vx688.toInt ∧ vx688.toInt ≤ 2147483647 := by rw [e689]; exact ti_addc (c := 1) (n := 1) rfl x5v)
                    unfold J_X3_runsWith_106
                    refine ok_mono (ih x2v x3v x4v vx688 δ I (show 0 ≤ (x4v).toInt by first | assumption | omega) (show (x4v).toInt ≤ (q_I δ 3 1 a0).toInt by first | assumption | omega) (show 0 ≤ (vx688).toInt by first | assumption | omega) (show (vx688).toInt ≤ (q_I δ 3 1 a1).toInt by first | assumption | omega) (show (q_I δ 3 1 a0).toInt - (x4v).toInt + ((q_I δ 3 1 a1).toInt - (vx688).toInt) < _ by omega)) (fun r694 hr695 => ?_)
                    have i696 := hr695
                    have f697 := ti_b r694.1
                    exact by assumption
                · have c698 : (-1 : Int) ≤ (0 : Int) := o_nlt h679
                  refine ok_biv (fun vx699 e700 => ?_)
                  first | (have q701 := te_addc (c := 1) (n := 1) rfl x4v (by omega) (by omega); rw [← e700] at q701; obtain ⟨f702, f703, f704⟩ := q701) | (obtain ⟨q701, f702, f703, f704⟩ : ∃ q : Int, vx699.toInt = x4v.toInt + (1 : Int) + 4294967296 * q ∧ -2147483648 ≤ vx699.toInt ∧ vx699.toInt ≤ 2147483647 := by rw [e700]; exact ti_addc (c := 1) (n := 1) rfl x4v)
                  unfold J_X3_runsWith_98
                  refine ok_ite (fun h705 => ?_) (fun h705 => ?_)
                  · have c706 : (-1 : Int) < (0 : Int) := o_lt h705
                    unfold J_X3_runsWith_106
                    refine ok_mono (ih x2v x3v vx699 x5v δ I (show 0 ≤ (vx699).toInt by first | assumption | omega) (show (vx699).toInt ≤ (q_I δ 3 1 a0).toInt by first | assumption | omega) (show 0 ≤ (x5v).toInt by first | assumption | omega) (show (x5v).toInt ≤ (q_I δ 3 1 a1).toInt by first | assumption | omega) (show (q_I δ 3 1 a0).toInt - (vx699).toInt + ((q_I δ 3 1 a1).toInt - (x5v).toInt) < _ by omega)) (fun r707 hr708 => ?_)
                    have i709 := hr708
                    have f710 := ti_b r707.1
                    exact by assumption
                  · have c711 : (0 : Int) ≤ (-1 : Int) := o_nlt h705
                    refine ok_biv (fun vx712 e713 => ?_)
                    first | (have q714 := te_addc (c := 1) (n := 1) rfl x5v (by omega) (by omega); rw [← e713] at q714; obtain ⟨f715, f716, f717⟩ := q714) | (obtain ⟨q714, f715, f716, f717⟩ : ∃ q : Int, vx712.toInt = x5v.toInt + (1 : Int) + 4294967296 * q ∧ -2147483648 ≤ vx712.toInt ∧ vx712.toInt ≤ 2147483647 := by rw [e713]; exact ti_addc (c := 1) (n := 1) rfl x5v)
                    unfold J_X3_runsWith_106
                    refine ok_mono (ih x2v x3v vx699 vx712 δ I (show 0 ≤ (vx699).toInt by first | assumption | omega) (show (vx699).toInt ≤ (q_I δ 3 1 a0).toInt by first | assumption | omega) (show 0 ≤ (vx712).toInt by first | assumption | omega) (show (vx712).toInt ≤ (q_I δ 3 1 a1).toInt by first | assumption | omega) (show (q_I δ 3 1 a0).toInt - (vx699).toInt + ((q_I δ 3 1 a1).toInt - (vx712).toInt) < _ by omega)) (fun r718 hr719 => ?_)
                    have i720 := hr719
                    have f721 := ti_b r718.1
                    exact by assumption
              · have c722 : (-1 : Int) ≠ x3v.toInt := o_ne h677
                have f725 := ti_b x2v
                refine ok_biv (fun vx723 e724 => ?_)
                first | (have q726 := te_addc (c := 1) (n := 1) rfl x2v (by omega) (by omega); rw [← e724] at q726; obtain ⟨f727, f728, f729⟩ := q726) | (obtain ⟨q726, f727, f728, f729⟩ : ∃ q : Int, vx723.toInt = x2v.toInt + (1 : Int) + 4294967296 * q ∧ -2147483648 ≤ vx723.toInt ∧ vx723.toInt ≤ 2147483647 := by rw [e724]; exact ti_addc (c := 1) (n := 1) rfl x2v)
                unfold J_X3_runsWith_90
                refine ok_ite (fun h730 => ?_) (fun h730 => ?_)
                · have c731 : (0 : Int) < (-1 : Int) := o_lt h730
                  unfold J_X3_runsWith_98
                  refine ok_ite (fun h732 => ?_) (fun h732 => ?_)
                  · have c733 : (-1 : Int) < (0 : Int) := o_lt h732
                    unfold J_X3_runsWith_106
                    refine ok_mono (ih vx723 (-1 : Int32) x4v x5v δ I (show 0 ≤ (x4v).toInt by first | assumption | omega) (show (x4v).toInt ≤ (q_I δ 3 1 a0).toInt by first | assumption | omega) (show 0 ≤ (x5v).toInt by first | assumption | omega) (show (x5v).toInt ≤ (q_I δ 3 1 a1).toInt by first | assumption | omega) (show (q_I δ 3 1 a0).toInt - (x4v).toInt + ((q_I δ 3 1 a1).toInt - (x5v).toInt) < _ by omega)) (fun r734 hr735 => ?_)
                    have i736 := hr735
                    have f737 := ti_b r734.1
                    exact by assumption
                  · have c738 : (0 : Int) ≤ (-1 : Int) := o_nlt h732
                    refine ok_biv (fun vx739 e740 => ?_)
                    first | (have q741 := te_addc (c := 1) (n := 1) rfl x5v (by omega) (by omega); rw [← e740] at q741; obtain ⟨f742, f743, f744⟩ := q741) | (obtain ⟨q741, f742, f743, f744⟩ : ∃ q : Int, vx739.toInt = x5v.toInt + (1 : Int) + 4294967296 * q ∧ -2147483648 ≤ vx739.toInt ∧ vx739.toInt ≤ 2147483647 := by rw [e740]; exact ti_addc (c := 1) (n := 1) rfl x5v)
                    unfold J_X3_runsWith_106
                    refine ok_mono (ih vx723 (-1 : Int32) x4v vx739 δ I (show 0 ≤ (x4v).toInt by first | assumption | omega) (show (x4v).toInt ≤ (q_I δ 3 1 a0).toInt by first | assumption | omega) (show 0 ≤ (vx739).toInt by first | assumption | omega) (show (vx739).toInt ≤ (q_I δ 3 1 a1).toInt by first | assumption | omega) (show (q_I δ 3 1 a0).toInt - (x4v).toInt + ((q_I δ 3 1 a1).toInt - (vx739).toInt) < _ by omega)) (fun r745 hr746 => ?_)
                    have i747 := hr746
                    have f748 := ti_b r745.1
                    exact by assumption
                · have c749 : (-1 : Int) ≤ (0 : Int) := o_nlt h730
                  refine ok_biv (fun vx750 e751 => ?_)
                  first | (have q752 := te_addc (c := 1) (n := 1) rfl x4v (by omega) (by omega); rw [← e751] at q752; obtain ⟨f753, f754, f755⟩ := q752) | (obtain ⟨q752, f753, f754, f755⟩ : ∃ q : Int, vx750.toInt = x4v.toInt + (1 : Int) + 4294967296 * q ∧ -2147483648 ≤ vx750.toInt ∧ vx750.toInt ≤ 2147483647 := by rw [e751]; exact ti_addc (c := 1) (n := 1) rfl x4v)
                  unfold J_X3_runsWith_98
                  refine ok_ite (fun h756 => ?_) (fun h756 => ?_)
                  · have c757 : (-1 : Int) < (0 : Int) := o_lt h756
                    unfold J_X3_runsWith_106
                    refine ok_mono (ih vx723 (-1 : Int32) vx750 x5v δ I (show 0 ≤ (vx750).toInt by first | assumption | omega) (show (vx750).toInt ≤ (q_I δ 3 1 a0).toInt by first | assumption | omega) (show 0 ≤ (x5v).toInt by first | assumption | omega) (show (x5v).toInt ≤ (q_I δ 3 1 a1).toInt by first | assumption | omega) (show (q_I δ 3 1 a0).toInt - (vx750).toInt + ((q_I δ 3 1 a1).toInt - (x5v).toInt) < _ by omega)) (fun r758 hr759 => ?_)
                    have i760 := hr759
                    have f761 := ti_b r758.1
                    exact by assumption
                  · have c762 : (0 : Int) ≤ (-1 : Int) := o_nlt h756
                    refine ok_biv (fun vx763 e764 => ?_)
                    first | (have q765 := te_addc (c := 1) (n := 1) rfl x5v (by omega) (by omega); rw [← e764] at q765; obtain ⟨f766, f767, f768⟩ := q765) | (obtain ⟨q765, f766, f767, f768⟩ : ∃ q : Int, vx763.toInt = x5v.toInt + (1 : Int) + 4294967296 * q ∧ -2147483648 ≤ vx763.toInt ∧ vx763.toInt ≤ 2147483647 := by rw [e764]; exact ti_addc (c := 1) (n := 1) rfl x5v)
                    unfold J_X3_runsWith_106
                    refine ok_mono (ih vx723 (-1 : Int32) vx750 vx763 δ I (show 0 ≤ (vx750).toInt by first | assumption | omega) (show (vx750).toInt ≤ (q_I δ 3 1 a0).toInt by first | assumption | omega) (show 0 ≤ (vx763).toInt by first | assumption | omega) (show (vx763).toInt ≤ (q_I δ 3 1 a1).toInt by first | assumption | omega) (show (q_I δ 3 1 a0).toInt - (vx750).toInt + ((q_I δ 3 1 a1).toInt - (vx763).toInt) < _ by omega)) (fun r769 hr770 => ?_)
                    have i771 := hr770
                    have f772 := ti_b r769.1
                    exact by assumption
        · have c773 : (q_I δ 3 1 a0).toInt ≤ x4v.toInt := o_nlt h470
          unfold J_X3_runsWith_71
          refine ok_ite (fun h774 => ?_) (fun h774 => ?_)
          · have c775 : (1 : Int) = (0 : Int) := o_eq h774
            unfold J_X3_runsWith_90
            refine ok_ite (fun h776 => ?_) (fun h776 => ?_)
            · have c777 : (0 : Int) < (1 : Int) := o_lt h776
              unfold J_X3_runsWith_98
              refine ok_ite (fun h778 => ?_) (fun h778 => ?_)
              · have c779 : (1 : Int) < (0 : Int) := o_lt h778
                unfold J_X3_runsWith_106
                refine ok_mono (ih x2v x3v x4v x5v δ I (show 0 ≤ (x4v).toInt by first | assumption | omega) (show (x4v).toInt ≤ (q_I δ 3 1 a0).toInt by first | assumption | omega) (show 0 ≤ (x5v).toInt by first | assumption | omega) (show (x5v).toInt ≤ (q_I δ 3 1 a1).toInt by first | assumption | omega) (show (q_I δ 3 1 a0).toInt - (x4v).toInt + ((q_I δ 3 1 a1).toInt - (x5v).toInt) < _ by omega)) (fun r780 hr781 => ?_)
                have i782 := hr781
                have f783 := ti_b r780.1
                exact by assumption
              · have c784 : (0 : Int) ≤ (1 : Int) := o_nlt h778
                refine ok_biv (fun vx785 e786 => ?_)
                first | (have q787 := te_addc (c := 1) (n := 1) rfl x5v (by omega) (by omega); rw [← e786] at q787; obtain ⟨f788, f789, f790⟩ := q787) | (obtain ⟨q787, f788, f789, f790⟩ : ∃ q : Int, vx785.toInt = x5v.toInt + (1 : Int) + 4294967296 * q ∧ -2147483648 ≤ vx785.toInt ∧ vx785.toInt ≤ 2147483647 := by rw [e786]; exact ti_addc (c := 1) (n := 1) rfl x5v)
                unfold J_X3_runsWith_106
                refine ok_mono (ih x2v x3v x4v vx785 δ I (show 0 ≤ (x4v).toInt by first | assumption | omega) (show (x4v).toInt ≤ (q_I δ 3 1 a0).toInt by first | assumption | omega) (show 0 ≤ (vx785).toInt by first | assumption | omega) (show (vx785).toInt ≤ (q_I δ 3 1 a1).toInt by first | assumption | omega) (show (q_I δ 3 1 a0).toInt - (x4v).toInt + ((q_I δ 3 1 a1).toInt - (vx785).toInt) < _ by omega)) (fun r791 hr792 => ?_)
                have i793 := hr792
                have f794 := ti_b r791.1
                exact by assumption
            · have c795 : (1 : Int) ≤ (0 : Int) := o_nlt h776
              refine ok_biv (fun vx796 e797 => ?_)
              first | (have q798 := te_addc (c := 1) (n := 1) rfl x4v (by omega) (by omega); rw [← e797] at q798; obtain ⟨f799, f800, f801⟩ := q798) | (obtain ⟨q798, f799, f800, f801⟩ : ∃ q : Int, vx796.toInt = x4v.toInt + (1 : Int) + 4294967296 * q ∧ -2147483648 ≤ vx796.toInt ∧ vx796.toInt ≤ 2147483647 := by rw [e797]; exact ti_addc (c := 1) (n := 1) rfl x4v)
              unfold J_X3_runsWith_98
              refine ok_ite (fun h802 => ?_) (fun h802 => ?_)
              · have c803 : (1 : Int) < (0 : Int) := o_lt h802
                unfold J_X3_runsWith_106
                refine ok_mono (ih x2v x3v vx796 x5v δ I (show 0 ≤ (vx796).toInt by first | assumption | omega) (show (vx796).toInt ≤ (q_I δ 3 1 a0).toInt by first | assumption | omega) (show 0 ≤ (x5v).toInt by first | assumption | omega) (show (x5v).toInt ≤ (q_I δ 3 1 a1).toInt by first | assumption | omega) (show (q_I δ 3 1 a0).toInt - (vx796).toInt + ((q_I δ 3 1 a1).toInt - (x5v).toInt) < _ by omega)) (fun r804 hr805 => ?_)
                have i806 := hr805
                have f807 := ti_b r804.1
                exact by assumption
              · have c808 : (0 : Int) ≤ (1 : Int) := o_nlt h802
                refine ok_biv (fun vx809 e810 => ?_)
                first | (have q811 := te_addc (c := 1) (n := 1) rfl x5v (by omega) (by omega); rw [← e810] at q811; obtain ⟨f812, f813, f814⟩ := q811) | (obtain ⟨q811, f812, f813, f814⟩ : ∃ q : Int, vx809.toInt = x5v.toInt + (1 : Int) + 4294967296 * q ∧ -2147483648 ≤ vx809.toInt ∧ vx809.toInt ≤ 2147483647 := by rw [e810]; exact ti_addc (c := 1) (n := 1) rfl x5v)
                unfold J_X3_runsWith_106
                refine ok_mono (ih x2v x3v vx796 vx809 δ I (show 0 ≤ (vx796).toInt by first | assumption | omega) (show (vx796).toInt ≤ (q_I δ 3 1 a0).toInt by first | assumption | omega) (show 0 ≤ (vx809).toInt by first | assumption | omega) (show (vx809).toInt ≤ (q_I δ 3 1 a1).toInt by first | assumption | omega) (show (q_I δ 3 1 a0).toInt - (vx796).toInt + ((q_I δ 3 1 a1).toInt - (vx809).toInt) < _ by omega)) (fun r815 hr816 => ?_)
                have i817 := hr816
                have f818 := ti_b r815.1
                exact by assumption
          · have c819 : (1 : Int) ≠ (0 : Int) := o_ne h774
            have f820 := ti_b x3v
            refine ok_ite (fun h821 => ?_) (fun h821 => ?_)
            · have c822 : (1 : Int) = x3v.toInt := o_eq h821
              unfold J_X3_runsWith_90
              refine ok_ite (fun h823 => ?_) (fun h823 => ?_)
              · have c824 : (0 : Int) < (1 : Int) := o_lt h823
                unfold J_X3_runsWith_98
                refine ok_ite (fun h825 => ?_) (fun h825 => ?_)
                · have c826 : (1 : Int) < (0 : Int) := o_lt h825
                  unfold J_X3_runsWith_106
                  refine ok_mono (ih x2v x3v x4v x5v δ I (show 0 ≤ (x4v).toInt by first | assumption | omega) (show (x4v).toInt ≤ (q_I δ 3 1 a0).toInt by first | assumption | omega) (show 0 ≤ (x5v).toInt by first | assumption | omega) (show (x5v).toInt ≤ (q_I δ 3 1 a1).toInt by first | assumption | omega) (show (q_I δ 3 1 a0).toInt - (x4v).toInt + ((q_I δ 3 1 a1).toInt - (x5v).toInt) < _ by omega)) (fun r827 hr828 => ?_)
                  have i829 := hr828
                  have f830 := ti_b r827.1
                  exact by assumption
                · have c831 : (0 : Int) ≤ (1 : Int) := o_nlt h825
                  refine ok_biv (fun vx832 e833 => ?_)
                  first | (have q834 := te_addc (c := 1) (n := 1) rfl x5v (by omega) (by omega); rw [← e833] at q834; obtain ⟨f835, f836, f837⟩ := q834) | (obtain ⟨q834, f835, f836, f837⟩ : ∃ q : Int, vx832.toInt = x5v.toInt + (1 : Int) + 4294967296 * q ∧ -2147483648 ≤ vx832.toInt ∧ vx832.toInt ≤ 2147483647 := by rw [e833]; exact ti_addc (c := 1) (n := 1) rfl x5v)
                  unfold J_X3_runsWith_106
                  refine ok_mono (ih x2v x3v x4v vx832 δ I (show 0 ≤ (x4v).toInt by first | assumption | omega) (show (x4v).toInt ≤ (q_I δ 3 1 a0).toInt by first | assumption | omega) (show 0 ≤ (vx832).toInt by first | assumption | omega) (show (vx832).toInt ≤ (q_I δ 3 1 a1).toInt by first | assumption | omega) (show (q_I δ 3 1 a0).toInt - (x4v).toInt + ((q_I δ 3 1 a1).toInt - (vx832).toInt) < _ by omega)) (fun r838 hr839 => ?_)
                  have i840 := hr839
                  have f841 := ti_b r838.1
                  exact by assumption
              · have c842 : (1 : Int) ≤ (0 : Int) := o_nlt h823
                refine ok_biv (fun vx843 e844 => ?_)
                first | (have q845 := te_addc (c := 1) (n := 1) rfl x4v (by omega) (by omega); rw [← e844] at q845; obtain ⟨f846, f847, f848⟩ := q845) | (obtain ⟨q845, f846, f847, f848⟩ : ∃ q : Int, vx843.toInt = x4v.toInt + (1 : Int) + 4294967296 * q ∧ -2147483648 ≤ vx843.toInt ∧ vx843.toInt ≤ 2147483647 := by rw [e844]; exact ti_addc (c := 1) (n := 1) rfl x4v)
                unfold J_X3_runsWith_98
                refine ok_ite (fun h849 => ?_) (fun h849 => ?_)
                · have c850 : (1 : Int) < (0 : Int) := o_lt h849
                  unfold J_X3_runsWith_106
                  refine ok_mono (ih x2v x3v vx843 x5v δ I (show 0 ≤ (vx843).toInt by first | assumption | omega) (show (vx843).toInt ≤ (q_I δ 3 1 a0).toInt by first | assumption | omega) (show 0 ≤ (x5v).toInt by first | assumption | omega) (show (x5v).toInt ≤ (q_I δ 3 1 a1).toInt by first | assumption | omega) (show (q_I δ 3 1 a0).toInt - (vx843).toInt + ((q_I δ 3 1 a1).toInt - (x5v).toInt) < _ by omega)) (fun r851 hr852 => ?_)
                  have i853 := hr852
                  have f854 := ti_b r851.1
                  exact by assumption
                · have c855 : (0 : Int) ≤ (1 : Int) := o_nlt h849
                  refine ok_biv (fun vx856 e857 => ?_)
                  first | (have q858 := te_addc (c := 1) (n := 1) rfl x5v (by omega) (by omega); rw [← e857] at q858; obtain ⟨f859, f860, f861⟩ := q858) | (obtain ⟨q858, f859, f860, f861⟩ : ∃ q : Int, vx856.toInt = x5v.toInt + (1 : Int) + 4294967296 * q ∧ -2147483648 ≤ vx856.toInt ∧ vx856.toInt ≤ 2147483647 := by rw [e857]; exact ti_addc (c := 1) (n := 1) rfl x5v)
                  unfold J_X3_runsWith_106
                  refine ok_mono (ih x2v x3v vx843 vx856 δ I (show 0 ≤ (vx843).toInt by first | assumption | omega) (show (vx843).toInt ≤ (q_I δ 3 1 a0).toInt by first | assumption | omega) (show 0 ≤ (vx856).toInt by first | assumption | omega) (show (vx856).toInt ≤ (q_I δ 3 1 a1).toInt by first | assumption | omega) (show (q_I δ 3 1 a0).toInt - (vx843).toInt + ((q_I δ 3 1 a1).toInt - (vx856).toInt) < _ by omega)) (fun r862 hr863 => ?_)
                  have i864 := hr863
                  have f865 := ti_b r862.1
                  exact by assumption
            · have c866 : (1 : Int) ≠ x3v.toInt := o_ne h821
              have f869 := ti_b x2v
              refine ok_biv (fun vx867 e868 => ?_)
              first | (have q870 := te_addc (c := 1) (n := 1) rfl x2v (by omega) (by omega); rw [← e868] at q870; obtain ⟨f871, f872, f873⟩ := q870) | (obtain ⟨q870, f871, f872, f873⟩ : ∃ q : Int, vx867.toInt = x2v.toInt + (1 : Int) + 4294967296 * q ∧ -2147483648 ≤ vx867.toInt ∧ vx867.toInt ≤ 2147483647 := by rw [e868]; exact ti_addc (c := 1) (n := 1) rfl x2v)
              unfold J_X3_runsWith_90
              refine ok_ite (fun h874 => ?_) (fun h874 => ?_)
              · have c875 : (0 : Int) < (1 : Int) := o_lt h874
                unfold J_X3_runsWith_98
                refine ok_ite (fun h876 => ?_) (fun h876 => ?_)
                · have c877 : (1 : Int) < (0 : Int) := o_lt h876
                  unfold J_X3_runsWith_106
                  refine ok_mono (ih vx867 (1 : Int32) x4v x5v δ I (show 0 ≤ (x4v).toInt by first | assumption | omega) (show (x4v).toInt ≤ (q_I δ 3 1 a0).toInt by first | assumption | omega) (show 0 ≤ (x5v).toInt by first | assumption | omega) (show (x5v).toInt ≤ (q_I δ 3 1 a1).toInt by first | assumption | omega) (show (q_I δ 3 1 a0).toInt - (x4v).toInt + ((q_I δ 3 1 a1).toInt - (x5v).toInt) < _ by omega)) (fun r878 hr879 => ?_)
                  have i880 := hr879
                  have f881 := ti_b r878.1
                  exact by assumption
                · have c882 : (0 : Int) ≤ (1 : Int) := o_nlt h876
                  refine ok_biv (fun vx883 e884 => ?_)
                  first | (have q885 := te_addc (c := 1) (n := 1) rfl x5v (by omega) (by omega); rw [← e884] at q885; obtain ⟨f886, f887, f888⟩ := q885) | (obtain ⟨q885, f886, f887, f888⟩ : ∃ q : Int, vx883.toInt = x5v.toInt + (1 : Int) + 4294967296 * q ∧ -2147483648 ≤ vx883.toInt ∧ vx883.toInt ≤ 2147483647 := by rw [e884]; exact ti_addc (c := 1) (n := 1) rfl x5v)
                  unfold J_X3_runsWith_106
                  refine ok_mono (ih vx867 (1 : Int32) x4v vx883 δ I (show 0 ≤ (x4v).toInt by first | assumption | omega) (show (x4v).toInt ≤ (q_I δ 3 1 a0).toInt by first | assumption | omega) (show 0 ≤ (vx883).toInt by first | assumption | omega) (show (vx883).toInt ≤ (q_I δ 3 1 a1).toInt by first | assumption | omega) (show (q_I δ 3 1 a0).toInt - (x4v).toInt + ((q_I δ 3 1 a1).toInt - (vx883).toInt) < _ by omega)) (fun r889 hr890 => ?_)
                  have i891 := hr890
                  have f892 := ti_b r889.1
                  exact by assumption
              · have c893 : (1 : Int) ≤ (0 : Int) := o_nlt h874
                refine ok_biv (fun vx894 e895 => ?_)
                first | (have q896 := te_addc (c := 1) (n := 1) rfl x4v (by omega) (by omega); rw [← e895] at q896; obtain ⟨f897, f898, f899⟩ := q896) | (obtain ⟨q896, f897, f898, f899⟩ : ∃ q : Int, vx894.toInt = x4v.toInt + (1 : Int) + 4294967296 * q ∧ -2147483648 ≤ vx894.toInt ∧ vx894.toInt ≤ 2147483647 := by rw [e895]; exact ti_addc (c := 1) (n := 1) rfl x4v)
                unfold J_X3_runsWith_98
                refine ok_ite (fun h900 => ?_) (fun h900 => ?_)
                · have c901 : (1 : Int) < (0 : Int) := o_lt h900
                  unfold J_X3_runsWith_106
                  refine ok_mono (ih vx867 (1 : Int32) vx894 x5v δ I (show 0 ≤ (vx894).toInt by first | assumption | omega) (show (vx894).toInt ≤ (q_I δ 3 1 a0).toInt by first | assumption | omega) (show 0 ≤ (x5v).toInt by first | assumption | omega) (show (x5v).toInt ≤ (q_I δ 3 1 a1).toInt by first | assumption | omega) (show (q_I δ 3 1 a0).toInt - (vx894).toInt + ((q_I δ 3 1 a1).toInt - (x5v).toInt) < _ by omega)) (fun r902 hr903 => ?_)
                  have i904 := hr903
                  have f905 := ti_b r902.1
                  exact by assumption
                · have c906 : (0 : Int) ≤ (1 : Int) := o_nlt h900
                  refine ok_biv (fun vx907 e908 => ?_)
                  first | (have q909 := te_addc (c := 1) (n := 1) rfl x5v (by omega) (by omega); rw [← e908] at q909; obtain ⟨f910, f911, f912⟩ := q909) | (obtain ⟨q909, f910, f911, f912⟩ : ∃ q : Int, vx907.toInt = x5v.toInt + (1 : Int) + 4294967296 * q ∧ -2147483648 ≤ vx907.toInt ∧ vx907.toInt ≤ 2147483647 := by rw [e908]; exact ti_addc (c := 1) (n := 1) rfl x5v)
                  unfold J_X3_runsWith_106
                  refine ok_mono (ih vx867 (1 : Int32) vx894 vx907 δ I (show 0 ≤ (vx894).toInt by first | assumption | omega) (show (vx894).toInt ≤ (q_I δ 3 1 a0).toInt by first | assumption | omega) (show 0 ≤ (vx907).toInt by first | assumption | omega) (show (vx907).toInt ≤ (q_I δ 3 1 a1).toInt by first | assumption | omega) (show (q_I δ 3 1 a0).toInt - (vx894).toInt + ((q_I δ 3 1 a1).toInt - (vx907).toInt) < _ by omega)) (fun r913 hr914 => ?_)
                  have i915 := hr914
                  have f916 := ti_b r913.1
                  exact by assumption
set_option maxHeartbeats 4000000 in
theorem k_X3_runsWith {ad : List Nat} {h : hp} (L : Lay TLx ad h) {δ0 : dp} {N : Nat} (hN : 10000000 ≤ N) {a0 : Nat} {a1 : Nat} (k_a0 : q_K h.1 a0 = 3) (k_a1 : q_K h.1 a1 = 3) {δ : dp} (I : CI ad h.1 δ0 δ) : ok (D_X3_runsWith N h.1 a0 a1 δ) (fun r => r.2 = δ) := by
  unfold D_X3_runsWith
  obtain ⟨b1, o2, k3, ⟨n4, n5⟩, w6⟩ := gO_3_0 L k_a0
  have f7 := cb_3_1 I k_a0 o2
  obtain ⟨b8, o9, k10, ⟨n11, n12⟩, w13⟩ := gO_3_0 L k_a1
  have f14 := cb_3_1 I k_a1 o9
  refine ok_mono (kl_X3_runsWith_10 L hN   k_a0 k_a1 _ (0 : Int32) (0 : Int32) (0 : Int32) (0 : Int32) δ I (show 0 ≤ (0 : Int) by first | assumption | omega) (show (0 : Int) ≤ (q_I δ 3 1 a0).toInt by first | assumption | omega) (show 0 ≤ (0 : Int) by first | assumption | omega) (show (0 : Int) ≤ (q_I δ 3 1 a1).toInt by first | assumption | omega) (show (q_I δ 3 1 a0).toInt - (0 : Int) + ((q_I δ 3 1 a1).toInt - (0 : Int)) < _ by omega)) (fun r15 hr16 => ?_)
  have i17 := hr16
  have f18 := ti_b r15.1
  exact by assumption
set_option maxHeartbeats 4000000 in
theorem kl_X3_widestGap_6 {ad : List Nat} {h : hp} (L : Lay TLx ad h) {δ0 : dp} {N : Nat} (hN : 10000000 ≤ N) {a0 : Nat} (k_a0 : q_K h.1 a0 = 3) : ∀ (n : Nat) (x1v : Int32) (x2v : Int32) (x3v : Int32) (δ : dp), CI ad h.1 δ0 δ → 0 ≤ (x3v).toInt → (x3v).toInt ≤ 2000 → 2000 - (x3v).toInt < (n : Int) → ok (L_X3_widestGap_6 N h.1 a0 n x1v x2v x3v δ) (fun r => r.2 = δ) := by
  intro n
  induction n with
  | zero =>
    intro x1v x2v x3v δ I j0 j1 hm
    have f1 := ti_b x3v
    exfalso; omega
  | succ n ih =>
    intro x1v x2v x3v δ I j0 j1 hm
    unfold L_X3_widestGap_6
    have f1 := ti_b x3v
    obtain ⟨b2, o3, k4, ⟨n5, n6⟩, w7⟩ := gO_3_0 L k_a0
    have f8 := cb_3_1 I k_a0 o3
    first | (have q10 := te_addc (c := 1) (n := 1) rfl x3v (by omega) (by omega); obtain ⟨f11, f12, f13⟩ := q10) | (obtain ⟨q10, f11, f12, f13⟩ := ti_addc (c := 1) (n := 1) rfl x3v)
    refine ok_ite (fun h14 => ?_) (fun h14 => ?_)
    · have c15 : (q_I δ 3 1 a0).toInt ≤ (x3v + (1 : Int32)).toInt := o_le h14
      exact ok_some (show δ = δ from rfl)
    · have c16 : (x3v + (1 : Int32)).toInt < (q_I δ 3 1 a0).toInt := o_nle h14
      refine ok_at o3 ?_
      have t17 := ti_tn (x3v + (1 : Int32))
      refine ok_gd (fun hc18 => ?_) ?_
      · rcases hc18 with hc18 | hc18
        · have c19 : (x3v + (1 : Int32)).toInt < (0 : Int) := o_lt hc18
          omega
        · omega
      refine ok_at o3 ?_
      have t20 := ti_tn x3v
      refine ok_gd (fun hc21 => ?_) ?_
      · rcases hc21 with hc21 | hc21
        · have c22 : x3v.toInt < (0 : Int) := o_lt hc21
          omega
        · omega
      have f25 := ti_b (q_R δ b2 (x3v + (1 : Int32)).toNatClampNeg)
      have f26 := ti_b (q_R δ b2 x3v.toNatClampNeg)
      refine ok_biv (fun vx23 e24 => ?_)
      first | (have q27 := te_sub (q_R δ b2 (x3v + (1 : Int32)).toNatClampNeg) (q_R δ b2 x3v.toNatClampNeg) (by omega) (by omega); rw [← e24] at q27; obtain ⟨f28, f29, f30⟩ := q27) | (obtain ⟨q27, f28, f29, f30⟩ : ∃ q : Int, vx23.toInt = (q_R δ b2 (x3v + (1 : Int32)).toNatClampNeg).toInt - (q_R δ b2 x3v.toNatClampNeg).toInt + 4294967296 * q ∧ -2147483648 ≤ vx23.toInt ∧ vx23.toInt ≤ 2147483647 := by rw [e24]; exact ti_sub (q_R δ b2 (x3v + (1 : Int32)).toNatClampNeg) (q_R δ b2 x3v.toNatClampNeg))
      have f31 := ti_b x2v
      refine ok_ite (fun h32 => ?_) (fun h32 => ?_)
      · have c33 : vx23.toInt ≤ x2v.toInt := o_le h32
        unfold J_X3_widestGap_44
        refine ok_biv (fun vx34 e35 => ?_)
        first | (have q36 := te_addc (c := 1) (n := 1) rfl x3v (by omega) (by omega); rw [← e35] at q36; obtain ⟨f37, f38, f39⟩ := q36) | (obtain ⟨q36, f37, f38, f39⟩ : ∃ q : Int, vx34.toInt = x3v.toInt + (1 : Int) + 4294967296 * q ∧ -2147483648 ≤ vx34.toInt ∧ vx34.toInt ≤ 2147483647 := by rw [e35]; exact ti_addc (c := 1) (n := 1) rfl x3v)
        refine ok_mono (ih x1v x2v vx34 δ I (show 0 ≤ (vx34).toInt by first | assumption | omega) (show (vx34).toInt ≤ 2000 by first | assumption | omega) (show 2000 - (vx34).toInt < _ by omega)) (fun r40 hr41 => ?_)
        have i42 := hr41
        have f43 := ti_b r40.1
        exact by assumption
      · have c44 : x2v.toInt < vx23.toInt := o_nle h32
        unfold J_X3_widestGap_44
        refine ok_biv (fun vx45 e46 => ?_)
        first | (have q47 := te_addc (c := 1) (n := 1) rfl x3v (by omega) (by omega); rw [← e46] at q47; obtain ⟨f48, f49, f50⟩ := q47) | (obtain ⟨q47, f48, f49, f50⟩ : ∃ q : Int, vx45.toInt = x3v.toInt + (1 : Int) + 4294967296 * q ∧ -2147483648 ≤ vx45.toInt ∧ vx45.toInt ≤ 2147483647 := by rw [e46]; exact ti_addc (c := 1) (n := 1) rfl x3v)
        refine ok_mono (ih x3v vx23 vx45 δ I (show 0 ≤ (vx45).toInt by first | assumption | omega) (show (vx45).toInt ≤ 2000 by first | assumption | omega) (show 2000 - (vx45).toInt < _ by omega)) (fun r51 hr52 => ?_)
        have i53 := hr52
        have f54 := ti_b r51.1
        exact by assumption
set_option maxHeartbeats 4000000 in
theorem k_X3_widestGap {ad : List Nat} {h : hp} (L : Lay TLx ad h) {δ0 : dp} {N : Nat} (hN : 10000000 ≤ N) {a0 : Nat} (k_a0 : q_K h.1 a0 = 3) {δ : dp} (I : CI ad h.1 δ0 δ) : ok (D_X3_widestGap N h.1 a0 δ) (fun r => r.2 = δ) := by
  unfold D_X3_widestGap
  refine ok_mono (kl_X3_widestGap_6 L hN   k_a0 _ (-1 : Int32) (0 : Int32) (0 : Int32) δ I (show 0 ≤ (0 : Int) by first | assumption | omega) (show (0 : Int) ≤ 2000 by first | assumption | omega) (show 2000 - (0 : Int) < _ by omega)) (fun r1 hr2 => ?_)
  have i3 := hr2
  have f4 := ti_b r1.1
  exact by assumption
set_option maxHeartbeats 4000000 in
theorem kl_X3_beFirstSet_15 {ad : List Nat} {h : hp} (L : Lay TLx ad h) {δ0 : dp} {N : Nat} (hN : 10000000 ≤ N) {a0 : Nat} {x1 : Int32} (k_a0 : q_K h.1 a0 = 3) : ∀ (n : Nat) (x2v : Int32) (δ : dp), CI ad h.1 δ0 δ → 0 ≤ (x2v).toInt → (x2v).toInt ≤ 2000 → 2000 - (x2v).toInt < (n : Int) → ok (L_X3_beFirstSet_15 N h.1 a0 x1 n x2v δ) (fun r => CI ad h.1 δ0 r ∧ (kp [(3, 1)] δ r ∧ q_V r = q_V δ)) := by
  intro n
  induction n with
  | zero =>
    intro x2v δ I j0 j1 hm
    have f1 := ti_b x2v
    exfalso; omega
  | succ n ih =>
    intro x2v δ I j0 j1 hm
    unfold L_X3_beFirstSet_15
    have f1 := ti_b x2v
    obtain ⟨b2, o3, k4, ⟨n5, n6⟩, w7⟩ := gO_3_0 L k_a0
    have f8 := cb_3_1 I k_a0 o3
    refine ok_ite (fun h9 => ?_) (fun h9 => ?_)
    · have c10 : (q_I δ 3 1 a0).toInt ≤ x2v.toInt := o_le h9
      exact ok_some (show CI ad h.1 δ0 δ ∧ (kp [(3, 1)] δ δ ∧ q_V δ = q_V δ) from ⟨I, ⟨kp_w (by decide) kp_r, rfl⟩⟩)
    · have c11 : x2v.toInt < (q_I δ 3 1 a0).toInt := o_nle h9
      refine ok_at o3 ?_
      have t12 := ti_tn x2v
      refine ok_gd (fun hc13 => ?_) ?_
      · rcases hc13 with hc13 | hc13
        · have c14 : x2v.toInt < (0 : Int) := o_lt hc13
          omega
        · omega
      refine ok_bdv (fun d15 e16 => ?_)
      have i17 : CI ad h.1 δ0 d15 := by rw [e16]; exact CI.sR L I w7
      have u18 := kp_N kp_r (show q_I d15 = q_I δ by rw [e16]; rfl)
      have v19 : q_V d15 = q_V δ := ((show q_V d15 = q_V δ by rw [e16]; rfl)).trans rfl
      refine ok_biv (fun vx20 e21 => ?_)
      first | (have q22 := te_addc (c := 1) (n := 1) rfl x2v (by omega) (by omega); rw [← e21] at q22; obtain ⟨f23, f24, f25⟩ := q22) | (obtain ⟨q22, f23, f24, f25⟩ : ∃ q : Int, vx20.toInt = x2v.toInt + (1 : Int) + 4294967296 * q ∧ -2147483648 ≤ vx20.toInt ∧ vx20.toInt ≤ 2147483647 := by rw [e21]; exact ti_addc (c := 1) (n := 1) rfl x2v)
      refine ok_mono (ih vx20 d15 i17 (show 0 ≤ (vx20).toInt by first | assumption | omega) (show (vx20).toInt ≤ 2000 by first | assumption | omega) (show 2000 - (vx20).toInt < _ by omega)) (fun r26 hr27 => ?_)
      obtain ⟨i28, ⟨u29, u30⟩⟩ := hr27
      have u31 := kp_t u18 u29
      have v32 : q_V r26 = q_V δ := (u30).trans v19
      exact ⟨by assumption, ⟨kp_w (by decide) u31, v32⟩⟩
set_option maxHeartbeats 4000000 in
theorem k_X3_beFirstSet {ad : List Nat} {h : hp} (L : Lay TLx ad h) {δ0 : dp} {N : Nat} (hN : 10000000 ≤ N) {a0 : Nat} {x1 : Int32} (k_a0 : q_K h.1 a0 = 3) {δ : dp} (z0 : 0 ≤ (x1).toInt) (I : CI ad h.1 δ0 δ) : ok (D_X3_beFirstSet N h.1 a0 x1 δ) (fun r => CI ad h.1 δ0 r ∧ (kp [(3, 1)] δ r ∧ q_V r = q_V δ)) := by
  unfold D_X3_beFirstSet
  have f1 := ti_b x1
  obtain ⟨b2, o3, k4, ⟨n5, n6⟩, w7⟩ := gO_3_0 L k_a0
  refine ok_at o3 ?_
  refine ok_bind (k_J9_min_7cf53 L hN (x0 := x1) (x1 := (Int32.ofNat (q_N h.1 b2)))  I) (fun r8 hr9 => ?_)
  obtain ⟨i10, p11, p12, p13⟩ := hr9
  try rw [i10]
  have f14 := ti_b r8.1
  have f15 := n_ti (q_N h.1 b2) (by omega)
  have f16 := ti_b r8.1
  refine ok_bdv (fun d17 e18 => ?_)
  have i19 : CI ad h.1 δ0 d17 := by rw [e18]; exact cs_3_1 L I o3 (show 0 ≤ r8.1.toInt by omega) (show r8.1.toInt ≤ (q_N h.1 b2 : Int) by omega)
  have u20 := kp_I kp_r e18
  have v21 : q_V d17 = q_V δ := ((show q_V d17 = q_V δ by rw [e18]; rfl)).trans rfl
  refine ok_mono (kl_X3_beFirstSet_15 L hN   k_a0 _ (0 : Int32) d17 i19 (show 0 ≤ (0 : Int) by first | assumption | omega) (show (0 : Int) ≤ 2000 by first | assumption | omega) (show 2000 - (0 : Int) < _ by omega)) (fun r22 hr23 => ?_)
  obtain ⟨i24, ⟨u25, u26⟩⟩ := hr23
  have u27 := kp_t u20 u25
  have v28 : q_V r22 = q_V δ := (u26).trans v21
  exact ⟨by assumption, ⟨kp_w (by decide) u27, v28⟩⟩
set_option maxHeartbeats 4000000 in
theorem kl_X3_beNextSet_58 {ad : List Nat} {h : hp} (L : Lay TLx ad h) {δ0 : dp} {N : Nat} (hN : 10000000 ≤ N) {a0 : Nat} {x1 : Int32} (k_a0 : q_K h.1 a0 = 3) : ∀ (n : Nat) (x2v : Int32) (x4v : Int32) (δ : dp), CI ad h.1 δ0 δ → 0 ≤ (x4v).toInt → (x4v).toInt ≤ (x2v).toInt → (x2v).toInt < (q_I δ 3 1 a0).toInt → (x2v).toInt - (x4v).toInt < (n : Int) → ok (L_X3_beNextSet_58 N h.1 a0 x1 n x2v x4v δ) (fun r => CI ad h.1 δ0 r.2 ∧ (kp [] δ r.2 ∧ q_V r.2 = q_V δ) ∧ bo (r.1)) := by
  intro n
  induction n with
  | zero =>
    intro x2v x4v δ I j0 j1 j2 hm
    have f1 := ti_b x4v
    have f2 := ti_b x2v
    obtain ⟨b3, o4, k5, ⟨n6, n7⟩, w8⟩ := gO_3_0 L k_a0
    have f9 := cb_3_1 I k_a0 o4
    exfalso; omega
  | succ n ih =>
    intro x2v x4v δ I j0 j1 j2 hm
    unfold L_X3_beNextSet_58
    have f1 := ti_b x4v
    have f2 := ti_b x2v
    obtain ⟨b3, o4, k5, ⟨n6, n7⟩, w8⟩ := gO_3_0 L k_a0
    have f9 := cb_3_1 I k_a0 o4
    refine ok_ite (fun h10 => ?_) (fun h10 => ?_)
    · have c11 : x2v.toInt ≤ x4v.toInt := o_le h10
      refine ok_gp (by decide) ?_
      exact ok_some (show CI ad h.1 δ0 δ ∧ (kp [] δ δ ∧ q_V δ = q_V δ) ∧ bo ((1 : Int32)) from ⟨I, ⟨kp_w (by decide) kp_r, rfl⟩, bo_1⟩)
    · have c12 : x4v.toInt < x2v.toInt := o_nle h10
      refine ok_at o4 ?_
      have t13 := ti_tn x4v
      refine ok_gd (fun hc14 => ?_) ?_
      · rcases hc14 with hc14 | hc14
        · have c15 : x4v.toInt < (0 : Int) := o_lt hc14
          omega
        · omega
      refine ok_bdv (fun d16 e17 => ?_)
      have i18 : CI ad h.1 δ0 d16 := by rw [e17]; exact CI.sR L I w8
      have u19 := kp_N kp_r (show q_I d16 = q_I δ by rw [e17]; rfl)
      have v20 : q_V d16 = q_V δ := ((show q_V d16 = q_V δ by rw [e17]; rfl)).trans rfl
      refine ok_biv (fun vx21 e22 => ?_)
      first | (have q23 := te_addc (c := 1) (n := 1) rfl x4v (by omega) (by omega); rw [← e22] at q23; obtain ⟨f24, f25, f26⟩ := q23) | (obtain ⟨q23, f24, f25, f26⟩ : ∃ q : Int, vx21.toInt = x4v.toInt + (1 : Int) + 4294967296 * q ∧ -2147483648 ≤ vx21.toInt ∧ vx21.toInt ≤ 2147483647 := by rw [e22]; exact ti_addc (c := 1) (n := 1) rfl x4v)
      have f27 := cb_3_1 i18 k_a0 o4
      have f28 : (q_I d16 3 1 a0).toInt = (q_I δ 3 1 a0).toInt := congrArg Int32.toInt (by rw [e17]; rfl)
      refine ok_mono (ih x2v vx21 d16 i18 (show 0 ≤ (vx21).toInt by first | assumption | omega) (show (vx21).toInt ≤ (x2v).toInt by first | assumption | omega) (show (x2v).toInt < (q_I d16 3 1 a0).toInt by first | assumption | omega) (show (x2v).toInt - (vx21).toInt < _ by omega)) (fun r29 hr30 => ?_)
      obtain ⟨i31, ⟨u33, u34⟩, p32⟩ := hr30
      have u35 := kp_t u19 u33
      have v36 : q_V r29.2 = q_V δ := (u34).trans v20
      have f37 := bo_t p32
      have f38 := ti_b r29.1
      exact ⟨by assumption, ⟨kp_w (by decide) u35, v36⟩, by first | assumption | omega⟩
set_option maxHeartbeats 4000000 in
theorem kl_X3_beNextSet_2 {ad : List Nat} {h : hp} (L : Lay TLx ad h) {δ0 : dp} {N : Nat} (hN : 10000000 ≤ N) {a0 : Nat} {x1 : Int32} (k_a0 : q_K h.1 a0 = 3) : ∀ (n : Nat) (x2v : Int32) (δ : dp), CI ad h.1 δ0 δ → 0 ≤ (x2v).toInt → (x2v).toInt ≤ 2000 → 2000 - (x2v).toInt < (n : Int) → ok (L_X3_beNextSet_2 N h.1 a0 x1 n x2v δ) (fun r => CI ad h.1 δ0 r.2 ∧ (kp [] δ r.2 ∧ q_V r.2 = q_V δ) ∧ bo (r.1)) := by
  intro n
  induction n with
  | zero =>
    intro x2v δ I j0 j1 hm
    have f1 := ti_b x2v
    exfalso; omega
  | succ n ih =>
    intro x2v δ I j0 j1 hm
    unfold L_X3_beNextSet_2
    have f1 := ti_b x2v
    obtain ⟨b2, o3, k4, ⟨n5, n6⟩, w7⟩ := gO_3_0 L k_a0
    have f8 := cb_3_1 I k_a0 o3
    refine ok_ite (fun h9 => ?_) (fun h9 => ?_)
    · have c10 : (q_I δ 3 1 a0).toInt ≤ x2v.toInt := o_le h9
      refine ok_gp (by decide) ?_
      exact ok_some (show CI ad h.1 δ0 δ ∧ (kp [] δ δ ∧ q_V δ = q_V δ) ∧ bo ((0 : Int32)) from ⟨I, ⟨kp_w (by decide) kp_r, rfl⟩, bo_0⟩)
    · have c11 : x2v.toInt < (q_I δ 3 1 a0).toInt := o_nle h9
      first | (have q13 := te_addc (c := 1) (n := 1) rfl x2v (by omega) (by omega); obtain ⟨f14, f15, f16⟩ := q13) | (obtain ⟨q13, f14, f15, f16⟩ := ti_addc (c := 1) (n := 1) rfl x2v)
      refine ok_ite (fun h17 => ?_) (fun h17 => ?_)
      · have c18 : (q_I δ 3 1 a0).toInt ≤ (x2v + (1 : Int32)).toInt := o_le h17
        unfold J_X3_beNextSet_32
        refine ok_at o3 ?_
        have t19 := ti_tn x2v
        refine ok_gd (fun hc20 => ?_) ?_
        · rcases hc20 with hc20 | hc20
          · have c21 : x2v.toInt < (0 : Int) := o_lt hc20
            omega
          · omega
        have f22 := ti_b x1
        have f23 := ti_b (q_R δ b2 x2v.toNatClampNeg)
        first | (have q25 := te_addc (c := 1) (n := 1) rfl (q_R δ b2 x2v.toNatClampNeg) (by omega) (by omega); obtain ⟨f26, f27, f28⟩ := q25) | (obtain ⟨q25, f26, f27, f28⟩ := ti_addc (c := 1) (n := 1) rfl (q_R δ b2 x2v.toNatClampNeg))
        refine ok_ite (fun h29 => ?_) (fun h29 => ?_)
        · have c30 : x1.toInt ≤ ((q_R δ b2 x2v.toNatClampNeg) + (1 : Int32)).toInt := o_le h29
          refine ok_biv (fun vx31 e32 => ?_)
          first | (have q33 := te_addc (c := 1) (n := 1) rfl x2v (by omega) (by omega); rw [← e32] at q33; obtain ⟨f34, f35, f36⟩ := q33) | (obtain ⟨q33, f34, f35, f36⟩ : ∃ q : Int, vx31.toInt = x2v.toInt + (1 : Int) + 4294967296 * q ∧ -2147483648 ≤ vx31.toInt ∧ vx31.toInt ≤ 2147483647 := by rw [e32]; exact ti_addc (c := 1) (n := 1) rfl x2v)
          refine ok_mono (ih vx31 δ I (show 0 ≤ (vx31).toInt by first | assumption | omega) (show (vx31).toInt ≤ 2000 by first | assumption | omega) (show 2000 - (vx31).toInt < _ by omega)) (fun r37 hr38 => ?_)
          obtain ⟨i39, ⟨u41, u42⟩, p40⟩ := hr38
          have u43 := kp_t kp_r u41
          have v44 : q_V r37.2 = q_V δ := (u42).trans rfl
          have f45 := bo_t p40
          have f46 := ti_b r37.1
          exact ⟨by assumption, ⟨kp_w (by decide) u43, v44⟩, by first | assumption | omega⟩
        · have c47 : ((q_R δ b2 x2v.toNatClampNeg) + (1 : Int32)).toInt < x1.toInt := o_nle h29
          refine ok_at o3 ?_
          refine ok_gd (fun hc48 => ?_) ?_
          · rcases hc48 with hc48 | hc48
            · have c49 : x2v.toInt < (0 : Int) := o_lt hc48
              omega
            · omega
          refine ok_gd (fun hc50 => ?_) ?_
          · rcases hc50 with hc50 | hc50
            · have c51 : x2v.toInt < (0 : Int) := o_lt hc50
              omega
            · omega
          refine ok_bdv (fun d52 e53 => ?_)
          have i54 : CI ad h.1 δ0 d52 := by rw [e53]; exact CI.sR L I w7
          have u55 := kp_N kp_r (show q_I d52 = q_I δ by rw [e53]; rfl)
          have v56 : q_V d52 = q_V δ := ((show q_V d52 = q_V δ by rw [e53]; rfl)).trans rfl
          have f57 := cb_3_1 i54 k_a0 o3
          have f58 : (q_I d52 3 1 a0).toInt = (q_I δ 3 1 a0).toInt := congrArg Int32.toInt (by rw [e53]; rfl)
          refine ok_mono (kl_X3_beNextSet_58 L hN   k_a0 _ x2v (0 : Int32) d52 i54 (show 0 ≤ (0 : Int) by first | assumption | omega) (show (0 : Int) ≤ (x2v).toInt by first | assumption | omega) (show (x2v).toInt < (q_I d52 3 1 a0).toInt by first | assumption | omega) (show (x2v).toInt - (0 : Int) < _ by omega)) (fun r59 hr60 => ?_)
          obtain ⟨i61, ⟨u63, u64⟩, p62⟩ := hr60
          have u65 := kp_t u55 u63
          have v66 : q_V r59.2 = q_V δ := (u64).trans v56
          have f67 := bo_t p62
          have f68 := ti_b r59.1
          exact ⟨by assumption, ⟨kp_w (by decide) u65, v66⟩, by first | assumption | omega⟩
      · have c69 : (x2v + (1 : Int32)).toInt < (q_I δ 3 1 a0).toInt := o_nle h17
        refine ok_at o3 ?_
        have t70 := ti_tn (x2v + (1 : Int32))
        refine ok_gd (fun hc71 => ?_) ?_
        · rcases hc71 with hc71 | hc71
          · have c72 : (x2v + (1 : Int32)).toInt < (0 : Int) := o_lt hc71
            omega
          · omega
        unfold J_X3_beNextSet_32
        refine ok_at o3 ?_
        have t73 := ti_tn x2v
        refine ok_gd (fun hc74 => ?_) ?_
        · rcases hc74 with hc74 | hc74
          · have c75 : x2v.toInt < (0 : Int) := o_lt hc74
            omega
          · omega
        have f76 := ti_b (q_R δ b2 (x2v + (1 : Int32)).toNatClampNeg)
        have f77 := ti_b (q_R δ b2 x2v.toNatClampNeg)
        first | (have q79 := te_addc (c := 1) (n := 1) rfl (q_R δ b2 x2v.toNatClampNeg) (by omega) (by omega); obtain ⟨f80, f81, f82⟩ := q79) | (obtain ⟨q79, f80, f81, f82⟩ := ti_addc (c := 1) (n := 1) rfl (q_R δ b2 x2v.toNatClampNeg))
        refine ok_ite (fun h83 => ?_) (fun h83 => ?_)
        · have c84 : (q_R δ b2 (x2v + (1 : Int32)).toNatClampNeg).toInt ≤ ((q_R δ b2 x2v.toNatClampNeg) + (1 : Int32)).toInt := o_le h83
          refine ok_biv (fun vx85 e86 => ?_)
          first | (have q87 := te_addc (c := 1) (n := 1) rfl x2v (by omega) (by omega); rw [← e86] at q87; obtain ⟨f88, f89, f90⟩ := q87) | (obtain ⟨q87, f88, f89, f90⟩ : ∃ q : Int, vx85.toInt = x2v.toInt + (1 : Int) + 4294967296 * q ∧ -2147483648 ≤ vx85.toInt ∧ vx85.toInt ≤ 2147483647 := by rw [e86]; exact ti_addc (c := 1) (n := 1) rfl x2v)
          refine ok_mono (ih vx85 δ I (show 0 ≤ (vx85).toInt by first | assumption | omega) (show (vx85).toInt ≤ 2000 by first | assumption | omega) (show 2000 - (vx85).toInt < _ by omega)) (fun r91 hr92 => ?_)
          obtain ⟨i93, ⟨u95, u96⟩, p94⟩ := hr92
          have u97 := kp_t kp_r u95
          have v98 : q_V r91.2 = q_V δ := (u96).trans rfl
          have f99 := bo_t p94
          have f100 := ti_b r91.1
          exact ⟨by assumption, ⟨kp_w (by decide) u97, v98⟩, by first | assumption | omega⟩
        · have c101 : ((q_R δ b2 x2v.toNatClampNeg) + (1 : Int32)).toInt < (q_R δ b2 (x2v + (1 : Int32)).toNatClampNeg).toInt := o_nle h83
          refine ok_at o3 ?_
          refine ok_gd (fun hc102 => ?_) ?_
          · rcases hc102 with hc102 | hc102
            · have c103 : x2v.toInt < (0 : Int) := o_lt hc102
              omega
            · omega
          refine ok_gd (fun hc104 => ?_) ?_
          · rcases hc104 with hc104 | hc104
            · have c105 : x2v.toInt < (0 : Int) := o_lt hc104
              omega
            · omega
          refine ok_bdv (fun d106 e107 => ?_)
          have i108 : CI ad h.1 δ0 d106 := by rw [e107]; exact CI.sR L I w7
          have u109 := kp_N kp_r (show q_I d106 = q_I δ by rw [e107]; rfl)
          have v110 : q_V d106 = q_V δ := ((show q_V d106 = q_V δ by rw [e107]; rfl)).trans rfl
          have f111 := cb_3_1 i108 k_a0 o3
          have f112 : (q_I d106 3 1 a0).toInt = (q_I δ 3 1 a0).toInt := congrArg Int32.toInt (by rw [e107]; rfl)
          refine ok_mono (kl_X3_beNextSet_58 L hN   k_a0 _ x2v (0 : Int32) d106 i108 (show 0 ≤ (0 : Int) by first | assumption | omega) (show (0 : Int) ≤ (x2v).toInt by first | assumption | omega) (show (x2v).toInt < (q_I d106 3 1 a0).toInt by first | assumption | omega) (show (x2v).toInt - (0 : Int) < _ by omega)) (fun r113 hr114 => ?_)
          obtain ⟨i115, ⟨u117, u118⟩, p116⟩ := hr114
          have u119 := kp_t u109 u117
          have v120 : q_V r113.2 = q_V δ := (u118).trans v110
          have f121 := bo_t p116
          have f122 := ti_b r113.1
          exact ⟨by assumption, ⟨kp_w (by decide) u119, v120⟩, by first | assumption | omega⟩
set_option maxHeartbeats 4000000 in
theorem k_X3_beNextSet {ad : List Nat} {h : hp} (L : Lay TLx ad h) {δ0 : dp} {N : Nat} (hN : 10000000 ≤ N) {a0 : Nat} {x1 : Int32} (k_a0 : q_K h.1 a0 = 3) {δ : dp} (I : CI ad h.1 δ0 δ) : ok (D_X3_beNextSet N h.1 a0 x1 δ) (fun r => CI ad h.1 δ0 r.2 ∧ (kp [] δ r.2 ∧ q_V r.2 = q_V δ) ∧ bo (r.1)) := by
  unfold D_X3_beNextSet
  refine ok_mono (kl_X3_beNextSet_2 L hN   k_a0 _ (0 : Int32) δ I (show 0 ≤ (0 : Int) by first | assumption | omega) (show (0 : Int) ≤ 2000 by first | assumption | omega) (show 2000 - (0 : Int) < _ by omega)) (fun r1 hr2 => ?_)
  obtain ⟨i3, ⟨u5, u6⟩, p4⟩ := hr2
  have u7 := kp_t kp_r u5
  have v8 : q_V r1.2 = q_V δ := (u6).trans rfl
  have f9 := bo_t p4
  have f10 := ti_b r1.1
  exact ⟨by assumption, ⟨kp_w (by decide) u7, v8⟩, by first | assumption | omega⟩
