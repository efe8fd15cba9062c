/-! 56.kX7 (by gen_safe.py) -/
set_option maxHeartbeats 4000000 in
theorem k_X7_hasPlace {ad : List Nat} {h : hp} (L : Lay TLx ad h) {δ0 : dp} {N : Nat} (hN : 10000000 ≤ N) {a0 : Nat} (k_a0 : q_K h.1 a0 = 7) {δ : dp} (I : CI ad h.1 δ0 δ) : ok (D_X7_hasPlace N h.1 a0 δ) (fun r => r.2 = δ ∧ bo (r.1) ∧ ((r.1).toInt = 0 ∨ (q_I δ 7 1 a0).toInt + 20 ≤ 500)) := by
  unfold D_X7_hasPlace
  have f1 := cb_7_1 I k_a0
  first | (have q3 := te_addc (c := 20) (n := 20) rfl (q_I δ 7 1 a0) (by omega) (by omega); obtain ⟨f4, f5, f6⟩ := q3) | (obtain ⟨q3, f4, f5, f6⟩ := ti_addc (c := 20) (n := 20) rfl (q_I δ 7 1 a0))
  refine ok_ite (fun h7 => ?_) (fun h7 => ?_)
  · have c8 : (500 : Int) < ((q_I δ 7 1 a0) + (20 : Int32)).toInt := o_lt h7
    unfold J_X7_hasPlace_18
    refine ok_gp (by decide) ?_
    exact ok_some (show δ = δ ∧ bo ((0 : Int32)) ∧ ((0 : Int) = 0 ∨ (q_I δ 7 1 a0).toInt + 20 ≤ 500) from ⟨rfl, bo_0, by first | assumption | omega⟩)
  · have c9 : ((q_I δ 7 1 a0) + (20 : Int32)).toInt ≤ (500 : Int) := o_nlt h7
    unfold J_X7_hasPlace_18
    refine ok_gp (by decide) ?_
    exact ok_some (show δ = δ ∧ bo ((1 : Int32)) ∧ ((1 : Int) = 0 ∨ (q_I δ 7 1 a0).toInt + 20 ≤ 500) from ⟨rfl, bo_1, by first | assumption | omega⟩)
set_option maxHeartbeats 4000000 in
theorem kl_X7_take_3 {ad : List Nat} {h : hp} (L : Lay TLx ad h) {δ0 : dp} {N : Nat} (hN : 10000000 ≤ N) {a0 : Nat} {x1 : Int32} (k_a0 : q_K h.1 a0 = 7) : ∀ (n : Nat) (x2v : Int32) (δ : dp), CI ad h.1 δ0 δ → -8 ≤ (x2v).toInt → (x2v).toInt ≤ 24 → (x2v).toInt + 8 < (n : Int) → ok (L_X7_take_3 N h.1 a0 x1 n x2v δ) (fun r => CI ad h.1 δ0 r ∧ (kp [(7, 1)] δ r ∧ q_V r = q_V δ)) := by
  intro n
  induction n with
  | zero =>
    intro x2v δ I j0 j1 hm
    have f1 := ti_b x2v
    exfalso; omega
  | succ n ih =>
    intro x2v δ I j0 j1 hm
    unfold L_X7_take_3
    have f1 := ti_b x2v
    refine ok_ite (fun h2 => ?_) (fun h2 => ?_)
    · have c3 : x2v.toInt < (0 : Int) := o_lt h2
      unfold J_X7_take_49
      exact ok_some (show CI ad h.1 δ0 δ ∧ (kp [(7, 1)] δ δ ∧ q_V δ = q_V δ) from ⟨I, ⟨kp_w (by decide) kp_r, rfl⟩⟩)
    · have c4 : (0 : Int) ≤ x2v.toInt := o_nlt h2
      have f5 := cb_7_1 I k_a0
      refine ok_ite (fun h6 => ?_) (fun h6 => ?_)
      · have c7 : (500 : Int) ≤ (q_I δ 7 1 a0).toInt := o_le h6
        unfold J_X7_take_49
        exact ok_some (show CI ad h.1 δ0 δ ∧ (kp [(7, 1)] δ δ ∧ q_V δ = q_V δ) from ⟨I, ⟨kp_w (by decide) kp_r, rfl⟩⟩)
      · have c8 : (q_I δ 7 1 a0).toInt < (500 : Int) := o_nle h6
        obtain ⟨b9, o10, k11, n12, w13⟩ := gO_7_0 L k_a0
        refine ok_at o10 ?_
        have t14 := ti_tn (q_I δ 7 1 a0)
        refine ok_gd (fun hc15 => ?_) ?_
        · rcases hc15 with hc15 | hc15
          · have c16 : (q_I δ 7 1 a0).toInt < (0 : Int) := o_lt hc15
            omega
          · omega
        refine ok_bdv (fun d17 e18 => ?_)
        have i19 : CI ad h.1 δ0 d17 := by rw [e18]; exact CI.sR L I w13
        have u20 := kp_N kp_r (show q_I d17 = q_I δ by rw [e18]; rfl)
        have v21 : q_V d17 = q_V δ := (show q_V d17 = q_V δ by rw [e18]; rfl).trans rfl
        have f25 := cb_7_1 i19 k_a0
        have f26 : (q_I d17 7 1 a0).toInt = (q_I δ 7 1 a0).toInt := congrArg Int32.toInt (by rw [e18]; rfl)
        first | (have q28 := te_addc (c := 1) (n := 1) rfl (q_I d17 7 1 a0) (by omega) (by omega); obtain ⟨f29, f30, f31⟩ := q28) | (obtain ⟨q28, f29, f30, f31⟩ := ti_addc (c := 1) (n := 1) rfl (q_I d17 7 1 a0))
        refine ok_bdv (fun d22 e23 => ?_)
        have i24 : CI ad h.1 δ0 d22 := by rw [e23]; exact cs_7_1 L i19 k_a0 (show 0 ≤ ((q_I d17 7 1 a0) + (1 : Int32)).toInt by omega) (show ((q_I d17 7 1 a0) + (1 : Int32)).toInt ≤ 500 by omega)
        have u32 := kp_I u20 e23
        have v33 : q_V d22 = q_V δ := (show q_V d22 = q_V d17 by rw [e23]; rfl).trans v21
        refine ok_biv (fun vx34 e35 => ?_)
        first | (have q36 := te_addc (c := -8) (n := -8) (by decide) x2v (by omega) (by omega); rw [← e35] at q36; obtain ⟨f37, f38, f39⟩ := q36) | (obtain ⟨q36, f37, f38, f39⟩ : ∃ q : Int, vx34.toInt = x2v.toInt + (-8 : Int) + 4294967296 * q ∧ -2147483648 ≤ vx34.toInt ∧ vx34.toInt ≤ 2147483647 := by rw [e35]; exact ti_addc (c := -8) (n := -8) (by decide) x2v)
        refine ok_mono (ih vx34 d22 i24 (show -8 ≤ (vx34).toInt by first | assumption | omega) (show (vx34).toInt ≤ 24 by first | assumption | omega) (show (vx34).toInt + 8 < _ by omega)) (fun r40 hr41 => ?_)
        obtain ⟨i42, ⟨u43, v44⟩⟩ := hr41
        have u45 := kp_t u32 u43
        have v46 := v44.trans v33
        exact ⟨by assumption, ⟨kp_w (by decide) u45, v46⟩⟩
set_option maxHeartbeats 4000000 in
theorem k_X7_take {ad : List Nat} {h : hp} (L : Lay TLx ad h) {δ0 : dp} {N : Nat} (hN : 10000000 ≤ N) {a0 : Nat} {x1 : Int32} (k_a0 : q_K h.1 a0 = 7) {δ : dp} (I : CI ad h.1 δ0 δ) : ok (D_X7_take N h.1 a0 x1 δ) (fun r => CI ad h.1 δ0 r ∧ (kp [(7, 1)] δ r ∧ q_V r = q_V δ)) := by
  unfold D_X7_take
  refine ok_mono (kl_X7_take_3 L hN k_a0 _ (24 : Int32) δ I (show -8 ≤ (24 : Int) by first | assumption | omega) (show (24 : Int) ≤ 24 by first | assumption | omega) (show (24 : Int) + 8 < _ by omega)) (fun r1 hr2 => ?_)
  obtain ⟨i3, ⟨u4, v5⟩⟩ := hr2
  have u6 := kp_t kp_r u4
  have v7 := v5.trans rfl
  exact ⟨by assumption, ⟨kp_w (by decide) u6, v7⟩⟩
set_option maxHeartbeats 4000000 in
theorem k_X7_open {ad : List Nat} {h : hp} (L : Lay TLx ad h) {δ0 : dp} {N : Nat} (hN : 10000000 ≤ N) {a0 : Nat} {x1 : Int32} (k_a0 : q_K h.1 a0 = 7) {δ : dp} (z0 : 0 ≤ (x1).toInt) (z1 : (x1).toInt ≤ 500) (I : CI ad h.1 δ0 δ) : ok (D_X7_open N h.1 a0 x1 δ) (fun r => CI ad h.1 δ0 r ∧ (kp [(7, 1), (7, 2), (7, 3), (7, 4), (7, 5)] δ r ∧ q_V r = q_V δ) ∧ (q_I r 7 5 a0).toInt = 0) := by
  unfold D_X7_open
  have f1 := ti_b x1
  refine ok_bdv (fun d2 e3 => ?_)
  have i4 : CI ad h.1 δ0 d2 := by rw [e3]; exact cs_7_1 L I k_a0 (show 0 ≤ (0 : Int) by omega) (show (0 : Int) ≤ 500 by omega)
  have u5 := kp_I kp_r e3
  have v6 : q_V d2 = q_V δ := (show q_V d2 = q_V δ by rw [e3]; rfl).trans rfl
  refine ok_bdv (fun d7 e8 => ?_)
  have i9 : CI ad h.1 δ0 d7 := by rw [e8]; exact cs_7_2 L i4 k_a0 (show 0 ≤ x1.toInt by omega) (show x1.toInt ≤ 500 by omega)
  have u10 := kp_I u5 e8
  have v11 : q_V d7 = q_V δ := (show q_V d7 = q_V d2 by rw [e8]; rfl).trans v6
  refine ok_bdv (fun d12 e13 => ?_)
  have i14 : CI ad h.1 δ0 d12 := by rw [e13]; exact cs_7_3 L i9 k_a0 (show 0 ≤ (0 : Int) by omega) (show (0 : Int) ≤ 500 by omega)
  have u15 := kp_I u10 e13
  have v16 : q_V d12 = q_V δ := (show q_V d12 = q_V d7 by rw [e13]; rfl).trans v11
  refine ok_bdv (fun d17 e18 => ?_)
  have i19 : CI ad h.1 δ0 d17 := by rw [e18]; exact cs_7_4 L i14 k_a0 (show 0 ≤ (0 : Int) by omega) (show (0 : Int) ≤ 500 by omega)
  have u20 := kp_I u15 e18
  have v21 : q_V d17 = q_V δ := (show q_V d17 = q_V d12 by rw [e18]; rfl).trans v16
  refine ok_bdv (fun d22 e23 => ?_)
  have i24 : CI ad h.1 δ0 d22 := by rw [e23]; exact cs_7_5 L i19
  have u25 := kp_I u20 e23
  have v26 : q_V d22 = q_V δ := (show q_V d22 = q_V d17 by rw [e23]; rfl).trans v21
  have f27 := ti_b (q_I d22 7 5 a0)
  have f28 : (q_I d22 7 5 a0).toInt = (0 : Int) := congrArg Int32.toInt (show q_I d22 7 5 a0 = (0 : Int32) by rw [e23]; exact rI_s)
  exact ok_some (show CI ad h.1 δ0 d22 ∧ (kp [(7, 1), (7, 2), (7, 3), (7, 4), (7, 5)] δ d22 ∧ q_V d22 = q_V δ) ∧ (q_I d22 7 5 a0).toInt = 0 from ⟨i24, ⟨kp_w (by decide) u25, v26⟩, by first | assumption | omega⟩)
set_option maxHeartbeats 4000000 in
theorem k_X7_isSound {ad : List Nat} {h : hp} (L : Lay TLx ad h) {δ0 : dp} {N : Nat} (hN : 10000000 ≤ N) {a0 : Nat} (k_a0 : q_K h.1 a0 = 7) {δ : dp} (I : CI ad h.1 δ0 δ) : ok (D_X7_isSound N h.1 a0 δ) (fun r => r.2 = δ ∧ bo (r.1) ∧ ((r.1).toInt = 1 → (q_I δ 7 5 a0).toInt = 0) ∧ ((r.1).toInt = 0 → (q_I δ 7 5 a0).toInt ≠ 0)) := by
  unfold D_X7_isSound
  have f1 := ti_b (q_I δ 7 5 a0)
  refine ok_ite (fun h2 => ?_) (fun h2 => ?_)
  · have c3 : (q_I δ 7 5 a0).toInt = (0 : Int) := o_eq h2
    unfold J_X7_isSound_12
    refine ok_gp (by decide) ?_
    exact ok_some (show δ = δ ∧ bo ((1 : Int32)) ∧ ((1 : Int) = 1 → (q_I δ 7 5 a0).toInt = 0) ∧ ((1 : Int) = 0 → (q_I δ 7 5 a0).toInt ≠ 0) from ⟨rfl, bo_1, by first | assumption | omega, by first | assumption | omega⟩)
  · have c4 : (q_I δ 7 5 a0).toInt ≠ (0 : Int) := o_ne h2
    unfold J_X7_isSound_12
    refine ok_gp (by decide) ?_
    exact ok_some (show δ = δ ∧ bo ((0 : Int32)) ∧ ((0 : Int) = 1 → (q_I δ 7 5 a0).toInt = 0) ∧ ((0 : Int) = 0 → (q_I δ 7 5 a0).toInt ≠ 0) from ⟨rfl, bo_0, by first | assumption | omega, by first | assumption | omega⟩)
set_option maxHeartbeats 4000000 in
theorem k_X7_refuse {ad : List Nat} {h : hp} (L : Lay TLx ad h) {δ0 : dp} {N : Nat} (hN : 10000000 ≤ N) {a0 : Nat} {x1 : Int32} (k_a0 : q_K h.1 a0 = 7) {δ : dp} (z0 : (x1).toInt ≠ 0) (I : CI ad h.1 δ0 δ) : ok (D_X7_refuse N h.1 a0 x1 δ) (fun r => CI ad h.1 δ0 r ∧ (kp [(7, 5), (7, 6)] δ r ∧ q_V r = q_V δ) ∧ (q_I r 7 5 a0).toInt ≠ 0) := by
  unfold D_X7_refuse
  have f1 := ti_b x1
  have f2 := ti_b (q_I δ 7 5 a0)
  refine ok_ite (fun h3 => ?_) (fun h3 => ?_)
  · have c4 : (q_I δ 7 5 a0).toInt = (0 : Int) := o_eq h3
    refine ok_bdv (fun d5 e6 => ?_)
    have i7 : CI ad h.1 δ0 d5 := by rw [e6]; exact cs_7_5 L I
    have u8 := kp_I kp_r e6
    have v9 : q_V d5 = q_V δ := (show q_V d5 = q_V δ by rw [e6]; rfl).trans rfl
    have f13 := cb_7_4 i7 k_a0
    have f14 : (q_I d5 7 4 a0).toInt = (q_I δ 7 4 a0).toInt := congrArg Int32.toInt (by rw [e6]; exact rI_o (by decide))
    have f15 := cb_7_4 I k_a0
    refine ok_bdv (fun d10 e11 => ?_)
    have i12 : CI ad h.1 δ0 d10 := by rw [e11]; exact cs_7_6 L i7
    have u16 := kp_I u8 e11
    have v17 : q_V d10 = q_V δ := (show q_V d10 = q_V d5 by rw [e11]; rfl).trans v9
    unfold J_X7_refuse_20
    have f18 := ti_b (q_I d10 7 5 a0)
    have f19 : (q_I d10 7 5 a0).toInt = (q_I d5 7 5 a0).toInt := congrArg Int32.toInt (by rw [e11]; exact rI_o (by decide))
    have f20 := ti_b (q_I d5 7 5 a0)
    have f21 : (q_I d5 7 5 a0).toInt = x1.toInt := congrArg Int32.toInt (show q_I d5 7 5 a0 = x1 by rw [e6]; exact rI_s)
    exact ok_some (show CI ad h.1 δ0 d10 ∧ (kp [(7, 5), (7, 6)] δ d10 ∧ q_V d10 = q_V δ) ∧ (q_I d10 7 5 a0).toInt ≠ 0 from ⟨i12, ⟨kp_w (by decide) u16, v17⟩, by first | assumption | omega⟩)
  · have c22 : (q_I δ 7 5 a0).toInt ≠ (0 : Int) := o_ne h3
    unfold J_X7_refuse_20
    exact ok_some (show CI ad h.1 δ0 δ ∧ (kp [(7, 5), (7, 6)] δ δ ∧ q_V δ = q_V δ) ∧ (q_I δ 7 5 a0).toInt ≠ 0 from ⟨I, ⟨kp_w (by decide) kp_r, rfl⟩, by first | assumption | omega⟩)
set_option maxHeartbeats 4000000 in
theorem kl_X7_ahead_0 {ad : List Nat} {h : hp} (L : Lay TLx ad h) {δ0 : dp} {N : Nat} (hN : 10000000 ≤ N) {a0 : Nat} (k_a0 : q_K h.1 a0 = 7) : ∀ (n : Nat) (δ : dp), CI ad h.1 δ0 δ → 501 - (q_I δ 7 3 a0).toInt < (n : Int) → ok (L_X7_ahead_0 N h.1 a0 n δ) (fun r => CI ad h.1 δ0 r.2 ∧ (kp [(7, 3), (7, 4)] δ r.2 ∧ q_V r.2 = q_V δ) ∧ ((r.1).toInt = -1 ∨ (q_I r.2 7 3 a0).toInt < (q_I r.2 7 2 a0).toInt)) := by
  intro n
  induction n with
  | zero =>
    intro δ I hm
    have f1 := cb_7_3 I k_a0
    exfalso; omega
  | succ n ih =>
    intro δ I hm
    unfold L_X7_ahead_0
    have f1 := cb_7_3 I k_a0
    have f2 := cb_7_2 I k_a0
    refine ok_ite (fun h3 => ?_) (fun h3 => ?_)
    · have c4 : (q_I δ 7 2 a0).toInt ≤ (q_I δ 7 3 a0).toInt := o_le h3
      unfold J_X7_ahead_38
      refine ok_bdv (fun d5 e6 => ?_)
      have i7 : CI ad h.1 δ0 d5 := by rw [e6]; exact cs_7_4 L I k_a0 (show 0 ≤ (q_I δ 7 3 a0).toInt by omega) (show (q_I δ 7 3 a0).toInt ≤ 500 by omega)
      have u8 := kp_I kp_r e6
      have v9 : q_V d5 = q_V δ := (show q_V d5 = q_V δ by rw [e6]; rfl).trans rfl
      have f10 := cb_7_2 i7 k_a0
      have f11 : (q_I d5 7 2 a0).toInt = (q_I δ 7 2 a0).toInt := congrArg Int32.toInt (by rw [e6]; exact rI_o (by decide))
      have f12 := cb_7_3 i7 k_a0
      have f13 : (q_I d5 7 3 a0).toInt = (q_I δ 7 3 a0).toInt := congrArg Int32.toInt (by rw [e6]; exact rI_o (by decide))
      refine ok_ite (fun h14 => ?_) (fun h14 => ?_)
      · have c15 : (q_I d5 7 2 a0).toInt ≤ (q_I d5 7 3 a0).toInt := o_le h14
        unfold J_X7_ahead_70
        exact ok_some (show CI ad h.1 δ0 d5 ∧ (kp [(7, 3), (7, 4)] δ d5 ∧ q_V d5 = q_V δ) ∧ ((-1 : Int) = -1 ∨ (q_I d5 7 3 a0).toInt < (q_I d5 7 2 a0).toInt) from ⟨i7, ⟨kp_w (by decide) u8, v9⟩, by first | assumption | omega⟩)
      · have c16 : (q_I d5 7 3 a0).toInt < (q_I d5 7 2 a0).toInt := o_nle h14
        obtain ⟨b17, o18, k19, n20, w21⟩ := gO_7_0 L k_a0
        refine ok_at o18 ?_
        have t22 := ti_tn (q_I d5 7 3 a0)
        refine ok_gd (fun hc23 => ?_) ?_
        · rcases hc23 with hc23 | hc23
          · have c24 : (q_I d5 7 3 a0).toInt < (0 : Int) := o_lt hc23
            omega
          · omega
        unfold J_X7_ahead_70
        have f25 := ti_b (q_R d5 b17 (q_I d5 7 3 a0).toNatClampNeg)
        exact ok_some (show CI ad h.1 δ0 d5 ∧ (kp [(7, 3), (7, 4)] δ d5 ∧ q_V d5 = q_V δ) ∧ (((q_R d5 b17 (q_I d5 7 3 a0).toNatClampNeg)).toInt = -1 ∨ (q_I d5 7 3 a0).toInt < (q_I d5 7 2 a0).toInt) from ⟨i7, ⟨kp_w (by decide) u8, v9⟩, by first | assumption | omega⟩)
    · have c26 : (q_I δ 7 3 a0).toInt < (q_I δ 7 2 a0).toInt := o_nle h3
      obtain ⟨b27, o28, k29, n30, w31⟩ := gO_7_0 L k_a0
      refine ok_at o28 ?_
      have t32 := ti_tn (q_I δ 7 3 a0)
      refine ok_gd (fun hc33 => ?_) ?_
      · rcases hc33 with hc33 | hc33
        · have c34 : (q_I δ 7 3 a0).toInt < (0 : Int) := o_lt hc33
          omega
        · omega
      have f35 := ti_b (q_R δ b27 (q_I δ 7 3 a0).toNatClampNeg)
      refine ok_ite (fun h36 => ?_) (fun h36 => ?_)
      · have c37 : (q_R δ b27 (q_I δ 7 3 a0).toNatClampNeg).toInt = (32 : Int) := o_eq h36
        first | (have q42 := te_addc (c := 1) (n := 1) rfl (q_I δ 7 3 a0) (by omega) (by omega); obtain ⟨f43, f44, f45⟩ := q42) | (obtain ⟨q42, f43, f44, f45⟩ := ti_addc (c := 1) (n := 1) rfl (q_I δ 7 3 a0))
        refine ok_bdv (fun d38 e39 => ?_)
        have i40 : CI ad h.1 δ0 d38 := by rw [e39]; exact cs_7_3 L I k_a0 (show 0 ≤ ((q_I δ 7 3 a0) + (1 : Int32)).toInt by omega) (show ((q_I δ 7 3 a0) + (1 : Int32)).toInt ≤ 500 by omega)
        have u46 := kp_I kp_r e39
        have v47 : q_V d38 = q_V δ := (show q_V d38 = q_V δ by rw [e39]; rfl).trans rfl
        have f48 := cb_7_3 i40 k_a0
        have f49 : (q_I d38 7 3 a0).toInt = ((q_I δ 7 3 a0) + (1 : Int32)).toInt := congrArg Int32.toInt (show q_I d38 7 3 a0 = ((q_I δ 7 3 a0) + (1 : Int32)) by rw [e39]; exact rI_s)
        refine ok_mono (ih d38 i40  (show 501 - (q_I d38 7 3 a0).toInt < _ by omega)) (fun r50 hr51 => ?_)
        obtain ⟨i52, ⟨u54, v55⟩, p53⟩ := hr51
        have u56 := kp_t u46 u54
        have v57 := v55.trans v47
        have f58 := ti_b r50.1
        have f59 := cb_7_3 i52 k_a0
        have f60 := cb_7_2 i52 k_a0
        have f61 : (q_I r50.2 7 2 a0).toInt = (q_I d38 7 2 a0).toInt := congrArg Int32.toInt (u54 7 2 a0 (by decide))
        have f62 := cb_7_2 i40 k_a0
        have f63 : (q_I d38 7 2 a0).toInt = (q_I δ 7 2 a0).toInt := congrArg Int32.toInt (by rw [e39]; exact rI_o (by decide))
        have f64 := ti_b r50.1
        exact ⟨by assumption, ⟨kp_w (by decide) u56, v57⟩, by first | assumption | omega⟩
      · have c65 : (q_R δ b27 (q_I δ 7 3 a0).toNatClampNeg).toInt ≠ (32 : Int) := o_ne h36
        unfold J_X7_ahead_38
        refine ok_bdv (fun d66 e67 => ?_)
        have i68 : CI ad h.1 δ0 d66 := by rw [e67]; exact cs_7_4 L I k_a0 (show 0 ≤ (q_I δ 7 3 a0).toInt by omega) (show (q_I δ 7 3 a0).toInt ≤ 500 by omega)
        have u69 := kp_I kp_r e67
        have v70 : q_V d66 = q_V δ := (show q_V d66 = q_V δ by rw [e67]; rfl).trans rfl
        have f71 := cb_7_2 i68 k_a0
        have f72 : (q_I d66 7 2 a0).toInt = (q_I δ 7 2 a0).toInt := congrArg Int32.toInt (by rw [e67]; exact rI_o (by decide))
        have f73 := cb_7_3 i68 k_a0
        have f74 : (q_I d66 7 3 a0).toInt = (q_I δ 7 3 a0).toInt := congrArg Int32.toInt (by rw [e67]; exact rI_o (by decide))
        refine ok_ite (fun h75 => ?_) (fun h75 => ?_)
        · have c76 : (q_I d66 7 2 a0).toInt ≤ (q_I d66 7 3 a0).toInt := o_le h75
          unfold J_X7_ahead_70
          exact ok_some (show CI ad h.1 δ0 d66 ∧ (kp [(7, 3), (7, 4)] δ d66 ∧ q_V d66 = q_V δ) ∧ ((-1 : Int) = -1 ∨ (q_I d66 7 3 a0).toInt < (q_I d66 7 2 a0).toInt) from ⟨i68, ⟨kp_w (by decide) u69, v70⟩, by first | assumption | omega⟩)
        · have c77 : (q_I d66 7 3 a0).toInt < (q_I d66 7 2 a0).toInt := o_nle h75
          refine ok_at o28 ?_
          have t78 := ti_tn (q_I d66 7 3 a0)
          refine ok_gd (fun hc79 => ?_) ?_
          · rcases hc79 with hc79 | hc79
            · have c80 : (q_I d66 7 3 a0).toInt < (0 : Int) := o_lt hc79
              omega
            · omega
          unfold J_X7_ahead_70
          have f81 := ti_b (q_R d66 b27 (q_I d66 7 3 a0).toNatClampNeg)
          exact ok_some (show CI ad h.1 δ0 d66 ∧ (kp [(7, 3), (7, 4)] δ d66 ∧ q_V d66 = q_V δ) ∧ (((q_R d66 b27 (q_I d66 7 3 a0).toNatClampNeg)).toInt = -1 ∨ (q_I d66 7 3 a0).toInt < (q_I d66 7 2 a0).toInt) from ⟨i68, ⟨kp_w (by decide) u69, v70⟩, by first | assumption | omega⟩)
set_option maxHeartbeats 4000000 in
theorem k_X7_ahead {ad : List Nat} {h : hp} (L : Lay TLx ad h) {δ0 : dp} {N : Nat} (hN : 10000000 ≤ N) {a0 : Nat} (k_a0 : q_K h.1 a0 = 7) {δ : dp} (I : CI ad h.1 δ0 δ) : ok (D_X7_ahead N h.1 a0 δ) (fun r => CI ad h.1 δ0 r.2 ∧ (kp [(7, 3), (7, 4)] δ r.2 ∧ q_V r.2 = q_V δ) ∧ ((r.1).toInt = -1 ∨ (q_I r.2 7 3 a0).toInt < (q_I r.2 7 2 a0).toInt)) := by
  unfold D_X7_ahead
  have f1 := cb_7_3 I k_a0
  refine ok_mono (kl_X7_ahead_0 L hN k_a0 _ δ I  (show 501 - (q_I δ 7 3 a0).toInt < _ by omega)) (fun r2 hr3 => ?_)
  obtain ⟨i4, ⟨u6, v7⟩, p5⟩ := hr3
  have u8 := kp_t kp_r u6
  have v9 := v7.trans rfl
  have f10 := ti_b r2.1
  have f11 := cb_7_3 i4 k_a0
  have f12 := cb_7_2 i4 k_a0
  have f13 : (q_I r2.2 7 2 a0).toInt = (q_I δ 7 2 a0).toInt := congrArg Int32.toInt (u6 7 2 a0 (by decide))
  have f14 := cb_7_2 I k_a0
  have f15 := ti_b r2.1
  exact ⟨by assumption, ⟨kp_w (by decide) u8, v9⟩, by first | assumption | omega⟩
set_option maxHeartbeats 4000000 in
theorem k_X7_takeSign {ad : List Nat} {h : hp} (L : Lay TLx ad h) {δ0 : dp} {N : Nat} (hN : 10000000 ≤ N) {a0 : Nat} {x1 : Int32} (k_a0 : q_K h.1 a0 = 7) {δ : dp} (z0 : (x1).toInt ≠ -1) (I : CI ad h.1 δ0 δ) : ok (D_X7_takeSign N h.1 a0 x1 δ) (fun r => CI ad h.1 δ0 r.2 ∧ (kp [(7, 3), (7, 4)] δ r.2 ∧ q_V r.2 = q_V δ) ∧ bo (r.1)) := by
  unfold D_X7_takeSign
  have f1 := ti_b x1
  refine ok_bind (k_X7_ahead L hN (a0 := a0) k_a0 I) (fun r2 hr3 => ?_)
  obtain ⟨i4, ⟨u6, v7⟩, p5⟩ := hr3
  have u8 := kp_t kp_r u6
  have v9 := v7.trans rfl
  have f10 := ti_b r2.1
  have f11 := cb_7_3 i4 k_a0
  have f12 := cb_7_2 i4 k_a0
  have f13 : (q_I r2.2 7 2 a0).toInt = (q_I δ 7 2 a0).toInt := congrArg Int32.toInt (u6 7 2 a0 (by decide))
  have f14 := cb_7_2 I k_a0
  have f15 := ti_b r2.1
  refine ok_ite (fun h16 => ?_) (fun h16 => ?_)
  · have c17 : r2.1.toInt = x1.toInt := o_eq h16
    unfold J_X7_takeSign_13
    refine ok_ite (fun h18 => ?_) (fun h18 => ?_)
    · have c19 : (1 : Int) = (0 : Int) := o_eq h18
      unfold J_X7_takeSign_28
      refine ok_gp (by decide) ?_
      exact ok_some (show CI ad h.1 δ0 r2.2 ∧ (kp [(7, 3), (7, 4)] δ r2.2 ∧ q_V r2.2 = q_V δ) ∧ bo ((1 : Int32)) from ⟨i4, ⟨kp_w (by decide) u8, v9⟩, bo_1⟩)
    · have c20 : (1 : Int) ≠ (0 : Int) := o_ne h18
      first | (have q25 := te_addc (c := 1) (n := 1) rfl (q_I r2.2 7 3 a0) (by omega) (by omega); obtain ⟨f26, f27, f28⟩ := q25) | (obtain ⟨q25, f26, f27, f28⟩ := ti_addc (c := 1) (n := 1) rfl (q_I r2.2 7 3 a0))
      refine ok_bdv (fun d21 e22 => ?_)
      have i23 : CI ad h.1 δ0 d21 := by rw [e22]; exact cs_7_3 L i4 k_a0 (show 0 ≤ ((q_I r2.2 7 3 a0) + (1 : Int32)).toInt by omega) (show ((q_I r2.2 7 3 a0) + (1 : Int32)).toInt ≤ 500 by omega)
      have u29 := kp_I u8 e22
      have v30 : q_V d21 = q_V δ := (show q_V d21 = q_V r2.2 by rw [e22]; rfl).trans v9
      unfold J_X7_takeSign_28
      refine ok_gp (by decide) ?_
      exact ok_some (show CI ad h.1 δ0 d21 ∧ (kp [(7, 3), (7, 4)] δ d21 ∧ q_V d21 = q_V δ) ∧ bo ((1 : Int32)) from ⟨i23, ⟨kp_w (by decide) u29, v30⟩, bo_1⟩)
  · have c31 : r2.1.toInt ≠ x1.toInt := o_ne h16
    unfold J_X7_takeSign_13
    refine ok_ite (fun h32 => ?_) (fun h32 => ?_)
    · have c33 : (0 : Int) = (0 : Int) := o_eq h32
      unfold J_X7_takeSign_28
      refine ok_gp (by decide) ?_
      exact ok_some (show CI ad h.1 δ0 r2.2 ∧ (kp [(7, 3), (7, 4)] δ r2.2 ∧ q_V r2.2 = q_V δ) ∧ bo ((0 : Int32)) from ⟨i4, ⟨kp_w (by decide) u8, v9⟩, bo_0⟩)
    · have c34 : (0 : Int) ≠ (0 : Int) := o_ne h32
      first | (have q39 := te_addc (c := 1) (n := 1) rfl (q_I r2.2 7 3 a0) (by omega) (by omega); obtain ⟨f40, f41, f42⟩ := q39) | (obtain ⟨q39, f40, f41, f42⟩ := ti_addc (c := 1) (n := 1) rfl (q_I r2.2 7 3 a0))
      refine ok_bdv (fun d35 e36 => ?_)
      have i37 : CI ad h.1 δ0 d35 := by rw [e36]; exact cs_7_3 L i4 k_a0 (show 0 ≤ ((q_I r2.2 7 3 a0) + (1 : Int32)).toInt by omega) (show ((q_I r2.2 7 3 a0) + (1 : Int32)).toInt ≤ 500 by omega)
      have u43 := kp_I u8 e36
      have v44 : q_V d35 = q_V δ := (show q_V d35 = q_V r2.2 by rw [e36]; rfl).trans v9
      unfold J_X7_takeSign_28
      refine ok_gp (by decide) ?_
      exact ok_some (show CI ad h.1 δ0 d35 ∧ (kp [(7, 3), (7, 4)] δ d35 ∧ q_V d35 = q_V δ) ∧ bo ((0 : Int32)) from ⟨i37, ⟨kp_w (by decide) u43, v44⟩, bo_0⟩)
set_option maxHeartbeats 4000000 in
theorem k_X7_needSign {ad : List Nat} {h : hp} (L : Lay TLx ad h) {δ0 : dp} {N : Nat} (hN : 10000000 ≤ N) {a0 : Nat} {x1 : Int32} (k_a0 : q_K h.1 a0 = 7) {δ : dp} (z0 : (x1).toInt ≠ -1) (I : CI ad h.1 δ0 δ) : ok (D_X7_needSign N h.1 a0 x1 δ) (fun r => CI ad h.1 δ0 r ∧ (kp [(7, 3), (7, 4), (7, 5), (7, 6)] δ r ∧ q_V r = q_V δ) ∧ ((q_I δ 7 5 a0).toInt ≠ 0 → (q_I r 7 5 a0).toInt ≠ 0)) := by
  unfold D_X7_needSign
  have f1 := ti_b x1
  refine ok_bind (k_X7_ahead L hN (a0 := a0) k_a0 I) (fun r2 hr3 => ?_)
  obtain ⟨i4, ⟨u6, v7⟩, p5⟩ := hr3
  have u8 := kp_t kp_r u6
  have v9 := v7.trans rfl
  have f10 := ti_b r2.1
  have f11 := cb_7_3 i4 k_a0
  have f12 := cb_7_2 i4 k_a0
  have f13 : (q_I r2.2 7 2 a0).toInt = (q_I δ 7 2 a0).toInt := congrArg Int32.toInt (u6 7 2 a0 (by decide))
  have f14 := cb_7_2 I k_a0
  have f15 := ti_b r2.1
  refine ok_ite (fun h16 => ?_) (fun h16 => ?_)
  · have c17 : r2.1.toInt = x1.toInt := o_eq h16
    first | (have q22 := te_addc (c := 1) (n := 1) rfl (q_I r2.2 7 3 a0) (by omega) (by omega); obtain ⟨f23, f24, f25⟩ := q22) | (obtain ⟨q22, f23, f24, f25⟩ := ti_addc (c := 1) (n := 1) rfl (q_I r2.2 7 3 a0))
    refine ok_bdv (fun d18 e19 => ?_)
    have i20 : CI ad h.1 δ0 d18 := by rw [e19]; exact cs_7_3 L i4 k_a0 (show 0 ≤ ((q_I r2.2 7 3 a0) + (1 : Int32)).toInt by omega) (show ((q_I r2.2 7 3 a0) + (1 : Int32)).toInt ≤ 500 by omega)
    have u26 := kp_I u8 e19
    have v27 : q_V d18 = q_V δ := (show q_V d18 = q_V r2.2 by rw [e19]; rfl).trans v9
    unfold J_X7_needSign_26
    have f28 := ti_b (q_I δ 7 5 a0)
    have f29 := ti_b (q_I d18 7 5 a0)
    have f30 : (q_I d18 7 5 a0).toInt = (q_I r2.2 7 5 a0).toInt := congrArg Int32.toInt (by rw [e19]; exact rI_o (by decide))
    have f31 := ti_b (q_I r2.2 7 5 a0)
    have f32 : (q_I r2.2 7 5 a0).toInt = (q_I δ 7 5 a0).toInt := congrArg Int32.toInt (u6 7 5 a0 (by decide))
    exact ok_some (show CI ad h.1 δ0 d18 ∧ (kp [(7, 3), (7, 4), (7, 5), (7, 6)] δ d18 ∧ q_V d18 = q_V δ) ∧ ((q_I δ 7 5 a0).toInt ≠ 0 → (q_I d18 7 5 a0).toInt ≠ 0) from ⟨i20, ⟨kp_w (by decide) u26, v27⟩, by first | assumption | omega⟩)
  · have c33 : r2.1.toInt ≠ x1.toInt := o_ne h16
    refine ok_bind (k_X7_refuse L hN (a0 := a0) (x1 := (1 : Int32)) k_a0 (show (1 : Int) ≠ 0 by first | assumption | omega) i4) (fun r34 hr35 => ?_)
    obtain ⟨i36, ⟨u38, v39⟩, p37⟩ := hr35
    have u40 := kp_t u8 u38
    have v41 := v39.trans v9
    have f42 := ti_b (q_I r34 7 5 a0)
    unfold J_X7_needSign_26
    have f43 := ti_b (q_I δ 7 5 a0)
    exact ok_some (show CI ad h.1 δ0 r34 ∧ (kp [(7, 3), (7, 4), (7, 5), (7, 6)] δ r34 ∧ q_V r34 = q_V δ) ∧ ((q_I δ 7 5 a0).toInt ≠ 0 → (q_I r34 7 5 a0).toInt ≠ 0) from ⟨i36, ⟨kp_w (by decide) u40, v41⟩, by first | assumption | omega⟩)
set_option maxHeartbeats 4000000 in
theorem kl_X7_readWord_5 {ad : List Nat} {h : hp} (L : Lay TLx ad h) {δ0 : dp} {N : Nat} (hN : 10000000 ≤ N) {a0 : Nat} (k_a0 : q_K h.1 a0 = 7) : ∀ (n : Nat) (δ : dp), CI ad h.1 δ0 δ → 501 - (q_I δ 7 3 a0).toInt < (n : Int) → ok (L_X7_readWord_5 N h.1 a0 n δ) (fun r => CI ad h.1 δ0 r ∧ (kp [(7, 3), (7, 4)] δ r ∧ q_V r = q_V δ)) := by
  intro n
  induction n with
  | zero =>
    intro δ I hm
    have f1 := cb_7_3 I k_a0
    exfalso; omega
  | succ n ih =>
    intro δ I hm
    unfold L_X7_readWord_5
    have f1 := cb_7_3 I k_a0
    have f2 := cb_7_2 I k_a0
    refine ok_ite (fun h3 => ?_) (fun h3 => ?_)
    · have c4 : (q_I δ 7 2 a0).toInt ≤ (q_I δ 7 3 a0).toInt := o_le h3
      unfold J_X7_readWord_57
      exact ok_some (show CI ad h.1 δ0 δ ∧ (kp [(7, 3), (7, 4)] δ δ ∧ q_V δ = q_V δ) from ⟨I, ⟨kp_w (by decide) kp_r, rfl⟩⟩)
    · have c5 : (q_I δ 7 3 a0).toInt < (q_I δ 7 2 a0).toInt := o_nle h3
      obtain ⟨b6, o7, k8, n9, w10⟩ := gO_7_0 L k_a0
      refine ok_at o7 ?_
      have t11 := ti_tn (q_I δ 7 3 a0)
      refine ok_gd (fun hc12 => ?_) ?_
      · rcases hc12 with hc12 | hc12
        · have c13 : (q_I δ 7 3 a0).toInt < (0 : Int) := o_lt hc12
          omega
        · omega
      have f14 := ti_b (q_R δ b6 (q_I δ 7 3 a0).toNatClampNeg)
      refine ok_ite (fun h15 => ?_) (fun h15 => ?_)
      · have c16 : (q_R δ b6 (q_I δ 7 3 a0).toNatClampNeg).toInt < (97 : Int) := o_lt h15
        unfold J_X7_readWord_57
        exact ok_some (show CI ad h.1 δ0 δ ∧ (kp [(7, 3), (7, 4)] δ δ ∧ q_V δ = q_V δ) from ⟨I, ⟨kp_w (by decide) kp_r, rfl⟩⟩)
      · have c17 : (97 : Int) ≤ (q_R δ b6 (q_I δ 7 3 a0).toNatClampNeg).toInt := o_nlt h15
        refine ok_at o7 ?_
        refine ok_gd (fun hc18 => ?_) ?_
        · rcases hc18 with hc18 | hc18
          · have c19 : (q_I δ 7 3 a0).toInt < (0 : Int) := o_lt hc18
            omega
          · omega
        refine ok_ite (fun h20 => ?_) (fun h20 => ?_)
        · have c21 : (122 : Int) < (q_R δ b6 (q_I δ 7 3 a0).toNatClampNeg).toInt := o_lt h20
          unfold J_X7_readWord_57
          exact ok_some (show CI ad h.1 δ0 δ ∧ (kp [(7, 3), (7, 4)] δ δ ∧ q_V δ = q_V δ) from ⟨I, ⟨kp_w (by decide) kp_r, rfl⟩⟩)
        · have c22 : (q_R δ b6 (q_I δ 7 3 a0).toNatClampNeg).toInt ≤ (122 : Int) := o_nlt h20
          first | (have q27 := te_addc (c := 1) (n := 1) rfl (q_I δ 7 3 a0) (by omega) (by omega); obtain ⟨f28, f29, f30⟩ := q27) | (obtain ⟨q27, f28, f29, f30⟩ := ti_addc (c := 1) (n := 1) rfl (q_I δ 7 3 a0))
          refine ok_bdv (fun d23 e24 => ?_)
          have i25 : CI ad h.1 δ0 d23 := by rw [e24]; exact cs_7_3 L I k_a0 (show 0 ≤ ((q_I δ 7 3 a0) + (1 : Int32)).toInt by omega) (show ((q_I δ 7 3 a0) + (1 : Int32)).toInt ≤ 500 by omega)
          have u31 := kp_I kp_r e24
          have v32 : q_V d23 = q_V δ := (show q_V d23 = q_V δ by rw [e24]; rfl).trans rfl
          have f33 := cb_7_3 i25 k_a0
          have f34 : (q_I d23 7 3 a0).toInt = ((q_I δ 7 3 a0) + (1 : Int32)).toInt := congrArg Int32.toInt (show q_I d23 7 3 a0 = ((q_I δ 7 3 a0) + (1 : Int32)) by rw [e24]; exact rI_s)
          refine ok_mono (ih d23 i25  (show 501 - (q_I d23 7 3 a0).toInt < _ by omega)) (fun r35 hr36 => ?_)
          obtain ⟨i37, ⟨u38, v39⟩⟩ := hr36
          have u40 := kp_t u31 u38
          have v41 := v39.trans v32
          exact ⟨by assumption, ⟨kp_w (by decide) u40, v41⟩⟩
set_option maxHeartbeats 4000000 in
theorem k_X7_readWord {ad : List Nat} {h : hp} (L : Lay TLx ad h) {δ0 : dp} {N : Nat} (hN : 10000000 ≤ N) {a0 : Nat} (k_a0 : q_K h.1 a0 = 7) {δ : dp} (I : CI ad h.1 δ0 δ) : ok (D_X7_readWord N h.1 a0 δ) (fun r => CI ad h.1 δ0 r ∧ (kp [(7, 3), (7, 4)] δ r ∧ q_V r = q_V δ)) := by
  unfold D_X7_readWord
  refine ok_bind (k_X7_ahead L hN (a0 := a0) k_a0 I) (fun r1 hr2 => ?_)
  obtain ⟨i3, ⟨u5, v6⟩, p4⟩ := hr2
  have u7 := kp_t kp_r u5
  have v8 := v6.trans rfl
  have f9 := ti_b r1.1
  have f10 := cb_7_3 i3 k_a0
  have f11 := cb_7_2 i3 k_a0
  have f12 : (q_I r1.2 7 2 a0).toInt = (q_I δ 7 2 a0).toInt := congrArg Int32.toInt (u5 7 2 a0 (by decide))
  have f13 := cb_7_2 I k_a0
  have f14 := ti_b r1.1
  refine ok_mono (kl_X7_readWord_5 L hN k_a0 _ r1.2 i3  (show 501 - (q_I r1.2 7 3 a0).toInt < _ by omega)) (fun r15 hr16 => ?_)
  obtain ⟨i17, ⟨u18, v19⟩⟩ := hr16
  have u20 := kp_t u7 u18
  have v21 := v19.trans v8
  exact ⟨by assumption, ⟨kp_w (by decide) u20, v21⟩⟩
set_option maxHeartbeats 4000000 in
theorem kl_X7_wordIs_20 {ad : List Nat} {h : hp} (L : Lay TLx ad h) {δ0 : dp} {N : Nat} (hN : 10000000 ≤ N) {a0 : Nat} {a1 : Nat} (k_a0 : q_K h.1 a0 = 7) : ∀ (n : Nat) (x2v : Int32) (δ : dp), CI ad h.1 δ0 δ → 0 ≤ (x2v).toInt → (x2v).toInt ≤ (tx_n a1 : Int) → (q_I δ 7 3 a0).toInt - (q_I δ 7 4 a0).toInt = (tx_n a1 : Int) → a1 < 16 → (tx_n a1 : Int) - (x2v).toInt < (n : Int) → ok (L_X7_wordIs_20 N h.1 a0 a1 n x2v δ) (fun r => r.2 = δ ∧ bo (r.1)) := by
  intro n
  induction n with
  | zero =>
    intro x2v δ I j0 j1 j2 j3 hm
    have f1 := ti_b x2v
    have f2 := cb_7_3 I k_a0
    have f3 := cb_7_4 I k_a0
    exfalso; omega
  | succ n ih =>
    intro x2v δ I j0 j1 j2 j3 hm
    unfold L_X7_wordIs_20
    have f1 := ti_b x2v
    have f2 := cb_7_3 I k_a0
    have f3 := cb_7_4 I k_a0
    refine ok_bind (k_J0_length_8abf5 L hN (a0 := a1) (show a1 < 16 by first | assumption | omega) I) (fun r4 hr5 => ?_)
    obtain ⟨i6, p7⟩ := hr5
    try rw [i6]
    have f8 := ti_b r4.1
    have f9 := ti_b r4.1
    refine ok_ite (fun h10 => ?_) (fun h10 => ?_)
    · have c11 : r4.1.toInt ≤ x2v.toInt := o_le h10
      refine ok_gp (by decide) ?_
      exact ok_some (show δ = δ ∧ bo ((1 : Int32)) from ⟨rfl, bo_1⟩)
    · have c12 : x2v.toInt < r4.1.toInt := o_nle h10
      obtain ⟨b13, o14, k15, n16, w17⟩ := gO_7_0 L k_a0
      refine ok_at o14 ?_
      first | (have q19 := te_add (q_I δ 7 4 a0) x2v (by omega) (by omega); obtain ⟨f20, f21, f22⟩ := q19) | (obtain ⟨q19, f20, f21, f22⟩ := ti_add (q_I δ 7 4 a0) x2v)
      have t23 := ti_tn ((q_I δ 7 4 a0) + x2v)
      refine ok_gd (fun hc24 => ?_) ?_
      · rcases hc24 with hc24 | hc24
        · have c25 : ((q_I δ 7 4 a0) + x2v).toInt < (0 : Int) := o_lt hc24
          omega
        · omega
      refine ok_bind (k_J0_charAt_5068e L hN (a0 := a1) (x1 := x2v) (show a1 < 16 by first | assumption | omega) (show 0 ≤ (x2v).toInt by first | assumption | omega) (show (x2v).toInt < (tx_n a1 : Int) by first | assumption | omega) I) (fun r26 hr27 => ?_)
      have i28 := hr27
      try rw [i28]
      have f29 := ti_b r26.1
      have f30 := ti_b (q_R δ b13 ((q_I δ 7 4 a0) + x2v).toNatClampNeg)
      refine ok_ite (fun h31 => ?_) (fun h31 => ?_)
      · have c32 : (q_R δ b13 ((q_I δ 7 4 a0) + x2v).toNatClampNeg).toInt = r26.1.toInt := o_eq h31
        refine ok_biv (fun vx33 e34 => ?_)
        first | (have q35 := te_addc (c := 1) (n := 1) rfl x2v (by omega) (by omega); rw [← e34] at q35; obtain ⟨f36, f37, f38⟩ := q35) | (obtain ⟨q35, f36, f37, f38⟩ : ∃ q : Int, vx33.toInt = x2v.toInt + (1 : Int) + 4294967296 * q ∧ -2147483648 ≤ vx33.toInt ∧ vx33.toInt ≤ 2147483647 := by rw [e34]; exact ti_addc (c := 1) (n := 1) rfl x2v)
        refine ok_mono (ih vx33 δ I (show 0 ≤ (vx33).toInt by first | assumption | omega) (show (vx33).toInt ≤ (tx_n a1 : Int) by first | assumption | omega) (show (q_I δ 7 3 a0).toInt - (q_I δ 7 4 a0).toInt = (tx_n a1 : Int) by first | assumption | omega) (show a1 < 16 by first | assumption | omega) (show (tx_n a1 : Int) - (vx33).toInt < _ by omega)) (fun r39 hr40 => ?_)
        obtain ⟨i41, p42⟩ := hr40
        have f43 := bo_t p42
        have f44 := ti_b r39.1
        exact ⟨by assumption, by first | assumption | omega⟩
      · have c45 : (q_R δ b13 ((q_I δ 7 4 a0) + x2v).toNatClampNeg).toInt ≠ r26.1.toInt := o_ne h31
        refine ok_gp (by decide) ?_
        exact ok_some (show δ = δ ∧ bo ((0 : Int32)) from ⟨rfl, bo_0⟩)
set_option maxHeartbeats 4000000 in
theorem k_X7_wordIs {ad : List Nat} {h : hp} (L : Lay TLx ad h) {δ0 : dp} {N : Nat} (hN : 10000000 ≤ N) {a0 : Nat} {a1 : Nat} (k_a0 : q_K h.1 a0 = 7) {δ : dp} (z0 : a1 < 16) (I : CI ad h.1 δ0 δ) : ok (D_X7_wordIs N h.1 a0 a1 δ) (fun r => r.2 = δ ∧ bo (r.1)) := by
  unfold D_X7_wordIs
  refine ok_bind (k_J0_length_8abf5 L hN (a0 := a1) (show a1 < 16 by first | assumption | omega) I) (fun r1 hr2 => ?_)
  obtain ⟨i3, p4⟩ := hr2
  try rw [i3]
  have f5 := ti_b r1.1
  have f6 := ti_b r1.1
  have f7 := cb_7_3 I k_a0
  have f8 := cb_7_4 I k_a0
  first | (have q10 := te_sub (q_I δ 7 3 a0) (q_I δ 7 4 a0) (by omega) (by omega); obtain ⟨f11, f12, f13⟩ := q10) | (obtain ⟨q10, f11, f12, f13⟩ := ti_sub (q_I δ 7 3 a0) (q_I δ 7 4 a0))
  refine ok_ite (fun h14 => ?_) (fun h14 => ?_)
  · have c15 : ((q_I δ 7 3 a0) - (q_I δ 7 4 a0)).toInt = r1.1.toInt := o_eq h14
    refine ok_mono (kl_X7_wordIs_20 L hN k_a0 _ (0 : Int32) δ I (show 0 ≤ (0 : Int) by first | assumption | omega) (show (0 : Int) ≤ (tx_n a1 : Int) by first | assumption | omega) (show (q_I δ 7 3 a0).toInt - (q_I δ 7 4 a0).toInt = (tx_n a1 : Int) by first | assumption | omega) (show a1 < 16 by first | assumption | omega) (show (tx_n a1 : Int) - (0 : Int) < _ by omega)) (fun r16 hr17 => ?_)
    obtain ⟨i18, p19⟩ := hr17
    have f20 := bo_t p19
    have f21 := ti_b r16.1
    exact ⟨by assumption, by first | assumption | omega⟩
  · have c22 : ((q_I δ 7 3 a0) - (q_I δ 7 4 a0)).toInt ≠ r1.1.toInt := o_ne h14
    refine ok_gp (by decide) ?_
    exact ok_some (show δ = δ ∧ bo ((0 : Int32)) from ⟨rfl, bo_0⟩)
set_option maxHeartbeats 4000000 in
theorem kl_X7_readNumber_7 {ad : List Nat} {h : hp} (L : Lay TLx ad h) {δ0 : dp} {N : Nat} (hN : 10000000 ≤ N) {a0 : Nat} {x1 : Int32} {x2 : Int32} (k_a0 : q_K h.1 a0 = 7) : ∀ (n : Nat) (x3v : Int32) (δ : dp), CI ad h.1 δ0 δ → 0 ≤ (x3v).toInt → (x3v).toInt ≤ 1000000 → 501 - (q_I δ 7 3 a0).toInt < (n : Int) → ok (L_X7_readNumber_7 N h.1 a0 x1 x2 n x3v δ) (fun r => CI ad h.1 δ0 r.2 ∧ (kp [(7, 3), (7, 4), (7, 5), (7, 6)] δ r.2 ∧ q_V r.2 = q_V δ) ∧ 0 ≤ (r.1).toInt ∧ (r.1).toInt ≤ 1000000 ∧ ((q_I δ 7 5 a0).toInt ≠ 0 → (q_I r.2 7 5 a0).toInt ≠ 0) ∧ ((q_I r.2 7 5 a0).toInt = 0 → (x1).toInt ≤ (r.1).toInt ∧ (r.1).toInt ≤ (x2).toInt)) := by
  intro n
  induction n with
  | zero =>
    intro x3v δ I j0 j1 hm
    have f1 := ti_b x3v
    have f2 := cb_7_3 I k_a0
    exfalso; omega
  | succ n ih =>
    intro x3v δ I j0 j1 hm
    unfold L_X7_readNumber_7
    have f1 := ti_b x3v
    have f2 := cb_7_3 I k_a0
    have f3 := cb_7_2 I k_a0
    refine ok_ite (fun h4 => ?_) (fun h4 => ?_)
    · have c5 : (q_I δ 7 2 a0).toInt ≤ (q_I δ 7 3 a0).toInt := o_le h4
      unfold J_X7_readNumber_82
      have f6 := cb_7_4 I k_a0
      refine ok_ite (fun h7 => ?_) (fun h7 => ?_)
      · have c8 : (q_I δ 7 3 a0).toInt = (q_I δ 7 4 a0).toInt := o_eq h7
        refine ok_bind (k_X7_refuse L hN (a0 := a0) (x1 := (1 : Int32)) k_a0 (show (1 : Int) ≠ 0 by first | assumption | omega) I) (fun r9 hr10 => ?_)
        obtain ⟨i11, ⟨u13, v14⟩, p12⟩ := hr10
        have u15 := kp_t kp_r u13
        have v16 := v14.trans rfl
        have f17 := ti_b (q_I r9 7 5 a0)
        unfold J_X7_readNumber_116
        have f18 := ti_b (q_I δ 7 5 a0)
        have f19 := ti_b x1
        have f20 := ti_b x2
        exact ok_some (show CI ad h.1 δ0 r9 ∧ (kp [(7, 3), (7, 4), (7, 5), (7, 6)] δ r9 ∧ q_V r9 = q_V δ) ∧ 0 ≤ (x3v).toInt ∧ (x3v).toInt ≤ 1000000 ∧ ((q_I δ 7 5 a0).toInt ≠ 0 → (q_I r9 7 5 a0).toInt ≠ 0) ∧ ((q_I r9 7 5 a0).toInt = 0 → (x1).toInt ≤ (x3v).toInt ∧ (x3v).toInt ≤ (x2).toInt) from ⟨i11, ⟨kp_w (by decide) u15, v16⟩, by first | assumption | omega, by first | assumption | omega, by first | assumption | omega, by first | assumption | omega⟩)
      · have c21 : (q_I δ 7 3 a0).toInt ≠ (q_I δ 7 4 a0).toInt := o_ne h7
        have f22 := ti_b x1
        refine ok_ite (fun h23 => ?_) (fun h23 => ?_)
        · have c24 : x3v.toInt < x1.toInt := o_lt h23
          unfold J_X7_readNumber_111
          refine ok_bind (k_X7_refuse L hN (a0 := a0) (x1 := (2 : Int32)) k_a0 (show (2 : Int) ≠ 0 by first | assumption | omega) I) (fun r25 hr26 => ?_)
          obtain ⟨i27, ⟨u29, v30⟩, p28⟩ := hr26
          have u31 := kp_t kp_r u29
          have v32 := v30.trans rfl
          have f33 := ti_b (q_I r25 7 5 a0)
          unfold J_X7_readNumber_116
          have f34 := ti_b (q_I δ 7 5 a0)
          have f35 := ti_b x2
          exact ok_some (show CI ad h.1 δ0 r25 ∧ (kp [(7, 3), (7, 4), (7, 5), (7, 6)] δ r25 ∧ q_V r25 = q_V δ) ∧ 0 ≤ (x3v).toInt ∧ (x3v).toInt ≤ 1000000 ∧ ((q_I δ 7 5 a0).toInt ≠ 0 → (q_I r25 7 5 a0).toInt ≠ 0) ∧ ((q_I r25 7 5 a0).toInt = 0 → (x1).toInt ≤ (x3v).toInt ∧ (x3v).toInt ≤ (x2).toInt) from ⟨i27, ⟨kp_w (by decide) u31, v32⟩, by first | assumption | omega, by first | assumption | omega, by first | assumption | omega, by first | assumption | omega⟩)
        · have c36 : x1.toInt ≤ x3v.toInt := o_nlt h23
          have f37 := ti_b x2
          refine ok_ite (fun h38 => ?_) (fun h38 => ?_)
          · have c39 : x3v.toInt ≤ x2.toInt := o_le h38
            unfold J_X7_readNumber_116
            have f40 := ti_b (q_I δ 7 5 a0)
            exact ok_some (show CI ad h.1 δ0 δ ∧ (kp [(7, 3), (7, 4), (7, 5), (7, 6)] δ δ ∧ q_V δ = q_V δ) ∧ 0 ≤ (x3v).toInt ∧ (x3v).toInt ≤ 1000000 ∧ ((q_I δ 7 5 a0).toInt ≠ 0 → (q_I δ 7 5 a0).toInt ≠ 0) ∧ ((q_I δ 7 5 a0).toInt = 0 → (x1).toInt ≤ (x3v).toInt ∧ (x3v).toInt ≤ (x2).toInt) from ⟨I, ⟨kp_w (by decide) kp_r, rfl⟩, by first | assumption | omega, by first | assumption | omega, by first | assumption | omega, by first | assumption | omega⟩)
          · have c41 : x2.toInt < x3v.toInt := o_nle h38
            unfold J_X7_readNumber_111
            refine ok_bind (k_X7_refuse L hN (a0 := a0) (x1 := (2 : Int32)) k_a0 (show (2 : Int) ≠ 0 by first | assumption | omega) I) (fun r42 hr43 => ?_)
            obtain ⟨i44, ⟨u46, v47⟩, p45⟩ := hr43
            have u48 := kp_t kp_r u46
            have v49 := v47.trans rfl
            have f50 := ti_b (q_I r42 7 5 a0)
            unfold J_X7_readNumber_116
            have f51 := ti_b (q_I δ 7 5 a0)
            exact ok_some (show CI ad h.1 δ0 r42 ∧ (kp [(7, 3), (7, 4), (7, 5), (7, 6)] δ r42 ∧ q_V r42 = q_V δ) ∧ 0 ≤ (x3v).toInt ∧ (x3v).toInt ≤ 1000000 ∧ ((q_I δ 7 5 a0).toInt ≠ 0 → (q_I r42 7 5 a0).toInt ≠ 0) ∧ ((q_I r42 7 5 a0).toInt = 0 → (x1).toInt ≤ (x3v).toInt ∧ (x3v).toInt ≤ (x2).toInt) from ⟨i44, ⟨kp_w (by decide) u48, v49⟩, by first | assumption | omega, by first | assumption | omega, by first | assumption | omega, by first | assumption | omega⟩)
    · have c52 : (q_I δ 7 3 a0).toInt < (q_I δ 7 2 a0).toInt := o_nle h4
      obtain ⟨b53, o54, k55, n56, w57⟩ := gO_7_0 L k_a0
      refine ok_at o54 ?_
      have t58 := ti_tn (q_I δ 7 3 a0)
      refine ok_gd (fun hc59 => ?_) ?_
      · rcases hc59 with hc59 | hc59
        · have c60 : (q_I δ 7 3 a0).toInt < (0 : Int) := o_lt hc59
          omega
        · omega
      have f61 := ti_b (q_R δ b53 (q_I δ 7 3 a0).toNatClampNeg)
      refine ok_ite (fun h62 => ?_) (fun h62 => ?_)
      · have c63 : (q_R δ b53 (q_I δ 7 3 a0).toNatClampNeg).toInt < (48 : Int) := o_lt h62
        unfold J_X7_readNumber_82
        have f64 := cb_7_4 I k_a0
        refine ok_ite (fun h65 => ?_) (fun h65 => ?_)
        · have c66 : (q_I δ 7 3 a0).toInt = (q_I δ 7 4 a0).toInt := o_eq h65
          refine ok_bind (k_X7_refuse L hN (a0 := a0) (x1 := (1 : Int32)) k_a0 (show (1 : Int) ≠ 0 by first | assumption | omega) I) (fun r67 hr68 => ?_)
          obtain ⟨i69, ⟨u71, v72⟩, p70⟩ := hr68
          have u73 := kp_t kp_r u71
          have v74 := v72.trans rfl
          have f75 := ti_b (q_I r67 7 5 a0)
          unfold J_X7_readNumber_116
          have f76 := ti_b (q_I δ 7 5 a0)
          have f77 := ti_b x1
          have f78 := ti_b x2
          exact ok_some (show CI ad h.1 δ0 r67 ∧ (kp [(7, 3), (7, 4), (7, 5), (7, 6)] δ r67 ∧ q_V r67 = q_V δ) ∧ 0 ≤ (x3v).toInt ∧ (x3v).toInt ≤ 1000000 ∧ ((q_I δ 7 5 a0).toInt ≠ 0 → (q_I r67 7 5 a0).toInt ≠ 0) ∧ ((q_I r67 7 5 a0).toInt = 0 → (x1).toInt ≤ (x3v).toInt ∧ (x3v).toInt ≤ (x2).toInt) from ⟨i69, ⟨kp_w (by decide) u73, v74⟩, by first | assumption | omega, by first | assumption | omega, by first | assumption | omega, by first | assumption | omega⟩)
        · have c79 : (q_I δ 7 3 a0).toInt ≠ (q_I δ 7 4 a0).toInt := o_ne h65
          have f80 := ti_b x1
          refine ok_ite (fun h81 => ?_) (fun h81 => ?_)
          · have c82 : x3v.toInt < x1.toInt := o_lt h81
            unfold J_X7_readNumber_111
            refine ok_bind (k_X7_refuse L hN (a0 := a0) (x1 := (2 : Int32)) k_a0 (show (2 : Int) ≠ 0 by first | assumption | omega) I) (fun r83 hr84 => ?_)
            obtain ⟨i85, ⟨u87, v88⟩, p86⟩ := hr84
            have u89 := kp_t kp_r u87
            have v90 := v88.trans rfl
            have f91 := ti_b (q_I r83 7 5 a0)
            unfold J_X7_readNumber_116
            have f92 := ti_b (q_I δ 7 5 a0)
            have f93 := ti_b x2
            exact ok_some (show CI ad h.1 δ0 r83 ∧ (kp [(7, 3), (7, 4), (7, 5), (7, 6)] δ r83 ∧ q_V r83 = q_V δ) ∧ 0 ≤ (x3v).toInt ∧ (x3v).toInt ≤ 1000000 ∧ ((q_I δ 7 5 a0).toInt ≠ 0 → (q_I r83 7 5 a0).toInt ≠ 0) ∧ ((q_I r83 7 5 a0).toInt = 0 → (x1).toInt ≤ (x3v).toInt ∧ (x3v).toInt ≤ (x2).toInt) from ⟨i85, ⟨kp_w (by decide) u89, v90⟩, by first | assumption | omega, by first | assumption | omega, by first | assumption | omega, by first | assumption | omega⟩)
          · have c94 : x1.toInt ≤ x3v.toInt := o_nlt h81
            have f95 := ti_b x2
            refine ok_ite (fun h96 => ?_) (fun h96 => ?_)
            · have c97 : x3v.toInt ≤ x2.toInt := o_le h96
              unfold J_X7_readNumber_116
              have f98 := ti_b (q_I δ 7 5 a0)
              exact ok_some (show CI ad h.1 δ0 δ ∧ (kp [(7, 3), (7, 4), (7, 5), (7, 6)] δ δ ∧ q_V δ = q_V δ) ∧ 0 ≤ (x3v).toInt ∧ (x3v).toInt ≤ 1000000 ∧ ((q_I δ 7 5 a0).toInt ≠ 0 → (q_I δ 7 5 a0).toInt ≠ 0) ∧ ((q_I δ 7 5 a0).toInt = 0 → (x1).toInt ≤ (x3v).toInt ∧ (x3v).toInt ≤ (x2).toInt) from ⟨I, ⟨kp_w (by decide) kp_r, rfl⟩, by first | assumption | omega, by first | assumption | omega, by first | assumption | omega, by first | assumption | omega⟩)
            · have c99 : x2.toInt < x3v.toInt := o_nle h96
              unfold J_X7_readNumber_111
              refine ok_bind (k_X7_refuse L hN (a0 := a0) (x1 := (2 : Int32)) k_a0 (show (2 : Int) ≠ 0 by first | assumption | omega) I) (fun r100 hr101 => ?_)
              obtain ⟨i102, ⟨u104, v105⟩, p103⟩ := hr101
              have u106 := kp_t kp_r u104
              have v107 := v105.trans rfl
              have f108 := ti_b (q_I r100 7 5 a0)
              unfold J_X7_readNumber_116
              have f109 := ti_b (q_I δ 7 5 a0)
              exact ok_some (show CI ad h.1 δ0 r100 ∧ (kp [(7, 3), (7, 4), (7, 5), (7, 6)] δ r100 ∧ q_V r100 = q_V δ) ∧ 0 ≤ (x3v).toInt ∧ (x3v).toInt ≤ 1000000 ∧ ((q_I δ 7 5 a0).toInt ≠ 0 → (q_I r100 7 5 a0).toInt ≠ 0) ∧ ((q_I r100 7 5 a0).toInt = 0 → (x1).toInt ≤ (x3v).toInt ∧ (x3v).toInt ≤ (x2).toInt) from ⟨i102, ⟨kp_w (by decide) u106, v107⟩, by first | assumption | omega, by first | assumption | omega, by first | assumption | omega, by first | assumption | omega⟩)
      · have c110 : (48 : Int) ≤ (q_R δ b53 (q_I δ 7 3 a0).toNatClampNeg).toInt := o_nlt h62
        refine ok_at o54 ?_
        refine ok_gd (fun hc111 => ?_) ?_
        · rcases hc111 with hc111 | hc111
          · have c112 : (q_I δ 7 3 a0).toInt < (0 : Int) := o_lt hc111
            omega
          · omega
        refine ok_ite (fun h113 => ?_) (fun h113 => ?_)
        · have c114 : (57 : Int) < (q_R δ b53 (q_I δ 7 3 a0).toNatClampNeg).toInt := o_lt h113
          unfold J_X7_readNumber_82
          have f115 := cb_7_4 I k_a0
          refine ok_ite (fun h116 => ?_) (fun h116 => ?_)
          · have c117 : (q_I δ 7 3 a0).toInt = (q_I δ 7 4 a0).toInt := o_eq h116
            refine ok_bind (k_X7_refuse L hN (a0 := a0) (x1 := (1 : Int32)) k_a0 (show (1 : Int) ≠ 0 by first | assumption | omega) I) (fun r118 hr119 => ?_)
            obtain ⟨i120, ⟨u122, v123⟩, p121⟩ := hr119
            have u124 := kp_t kp_r u122
            have v125 := v123.trans rfl
            have f126 := ti_b (q_I r118 7 5 a0)
            unfold J_X7_readNumber_116
            have f127 := ti_b (q_I δ 7 5 a0)
            have f128 := ti_b x1
            have f129 := ti_b x2
            exact ok_some (show CI ad h.1 δ0 r118 ∧ (kp [(7, 3), (7, 4), (7, 5), (7, 6)] δ r118 ∧ q_V r118 = q_V δ) ∧ 0 ≤ (x3v).toInt ∧ (x3v).toInt ≤ 1000000 ∧ ((q_I δ 7 5 a0).toInt ≠ 0 → (q_I r118 7 5 a0).toInt ≠ 0) ∧ ((q_I r118 7 5 a0).toInt = 0 → (x1).toInt ≤ (x3v).toInt ∧ (x3v).toInt ≤ (x2).toInt) from ⟨i120, ⟨kp_w (by decide) u124, v125⟩, by first | assumption | omega, by first | assumption | omega, by first | assumption | omega, by first | assumption | omega⟩)
          · have c130 : (q_I δ 7 3 a0).toInt ≠ (q_I δ 7 4 a0).toInt := o_ne h116
            have f131 := ti_b x1
            refine ok_ite (fun h132 => ?_) (fun h132 => ?_)
            · have c133 : x3v.toInt < x1.toInt := o_lt h132
              unfold J_X7_readNumber_111
              refine ok_bind (k_X7_refuse L hN (a0 := a0) (x1 := (2 : Int32)) k_a0 (show (2 : Int) ≠ 0 by first | assumption | omega) I) (fun r134 hr135 => ?_)
              obtain ⟨i136, ⟨u138, v139⟩, p137⟩ := hr135
              have u140 := kp_t kp_r u138
              have v141 := v139.trans rfl
              have f142 := ti_b (q_I r134 7 5 a0)
              unfold J_X7_readNumber_116
              have f143 := ti_b (q_I δ 7 5 a0)
              have f144 := ti_b x2
              exact ok_some (show CI ad h.1 δ0 r134 ∧ (kp [(7, 3), (7, 4), (7, 5), (7, 6)] δ r134 ∧ q_V r134 = q_V δ) ∧ 0 ≤ (x3v).toInt ∧ (x3v).toInt ≤ 1000000 ∧ ((q_I δ 7 5 a0).toInt ≠ 0 → (q_I r134 7 5 a0).toInt ≠ 0) ∧ ((q_I r134 7 5 a0).toInt = 0 → (x1).toInt ≤ (x3v).toInt ∧ (x3v).toInt ≤ (x2).toInt) from ⟨i136, ⟨kp_w (by decide) u140, v141⟩, by first | assumption | omega, by first | assumption | omega, by first | assumption | omega, by first | assumption | omega⟩)
            · have c145 : x1.toInt ≤ x3v.toInt := o_nlt h132
              have f146 := ti_b x2
              refine ok_ite (fun h147 => ?_) (fun h147 => ?_)
              · have c148 : x3v.toInt ≤ x2.toInt := o_le h147
                unfold J_X7_readNumber_116
                have f149 := ti_b (q_I δ 7 5 a0)
                exact ok_some (show CI ad h.1 δ0 δ ∧ (kp [(7, 3), (7, 4), (7, 5), (7, 6)] δ δ ∧ q_V δ = q_V δ) ∧ 0 ≤ (x3v).toInt ∧ (x3v).toInt ≤ 1000000 ∧ ((q_I δ 7 5 a0).toInt ≠ 0 → (q_I δ 7 5 a0).toInt ≠ 0) ∧ ((q_I δ 7 5 a0).toInt = 0 → (x1).toInt ≤ (x3v).toInt ∧ (x3v).toInt ≤ (x2).toInt) from ⟨I, ⟨kp_w (by decide) kp_r, rfl⟩, by first | assumption | omega, by first | assumption | omega, by first | assumption | omega, by first | assumption | omega⟩)
              · have c150 : x2.toInt < x3v.toInt := o_nle h147
                unfold J_X7_readNumber_111
                refine ok_bind (k_X7_refuse L hN (a0 := a0) (x1 := (2 : Int32)) k_a0 (show (2 : Int) ≠ 0 by first | assumption | omega) I) (fun r151 hr152 => ?_)
                obtain ⟨i153, ⟨u155, v156⟩, p154⟩ := hr152
                have u157 := kp_t kp_r u155
                have v158 := v156.trans rfl
                have f159 := ti_b (q_I r151 7 5 a0)
                unfold J_X7_readNumber_116
                have f160 := ti_b (q_I δ 7 5 a0)
                exact ok_some (show CI ad h.1 δ0 r151 ∧ (kp [(7, 3), (7, 4), (7, 5), (7, 6)] δ r151 ∧ q_V r151 = q_V δ) ∧ 0 ≤ (x3v).toInt ∧ (x3v).toInt ≤ 1000000 ∧ ((q_I δ 7 5 a0).toInt ≠ 0 → (q_I r151 7 5 a0).toInt ≠ 0) ∧ ((q_I r151 7 5 a0).toInt = 0 → (x1).toInt ≤ (x3v).toInt ∧ (x3v).toInt ≤ (x2).toInt) from ⟨i153, ⟨kp_w (by decide) u157, v158⟩, by first | assumption | omega, by first | assumption | omega, by first | assumption | omega, by first | assumption | omega⟩)
        · have c161 : (q_R δ b53 (q_I δ 7 3 a0).toNatClampNeg).toInt ≤ (57 : Int) := o_nlt h113
          refine ok_at o54 ?_
          refine ok_gd (fun hc162 => ?_) ?_
          · rcases hc162 with hc162 | hc162
            · have c163 : (q_I δ 7 3 a0).toInt < (0 : Int) := o_lt hc162
              omega
            · omega
          refine ok_bind (k_J9_min_7cf53 L hN (x0 := (((x3v * (10 : Int32)) + (q_R δ b53 (q_I δ 7 3 a0).toNatClampNeg)) - (48 : Int32))) (x1 := (1000000 : Int32))  I) (fun r164 hr165 => ?_)
          obtain ⟨i166, p167, p168, p169⟩ := hr165
          try rw [i166]
          have f170 := ti_b r164.1
          first | (have q172 := te_mulr (c := 10) (n := 10) rfl x3v (by omega) (by omega); obtain ⟨f173, f174, f175⟩ := q172) | (obtain ⟨q172, f173, f174, f175⟩ := ti_mulr (c := 10) (n := 10) rfl x3v)
          first | (have q177 := te_add (x3v * (10 : Int32)) (q_R δ b53 (q_I δ 7 3 a0).toNatClampNeg) (by omega) (by omega); obtain ⟨f178, f179, f180⟩ := q177) | (obtain ⟨q177, f178, f179, f180⟩ := ti_add (x3v * (10 : Int32)) (q_R δ b53 (q_I δ 7 3 a0).toNatClampNeg))
          first | (have q182 := te_subc (c := 48) (n := 48) rfl ((x3v * (10 : Int32)) + (q_R δ b53 (q_I δ 7 3 a0).toNatClampNeg)) (by omega) (by omega); obtain ⟨f183, f184, f185⟩ := q182) | (obtain ⟨q182, f183, f184, f185⟩ := ti_subc (c := 48) (n := 48) rfl ((x3v * (10 : Int32)) + (q_R δ b53 (q_I δ 7 3 a0).toNatClampNeg)))
          replace p168 : (r164.1).toInt ≤ (1000000 : Int) := p168
          replace p169 : ((r164.1).toInt = ((((x3v * (10 : Int32)) + (q_R δ b53 (q_I δ 7 3 a0).toNatClampNeg)) - (48 : Int32))).toInt ∨ (r164.1).toInt = (1000000 : Int)) := p169
          have f186 := ti_b r164.1
          first | (have q191 := te_addc (c := 1) (n := 1) rfl (q_I δ 7 3 a0) (by omega) (by omega); obtain ⟨f192, f193, f194⟩ := q191) | (obtain ⟨q191, f192, f193, f194⟩ := ti_addc (c := 1) (n := 1) rfl (q_I δ 7 3 a0))
          refine ok_bdv (fun d187 e188 => ?_)
          have i189 : CI ad h.1 δ0 d187 := by rw [e188]; exact cs_7_3 L I k_a0 (show 0 ≤ ((q_I δ 7 3 a0) + (1 : Int32)).toInt by omega) (show ((q_I δ 7 3 a0) + (1 : Int32)).toInt ≤ 500 by omega)
          have u195 := kp_I kp_r e188
          have v196 : q_V d187 = q_V δ := (show q_V d187 = q_V δ by rw [e188]; rfl).trans rfl
          have f197 := cb_7_3 i189 k_a0
          have f198 : (q_I d187 7 3 a0).toInt = ((q_I δ 7 3 a0) + (1 : Int32)).toInt := congrArg Int32.toInt (show q_I d187 7 3 a0 = ((q_I δ 7 3 a0) + (1 : Int32)) by rw [e188]; exact rI_s)
          refine ok_mono (ih r164.1 d187 i189 (show 0 ≤ (r164.1).toInt by first | assumption | omega) (show (r164.1).toInt ≤ 1000000 by first | assumption | omega) (show 501 - (q_I d187 7 3 a0).toInt < _ by omega)) (fun r199 hr200 => ?_)
          obtain ⟨i201, ⟨u206, v207⟩, p202, p203, p204, p205⟩ := hr200
          have u208 := kp_t u195 u206
          have v209 := v207.trans v196
          have f210 := ti_b r199.1
          have f211 := ti_b (q_I d187 7 5 a0)
          have f212 : (q_I d187 7 5 a0).toInt = (q_I δ 7 5 a0).toInt := congrArg Int32.toInt (by rw [e188]; exact rI_o (by decide))
          have f213 := ti_b (q_I δ 7 5 a0)
          have f214 := ti_b (q_I r199.2 7 5 a0)
          have f215 := ti_b x1
          have f216 := ti_b x2
          have f217 := ti_b r199.1
          exact ⟨by assumption, ⟨kp_w (by decide) u208, v209⟩, by first | assumption | omega, by first | assumption | omega, by first | assumption | omega, by first | assumption | omega⟩
set_option maxHeartbeats 4000000 in
theorem k_X7_readNumber {ad : List Nat} {h : hp} (L : Lay TLx ad h) {δ0 : dp} {N : Nat} (hN : 10000000 ≤ N) {a0 : Nat} {x1 : Int32} {x2 : Int32} (k_a0 : q_K h.1 a0 = 7) {δ : dp} (I : CI ad h.1 δ0 δ) : ok (D_X7_readNumber N h.1 a0 x1 x2 δ) (fun r => CI ad h.1 δ0 r.2 ∧ (kp [(7, 3), (7, 4), (7, 5), (7, 6)] δ r.2 ∧ q_V r.2 = q_V δ) ∧ 0 ≤ (r.1).toInt ∧ (r.1).toInt ≤ 1000000 ∧ ((q_I δ 7 5 a0).toInt ≠ 0 → (q_I r.2 7 5 a0).toInt ≠ 0) ∧ ((q_I r.2 7 5 a0).toInt = 0 → (x1).toInt ≤ (r.1).toInt ∧ (r.1).toInt ≤ (x2).toInt)) := by
  unfold D_X7_readNumber
  refine ok_bind (k_X7_ahead L hN (a0 := a0) k_a0 I) (fun r1 hr2 => ?_)
  obtain ⟨i3, ⟨u5, v6⟩, p4⟩ := hr2
  have u7 := kp_t kp_r u5
  have v8 := v6.trans rfl
  have f9 := ti_b r1.1
  have f10 := cb_7_3 i3 k_a0
  have f11 := cb_7_2 i3 k_a0
  have f12 : (q_I r1.2 7 2 a0).toInt = (q_I δ 7 2 a0).toInt := congrArg Int32.toInt (u5 7 2 a0 (by decide))
  have f13 := cb_7_2 I k_a0
  have f14 := ti_b r1.1
  refine ok_mono (kl_X7_readNumber_7 L hN k_a0 _ (0 : Int32) r1.2 i3 (show 0 ≤ (0 : Int) by first | assumption | omega) (show (0 : Int) ≤ 1000000 by first | assumption | omega) (show 501 - (q_I r1.2 7 3 a0).toInt < _ by omega)) (fun r15 hr16 => ?_)
  obtain ⟨i17, ⟨u22, v23⟩, p18, p19, p20, p21⟩ := hr16
  have u24 := kp_t u7 u22
  have v25 := v23.trans v8
  have f26 := ti_b r15.1
  have f27 := ti_b (q_I r1.2 7 5 a0)
  have f28 : (q_I r1.2 7 5 a0).toInt = (q_I δ 7 5 a0).toInt := congrArg Int32.toInt (u5 7 5 a0 (by decide))
  have f29 := ti_b (q_I δ 7 5 a0)
  have f30 := ti_b (q_I r15.2 7 5 a0)
  have f31 := ti_b x1
  have f32 := ti_b x2
  have f33 := ti_b r15.1
  exact ⟨by assumption, ⟨kp_w (by decide) u24, v25⟩, by first | assumption | omega, by first | assumption | omega, by first | assumption | omega, by first | assumption | omega⟩
