/-! 56.kX7 (by gen_safe.py) -/
set_option maxHeartbeats 4000000 in
theorem k_X7_hasPlace {ad : List Nat} {h : hp} (L : Lay TLx ad h) {δ0 : dp} {N : Nat} (hN : 10000000 ≤ N) {a0 : Nat} (k_a0 : q_K h.1 a0 = 7) {δ : dp} (I : CI ad h.1 δ0 δ) : ok (D_X7_hasPlace N h.1 a0 δ) (fun r => r.2 = δ ∧ bo (r.1) ∧ ((r.1).toInt = 0 ∨ (q_I δ 7 1 a0).toInt + 20 ≤ 500) ∧ ((r.1).toInt = 1 ∨ 500 < (q_I δ 7 1 a0).toInt + 20)) := by
  unfold D_X7_hasPlace
  have f1 := cb_7_1 I k_a0
  first | (have q3 := te_addc (c := 20) (n := 20) rfl (q_I δ 7 1 a0) (by omega) (by omega); obtain ⟨f4, f5, f6⟩ := q3) | (obtain ⟨q3, f4, f5, f6⟩ := ti_addc (c := 20) (n := 20) rfl (q_I δ 7 1 a0))
  refine ok_ite (fun h7 => ?_) (fun h7 => ?_)
  · have c8 : (500 : Int) < ((q_I δ 7 1 a0) + (20 : Int32)).toInt := o_lt h7
    unfold J_X7_hasPlace_18
    refine ok_gp (by decide) ?_
    exact ok_some (show δ = δ ∧ bo ((0 : Int32)) ∧ ((0 : Int) = 0 ∨ (q_I δ 7 1 a0).toInt + 20 ≤ 500) ∧ ((0 : Int) = 1 ∨ 500 < (q_I δ 7 1 a0).toInt + 20) from ⟨rfl, bo_0, by first | assumption | omega, by first | assumption | omega⟩)
  · have c9 : ((q_I δ 7 1 a0) + (20 : Int32)).toInt ≤ (500 : Int) := o_nlt h7
    unfold J_X7_hasPlace_18
    refine ok_gp (by decide) ?_
    exact ok_some (show δ = δ ∧ bo ((1 : Int32)) ∧ ((1 : Int) = 0 ∨ (q_I δ 7 1 a0).toInt + 20 ≤ 500) ∧ ((1 : Int) = 1 ∨ 500 < (q_I δ 7 1 a0).toInt + 20) from ⟨rfl, bo_1, by first | assumption | omega, by first | assumption | omega⟩)
set_option maxHeartbeats 4000000 in
theorem kl_X7_take_3 {ad : List Nat} {h : hp} (L : Lay TLx ad h) {δ0 : dp} {N : Nat} (hN : 10000000 ≤ N) {a0 : Nat} {x1 : Int32} (k_a0 : q_K h.1 a0 = 7) : ∀ (n : Nat) (x2v : Int32) (δ : dp), CI ad h.1 δ0 δ → -8 ≤ (x2v).toInt → (x2v).toInt ≤ 24 → (x2v).toInt + 8 < (n : Int) → ok (L_X7_take_3 N h.1 a0 x1 n x2v δ) (fun r => CI ad h.1 δ0 r ∧ (kp [(7, 1)] δ r ∧ q_V r = q_V δ) ∧ (8 * (q_I δ 7 1 a0).toInt + (x2v).toInt + 8 ≤ 4000 → (x2v).toInt % 8 = 0 → 8 * (q_I r 7 1 a0).toInt = 8 * (q_I δ 7 1 a0).toInt + (x2v).toInt + 8)) := by
  intro n
  induction n with
  | zero =>
    intro x2v δ I j0 j1 hm
    have f1 := ti_b x2v
    exfalso; omega
  | succ n ih =>
    intro x2v δ I j0 j1 hm
    unfold L_X7_take_3
    have f1 := ti_b x2v
    refine ok_ite (fun h2 => ?_) (fun h2 => ?_)
    · have c3 : x2v.toInt < (0 : Int) := o_lt h2
      unfold J_X7_take_49
      have f4 := cb_7_1 I k_a0
      exact ok_some (show CI ad h.1 δ0 δ ∧ (kp [(7, 1)] δ δ ∧ q_V δ = q_V δ) ∧ (8 * (q_I δ 7 1 a0).toInt + (x2v).toInt + 8 ≤ 4000 → (x2v).toInt % 8 = 0 → 8 * (q_I δ 7 1 a0).toInt = 8 * (q_I δ 7 1 a0).toInt + (x2v).toInt + 8) from ⟨I, ⟨kp_w (by decide) kp_r, rfl⟩, by first | assumption | omega⟩)
    · have c5 : (0 : Int) ≤ x2v.toInt := o_nlt h2
      have f6 := cb_7_1 I k_a0
      refine ok_ite (fun h7 => ?_) (fun h7 => ?_)
      · have c8 : (500 : Int) ≤ (q_I δ 7 1 a0).toInt := o_le h7
        unfold J_X7_take_49
        exact ok_some (show CI ad h.1 δ0 δ ∧ (kp [(7, 1)] δ δ ∧ q_V δ = q_V δ) ∧ (8 * (q_I δ 7 1 a0).toInt + (x2v).toInt + 8 ≤ 4000 → (x2v).toInt % 8 = 0 → 8 * (q_I δ 7 1 a0).toInt = 8 * (q_I δ 7 1 a0).toInt + (x2v).toInt + 8) from ⟨I, ⟨kp_w (by decide) kp_r, rfl⟩, by first | assumption | omega⟩)
      · have c9 : (q_I δ 7 1 a0).toInt < (500 : Int) := o_nle h7
        obtain ⟨b10, o11, k12, n13, w14⟩ := gO_7_0 L k_a0
        refine ok_at o11 ?_
        have t15 := ti_tn (q_I δ 7 1 a0)
        refine ok_gd (fun hc16 => ?_) ?_
        · rcases hc16 with hc16 | hc16
          · have c17 : (q_I δ 7 1 a0).toInt < (0 : Int) := o_lt hc16
            omega
          · omega
        refine ok_bdv (fun d18 e19 => ?_)
        have i20 : CI ad h.1 δ0 d18 := by rw [e19]; exact CI.sR L I w14
        have u21 := kp_N kp_r (show q_I d18 = q_I δ by rw [e19]; rfl)
        have v22 : q_V d18 = q_V δ := ((show q_V d18 = q_V δ by rw [e19]; rfl)).trans rfl
        have f26 := cb_7_1 i20 k_a0
        have f27 : (q_I d18 7 1 a0).toInt = (q_I δ 7 1 a0).toInt := congrArg Int32.toInt (by rw [e19]; rfl)
        first | (have q29 := te_addc (c := 1) (n := 1) rfl (q_I d18 7 1 a0) (by omega) (by omega); obtain ⟨f30, f31, f32⟩ := q29) | (obtain ⟨q29, f30, f31, f32⟩ := ti_addc (c := 1) (n := 1) rfl (q_I d18 7 1 a0))
        refine ok_bdv (fun d23 e24 => ?_)
        have i25 : CI ad h.1 δ0 d23 := by rw [e24]; exact cs_7_1 L i20 k_a0 (show 0 ≤ ((q_I d18 7 1 a0) + (1 : Int32)).toInt by omega) (show ((q_I d18 7 1 a0) + (1 : Int32)).toInt ≤ 500 by omega)
        have u33 := kp_I u21 e24
        have v34 : q_V d23 = q_V δ := ((show q_V d23 = q_V d18 by rw [e24]; rfl)).trans v22
        refine ok_biv (fun vx35 e36 => ?_)
        first | (have q37 := te_addc (c := -8) (n := -8) (by decide) x2v (by omega) (by omega); rw [← e36] at q37; obtain ⟨f38, f39, f40⟩ := q37) | (obtain ⟨q37, f38, f39, f40⟩ : ∃ q : Int, vx35.toInt = x2v.toInt + (-8 : Int) + 4294967296 * q ∧ -2147483648 ≤ vx35.toInt ∧ vx35.toInt ≤ 2147483647 := by rw [e36]; exact ti_addc (c := -8) (n := -8) (by decide) x2v)
        refine ok_mono (ih vx35 d23 i25 (show -8 ≤ (vx35).toInt by first | assumption | omega) (show (vx35).toInt ≤ 24 by first | assumption | omega) (show (vx35).toInt + 8 < _ by omega)) (fun r41 hr42 => ?_)
        obtain ⟨i43, ⟨u45, u46⟩, p44⟩ := hr42
        have u47 := kp_t u33 u45
        have v48 : q_V r41 = q_V δ := (u46).trans v34
        have f49 := cb_7_1 i25 k_a0
        have f50 : (q_I d23 7 1 a0).toInt = ((q_I d18 7 1 a0) + (1 : Int32)).toInt := congrArg Int32.toInt (show q_I d23 7 1 a0 = ((q_I d18 7 1 a0) + (1 : Int32)) by rw [e24]; exact rI_s)
        have f51 := cb_7_1 i43 k_a0
        exact ⟨by assumption, ⟨kp_w (by decide) u47, v48⟩, by first | assumption | omega⟩
set_option maxHeartbeats 4000000 in
theorem k_X7_take {ad : List Nat} {h : hp} (L : Lay TLx ad h) {δ0 : dp} {N : Nat} (hN : 10000000 ≤ N) {a0 : Nat} {x1 : Int32} (k_a0 : q_K h.1 a0 = 7) {δ : dp} (I : CI ad h.1 δ0 δ) : ok (D_X7_take N h.1 a0 x1 δ) (fun r => CI ad h.1 δ0 r ∧ (kp [(7, 1)] δ r ∧ q_V r = q_V δ) ∧ ((q_I δ 7 1 a0).toInt ≤ 496 → (q_I r 7 1 a0).toInt = (q_I δ 7 1 a0).toInt + 4)) := by
  unfold D_X7_take
  refine ok_mono (kl_X7_take_3 L hN   k_a0 _ (24 : Int32) δ I (show -8 ≤ (24 : Int) by first | assumption | omega) (show (24 : Int) ≤ 24 by first | assumption | omega) (show (24 : Int) + 8 < _ by omega)) (fun r1 hr2 => ?_)
  obtain ⟨i3, ⟨u5, u6⟩, p4⟩ := hr2
  have u7 := kp_t kp_r u5
  have v8 : q_V r1 = q_V δ := (u6).trans rfl
  have f9 := cb_7_1 I k_a0
  have f10 := cb_7_1 i3 k_a0
  replace p4 : (8 * (q_I δ 7 1 a0).toInt + (24 : Int) + 8 ≤ 4000 → (24 : Int) % 8 = 0 → 8 * (q_I r1 7 1 a0).toInt = 8 * (q_I δ 7 1 a0).toInt + (24 : Int) + 8) := p4
  exact ⟨by assumption, ⟨kp_w (by decide) u7, v8⟩, by first | assumption | omega⟩
set_option maxHeartbeats 4000000 in
theorem k_X7_open {ad : List Nat} {h : hp} (L : Lay TLx ad h) {δ0 : dp} {N : Nat} (hN : 10000000 ≤ N) {a0 : Nat} {x1 : Int32} (k_a0 : q_K h.1 a0 = 7) {δ : dp} (z0 : 0 ≤ (x1).toInt) (z1 : (x1).toInt ≤ 500) (I : CI ad h.1 δ0 δ) : ok (D_X7_open N h.1 a0 x1 δ) (fun r => CI ad h.1 δ0 r ∧ (kp [(7, 1), (7, 2), (7, 3), (7, 4), (7, 5)] δ r ∧ q_V r = q_V δ ∧ q_R r = q_R δ) ∧ (q_I r 7 5 a0).toInt = 0 ∧ (q_I r 7 1 a0).toInt = 0) := by
  unfold D_X7_open
  have f1 := ti_b x1
  refine ok_bdv (fun d2 e3 => ?_)
  have i4 : CI ad h.1 δ0 d2 := by rw [e3]; exact cs_7_1 L I k_a0 (show 0 ≤ (0 : Int) by omega) (show (0 : Int) ≤ 500 by omega)
  have u5 := kp_I kp_r e3
  have v6 : q_V d2 = q_V δ := ((show q_V d2 = q_V δ by rw [e3]; rfl)).trans rfl
  have v7 : q_R d2 = q_R δ := ((show q_R d2 = q_R δ by rw [e3]; rfl)).trans rfl
  refine ok_bdv (fun d8 e9 => ?_)
  have i10 : CI ad h.1 δ0 d8 := by rw [e9]; exact cs_7_2 L i4 k_a0 (show 0 ≤ x1.toInt by omega) (show x1.toInt ≤ 500 by omega)
  have u11 := kp_I u5 e9
  have v12 : q_V d8 = q_V δ := ((show q_V d8 = q_V d2 by rw [e9]; rfl)).trans v6
  have v13 : q_R d8 = q_R δ := ((show q_R d8 = q_R d2 by rw [e9]; rfl)).trans v7
  refine ok_bdv (fun d14 e15 => ?_)
  have i16 : CI ad h.1 δ0 d14 := by rw [e15]; exact cs_7_3 L i10 k_a0 (show 0 ≤ (0 : Int) by omega) (show (0 : Int) ≤ 500 by omega)
  have u17 := kp_I u11 e15
  have v18 : q_V d14 = q_V δ := ((show q_V d14 = q_V d8 by rw [e15]; rfl)).trans v12
  have v19 : q_R d14 = q_R δ := ((show q_R d14 = q_R d8 by rw [e15]; rfl)).trans v13
  refine ok_bdv (fun d20 e21 => ?_)
  have i22 : CI ad h.1 δ0 d20 := by rw [e21]; exact cs_7_4 L i16 k_a0 (show 0 ≤ (0 : Int) by omega) (show (0 : Int) ≤ 500 by omega)
  have u23 := kp_I u17 e21
  have v24 : q_V d20 = q_V δ := ((show q_V d20 = q_V d14 by rw [e21]; rfl)).trans v18
  have v25 : q_R d20 = q_R δ := ((show q_R d20 = q_R d14 by rw [e21]; rfl)).trans v19
  refine ok_bdv (fun d26 e27 => ?_)
  have i28 : CI ad h.1 δ0 d26 := by rw [e27]; exact cs_7_5 L i22
  have u29 := kp_I u23 e27
  have v30 : q_V d26 = q_V δ := ((show q_V d26 = q_V d20 by rw [e27]; rfl)).trans v24
  have v31 : q_R d26 = q_R δ := ((show q_R d26 = q_R d20 by rw [e27]; rfl)).trans v25
  have f32 := ti_b (q_I d26 7 5 a0)
  have f33 : (q_I d26 7 5 a0).toInt = (0 : Int) := congrArg Int32.toInt (show q_I d26 7 5 a0 = (0 : Int32) by rw [e27]; exact rI_s)
  have f34 := cb_7_1 i28 k_a0
  have f35 : (q_I d26 7 1 a0).toInt = (q_I d20 7 1 a0).toInt := congrArg Int32.toInt (by rw [e27]; exact rI_o (by decide))
  have f36 := cb_7_1 i22 k_a0
  have f37 : (q_I d20 7 1 a0).toInt = (q_I d14 7 1 a0).toInt := congrArg Int32.toInt (by rw [e21]; exact rI_o (by decide))
  have f38 := cb_7_1 i16 k_a0
  have f39 : (q_I d14 7 1 a0).toInt = (q_I d8 7 1 a0).toInt := congrArg Int32.toInt (by rw [e15]; exact rI_o (by decide))
  have f40 := cb_7_1 i10 k_a0
  have f41 : (q_I d8 7 1 a0).toInt = (q_I d2 7 1 a0).toInt := congrArg Int32.toInt (by rw [e9]; exact rI_o (by decide))
  have f42 := cb_7_1 i4 k_a0
  have f43 : (q_I d2 7 1 a0).toInt = (0 : Int) := congrArg Int32.toInt (show q_I d2 7 1 a0 = (0 : Int32) by rw [e3]; exact rI_s)
  exact ok_some (show CI ad h.1 δ0 d26 ∧ (kp [(7, 1), (7, 2), (7, 3), (7, 4), (7, 5)] δ d26 ∧ q_V d26 = q_V δ ∧ q_R d26 = q_R δ) ∧ (q_I d26 7 5 a0).toInt = 0 ∧ (q_I d26 7 1 a0).toInt = 0 from ⟨i28, ⟨kp_w (by decide) u29, v30, v31⟩, by first | assumption | omega, by first | assumption | omega⟩)
set_option maxHeartbeats 4000000 in
theorem k_X7_isSound {ad : List Nat} {h : hp} (L : Lay TLx ad h) {δ0 : dp} {N : Nat} (hN : 10000000 ≤ N) {a0 : Nat} (k_a0 : q_K h.1 a0 = 7) {δ : dp} (I : CI ad h.1 δ0 δ) : ok (D_X7_isSound N h.1 a0 δ) (fun r => r.2 = δ ∧ bo (r.1) ∧ ((r.1).toInt = 1 → (q_I δ 7 5 a0).toInt = 0) ∧ ((r.1).toInt = 0 → (q_I δ 7 5 a0).toInt ≠ 0)) := by
  unfold D_X7_isSound
  have f1 := ti_b (q_I δ 7 5 a0)
  refine ok_ite (fun h2 => ?_) (fun h2 => ?_)
  · have c3 : (q_I δ 7 5 a0).toInt = (0 : Int) := o_eq h2
    unfold J_X7_isSound_12
    refine ok_gp (by decide) ?_
    exact ok_some (show δ = δ ∧ bo ((1 : Int32)) ∧ ((1 : Int) = 1 → (q_I δ 7 5 a0).toInt = 0) ∧ ((1 : Int) = 0 → (q_I δ 7 5 a0).toInt ≠ 0) from ⟨rfl, bo_1, by first | assumption | omega, by first | assumption | omega⟩)
  · have c4 : (q_I δ 7 5 a0).toInt ≠ (0 : Int) := o_ne h2
    unfold J_X7_isSound_12
    refine ok_gp (by decide) ?_
    exact ok_some (show δ = δ ∧ bo ((0 : Int32)) ∧ ((0 : Int) = 1 → (q_I δ 7 5 a0).toInt = 0) ∧ ((0 : Int) = 0 → (q_I δ 7 5 a0).toInt ≠ 0) from ⟨rfl, bo_0, by first | assumption | omega, by first | assumption | omega⟩)
set_option maxHeartbeats 4000000 in
theorem k_X7_refuse {ad : List Nat} {h : hp} (L : Lay TLx ad h) {δ0 : dp} {N : Nat} (hN : 10000000 ≤ N) {a0 : Nat} {x1 : Int32} (k_a0 : q_K h.1 a0 = 7) {δ : dp} (z0 : (x1).toInt ≠ 0) (I : CI ad h.1 δ0 δ) : ok (D_X7_refuse N h.1 a0 x1 δ) (fun r => CI ad h.1 δ0 r ∧ (kp [(7, 5), (7, 6)] δ r ∧ q_V r = q_V δ ∧ q_R r = q_R δ) ∧ (q_I r 7 5 a0).toInt ≠ 0) := by
  unfold D_X7_refuse
  have f1 := ti_b x1
  have f2 := ti_b (q_I δ 7 5 a0)
  refine ok_ite (fun h3 => ?_) (fun h3 => ?_)
  · have c4 : (q_I δ 7 5 a0).toInt = (0 : Int) := o_eq h3
    refine ok_bdv (fun d5 e6 => ?_)
    have i7 : CI ad h.1 δ0 d5 := by rw [e6]; exact cs_7_5 L I
    have u8 := kp_I kp_r e6
    have v9 : q_V d5 = q_V δ := ((show q_V d5 = q_V δ by rw [e6]; rfl)).trans rfl
    have v10 : q_R d5 = q_R δ := ((show q_R d5 = q_R δ by rw [e6]; rfl)).trans rfl
    have f14 := cb_7_4 i7 k_a0
    have f15 : (q_I d5 7 4 a0).toInt = (q_I δ 7 4 a0).toInt := congrArg Int32.toInt (by rw [e6]; exact rI_o (by decide))
    have f16 := cb_7_4 I k_a0
    refine ok_bdv (fun d11 e12 => ?_)
    have i13 : CI ad h.1 δ0 d11 := by rw [e12]; exact cs_7_6 L i7
    have u17 := kp_I u8 e12
    have v18 : q_V d11 = q_V δ := ((show q_V d11 = q_V d5 by rw [e12]; rfl)).trans v9
    have v19 : q_R d11 = q_R δ := ((show q_R d11 = q_R d5 by rw [e12]; rfl)).trans v10
    unfold J_X7_refuse_20
    have f20 := ti_b (q_I d11 7 5 a0)
    have f21 : (q_I d11 7 5 a0).toInt = (q_I d5 7 5 a0).toInt := congrArg Int32.toInt (by rw [e12]; exact rI_o (by decide))
    have f22 := ti_b (q_I d5 7 5 a0)
    have f23 : (q_I d5 7 5 a0).toInt = x1.toInt := congrArg Int32.toInt (show q_I d5 7 5 a0 = x1 by rw [e6]; exact rI_s)
    exact ok_some (show CI ad h.1 δ0 d11 ∧ (kp [(7, 5), (7, 6)] δ d11 ∧ q_V d11 = q_V δ ∧ q_R d11 = q_R δ) ∧ (q_I d11 7 5 a0).toInt ≠ 0 from ⟨i13, ⟨kp_w (by decide) u17, v18, v19⟩, by first | assumption | omega⟩)
  · have c24 : (q_I δ 7 5 a0).toInt ≠ (0 : Int) := o_ne h3
    unfold J_X7_refuse_20
    exact ok_some (show CI ad h.1 δ0 δ ∧ (kp [(7, 5), (7, 6)] δ δ ∧ q_V δ = q_V δ ∧ q_R δ = q_R δ) ∧ (q_I δ 7 5 a0).toInt ≠ 0 from ⟨I, ⟨kp_w (by decide) kp_r, rfl, rfl⟩, by first | assumption | omega⟩)
set_option maxHeartbeats 4000000 in
theorem kl_X7_ahead_0 {ad : List Nat} {h : hp} (L : Lay TLx ad h) {δ0 : dp} {N : Nat} (hN : 10000000 ≤ N) {a0 : Nat} (k_a0 : q_K h.1 a0 = 7) : ∀ (n : Nat) (δ : dp), CI ad h.1 δ0 δ → 501 - (q_I δ 7 3 a0).toInt < (n : Int) → ok (L_X7_ahead_0 N h.1 a0 n δ) (fun r => CI ad h.1 δ0 r.2 ∧ (kp [(7, 3), (7, 4)] δ r.2 ∧ q_V r.2 = q_V δ ∧ q_R r.2 = q_R δ) ∧ ((r.1).toInt = -1 ∨ (q_I r.2 7 3 a0).toInt < (q_I r.2 7 2 a0).toInt)) := by
  intro n
  induction n with
  | zero =>
    intro δ I hm
    have f1 := cb_7_3 I k_a0
    exfalso; omega
  | succ n ih =>
    intro δ I hm
    unfold L_X7_ahead_0
    have f1 := cb_7_3 I k_a0
    have f2 := cb_7_2 I k_a0
    refine ok_ite (fun h3 => ?_) (fun h3 => ?_)
    · have c4 : (q_I δ 7 2 a0).toInt ≤ (q_I δ 7 3 a0).toInt := o_le h3
      unfold J_X7_ahead_38
      refine ok_bdv (fun d5 e6 => ?_)
      have i7 : CI ad h.1 δ0 d5 := by rw [e6]; exact cs_7_4 L I k_a0 (show 0 ≤ (q_I δ 7 3 a0).toInt by omega) (show (q_I δ 7 3 a0).toInt ≤ 500 by omega)
      have u8 := kp_I kp_r e6
      have v9 : q_V d5 = q_V δ := ((show q_V d5 = q_V δ by rw [e6]; rfl)).trans rfl
      have v10 : q_R d5 = q_R δ := ((show q_R d5 = q_R δ by rw [e6]; rfl)).trans rfl
      have f11 := cb_7_2 i7 k_a0
      have f12 : (q_I d5 7 2 a0).toInt = (q_I δ 7 2 a0).toInt := congrArg Int32.toInt (by rw [e6]; exact rI_o (by decide))
      have f13 := cb_7_3 i7 k_a0
      have f14 : (q_I d5 7 3 a0).toInt = (q_I δ 7 3 a0).toInt := congrArg Int32.toInt (by rw [e6]; exact rI_o (by decide))
      refine ok_ite (fun h15 => ?_) (fun h15 => ?_)
      · have c16 : (q_I d5 7 2 a0).toInt ≤ (q_I d5 7 3 a0).toInt := o_le h15
        unfold J_X7_ahead_70
        exact ok_some (show CI ad h.1 δ0 d5 ∧ (kp [(7, 3), (7, 4)] δ d5 ∧ q_V d5 = q_V δ ∧ q_R d5 = q_R δ) ∧ ((-1 : Int) = -1 ∨ (q_I d5 7 3 a0).toInt < (q_I d5 7 2 a0).toInt) from ⟨i7, ⟨kp_w (by decide) u8, v9, v10⟩, by first | assumption | omega⟩)
      · have c17 : (q_I d5 7 3 a0).toInt < (q_I d5 7 2 a0).toInt := o_nle h15
        obtain ⟨b18, o19, k20, n21, w22⟩ := gO_7_0 L k_a0
        refine ok_at o19 ?_
        have t23 := ti_tn (q_I d5 7 3 a0)
        refine ok_gd (fun hc24 => ?_) ?_
        · rcases hc24 with hc24 | hc24
          · have c25 : (q_I d5 7 3 a0).toInt < (0 : Int) := o_lt hc24
            omega
          · omega
        unfold J_X7_ahead_70
        have f26 := ti_b (q_R d5 b18 (q_I d5 7 3 a0).toNatClampNeg)
        exact ok_some (show CI ad h.1 δ0 d5 ∧ (kp [(7, 3), (7, 4)] δ d5 ∧ q_V d5 = q_V δ ∧ q_R d5 = q_R δ) ∧ (((q_R d5 b18 (q_I d5 7 3 a0).toNatClampNeg)).toInt = -1 ∨ (q_I d5 7 3 a0).toInt < (q_I d5 7 2 a0).toInt) from ⟨i7, ⟨kp_w (by decide) u8, v9, v10⟩, by first | assumption | omega⟩)
    · have c27 : (q_I δ 7 3 a0).toInt < (q_I δ 7 2 a0).toInt := o_nle h3
      obtain ⟨b28, o29, k30, n31, w32⟩ := gO_7_0 L k_a0
      refine ok_at o29 ?_
      have t33 := ti_tn (q_I δ 7 3 a0)
      refine ok_gd (fun hc34 => ?_) ?_
      · rcases hc34 with hc34 | hc34
        · have c35 : (q_I δ 7 3 a0).toInt < (0 : Int) := o_lt hc34
          omega
        · omega
      have f36 := ti_b (q_R δ b28 (q_I δ 7 3 a0).toNatClampNeg)
      refine ok_ite (fun h37 => ?_) (fun h37 => ?_)
      · have c38 : (q_R δ b28 (q_I δ 7 3 a0).toNatClampNeg).toInt = (32 : Int) := o_eq h37
        first | (have q43 := te_addc (c := 1) (n := 1) rfl (q_I δ 7 3 a0) (by omega) (by omega); obtain ⟨f44, f45, f46⟩ := q43) | (obtain ⟨q43, f44, f45, f46⟩ := ti_addc (c := 1) (n := 1) rfl (q_I δ 7 3 a0))
        refine ok_bdv (fun d39 e40 => ?_)
        have i41 : CI ad h.1 δ0 d39 := by rw [e40]; exact cs_7_3 L I k_a0 (show 0 ≤ ((q_I δ 7 3 a0) + (1 : Int32)).toInt by omega) (show ((q_I δ 7 3 a0) + (1 : Int32)).toInt ≤ 500 by omega)
        have u47 := kp_I kp_r e40
        have v48 : q_V d39 = q_V δ := ((show q_V d39 = q_V δ by rw [e40]; rfl)).trans rfl
        have v49 : q_R d39 = q_R δ := ((show q_R d39 = q_R δ by rw [e40]; rfl)).trans rfl
        have f50 := cb_7_3 i41 k_a0
        have f51 : (q_I d39 7 3 a0).toInt = ((q_I δ 7 3 a0) + (1 : Int32)).toInt := congrArg Int32.toInt (show q_I d39 7 3 a0 = ((q_I δ 7 3 a0) + (1 : Int32)) by rw [e40]; exact rI_s)
        refine ok_mono (ih d39 i41  (show 501 - (q_I d39 7 3 a0).toInt < _ by omega)) (fun r52 hr53 => ?_)
        obtain ⟨i54, ⟨u56, u57, u58⟩, p55⟩ := hr53
        have u59 := kp_t u47 u56
        have v60 : q_V r52.2 = q_V δ := (u57).trans v48
        have v61 : q_R r52.2 = q_R δ := (u58).trans v49
        have f62 := ti_b r52.1
        have f63 := cb_7_3 i54 k_a0
        have f64 := cb_7_2 i54 k_a0
        have f65 : (q_I r52.2 7 2 a0).toInt = (q_I d39 7 2 a0).toInt := congrArg Int32.toInt (u56 7 2 a0 (by decide))
        have f66 := cb_7_2 i41 k_a0
        have f67 : (q_I d39 7 2 a0).toInt = (q_I δ 7 2 a0).toInt := congrArg Int32.toInt (by rw [e40]; exact rI_o (by decide))
        have f68 := ti_b r52.1
        exact ⟨by assumption, ⟨kp_w (by decide) u59, v60, v61⟩, by first | assumption | omega⟩
      · have c69 : (q_R δ b28 (q_I δ 7 3 a0).toNatClampNeg).toInt ≠ (32 : Int) := o_ne h37
        unfold J_X7_ahead_38
        refine ok_bdv (fun d70 e71 => ?_)
        have i72 : CI ad h.1 δ0 d70 := by rw [e71]; exact cs_7_4 L I k_a0 (show 0 ≤ (q_I δ 7 3 a0).toInt by omega) (show (q_I δ 7 3 a0).toInt ≤ 500 by omega)
        have u73 := kp_I kp_r e71
        have v74 : q_V d70 = q_V δ := ((show q_V d70 = q_V δ by rw [e71]; rfl)).trans rfl
        have v75 : q_R d70 = q_R δ := ((show q_R d70 = q_R δ by rw [e71]; rfl)).trans rfl
        have f76 := cb_7_2 i72 k_a0
        have f77 : (q_I d70 7 2 a0).toInt = (q_I δ 7 2 a0).toInt := congrArg Int32.toInt (by rw [e71]; exact rI_o (by decide))
        have f78 := cb_7_3 i72 k_a0
        have f79 : (q_I d70 7 3 a0).toInt = (q_I δ 7 3 a0).toInt := congrArg Int32.toInt (by rw [e71]; exact rI_o (by decide))
        refine ok_ite (fun h80 => ?_) (fun h80 => ?_)
        · have c81 : (q_I d70 7 2 a0).toInt ≤ (q_I d70 7 3 a0).toInt := o_le h80
          unfold J_X7_ahead_70
          exact ok_some (show CI ad h.1 δ0 d70 ∧ (kp [(7, 3), (7, 4)] δ d70 ∧ q_V d70 = q_V δ ∧ q_R d70 = q_R δ) ∧ ((-1 : Int) = -1 ∨ (q_I d70 7 3 a0).toInt < (q_I d70 7 2 a0).toInt) from ⟨i72, ⟨kp_w (by decide) u73, v74, v75⟩, by first | assumption | omega⟩)
        · have c82 : (q_I d70 7 3 a0).toInt < (q_I d70 7 2 a0).toInt := o_nle h80
          refine ok_at o29 ?_
          have t83 := ti_tn (q_I d70 7 3 a0)
          refine ok_gd (fun hc84 => ?_) ?_
          · rcases hc84 with hc84 | hc84
            · have c85 : (q_I d70 7 3 a0).toInt < (0 : Int) := o_lt hc84
              omega
            · omega
          unfold J_X7_ahead_70
          have f86 := ti_b (q_R d70 b28 (q_I d70 7 3 a0).toNatClampNeg)
          exact ok_some (show CI ad h.1 δ0 d70 ∧ (kp [(7, 3), (7, 4)] δ d70 ∧ q_V d70 = q_V δ ∧ q_R d70 = q_R δ) ∧ (((q_R d70 b28 (q_I d70 7 3 a0).toNatClampNeg)).toInt = -1 ∨ (q_I d70 7 3 a0).toInt < (q_I d70 7 2 a0).toInt) from ⟨i72, ⟨kp_w (by decide) u73, v74, v75⟩, by first | assumption | omega⟩)
set_option maxHeartbeats 4000000 in
theorem k_X7_ahead {ad : List Nat} {h : hp} (L : Lay TLx ad h) {δ0 : dp} {N : Nat} (hN : 10000000 ≤ N) {a0 : Nat} (k_a0 : q_K h.1 a0 = 7) {δ : dp} (I : CI ad h.1 δ0 δ) : ok (D_X7_ahead N h.1 a0 δ) (fun r => CI ad h.1 δ0 r.2 ∧ (kp [(7, 3), (7, 4)] δ r.2 ∧ q_V r.2 = q_V δ ∧ q_R r.2 = q_R δ) ∧ ((r.1).toInt = -1 ∨ (q_I r.2 7 3 a0).toInt < (q_I r.2 7 2 a0).toInt)) := by
  unfold D_X7_ahead
  have f1 := cb_7_3 I k_a0
  refine ok_mono (kl_X7_ahead_0 L hN   k_a0 _ δ I  (show 501 - (q_I δ 7 3 a0).toInt < _ by omega)) (fun r2 hr3 => ?_)
  obtain ⟨i4, ⟨u6, u7, u8⟩, p5⟩ := hr3
  have u9 := kp_t kp_r u6
  have v10 : q_V r2.2 = q_V δ := (u7).trans rfl
  have v11 : q_R r2.2 = q_R δ := (u8).trans rfl
  have f12 := ti_b r2.1
  have f13 := cb_7_3 i4 k_a0
  have f14 := cb_7_2 i4 k_a0
  have f15 : (q_I r2.2 7 2 a0).toInt = (q_I δ 7 2 a0).toInt := congrArg Int32.toInt (u6 7 2 a0 (by decide))
  have f16 := cb_7_2 I k_a0
  have f17 := ti_b r2.1
  exact ⟨by assumption, ⟨kp_w (by decide) u9, v10, v11⟩, by first | assumption | omega⟩
set_option maxHeartbeats 4000000 in
theorem k_X7_takeSign {ad : List Nat} {h : hp} (L : Lay TLx ad h) {δ0 : dp} {N : Nat} (hN : 10000000 ≤ N) {a0 : Nat} {x1 : Int32} (k_a0 : q_K h.1 a0 = 7) {δ : dp} (z0 : (x1).toInt ≠ -1) (I : CI ad h.1 δ0 δ) : ok (D_X7_takeSign N h.1 a0 x1 δ) (fun r => CI ad h.1 δ0 r.2 ∧ (kp [(7, 3), (7, 4)] δ r.2 ∧ q_V r.2 = q_V δ ∧ q_R r.2 = q_R δ) ∧ bo (r.1)) := by
  unfold D_X7_takeSign
  have f1 := ti_b x1
  refine ok_bind (k_X7_ahead L hN (a0 := a0) k_a0 I) (fun r2 hr3 => ?_)
  obtain ⟨i4, ⟨u6, u7, u8⟩, p5⟩ := hr3
  have u9 := kp_t kp_r u6
  have v10 : q_V r2.2 = q_V δ := (u7).trans rfl
  have v11 : q_R r2.2 = q_R δ := (u8).trans rfl
  have f12 := ti_b r2.1
  have f13 := cb_7_3 i4 k_a0
  have f14 := cb_7_2 i4 k_a0
  have f15 : (q_I r2.2 7 2 a0).toInt = (q_I δ 7 2 a0).toInt := congrArg Int32.toInt (u6 7 2 a0 (by decide))
  have f16 := cb_7_2 I k_a0
  have f17 := ti_b r2.1
  refine ok_ite (fun h18 => ?_) (fun h18 => ?_)
  · have c19 : r2.1.toInt = x1.toInt := o_eq h18
    unfold J_X7_takeSign_13
    refine ok_ite (fun h20 => ?_) (fun h20 => ?_)
    · have c21 : (1 : Int) = (0 : Int) := o_eq h20
      unfold J_X7_takeSign_28
      refine ok_gp (by decide) ?_
      exact ok_some (show CI ad h.1 δ0 r2.2 ∧ (kp [(7, 3), (7, 4)] δ r2.2 ∧ q_V r2.2 = q_V δ ∧ q_R r2.2 = q_R δ) ∧ bo ((1 : Int32)) from ⟨i4, ⟨kp_w (by decide) u9, v10, v11⟩, bo_1⟩)
    · have c22 : (1 : Int) ≠ (0 : Int) := o_ne h20
      first | (have q27 := te_addc (c := 1) (n := 1) rfl (q_I r2.2 7 3 a0) (by omega) (by omega); obtain ⟨f28, f29, f30⟩ := q27) | (obtain ⟨q27, f28, f29, f30⟩ := ti_addc (c := 1) (n := 1) rfl (q_I r2.2 7 3 a0))
      refine ok_bdv (fun d23 e24 => ?_)
      have i25 : CI ad h.1 δ0 d23 := by rw [e24]; exact cs_7_3 L i4 k_a0 (show 0 ≤ ((q_I r2.2 7 3 a0) + (1 : Int32)).toInt by omega) (show ((q_I r2.2 7 3 a0) + (1 : Int32)).toInt ≤ 500 by omega)
      have u31 := kp_I u9 e24
      have v32 : q_V d23 = q_V δ := ((show q_V d23 = q_V r2.2 by rw [e24]; rfl)).trans v10
      have v33 : q_R d23 = q_R δ := ((show q_R d23 = q_R r2.2 by rw [e24]; rfl)).trans v11
      unfold J_X7_takeSign_28
      refine ok_gp (by decide) ?_
      exact ok_some (show CI ad h.1 δ0 d23 ∧ (kp [(7, 3), (7, 4)] δ d23 ∧ q_V d23 = q_V δ ∧ q_R d23 = q_R δ) ∧ bo ((1 : Int32)) from ⟨i25, ⟨kp_w (by decide) u31, v32, v33⟩, bo_1⟩)
  · have c34 : r2.1.toInt ≠ x1.toInt := o_ne h18
    unfold J_X7_takeSign_13
    refine ok_ite (fun h35 => ?_) (fun h35 => ?_)
    · have c36 : (0 : Int) = (0 : Int) := o_eq h35
      unfold J_X7_takeSign_28
      refine ok_gp (by decide) ?_
      exact ok_some (show CI ad h.1 δ0 r2.2 ∧ (kp [(7, 3), (7, 4)] δ r2.2 ∧ q_V r2.2 = q_V δ ∧ q_R r2.2 = q_R δ) ∧ bo ((0 : Int32)) from ⟨i4, ⟨kp_w (by decide) u9, v10, v11⟩, bo_0⟩)
    · have c37 : (0 : Int) ≠ (0 : Int) := o_ne h35
      first | (have q42 := te_addc (c := 1) (n := 1) rfl (q_I r2.2 7 3 a0) (by omega) (by omega); obtain ⟨f43, f44, f45⟩ := q42) | (obtain ⟨q42, f43, f44, f45⟩ := ti_addc (c := 1) (n := 1) rfl (q_I r2.2 7 3 a0))
      refine ok_bdv (fun d38 e39 => ?_)
      have i40 : CI ad h.1 δ0 d38 := by rw [e39]; exact cs_7_3 L i4 k_a0 (show 0 ≤ ((q_I r2.2 7 3 a0) + (1 : Int32)).toInt by omega) (show ((q_I r2.2 7 3 a0) + (1 : Int32)).toInt ≤ 500 by omega)
      have u46 := kp_I u9 e39
      have v47 : q_V d38 = q_V δ := ((show q_V d38 = q_V r2.2 by rw [e39]; rfl)).trans v10
      have v48 : q_R d38 = q_R δ := ((show q_R d38 = q_R r2.2 by rw [e39]; rfl)).trans v11
      unfold J_X7_takeSign_28
      refine ok_gp (by decide) ?_
      exact ok_some (show CI ad h.1 δ0 d38 ∧ (kp [(7, 3), (7, 4)] δ d38 ∧ q_V d38 = q_V δ ∧ q_R d38 = q_R δ) ∧ bo ((0 : Int32)) from ⟨i40, ⟨kp_w (by decide) u46, v47, v48⟩, bo_0⟩)
set_option maxHeartbeats 4000000 in
theorem k_X7_needSign {ad : List Nat} {h : hp} (L : Lay TLx ad h) {δ0 : dp} {N : Nat} (hN : 10000000 ≤ N) {a0 : Nat} {x1 : Int32} (k_a0 : q_K h.1 a0 = 7) {δ : dp} (z0 : (x1).toInt ≠ -1) (I : CI ad h.1 δ0 δ) : ok (D_X7_needSign N h.1 a0 x1 δ) (fun r => CI ad h.1 δ0 r ∧ (kp [(7, 3), (7, 4), (7, 5), (7, 6)] δ r ∧ q_V r = q_V δ ∧ q_R r = q_R δ) ∧ ((q_I δ 7 5 a0).toInt ≠ 0 → (q_I r 7 5 a0).toInt ≠ 0)) := by
  unfold D_X7_needSign
  have f1 := ti_b x1
  refine ok_bind (k_X7_ahead L hN (a0 := a0) k_a0 I) (fun r2 hr3 => ?_)
  obtain ⟨i4, ⟨u6, u7, u8⟩, p5⟩ := hr3
  have u9 := kp_t kp_r u6
  have v10 : q_V r2.2 = q_V δ := (u7).trans rfl
  have v11 : q_R r2.2 = q_R δ := (u8).trans rfl
  have f12 := ti_b r2.1
  have f13 := cb_7_3 i4 k_a0
  have f14 := cb_7_2 i4 k_a0
  have f15 : (q_I r2.2 7 2 a0).toInt = (q_I δ 7 2 a0).toInt := congrArg Int32.toInt (u6 7 2 a0 (by decide))
  have f16 := cb_7_2 I k_a0
  have f17 := ti_b r2.1
  refine ok_ite (fun h18 => ?_) (fun h18 => ?_)
  · have c19 : r2.1.toInt = x1.toInt := o_eq h18
    first | (have q24 := te_addc (c := 1) (n := 1) rfl (q_I r2.2 7 3 a0) (by omega) (by omega); obtain ⟨f25, f26, f27⟩ := q24) | (obtain ⟨q24, f25, f26, f27⟩ := ti_addc (c := 1) (n := 1) rfl (q_I r2.2 7 3 a0))
    refine ok_bdv (fun d20 e21 => ?_)
    have i22 : CI ad h.1 δ0 d20 := by rw [e21]; exact cs_7_3 L i4 k_a0 (show 0 ≤ ((q_I r2.2 7 3 a0) + (1 : Int32)).toInt by omega) (show ((q_I r2.2 7 3 a0) + (1 : Int32)).toInt ≤ 500 by omega)
    have u28 := kp_I u9 e21
    have v29 : q_V d20 = q_V δ := ((show q_V d20 = q_V r2.2 by rw [e21]; rfl)).trans v10
    have v30 : q_R d20 = q_R δ := ((show q_R d20 = q_R r2.2 by rw [e21]; rfl)).trans v11
    unfold J_X7_needSign_26
    have f31 := ti_b (q_I δ 7 5 a0)
    have f32 := ti_b (q_I d20 7 5 a0)
    have f33 : (q_I d20 7 5 a0).toInt = (q_I r2.2 7 5 a0).toInt := congrArg Int32.toInt (by rw [e21]; exact rI_o (by decide))
    have f34 := ti_b (q_I r2.2 7 5 a0)
    have f35 : (q_I r2.2 7 5 a0).toInt = (q_I δ 7 5 a0).toInt := congrArg Int32.toInt (u6 7 5 a0 (by decide))
    exact ok_some (show CI ad h.1 δ0 d20 ∧ (kp [(7, 3), (7, 4), (7, 5), (7, 6)] δ d20 ∧ q_V d20 = q_V δ ∧ q_R d20 = q_R δ) ∧ ((q_I δ 7 5 a0).toInt ≠ 0 → (q_I d20 7 5 a0).toInt ≠ 0) from ⟨i22, ⟨kp_w (by decide) u28, v29, v30⟩, by first | assumption | omega⟩)
  · have c36 : r2.1.toInt ≠ x1.toInt := o_ne h18
    refine ok_bind (k_X7_refuse L hN (a0 := a0) (x1 := (1 : Int32)) k_a0 (show (1 : Int) ≠ 0 by first | assumption | omega) i4) (fun r37 hr38 => ?_)
    obtain ⟨i39, ⟨u41, u42, u43⟩, p40⟩ := hr38
    have u44 := kp_t u9 u41
    have v45 : q_V r37 = q_V δ := (u42).trans v10
    have v46 : q_R r37 = q_R δ := (u43).trans v11
    have f47 := ti_b (q_I r37 7 5 a0)
    unfold J_X7_needSign_26
    have f48 := ti_b (q_I δ 7 5 a0)
    exact ok_some (show CI ad h.1 δ0 r37 ∧ (kp [(7, 3), (7, 4), (7, 5), (7, 6)] δ r37 ∧ q_V r37 = q_V δ ∧ q_R r37 = q_R δ) ∧ ((q_I δ 7 5 a0).toInt ≠ 0 → (q_I r37 7 5 a0).toInt ≠ 0) from ⟨i39, ⟨kp_w (by decide) u44, v45, v46⟩, by first | assumption | omega⟩)
set_option maxHeartbeats 4000000 in
theorem kl_X7_readWord_5 {ad : List Nat} {h : hp} (L : Lay TLx ad h) {δ0 : dp} {N : Nat} (hN : 10000000 ≤ N) {a0 : Nat} (k_a0 : q_K h.1 a0 = 7) : ∀ (n : Nat) (δ : dp), CI ad h.1 δ0 δ → 501 - (q_I δ 7 3 a0).toInt < (n : Int) → ok (L_X7_readWord_5 N h.1 a0 n δ) (fun r => CI ad h.1 δ0 r ∧ (kp [(7, 3), (7, 4)] δ r ∧ q_V r = q_V δ ∧ q_R r = q_R δ)) := by
  intro n
  induction n with
  | zero =>
    intro δ I hm
    have f1 := cb_7_3 I k_a0
    exfalso; omega
  | succ n ih =>
    intro δ I hm
    unfold L_X7_readWord_5
    have f1 := cb_7_3 I k_a0
    have f2 := cb_7_2 I k_a0
    refine ok_ite (fun h3 => ?_) (fun h3 => ?_)
    · have c4 : (q_I δ 7 2 a0).toInt ≤ (q_I δ 7 3 a0).toInt := o_le h3
      unfold J_X7_readWord_57
      exact ok_some (show CI ad h.1 δ0 δ ∧ (kp [(7, 3), (7, 4)] δ δ ∧ q_V δ = q_V δ ∧ q_R δ = q_R δ) from ⟨I, ⟨kp_w (by decide) kp_r, rfl, rfl⟩⟩)
    · have c5 : (q_I δ 7 3 a0).toInt < (q_I δ 7 2 a0).toInt := o_nle h3
      obtain ⟨b6, o7, k8, n9, w10⟩ := gO_7_0 L k_a0
      refine ok_at o7 ?_
      have t11 := ti_tn (q_I δ 7 3 a0)
      refine ok_gd (fun hc12 => ?_) ?_
      · rcases hc12 with hc12 | hc12
        · have c13 : (q_I δ 7 3 a0).toInt < (0 : Int) := o_lt hc12
          omega
        · omega
      have f14 := ti_b (q_R δ b6 (q_I δ 7 3 a0).toNatClampNeg)
      refine ok_ite (fun h15 => ?_) (fun h15 => ?_)
      · have c16 : (q_R δ b6 (q_I δ 7 3 a0).toNatClampNeg).toInt < (97 : Int) := o_lt h15
        unfold J_X7_readWord_57
        exact ok_some (show CI ad h.1 δ0 δ ∧ (kp [(7, 3), (7, 4)] δ δ ∧ q_V δ = q_V δ ∧ q_R δ = q_R δ) from ⟨I, ⟨kp_w (by decide) kp_r, rfl, rfl⟩⟩)
      · have c17 : (97 : Int) ≤ (q_R δ b6 (q_I δ 7 3 a0).toNatClampNeg).toInt := o_nlt h15
        refine ok_at o7 ?_
        refine ok_gd (fun hc18 => ?_) ?_
        · rcases hc18 with hc18 | hc18
          · have c19 : (q_I δ 7 3 a0).toInt < (0 : Int) := o_lt hc18
            omega
          · omega
        refine ok_ite (fun h20 => ?_) (fun h20 => ?_)
        · have c21 : (122 : Int) < (q_R δ b6 (q_I δ 7 3 a0).toNatClampNeg).toInt := o_lt h20
          unfold J_X7_readWord_57
          exact ok_some (show CI ad h.1 δ0 δ ∧ (kp [(7, 3), (7, 4)] δ δ ∧ q_V δ = q_V δ ∧ q_R δ = q_R δ) from ⟨I, ⟨kp_w (by decide) kp_r, rfl, rfl⟩⟩)
        · have c22 : (q_R δ b6 (q_I δ 7 3 a0).toNatClampNeg).toInt ≤ (122 : Int) := o_nlt h20
          first | (have q27 := te_addc (c := 1) (n := 1) rfl (q_I δ 7 3 a0) (by omega) (by omega); obtain ⟨f28, f29, f30⟩ := q27) | (obtain ⟨q27, f28, f29, f30⟩ := ti_addc (c := 1) (n := 1) rfl (q_I δ 7 3 a0))
          refine ok_bdv (fun d23 e24 => ?_)
          have i25 : CI ad h.1 δ0 d23 := by rw [e24]; exact cs_7_3 L I k_a0 (show 0 ≤ ((q_I δ 7 3 a0) + (1 : Int32)).toInt by omega) (show ((q_I δ 7 3 a0) + (1 : Int32)).toInt ≤ 500 by omega)
          have u31 := kp_I kp_r e24
          have v32 : q_V d23 = q_V δ := ((show q_V d23 = q_V δ by rw [e24]; rfl)).trans rfl
          have v33 : q_R d23 = q_R δ := ((show q_R d23 = q_R δ by rw [e24]; rfl)).trans rfl
          have f34 := cb_7_3 i25 k_a0
          have f35 : (q_I d23 7 3 a0).toInt = ((q_I δ 7 3 a0) + (1 : Int32)).toInt := congrArg Int32.toInt (show q_I d23 7 3 a0 = ((q_I δ 7 3 a0) + (1 : Int32)) by rw [e24]; exact rI_s)
          refine ok_mono (ih d23 i25  (show 501 - (q_I d23 7 3 a0).toInt < _ by omega)) (fun r36 hr37 => ?_)
          obtain ⟨i38, ⟨u39, u40, u41⟩⟩ := hr37
          have u42 := kp_t u31 u39
          have v43 : q_V r36 = q_V δ := (u40).trans v32
          have v44 : q_R r36 = q_R δ := (u41).trans v33
          exact ⟨by assumption, ⟨kp_w (by decide) u42, v43, v44⟩⟩
set_option maxHeartbeats 4000000 in
theorem k_X7_readWord {ad : List Nat} {h : hp} (L : Lay TLx ad h) {δ0 : dp} {N : Nat} (hN : 10000000 ≤ N) {a0 : Nat} (k_a0 : q_K h.1 a0 = 7) {δ : dp} (I : CI ad h.1 δ0 δ) : ok (D_X7_readWord N h.1 a0 δ) (fun r => CI ad h.1 δ0 r ∧ (kp [(7, 3), (7, 4)] δ r ∧ q_V r = q_V δ ∧ q_R r = q_R δ)) := by
  unfold D_X7_readWord
  refine ok_bind (k_X7_ahead L hN (a0 := a0) k_a0 I) (fun r1 hr2 => ?_)
  obtain ⟨i3, ⟨u5, u6, u7⟩, p4⟩ := hr2
  have u8 := kp_t kp_r u5
  have v9 : q_V r1.2 = q_V δ := (u6).trans rfl
  have v10 : q_R r1.2 = q_R δ := (u7).trans rfl
  have f11 := ti_b r1.1
  have f12 := cb_7_3 i3 k_a0
  have f13 := cb_7_2 i3 k_a0
  have f14 : (q_I r1.2 7 2 a0).toInt = (q_I δ 7 2 a0).toInt := congrArg Int32.toInt (u5 7 2 a0 (by decide))
  have f15 := cb_7_2 I k_a0
  have f16 := ti_b r1.1
  refine ok_mono (kl_X7_readWord_5 L hN   k_a0 _ r1.2 i3  (show 501 - (q_I r1.2 7 3 a0).toInt < _ by omega)) (fun r17 hr18 => ?_)
  obtain ⟨i19, ⟨u20, u21, u22⟩⟩ := hr18
  have u23 := kp_t u8 u20
  have v24 : q_V r17 = q_V δ := (u21).trans v9
  have v25 : q_R r17 = q_R δ := (u22).trans v10
  exact ⟨by assumption, ⟨kp_w (by decide) u23, v24, v25⟩⟩
set_option maxHeartbeats 4000000 in
theorem kl_X7_wordIs_20 {ad : List Nat} {h : hp} (L : Lay TLx ad h) {δ0 : dp} {N : Nat} (hN : 10000000 ≤ N) {a0 : Nat} {a1 : Nat} (k_a0 : q_K h.1 a0 = 7) : ∀ (n : Nat) (x2v : Int32) (δ : dp), CI ad h.1 δ0 δ → 0 ≤ (x2v).toInt → (x2v).toInt ≤ (tx_n a1 : Int) → (q_I δ 7 3 a0).toInt - (q_I δ 7 4 a0).toInt = (tx_n a1 : Int) → a1 < 16 → (tx_n a1 : Int) - (x2v).toInt < (n : Int) → ok (L_X7_wordIs_20 N h.1 a0 a1 n x2v δ) (fun r => r.2 = δ ∧ bo (r.1)) := by
  intro n
  induction n with
  | zero =>
    intro x2v δ I j0 j1 j2 j3 hm
    have f1 := ti_b x2v
    have f2 := cb_7_3 I k_a0
    have f3 := cb_7_4 I k_a0
    exfalso; omega
  | succ n ih =>
    intro x2v δ I j0 j1 j2 j3 hm
    unfold L_X7_wordIs_20
    have f1 := ti_b x2v
    have f2 := cb_7_3 I k_a0
    have f3 := cb_7_4 I k_a0
    refine ok_bind (k_J0_length_8abf5 L hN (a0 := a1) (show a1 < 16 by first | assumption | omega) I) (fun r4 hr5 => ?_)
    obtain ⟨i6, p7⟩ := hr5
    try rw [i6]
    have f8 := ti_b r4.1
    have f9 := ti_b r4.1
    refine ok_ite (fun h10 => ?_) (fun h10 => ?_)
    · have c11 : r4.1.toInt ≤ x2v.toInt := o_le h10
      refine ok_gp (by decide) ?_
      exact ok_some (show δ = δ ∧ bo ((1 : Int32)) from ⟨rfl, bo_1⟩)
    · have c12 : x2v.toInt < r4.1.toInt := o_nle h10
      obtain ⟨b13, o14, k15, n16, w17⟩ := gO_7_0 L k_a0
      refine ok_at o14 ?_
      first | (have q19 := te_add (q_I δ 7 4 a0) x2v (by omega) (by omega); obtain ⟨f20, f21, f22⟩ := q19) | (obtain ⟨q19, f20, f21, f22⟩ := ti_add (q_I δ 7 4 a0) x2v)
      have t23 := ti_tn ((q_I δ 7 4 a0) + x2v)
      refine ok_gd (fun hc24 => ?_) ?_
      · rcases hc24 with hc24 | hc24
        · have c25 : ((q_I δ 7 4 a0) + x2v).toInt < (0 : Int) := o_lt hc24
          omega
        · omega
      refine ok_bind (k_J0_charAt_5068e L hN (a0 := a1) (x1 := x2v) (show a1 < 16 by first | assumption | omega) (show 0 ≤ (x2v).toInt by first | assumption | omega) (show (x2v).toInt < (tx_n a1 : Int) by first | assumption | omega) I) (fun r26 hr27 => ?_)
      have i28 := hr27
      try rw [i28]
      have f29 := ti_b r26.1
      have f30 := ti_b (q_R δ b13 ((q_I δ 7 4 a0) + x2v).toNatClampNeg)
      refine ok_ite (fun h31 => ?_) (fun h31 => ?_)
      · have c32 : (q_R δ b13 ((q_I δ 7 4 a0) + x2v).toNatClampNeg).toInt = r26.1.toInt := o_eq h31
        refine ok_biv (fun vx33 e34 => ?_)
        first | (have q35 := te_addc (c := 1) (n := 1) rfl x2v (by omega) (by omega); rw [← e34] at q35; obtain ⟨f36, f37, f38⟩ := q35) | (obtain ⟨q35, f36, f37, f38⟩ : ∃ q : Int, vx33.toInt = x2v.toInt + (1 : Int) + 4294967296 * q ∧ -2147483648 ≤ vx33.toInt ∧ vx33.toInt ≤ 2147483647 := by rw [e34]; exact ti_addc (c := 1) (n := 1) rfl x2v)
        refine ok_mono (ih vx33 δ I (show 0 ≤ (vx33).toInt by first | assumption | omega) (show (vx33).toInt ≤ (tx_n a1 : Int) by first | assumption | omega) (show (q_I δ 7 3 a0).toInt - (q_I δ 7 4 a0).toInt = (tx_n a1 : Int) by first | assumption | omega) (show a1 < 16 by first | assumption | omega) (show (tx_n a1 : Int) - (vx33).toInt < _ by omega)) (fun r39 hr40 => ?_)
        obtain ⟨i41, p42⟩ := hr40
        have f43 := bo_t p42
        have f44 := ti_b r39.1
        exact ⟨by assumption, by first | assumption | omega⟩
      · have c45 : (q_R δ b13 ((q_I δ 7 4 a0) + x2v).toNatClampNeg).toInt ≠ r26.1.toInt := o_ne h31
        refine ok_gp (by decide) ?_
        exact ok_some (show δ = δ ∧ bo ((0 : Int32)) from ⟨rfl, bo_0⟩)
set_option maxHeartbeats 4000000 in
theorem k_X7_wordIs {ad : List Nat} {h : hp} (L : Lay TLx ad h) {δ0 : dp} {N : Nat} (hN : 10000000 ≤ N) {a0 : Nat} {a1 : Nat} (k_a0 : q_K h.1 a0 = 7) {δ : dp} (z0 : a1 < 16) (I : CI ad h.1 δ0 δ) : ok (D_X7_wordIs N h.1 a0 a1 δ) (fun r => r.2 = δ ∧ bo (r.1)) := by
  unfold D_X7_wordIs
  refine ok_bind (k_J0_length_8abf5 L hN (a0 := a1) (show a1 < 16 by first | assumption | omega) I) (fun r1 hr2 => ?_)
  obtain ⟨i3, p4⟩ := hr2
  try rw [i3]
  have f5 := ti_b r1.1
  have f6 := ti_b r1.1
  have f7 := cb_7_3 I k_a0
  have f8 := cb_7_4 I k_a0
  first | (have q10 := te_sub (q_I δ 7 3 a0) (q_I δ 7 4 a0) (by omega) (by omega); obtain ⟨f11, f12, f13⟩ := q10) | (obtain ⟨q10, f11, f12, f13⟩ := ti_sub (q_I δ 7 3 a0) (q_I δ 7 4 a0))
  refine ok_ite (fun h14 => ?_) (fun h14 => ?_)
  · have c15 : ((q_I δ 7 3 a0) - (q_I δ 7 4 a0)).toInt = r1.1.toInt := o_eq h14
    refine ok_mono (kl_X7_wordIs_20 L hN   k_a0 _ (0 : Int32) δ I (show 0 ≤ (0 : Int) by first | assumption | omega) (show (0 : Int) ≤ (tx_n a1 : Int) by first | assumption | omega) (show (q_I δ 7 3 a0).toInt - (q_I δ 7 4 a0).toInt = (tx_n a1 : Int) by first | assumption | omega) (show a1 < 16 by first | assumption | omega) (show (tx_n a1 : Int) - (0 : Int) < _ by omega)) (fun r16 hr17 => ?_)
    obtain ⟨i18, p19⟩ := hr17
    have f20 := bo_t p19
    have f21 := ti_b r16.1
    exact ⟨by assumption, by first | assumption | omega⟩
  · have c22 : ((q_I δ 7 3 a0) - (q_I δ 7 4 a0)).toInt ≠ r1.1.toInt := o_ne h14
    refine ok_gp (by decide) ?_
    exact ok_some (show δ = δ ∧ bo ((0 : Int32)) from ⟨rfl, bo_0⟩)
set_option maxHeartbeats 4000000 in
theorem kl_X7_readNumber_7 {ad : List Nat} {h : hp} (L : Lay TLx ad h) {δ0 : dp} {N : Nat} (hN : 10000000 ≤ N) {a0 : Nat} {x1 : Int32} {x2 : Int32} (k_a0 : q_K h.1 a0 = 7) : ∀ (n : Nat) (x3v : Int32) (δ : dp), CI ad h.1 δ0 δ → 0 ≤ (x3v).toInt → (x3v).toInt ≤ 1000000 → 501 - (q_I δ 7 3 a0).toInt < (n : Int) → ok (L_X7_readNumber_7 N h.1 a0 x1 x2 n x3v δ) (fun r => CI ad h.1 δ0 r.2 ∧ (kp [(7, 3), (7, 4), (7, 5), (7, 6)] δ r.2 ∧ q_V r.2 = q_V δ ∧ q_R r.2 = q_R δ) ∧ 0 ≤ (r.1).toInt ∧ (r.1).toInt ≤ 1000000 ∧ ((q_I δ 7 5 a0).toInt ≠ 0 → (q_I r.2 7 5 a0).toInt ≠ 0) ∧ ((q_I r.2 7 5 a0).toInt = 0 → (x1).toInt ≤ (r.1).toInt ∧ (r.1).toInt ≤ (x2).toInt)) := by
  intro n
  induction n with
  | zero =>
    intro x3v δ I j0 j1 hm
    have f1 := ti_b x3v
    have f2 := cb_7_3 I k_a0
    exfalso; omega
  | succ n ih =>
    intro x3v δ I j0 j1 hm
    unfold L_X7_readNumber_7
    have f1 := ti_b x3v
    have f2 := cb_7_3 I k_a0
    have f3 := cb_7_2 I k_a0
    refine ok_ite (fun h4 => ?_) (fun h4 => ?_)
    · have c5 : (q_I δ 7 2 a0).toInt ≤ (q_I δ 7 3 a0).toInt := o_le h4
      unfold J_X7_readNumber_82
      have f6 := cb_7_4 I k_a0
      refine ok_ite (fun h7 => ?_) (fun h7 => ?_)
      · have c8 : (q_I δ 7 3 a0).toInt = (q_I δ 7 4 a0).toInt := o_eq h7
        refine ok_bind (k_X7_refuse L hN (a0 := a0) (x1 := (1 : Int32)) k_a0 (show (1 : Int) ≠ 0 by first | assumption | omega) I) (fun r9 hr10 => ?_)
        obtain ⟨i11, ⟨u13, u14, u15⟩, p12⟩ := hr10
        have u16 := kp_t kp_r u13
        have v17 : q_V r9 = q_V δ := (u14).trans rfl
        have v18 : q_R r9 = q_R δ := (u15).trans rfl
        have f19 := ti_b (q_I r9 7 5 a0)
        unfold J_X7_readNumber_116
        have f20 := ti_b (q_I δ 7 5 a0)
        have f21 := ti_b x1
        have f22 := ti_b x2
        exact ok_some (show CI ad h.1 δ0 r9 ∧ (kp [(7, 3), (7, 4), (7, 5), (7, 6)] δ r9 ∧ q_V r9 = q_V δ ∧ q_R r9 = q_R δ) ∧ 0 ≤ (x3v).toInt ∧ (x3v).toInt ≤ 1000000 ∧ ((q_I δ 7 5 a0).toInt ≠ 0 → (q_I r9 7 5 a0).toInt ≠ 0) ∧ ((q_I r9 7 5 a0).toInt = 0 → (x1).toInt ≤ (x3v).toInt ∧ (x3v).toInt ≤ (x2).toInt) from ⟨i11, ⟨kp_w (by decide) u16, v17, v18⟩, by first | assumption | omega, by first | assumption | omega, by first | assumption | omega, by first | assumption | omega⟩)
      · have c23 : (q_I δ 7 3 a0).toInt ≠ (q_I δ 7 4 a0).toInt := o_ne h7
        have f24 := ti_b x1
        refine ok_ite (fun h25 => ?_) (fun h25 => ?_)
        · have c26 : x3v.toInt < x1.toInt := o_lt h25
          unfold J_X7_readNumber_111
          refine ok_bind (k_X7_refuse L hN (a0 := a0) (x1 := (2 : Int32)) k_a0 (show (2 : Int) ≠ 0 by first | assumption | omega) I) (fun r27 hr28 => ?_)
          obtain ⟨i29, ⟨u31, u32, u33⟩, p30⟩ := hr28
          have u34 := kp_t kp_r u31
          have v35 : q_V r27 = q_V δ := (u32).trans rfl
          have v36 : q_R r27 = q_R δ := (u33).trans rfl
          have f37 := ti_b (q_I r27 7 5 a0)
          unfold J_X7_readNumber_116
          have f38 := ti_b (q_I δ 7 5 a0)
          have f39 := ti_b x2
          exact ok_some (show CI ad h.1 δ0 r27 ∧ (kp [(7, 3), (7, 4), (7, 5), (7, 6)] δ r27 ∧ q_V r27 = q_V δ ∧ q_R r27 = q_R δ) ∧ 0 ≤ (x3v).toInt ∧ (x3v).toInt ≤ 1000000 ∧ ((q_I δ 7 5 a0).toInt ≠ 0 → (q_I r27 7 5 a0).toInt ≠ 0) ∧ ((q_I r27 7 5 a0).toInt = 0 → (x1).toInt ≤ (x3v).toInt ∧ (x3v).toInt ≤ (x2).toInt) from ⟨i29, ⟨kp_w (by decide) u34, v35, v36⟩, by first | assumption | omega, by first | assumption | omega, by first | assumption | omega, by first | assumption | omega⟩)
        · have c40 : x1.toInt ≤ x3v.toInt := o_nlt h25
          have f41 := ti_b x2
          refine ok_ite (fun h42 => ?_) (fun h42 => ?_)
          · have c43 : x3v.toInt ≤ x2.toInt := o_le h42
            unfold J_X7_readNumber_116
            have f44 := ti_b (q_I δ 7 5 a0)
            exact ok_some (show CI ad h.1 δ0 δ ∧ (kp [(7, 3), (7, 4), (7, 5), (7, 6)] δ δ ∧ q_V δ = q_V δ ∧ q_R δ = q_R δ) ∧ 0 ≤ (x3v).toInt ∧ (x3v).toInt ≤ 1000000 ∧ ((q_I δ 7 5 a0).toInt ≠ 0 → (q_I δ 7 5 a0).toInt ≠ 0) ∧ ((q_I δ 7 5 a0).toInt = 0 → (x1).toInt ≤ (x3v).toInt ∧ (x3v).toInt ≤ (x2).toInt) from ⟨I, ⟨kp_w (by decide) kp_r, rfl, rfl⟩, by first | assumption | omega, by first | assumption | omega, by first | assumption | omega, by first | assumption | omega⟩)
          · have c45 : x2.toInt < x3v.toInt := o_nle h42
            unfold J_X7_readNumber_111
            refine ok_bind (k_X7_refuse L hN (a0 := a0) (x1 := (2 : Int32)) k_a0 (show (2 : Int) ≠ 0 by first | assumption | omega) I) (fun r46 hr47 => ?_)
            obtain ⟨i48, ⟨u50, u51, u52⟩, p49⟩ := hr47
            have u53 := kp_t kp_r u50
            have v54 : q_V r46 = q_V δ := (u51).trans rfl
            have v55 : q_R r46 = q_R δ := (u52).trans rfl
            have f56 := ti_b (q_I r46 7 5 a0)
            unfold J_X7_readNumber_116
            have f57 := ti_b (q_I δ 7 5 a0)
            exact ok_some (show CI ad h.1 δ0 r46 ∧ (kp [(7, 3), (7, 4), (7, 5), (7, 6)] δ r46 ∧ q_V r46 = q_V δ ∧ q_R r46 = q_R δ) ∧ 0 ≤ (x3v).toInt ∧ (x3v).toInt ≤ 1000000 ∧ ((q_I δ 7 5 a0).toInt ≠ 0 → (q_I r46 7 5 a0).toInt ≠ 0) ∧ ((q_I r46 7 5 a0).toInt = 0 → (x1).toInt ≤ (x3v).toInt ∧ (x3v).toInt ≤ (x2).toInt) from ⟨i48, ⟨kp_w (by decide) u53, v54, v55⟩, by first | assumption | omega, by first | assumption | omega, by first | assumption | omega, by first | assumption | omega⟩)
    · have c58 : (q_I δ 7 3 a0).toInt < (q_I δ 7 2 a0).toInt := o_nle h4
      obtain ⟨b59, o60, k61, n62, w63⟩ := gO_7_0 L k_a0
      refine ok_at o60 ?_
      have t64 := ti_tn (q_I δ 7 3 a0)
      refine ok_gd (fun hc65 => ?_) ?_
      · rcases hc65 with hc65 | hc65
        · have c66 : (q_I δ 7 3 a0).toInt < (0 : Int) := o_lt hc65
          omega
        · omega
      have f67 := ti_b (q_R δ b59 (q_I δ 7 3 a0).toNatClampNeg)
      refine ok_ite (fun h68 => ?_) (fun h68 => ?_)
      · have c69 : (q_R δ b59 (q_I δ 7 3 a0).toNatClampNeg).toInt < (48 : Int) := o_lt h68
        unfold J_X7_readNumber_82
        have f70 := cb_7_4 I k_a0
        refine ok_ite (fun h71 => ?_) (fun h71 => ?_)
        · have c72 : (q_I δ 7 3 a0).toInt = (q_I δ 7 4 a0).toInt := o_eq h71
          refine ok_bind (k_X7_refuse L hN (a0 := a0) (x1 := (1 : Int32)) k_a0 (show (1 : Int) ≠ 0 by first | assumption | omega) I) (fun r73 hr74 => ?_)
          obtain ⟨i75, ⟨u77, u78, u79⟩, p76⟩ := hr74
          have u80 := kp_t kp_r u77
          have v81 : q_V r73 = q_V δ := (u78).trans rfl
          have v82 : q_R r73 = q_R δ := (u79).trans rfl
          have f83 := ti_b (q_I r73 7 5 a0)
          unfold J_X7_readNumber_116
          have f84 := ti_b (q_I δ 7 5 a0)
          have f85 := ti_b x1
          have f86 := ti_b x2
          exact ok_some (show CI ad h.1 δ0 r73 ∧ (kp [(7, 3), (7, 4), (7, 5), (7, 6)] δ r73 ∧ q_V r73 = q_V δ ∧ q_R r73 = q_R δ) ∧ 0 ≤ (x3v).toInt ∧ (x3v).toInt ≤ 1000000 ∧ ((q_I δ 7 5 a0).toInt ≠ 0 → (q_I r73 7 5 a0).toInt ≠ 0) ∧ ((q_I r73 7 5 a0).toInt = 0 → (x1).toInt ≤ (x3v).toInt ∧ (x3v).toInt ≤ (x2).toInt) from ⟨i75, ⟨kp_w (by decide) u80, v81, v82⟩, by first | assumption | omega, by first | assumption | omega, by first | assumption | omega, by first | assumption | omega⟩)
        · have c87 : (q_I δ 7 3 a0).toInt ≠ (q_I δ 7 4 a0).toInt := o_ne h71
          have f88 := ti_b x1
          refine ok_ite (fun h89 => ?_) (fun h89 => ?_)
          · have c90 : x3v.toInt < x1.toInt := o_lt h89
            unfold J_X7_readNumber_111
            refine ok_bind (k_X7_refuse L hN (a0 := a0) (x1 := (2 : Int32)) k_a0 (show (2 : Int) ≠ 0 by first | assumption | omega) I) (fun r91 hr92 => ?_)
            obtain ⟨i93, ⟨u95, u96, u97⟩, p94⟩ := hr92
            have u98 := kp_t kp_r u95
            have v99 : q_V r91 = q_V δ := (u96).trans rfl
            have v100 : q_R r91 = q_R δ := (u97).trans rfl
            have f101 := ti_b (q_I r91 7 5 a0)
            unfold J_X7_readNumber_116
            have f102 := ti_b (q_I δ 7 5 a0)
            have f103 := ti_b x2
            exact ok_some (show CI ad h.1 δ0 r91 ∧ (kp [(7, 3), (7, 4), (7, 5), (7, 6)] δ r91 ∧ q_V r91 = q_V δ ∧ q_R r91 = q_R δ) ∧ 0 ≤ (x3v).toInt ∧ (x3v).toInt ≤ 1000000 ∧ ((q_I δ 7 5 a0).toInt ≠ 0 → (q_I r91 7 5 a0).toInt ≠ 0) ∧ ((q_I r91 7 5 a0).toInt = 0 → (x1).toInt ≤ (x3v).toInt ∧ (x3v).toInt ≤ (x2).toInt) from ⟨i93, ⟨kp_w (by decide) u98, v99, v100⟩, by first | assumption | omega, by first | assumption | omega, by first | assumption | omega, by first | assumption | omega⟩)
          · have c104 : x1.toInt ≤ x3v.toInt := o_nlt h89
            have f105 := ti_b x2
            refine ok_ite (fun h106 => ?_) (fun h106 => ?_)
            · have c107 : x3v.toInt ≤ x2.toInt := o_le h106
              unfold J_X7_readNumber_116
              have f108 := ti_b (q_I δ 7 5 a0)
              exact ok_some (show CI ad h.1 δ0 δ ∧ (kp [(7, 3), (7, 4), (7, 5), (7, 6)] δ δ ∧ q_V δ = q_V δ ∧ q_R δ = q_R δ) ∧ 0 ≤ (x3v).toInt ∧ (x3v).toInt ≤ 1000000 ∧ ((q_I δ 7 5 a0).toInt ≠ 0 → (q_I δ 7 5 a0).toInt ≠ 0) ∧ ((q_I δ 7 5 a0).toInt = 0 → (x1).toInt ≤ (x3v).toInt ∧ (x3v).toInt ≤ (x2).toInt) from ⟨I, ⟨kp_w (by decide) kp_r, rfl, rfl⟩, by first | assumption | omega, by first | assumption | omega, by first | assumption | omega, by first | assumption | omega⟩)
            · have c109 : x2.toInt < x3v.toInt := o_nle h106
              unfold J_X7_readNumber_111
              refine ok_bind (k_X7_refuse L hN (a0 := a0) (x1 := (2 : Int32)) k_a0 (show (2 : Int) ≠ 0 by first | assumption | omega) I) (fun r110 hr111 => ?_)
              obtain ⟨i112, ⟨u114, u115, u116⟩, p113⟩ := hr111
              have u117 := kp_t kp_r u114
              have v118 : q_V r110 = q_V δ := (u115).trans rfl
              have v119 : q_R r110 = q_R δ := (u116).trans rfl
              have f120 := ti_b (q_I r110 7 5 a0)
              unfold J_X7_readNumber_116
              have f121 := ti_b (q_I δ 7 5 a0)
              exact ok_some (show CI ad h.1 δ0 r110 ∧ (kp [(7, 3), (7, 4), (7, 5), (7, 6)] δ r110 ∧ q_V r110 = q_V δ ∧ q_R r110 = q_R δ) ∧ 0 ≤ (x3v).toInt ∧ (x3v).toInt ≤ 1000000 ∧ ((q_I δ 7 5 a0).toInt ≠ 0 → (q_I r110 7 5 a0).toInt ≠ 0) ∧ ((q_I r110 7 5 a0).toInt = 0 → (x1).toInt ≤ (x3v).toInt ∧ (x3v).toInt ≤ (x2).toInt) from ⟨i112, ⟨kp_w (by decide) u117, v118, v119⟩, by first | assumption | omega, by first | assumption | omega, by first | assumption | omega, by first | assumption | omega⟩)
      · have c122 : (48 : Int) ≤ (q_R δ b59 (q_I δ 7 3 a0).toNatClampNeg).toInt := o_nlt h68
        refine ok_at o60 ?_
        refine ok_gd (fun hc123 => ?_) ?_
        · rcases hc123 with hc123 | hc123
          · have c124 : (q_I δ 7 3 a0).toInt < (0 : Int) := o_lt hc123
            omega
          · omega
        refine ok_ite (fun h125 => ?_) (fun h125 => ?_)
        · have c126 : (57 : Int) < (q_R δ b59 (q_I δ 7 3 a0).toNatClampNeg).toInt := o_lt h125
          unfold J_X7_readNumber_82
          have f127 := cb_7_4 I k_a0
          refine ok_ite (fun h128 => ?_) (fun h128 => ?_)
          · have c129 : (q_I δ 7 3 a0).toInt = (q_I δ 7 4 a0).toInt := o_eq h128
            refine ok_bind (k_X7_refuse L hN (a0 := a0) (x1 := (1 : Int32)) k_a0 (show (1 : Int) ≠ 0 by first | assumption | omega) I) (fun r130 hr131 => ?_)
            obtain ⟨i132, ⟨u134, u135, u136⟩, p133⟩ := hr131
            have u137 := kp_t kp_r u134
            have v138 : q_V r130 = q_V δ := (u135).trans rfl
            have v139 : q_R r130 = q_R δ := (u136).trans rfl
            have f140 := ti_b (q_I r130 7 5 a0)
            unfold J_X7_readNumber_116
            have f141 := ti_b (q_I δ 7 5 a0)
            have f142 := ti_b x1
            have f143 := ti_b x2
            exact ok_some (show CI ad h.1 δ0 r130 ∧ (kp [(7, 3), (7, 4), (7, 5), (7, 6)] δ r130 ∧ q_V r130 = q_V δ ∧ q_R r130 = q_R δ) ∧ 0 ≤ (x3v).toInt ∧ (x3v).toInt ≤ 1000000 ∧ ((q_I δ 7 5 a0).toInt ≠ 0 → (q_I r130 7 5 a0).toInt ≠ 0) ∧ ((q_I r130 7 5 a0).toInt = 0 → (x1).toInt ≤ (x3v).toInt ∧ (x3v).toInt ≤ (x2).toInt) from ⟨i132, ⟨kp_w (by decide) u137, v138, v139⟩, by first | assumption | omega, by first | assumption | omega, by first | assumption | omega, by first | assumption | omega⟩)
          · have c144 : (q_I δ 7 3 a0).toInt ≠ (q_I δ 7 4 a0).toInt := o_ne h128
            have f145 := ti_b x1
            refine ok_ite (fun h146 => ?_) (fun h146 => ?_)
            · have c147 : x3v.toInt < x1.toInt := o_lt h146
              unfold J_X7_readNumber_111
              refine ok_bind (k_X7_refuse L hN (a0 := a0) (x1 := (2 : Int32)) k_a0 (show (2 : Int) ≠ 0 by first | assumption | omega) I) (fun r148 hr149 => ?_)
              obtain ⟨i150, ⟨u152, u153, u154⟩, p151⟩ := hr149
              have u155 := kp_t kp_r u152
              have v156 : q_V r148 = q_V δ := (u153).trans rfl
              have v157 : q_R r148 = q_R δ := (u154).trans rfl
              have f158 := ti_b (q_I r148 7 5 a0)
              unfold J_X7_readNumber_116
              have f159 := ti_b (q_I δ 7 5 a0)
              have f160 := ti_b x2
              exact ok_some (show CI ad h.1 δ0 r148 ∧ (kp [(7, 3), (7, 4), (7, 5), (7, 6)] δ r148 ∧ q_V r148 = q_V δ ∧ q_R r148 = q_R δ) ∧ 0 ≤ (x3v).toInt ∧ (x3v).toInt ≤ 1000000 ∧ ((q_I δ 7 5 a0).toInt ≠ 0 → (q_I r148 7 5 a0).toInt ≠ 0) ∧ ((q_I r148 7 5 a0).toInt = 0 → (x1).toInt ≤ (x3v).toInt ∧ (x3v).toInt ≤ (x2).toInt) from ⟨i150, ⟨kp_w (by decide) u155, v156, v157⟩, by first | assumption | omega, by first | assumption | omega, by first | assumption | omega, by first | assumption | omega⟩)
            · have c161 : x1.toInt ≤ x3v.toInt := o_nlt h146
              have f162 := ti_b x2
              refine ok_ite (fun h163 => ?_) (fun h163 => ?_)
              · have c164 : x3v.toInt ≤ x2.toInt := o_le h163
                unfold J_X7_readNumber_116
                have f165 := ti_b (q_I δ 7 5 a0)
                exact ok_some (show CI ad h.1 δ0 δ ∧ (kp [(7, 3), (7, 4), (7, 5), (7, 6)] δ δ ∧ q_V δ = q_V δ ∧ q_R δ = q_R δ) ∧ 0 ≤ (x3v).toInt ∧ (x3v).toInt ≤ 1000000 ∧ ((q_I δ 7 5 a0).toInt ≠ 0 → (q_I δ 7 5 a0).toInt ≠ 0) ∧ ((q_I δ 7 5 a0).toInt = 0 → (x1).toInt ≤ (x3v).toInt ∧ (x3v).toInt ≤ (x2).toInt) from ⟨I, ⟨kp_w (by decide) kp_r, rfl, rfl⟩, by first | assumption | omega, by first | assumption | omega, by first | assumption | omega, by first | assumption | omega⟩)
              · have c166 : x2.toInt < x3v.toInt := o_nle h163
                unfold J_X7_readNumber_111
                refine ok_bind (k_X7_refuse L hN (a0 := a0) (x1 := (2 : Int32)) k_a0 (show (2 : Int) ≠ 0 by first | assumption | omega) I) (fun r167 hr168 => ?_)
                obtain ⟨i169, ⟨u171, u172, u173⟩, p170⟩ := hr168
                have u174 := kp_t kp_r u171
                have v175 : q_V r167 = q_V δ := (u172).trans rfl
                have v176 : q_R r167 = q_R δ := (u173).trans rfl
                have f177 := ti_b (q_I r167 7 5 a0)
                unfold J_X7_readNumber_116
                have f178 := ti_b (q_I δ 7 5 a0)
                exact ok_some (show CI ad h.1 δ0 r167 ∧ (kp [(7, 3), (7, 4), (7, 5), (7, 6)] δ r167 ∧ q_V r167 = q_V δ ∧ q_R r167 = q_R δ) ∧ 0 ≤ (x3v).toInt ∧ (x3v).toInt ≤ 1000000 ∧ ((q_I δ 7 5 a0).toInt ≠ 0 → (q_I r167 7 5 a0).toInt ≠ 0) ∧ ((q_I r167 7 5 a0).toInt = 0 → (x1).toInt ≤ (x3v).toInt ∧ (x3v).toInt ≤ (x2).toInt) from ⟨i169, ⟨kp_w (by decide) u174, v175, v176⟩, by first | assumption | omega, by first | assumption | omega, by first | assumption | omega, by first | assumption | omega⟩)
        · have c179 : (q_R δ b59 (q_I δ 7 3 a0).toNatClampNeg).toInt ≤ (57 : Int) := o_nlt h125
          refine ok_at o60 ?_
          refine ok_gd (fun hc180 => ?_) ?_
          · rcases hc180 with hc180 | hc180
            · have c181 : (q_I δ 7 3 a0).toInt < (0 : Int) := o_lt hc180
              omega
            · omega
          refine ok_bind (k_J9_min_7cf53 L hN (x0 := (((x3v * (10 : Int32)) + (q_R δ b59 (q_I δ 7 3 a0).toNatClampNeg)) - (48 : Int32))) (x1 := (1000000 : Int32))  I) (fun r182 hr183 => ?_)
          obtain ⟨i184, p185, p186, p187⟩ := hr183
          try rw [i184]
          have f188 := ti_b r182.1
          first | (have q190 := te_mulr (c := 10) (n := 10) rfl x3v (by omega) (by omega); obtain ⟨f191, f192, f193⟩ := q190) | (obtain ⟨q190, f191, f192, f193⟩ := ti_mulr (c := 10) (n := 10) rfl x3v)
          first | (have q195 := te_add (x3v * (10 : Int32)) (q_R δ b59 (q_I δ 7 3 a0).toNatClampNeg) (by omega) (by omega); obtain ⟨f196, f197, f198⟩ := q195) | (obtain ⟨q195, f196, f197, f198⟩ := ti_add (x3v * (10 : Int32)) (q_R δ b59 (q_I δ 7 3 a0).toNatClampNeg))
          first | (have q200 := te_subc (c := 48) (n := 48) rfl ((x3v * (10 : Int32)) + (q_R δ b59 (q_I δ 7 3 a0).toNatClampNeg)) (by omega) (by omega); obtain ⟨f201, f202, f203⟩ := q200) | (obtain ⟨q200, f201, f202, f203⟩ := ti_subc (c := 48) (n := 48) rfl ((x3v * (10 : Int32)) + (q_R δ b59 (q_I δ 7 3 a0).toNatClampNeg)))
          replace p186 : (r182.1).toInt ≤ (1000000 : Int) := p186
          replace p187 : ((r182.1).toInt = ((((x3v * (10 : Int32)) + (q_R δ b59 (q_I δ 7 3 a0).toNatClampNeg)) - (48 : Int32))).toInt ∨ (r182.1).toInt = (1000000 : Int)) := p187
          have f204 := ti_b r182.1
          first | (have q209 := te_addc (c := 1) (n := 1) rfl (q_I δ 7 3 a0) (by omega) (by omega); obtain ⟨f210, f211, f212⟩ := q209) | (obtain ⟨q209, f210, f211, f212⟩ := ti_addc (c := 1) (n := 1) rfl (q_I δ 7 3 a0))
          refine ok_bdv (fun d205 e206 => ?_)
          have i207 : CI ad h.1 δ0 d205 := by rw [e206]; exact cs_7_3 L I k_a0 (show 0 ≤ ((q_I δ 7 3 a0) + (1 : Int32)).toInt by omega) (show ((q_I δ 7 3 a0) + (1 : Int32)).toInt ≤ 500 by omega)
          have u213 := kp_I kp_r e206
          have v214 : q_V d205 = q_V δ := ((show q_V d205 = q_V δ by rw [e206]; rfl)).trans rfl
          have v215 : q_R d205 = q_R δ := ((show q_R d205 = q_R δ by rw [e206]; rfl)).trans rfl
          have f216 := cb_7_3 i207 k_a0
          have f217 : (q_I d205 7 3 a0).toInt = ((q_I δ 7 3 a0) + (1 : Int32)).toInt := congrArg Int32.toInt (show q_I d205 7 3 a0 = ((q_I δ 7 3 a0) + (1 : Int32)) by rw [e206]; exact rI_s)
          refine ok_mono (ih r182.1 d205 i207 (show 0 ≤ (r182.1).toInt by first | assumption | omega) (show (r182.1).toInt ≤ 1000000 by first | assumption | omega) (show 501 - (q_I d205 7 3 a0).toInt < _ by omega)) (fun r218 hr219 => ?_)
          obtain ⟨i220, ⟨u225, u226, u227⟩, p221, p222, p223, p224⟩ := hr219
          have u228 := kp_t u213 u225
          have v229 : q_V r218.2 = q_V δ := (u226).trans v214
          have v230 : q_R r218.2 = q_R δ := (u227).trans v215
          have f231 := ti_b r218.1
          have f232 := ti_b (q_I d205 7 5 a0)
          have f233 : (q_I d205 7 5 a0).toInt = (q_I δ 7 5 a0).toInt := congrArg Int32.toInt (by rw [e206]; exact rI_o (by decide))
          have f234 := ti_b (q_I δ 7 5 a0)
          have f235 := ti_b (q_I r218.2 7 5 a0)
          have f236 := ti_b x1
          have f237 := ti_b x2
          have f238 := ti_b r218.1
          exact ⟨by assumption, ⟨kp_w (by decide) u228, v229, v230⟩, by first | assumption | omega, by first | assumption | omega, by first | assumption | omega, by first | assumption | omega⟩
set_option maxHeartbeats 4000000 in
theorem k_X7_readNumber {ad : List Nat} {h : hp} (L : Lay TLx ad h) {δ0 : dp} {N : Nat} (hN : 10000000 ≤ N) {a0 : Nat} {x1 : Int32} {x2 : Int32} (k_a0 : q_K h.1 a0 = 7) {δ : dp} (I : CI ad h.1 δ0 δ) : ok (D_X7_readNumber N h.1 a0 x1 x2 δ) (fun r => CI ad h.1 δ0 r.2 ∧ (kp [(7, 3), (7, 4), (7, 5), (7, 6)] δ r.2 ∧ q_V r.2 = q_V δ ∧ q_R r.2 = q_R δ) ∧ 0 ≤ (r.1).toInt ∧ (r.1).toInt ≤ 1000000 ∧ ((q_I δ 7 5 a0).toInt ≠ 0 → (q_I r.2 7 5 a0).toInt ≠ 0) ∧ ((q_I r.2 7 5 a0).toInt = 0 → (x1).toInt ≤ (r.1).toInt ∧ (r.1).toInt ≤ (x2).toInt)) := by
  unfold D_X7_readNumber
  refine ok_bind (k_X7_ahead L hN (a0 := a0) k_a0 I) (fun r1 hr2 => ?_)
  obtain ⟨i3, ⟨u5, u6, u7⟩, p4⟩ := hr2
  have u8 := kp_t kp_r u5
  have v9 : q_V r1.2 = q_V δ := (u6).trans rfl
  have v10 : q_R r1.2 = q_R δ := (u7).trans rfl
  have f11 := ti_b r1.1
  have f12 := cb_7_3 i3 k_a0
  have f13 := cb_7_2 i3 k_a0
  have f14 : (q_I r1.2 7 2 a0).toInt = (q_I δ 7 2 a0).toInt := congrArg Int32.toInt (u5 7 2 a0 (by decide))
  have f15 := cb_7_2 I k_a0
  have f16 := ti_b r1.1
  refine ok_mono (kl_X7_readNumber_7 L hN   k_a0 _ (0 : Int32) r1.2 i3 (show 0 ≤ (0 : Int) by first | assumption | omega) (show (0 : Int) ≤ 1000000 by first | assumption | omega) (show 501 - (q_I r1.2 7 3 a0).toInt < _ by omega)) (fun r17 hr18 => ?_)
  obtain ⟨i19, ⟨u24, u25, u26⟩, p20, p21, p22, p23⟩ := hr18
  have u27 := kp_t u8 u24
  have v28 : q_V r17.2 = q_V δ := (u25).trans v9
  have v29 : q_R r17.2 = q_R δ := (u26).trans v10
  have f30 := ti_b r17.1
  have f31 := ti_b (q_I r1.2 7 5 a0)
  have f32 : (q_I r1.2 7 5 a0).toInt = (q_I δ 7 5 a0).toInt := congrArg Int32.toInt (u5 7 5 a0 (by decide))
  have f33 := ti_b (q_I δ 7 5 a0)
  have f34 := ti_b (q_I r17.2 7 5 a0)
  have f35 := ti_b x1
  have f36 := ti_b x2
  have f37 := ti_b r17.1
  exact ⟨by assumption, ⟨kp_w (by decide) u27, v28, v29⟩, by first | assumption | omega, by first | assumption | omega, by first | assumption | omega, by first | assumption | omega⟩
