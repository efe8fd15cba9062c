/-! 56.kX7 (by gen_safe.py) -/
set_option maxHeartbeats 4000000 in
theorem k_X7_hasPlace {ad : List Nat} {h : hp} (L : Lay TLx ad h) {δ0 : dp} {N : Nat} (hN : 10000000 ≤ N) {a0 : Nat} (k_a0 : q_K h.1 a0 = 7) {δ : dp} (I : CI ad h.1 δ0 δ) : ok (D_X7_hasPlace N h.1 a0 δ) (fun r => r.2 = δ ∧ bo (r.1) ∧ (r.1).toInt = 0 ∨ (q_I δ 7 1 a0).toInt + 20 ≤ 500) := by
  unfold D_X7_hasPlace
  have f1 : (500 : Int32).toInt = 500 := rfl
  have f2 := cb_7_1 I k_a0
  have f3 : (20 : Int32).toInt = 20 := rfl
  obtain ⟨q4, f5, f6, f7⟩ := ti_add (q_I δ 7 1 a0) (20 : Int32)
  refine ok_ite (fun h8 => ?_) (fun h8 => ?_)
  · have c9 := o_lt h8
    unfold J_X7_hasPlace_18
    refine ok_gp (by decide) ?_
    have f10 : (0 : Int32).toInt = 0 := rfl
    exact ok_some (show δ = δ ∧ bo ((0 : Int32)) ∧ ((0 : Int32)).toInt = 0 ∨ (q_I δ 7 1 a0).toInt + 20 ≤ 500 from ⟨rfl, bo_0, by first | omega | assumption⟩)
  · have c11 := o_nlt h8
    unfold J_X7_hasPlace_18
    refine ok_gp (by decide) ?_
    have f12 : (1 : Int32).toInt = 1 := rfl
    exact ok_some (show δ = δ ∧ bo ((1 : Int32)) ∧ ((1 : Int32)).toInt = 0 ∨ (q_I δ 7 1 a0).toInt + 20 ≤ 500 from ⟨rfl, bo_1, by first | omega | assumption⟩)
set_option maxHeartbeats 4000000 in
theorem kl_X7_take_3 {ad : List Nat} {h : hp} (L : Lay TLx ad h) {δ0 : dp} {N : Nat} (hN : 10000000 ≤ N) {a0 : Nat} {x1 : Int32} (k_a0 : q_K h.1 a0 = 7) : ∀ (n : Nat) (x2v : Int32) (δ : dp), CI ad h.1 δ0 δ → -8 ≤ (x2v).toInt → (x2v).toInt ≤ 24 → (x2v).toInt + 8 < (n : Int) → ok (L_X7_take_3 N h.1 a0 x1 n x2v δ) (fun r => CI ad h.1 δ0 r ∧ (kp [(7, 1)] δ r ∧ q_V r = q_V δ)) := by
  intro n
  induction n with
  | zero =>
    intro x2v δ I j0 j1 hm
    have f1 := ti_b x2v
    exfalso; omega
  | succ n ih =>
    intro x2v δ I j0 j1 hm
    unfold L_X7_take_3
    have f1 := ti_b x2v
    have f2 : (0 : Int32).toInt = 0 := rfl
    refine ok_ite (fun h3 => ?_) (fun h3 => ?_)
    · have c4 := o_lt h3
      unfold J_X7_take_49
      exact ok_some (show CI ad h.1 δ0 δ ∧ (kp [(7, 1)] δ δ ∧ q_V δ = q_V δ) from ⟨I, ⟨kp_w (by decide) kp_r, rfl⟩⟩)
    · have c5 := o_nlt h3
      have f6 : (500 : Int32).toInt = 500 := rfl
      have f7 := cb_7_1 I k_a0
      refine ok_ite (fun h8 => ?_) (fun h8 => ?_)
      · have c9 := o_le h8
        unfold J_X7_take_49
        exact ok_some (show CI ad h.1 δ0 δ ∧ (kp [(7, 1)] δ δ ∧ q_V δ = q_V δ) from ⟨I, ⟨kp_w (by decide) kp_r, rfl⟩⟩)
      · have c10 := o_nle h8
        obtain ⟨b11, o12, k13, n14, w15⟩ := gO_7_0 L k_a0
        refine ok_at o12 ?_
        have t16 := ti_tn (q_I δ 7 1 a0)
        refine ok_gd (fun hc17 => ?_) ?_
        · rcases hc17 with hc17 | hc17
          · have c18 := o_lt hc17
            omega
          · omega
        refine ok_bdv (fun d19 e20 => ?_)
        have i21 : CI ad h.1 δ0 d19 := by rw [e20]; exact CI.sR L I w15
        have u22 := kp_N kp_r (show q_I d19 = q_I δ by rw [e20]; rfl)
        have v23 : q_V d19 = q_V δ := (show q_V d19 = q_V δ by rw [e20]; rfl).trans rfl
        have f27 := cb_7_1 i21 k_a0
        have f28 : (q_I d19 7 1 a0).toInt = (q_I δ 7 1 a0).toInt := congrArg Int32.toInt (by rw [e20]; rfl)
        have f29 : (1 : Int32).toInt = 1 := rfl
        obtain ⟨q30, f31, f32, f33⟩ := ti_add (q_I d19 7 1 a0) (1 : Int32)
        refine ok_bdv (fun d24 e25 => ?_)
        have i26 : CI ad h.1 δ0 d24 := by rw [e25]; exact cs_7_1 L i21 k_a0 (by omega) (by omega)
        have u34 := kp_I u22 e25
        have v35 : q_V d24 = q_V δ := (show q_V d24 = q_V d19 by rw [e25]; rfl).trans v23
        have f38 : (-8 : Int32).toInt = -8 := rfl
        obtain ⟨q39, f40, f41, f42⟩ := ti_add x2v (-8 : Int32)
        refine ok_biv (fun vx36 e37 => ?_)
        have f43 := congrArg Int32.toInt e37
        refine ok_mono (ih vx36 d24 i26 (show -8 ≤ (vx36).toInt by first | omega | assumption) (show (vx36).toInt ≤ 24 by first | omega | assumption) (show (vx36).toInt + 8 < _ by omega)) (fun r44 hr45 => ?_)
        obtain ⟨i46, ⟨u47, v48⟩⟩ := hr45
        have u49 := kp_t u34 u47
        have v50 := v48.trans v35
        exact ⟨by assumption, ⟨kp_w (by decide) u49, v50⟩⟩
set_option maxHeartbeats 4000000 in
theorem k_X7_take {ad : List Nat} {h : hp} (L : Lay TLx ad h) {δ0 : dp} {N : Nat} (hN : 10000000 ≤ N) {a0 : Nat} {x1 : Int32} (k_a0 : q_K h.1 a0 = 7) {δ : dp} (I : CI ad h.1 δ0 δ) : ok (D_X7_take N h.1 a0 x1 δ) (fun r => CI ad h.1 δ0 r ∧ (kp [(7, 1)] δ r ∧ q_V r = q_V δ)) := by
  unfold D_X7_take
  have f1 : (24 : Int32).toInt = 24 := rfl
  refine ok_mono (kl_X7_take_3 L hN k_a0 _ (24 : Int32) δ I (show -8 ≤ ((24 : Int32)).toInt by first | omega | assumption) (show ((24 : Int32)).toInt ≤ 24 by first | omega | assumption) (show ((24 : Int32)).toInt + 8 < _ by omega)) (fun r2 hr3 => ?_)
  obtain ⟨i4, ⟨u5, v6⟩⟩ := hr3
  have u7 := kp_t kp_r u5
  have v8 := v6.trans rfl
  exact ⟨by assumption, ⟨kp_w (by decide) u7, v8⟩⟩
set_option maxHeartbeats 4000000 in
theorem k_X7_open {ad : List Nat} {h : hp} (L : Lay TLx ad h) {δ0 : dp} {N : Nat} (hN : 10000000 ≤ N) {a0 : Nat} {x1 : Int32} (k_a0 : q_K h.1 a0 = 7) {δ : dp} (z0 : 0 ≤ (x1).toInt) (z1 : (x1).toInt ≤ 500) (I : CI ad h.1 δ0 δ) : ok (D_X7_open N h.1 a0 x1 δ) (fun r => CI ad h.1 δ0 r ∧ (kp [(7, 1), (7, 2), (7, 3), (7, 4), (7, 5)] δ r ∧ q_V r = q_V δ) ∧ (q_I r 7 5 a0).toInt = 0) := by
  unfold D_X7_open
  have f4 : (0 : Int32).toInt = 0 := rfl
  refine ok_bdv (fun d1 e2 => ?_)
  have i3 : CI ad h.1 δ0 d1 := by rw [e2]; exact cs_7_1 L I k_a0 (by omega) (by omega)
  have u5 := kp_I kp_r e2
  have v6 : q_V d1 = q_V δ := (show q_V d1 = q_V δ by rw [e2]; rfl).trans rfl
  have f10 := ti_b x1
  refine ok_bdv (fun d7 e8 => ?_)
  have i9 : CI ad h.1 δ0 d7 := by rw [e8]; exact cs_7_2 L i3 k_a0 (by omega) (by omega)
  have u11 := kp_I u5 e8
  have v12 : q_V d7 = q_V δ := (show q_V d7 = q_V d1 by rw [e8]; rfl).trans v6
  refine ok_bdv (fun d13 e14 => ?_)
  have i15 : CI ad h.1 δ0 d13 := by rw [e14]; exact cs_7_3 L i9 k_a0 (by omega) (by omega)
  have u16 := kp_I u11 e14
  have v17 : q_V d13 = q_V δ := (show q_V d13 = q_V d7 by rw [e14]; rfl).trans v12
  refine ok_bdv (fun d18 e19 => ?_)
  have i20 : CI ad h.1 δ0 d18 := by rw [e19]; exact cs_7_4 L i15 k_a0 (by omega) (by omega)
  have u21 := kp_I u16 e19
  have v22 : q_V d18 = q_V δ := (show q_V d18 = q_V d13 by rw [e19]; rfl).trans v17
  refine ok_bdv (fun d23 e24 => ?_)
  have i25 : CI ad h.1 δ0 d23 := by rw [e24]; exact cs_7_5 L i20
  have u26 := kp_I u21 e24
  have v27 : q_V d23 = q_V δ := (show q_V d23 = q_V d18 by rw [e24]; rfl).trans v22
  have f28 := ti_b (q_I d23 7 5 a0)
  have f29 : (q_I d23 7 5 a0).toInt = ((0 : Int32) : Int32).toInt := congrArg Int32.toInt (by rw [e24]; exact rI_s)
  have f30 : (0 : Int32).toInt = 0 := rfl
  exact ok_some (show CI ad h.1 δ0 d23 ∧ (kp [(7, 1), (7, 2), (7, 3), (7, 4), (7, 5)] δ d23 ∧ q_V d23 = q_V δ) ∧ (q_I d23 7 5 a0).toInt = 0 from ⟨i25, ⟨kp_w (by decide) u26, v27⟩, by first | omega | assumption⟩)
set_option maxHeartbeats 4000000 in
theorem k_X7_isSound {ad : List Nat} {h : hp} (L : Lay TLx ad h) {δ0 : dp} {N : Nat} (hN : 10000000 ≤ N) {a0 : Nat} (k_a0 : q_K h.1 a0 = 7) {δ : dp} (I : CI ad h.1 δ0 δ) : ok (D_X7_isSound N h.1 a0 δ) (fun r => r.2 = δ ∧ bo (r.1) ∧ (r.1).toInt = 1 → (q_I δ 7 5 a0).toInt = 0 ∧ (r.1).toInt = 0 → (q_I δ 7 5 a0).toInt ≠ 0) := by
  unfold D_X7_isSound
  have f1 := ti_b (q_I δ 7 5 a0)
  have f2 : (0 : Int32).toInt = 0 := rfl
  refine ok_ite (fun h3 => ?_) (fun h3 => ?_)
  · have c4 := o_eq h3
    unfold J_X7_isSound_12
    refine ok_gp (by decide) ?_
    have f5 : (1 : Int32).toInt = 1 := rfl
    exact ok_some (show δ = δ ∧ bo ((1 : Int32)) ∧ ((1 : Int32)).toInt = 1 → (q_I δ 7 5 a0).toInt = 0 ∧ ((1 : Int32)).toInt = 0 → (q_I δ 7 5 a0).toInt ≠ 0 from ⟨rfl, bo_1, by first | omega | assumption, by first | omega | assumption⟩)
  · have c6 := o_ne h3
    unfold J_X7_isSound_12
    refine ok_gp (by decide) ?_
    have f7 : (0 : Int32).toInt = 0 := rfl
    exact ok_some (show δ = δ ∧ bo ((0 : Int32)) ∧ ((0 : Int32)).toInt = 1 → (q_I δ 7 5 a0).toInt = 0 ∧ ((0 : Int32)).toInt = 0 → (q_I δ 7 5 a0).toInt ≠ 0 from ⟨rfl, bo_0, by first | omega | assumption, by first | omega | assumption⟩)
set_option maxHeartbeats 4000000 in
theorem k_X7_refuse {ad : List Nat} {h : hp} (L : Lay TLx ad h) {δ0 : dp} {N : Nat} (hN : 10000000 ≤ N) {a0 : Nat} {x1 : Int32} (k_a0 : q_K h.1 a0 = 7) {δ : dp} (z0 : (x1).toInt ≠ 0) (I : CI ad h.1 δ0 δ) : ok (D_X7_refuse N h.1 a0 x1 δ) (fun r => CI ad h.1 δ0 r ∧ (kp [(7, 5), (7, 6)] δ r ∧ q_V r = q_V δ) ∧ (q_I r 7 5 a0).toInt ≠ 0) := by
  unfold D_X7_refuse
  have f1 := ti_b (q_I δ 7 5 a0)
  have f2 : (0 : Int32).toInt = 0 := rfl
  refine ok_ite (fun h3 => ?_) (fun h3 => ?_)
  · have c4 := o_eq h3
    have f8 := ti_b x1
    refine ok_bdv (fun d5 e6 => ?_)
    have i7 : CI ad h.1 δ0 d5 := by rw [e6]; exact cs_7_5 L I
    have u9 := kp_I kp_r e6
    have v10 : q_V d5 = q_V δ := (show q_V d5 = q_V δ by rw [e6]; rfl).trans rfl
    have f14 := cb_7_4 i7 k_a0
    have f15 : (q_I d5 7 4 a0).toInt = (q_I δ 7 4 a0).toInt := congrArg Int32.toInt (by rw [e6]; exact rI_o (by decide))
    have f16 := cb_7_4 I k_a0
    refine ok_bdv (fun d11 e12 => ?_)
    have i13 : CI ad h.1 δ0 d11 := by rw [e12]; exact cs_7_6 L i7
    have u17 := kp_I u9 e12
    have v18 : q_V d11 = q_V δ := (show q_V d11 = q_V d5 by rw [e12]; rfl).trans v10
    unfold J_X7_refuse_20
    have f19 := ti_b (q_I d11 7 5 a0)
    have f20 : (q_I d11 7 5 a0).toInt = (q_I d5 7 5 a0).toInt := congrArg Int32.toInt (by rw [e12]; exact rI_o (by decide))
    have f21 := ti_b (q_I d5 7 5 a0)
    have f22 : (q_I d5 7 5 a0).toInt = (x1 : Int32).toInt := congrArg Int32.toInt (by rw [e6]; exact rI_s)
    exact ok_some (show CI ad h.1 δ0 d11 ∧ (kp [(7, 5), (7, 6)] δ d11 ∧ q_V d11 = q_V δ) ∧ (q_I d11 7 5 a0).toInt ≠ 0 from ⟨i13, ⟨kp_w (by decide) u17, v18⟩, by first | omega | assumption⟩)
  · have c23 := o_ne h3
    unfold J_X7_refuse_20
    exact ok_some (show CI ad h.1 δ0 δ ∧ (kp [(7, 5), (7, 6)] δ δ ∧ q_V δ = q_V δ) ∧ (q_I δ 7 5 a0).toInt ≠ 0 from ⟨I, ⟨kp_w (by decide) kp_r, rfl⟩, by first | omega | assumption⟩)
set_option maxHeartbeats 4000000 in
theorem kl_X7_ahead_0 {ad : List Nat} {h : hp} (L : Lay TLx ad h) {δ0 : dp} {N : Nat} (hN : 10000000 ≤ N) {a0 : Nat} (k_a0 : q_K h.1 a0 = 7) : ∀ (n : Nat) (δ : dp), CI ad h.1 δ0 δ → 501 - (q_I δ 7 3 a0).toInt < (n : Int) → ok (L_X7_ahead_0 N h.1 a0 n δ) (fun r => CI ad h.1 δ0 r.2 ∧ (kp [(7, 3), (7, 4)] δ r.2 ∧ q_V r.2 = q_V δ)) := by
  intro n
  induction n with
  | zero =>
    intro δ I hm
    have f1 := cb_7_3 I k_a0
    exfalso; omega
  | succ n ih =>
    intro δ I hm
    unfold L_X7_ahead_0
    have f1 := cb_7_3 I k_a0
    have f2 := cb_7_2 I k_a0
    refine ok_ite (fun h3 => ?_) (fun h3 => ?_)
    · have c4 := o_le h3
      unfold J_X7_ahead_38
      refine ok_bdv (fun d5 e6 => ?_)
      have i7 : CI ad h.1 δ0 d5 := by rw [e6]; exact cs_7_4 L I k_a0 (by omega) (by omega)
      have u8 := kp_I kp_r e6
      have v9 : q_V d5 = q_V δ := (show q_V d5 = q_V δ by rw [e6]; rfl).trans rfl
      have f10 := cb_7_2 i7 k_a0
      have f11 : (q_I d5 7 2 a0).toInt = (q_I δ 7 2 a0).toInt := congrArg Int32.toInt (by rw [e6]; exact rI_o (by decide))
      have f12 := cb_7_3 i7 k_a0
      have f13 : (q_I d5 7 3 a0).toInt = (q_I δ 7 3 a0).toInt := congrArg Int32.toInt (by rw [e6]; exact rI_o (by decide))
      refine ok_ite (fun h14 => ?_) (fun h14 => ?_)
      · have c15 := o_le h14
        unfold J_X7_ahead_70
        exact ok_some (show CI ad h.1 δ0 d5 ∧ (kp [(7, 3), (7, 4)] δ d5 ∧ q_V d5 = q_V δ) from ⟨i7, ⟨kp_w (by decide) u8, v9⟩⟩)
      · have c16 := o_nle h14
        obtain ⟨b17, o18, k19, n20, w21⟩ := gO_7_0 L k_a0
        refine ok_at o18 ?_
        have f22 : (0 : Int32).toInt = 0 := rfl
        have t23 := ti_tn (q_I d5 7 3 a0)
        refine ok_gd (fun hc24 => ?_) ?_
        · rcases hc24 with hc24 | hc24
          · have c25 := o_lt hc24
            omega
          · omega
        unfold J_X7_ahead_70
        exact ok_some (show CI ad h.1 δ0 d5 ∧ (kp [(7, 3), (7, 4)] δ d5 ∧ q_V d5 = q_V δ) from ⟨i7, ⟨kp_w (by decide) u8, v9⟩⟩)
    · have c26 := o_nle h3
      obtain ⟨b27, o28, k29, n30, w31⟩ := gO_7_0 L k_a0
      refine ok_at o28 ?_
      have f32 : (0 : Int32).toInt = 0 := rfl
      have t33 := ti_tn (q_I δ 7 3 a0)
      refine ok_gd (fun hc34 => ?_) ?_
      · rcases hc34 with hc34 | hc34
        · have c35 := o_lt hc34
          omega
        · omega
      refine ok_ite (fun h36 => ?_) (fun h36 => ?_)
      · have f40 : (1 : Int32).toInt = 1 := rfl
        obtain ⟨q41, f42, f43, f44⟩ := ti_add (q_I δ 7 3 a0) (1 : Int32)
        refine ok_bdv (fun d37 e38 => ?_)
        have i39 : CI ad h.1 δ0 d37 := by rw [e38]; exact cs_7_3 L I k_a0 (by omega) (by omega)
        have u45 := kp_I kp_r e38
        have v46 : q_V d37 = q_V δ := (show q_V d37 = q_V δ by rw [e38]; rfl).trans rfl
        have f47 := cb_7_3 i39 k_a0
        have f48 : (q_I d37 7 3 a0).toInt = (((q_I δ 7 3 a0) + (1 : Int32)) : Int32).toInt := congrArg Int32.toInt (by rw [e38]; exact rI_s)
        refine ok_mono (ih d37 i39  (show 501 - (q_I d37 7 3 a0).toInt < _ by omega)) (fun r49 hr50 => ?_)
        obtain ⟨i51, ⟨u52, v53⟩⟩ := hr50
        have u54 := kp_t u45 u52
        have v55 := v53.trans v46
        have f56 := ti_b r49.1
        exact ⟨by assumption, ⟨kp_w (by decide) u54, v55⟩⟩
      · unfold J_X7_ahead_38
        refine ok_bdv (fun d57 e58 => ?_)
        have i59 : CI ad h.1 δ0 d57 := by rw [e58]; exact cs_7_4 L I k_a0 (by omega) (by omega)
        have u60 := kp_I kp_r e58
        have v61 : q_V d57 = q_V δ := (show q_V d57 = q_V δ by rw [e58]; rfl).trans rfl
        have f62 := cb_7_2 i59 k_a0
        have f63 : (q_I d57 7 2 a0).toInt = (q_I δ 7 2 a0).toInt := congrArg Int32.toInt (by rw [e58]; exact rI_o (by decide))
        have f64 := cb_7_3 i59 k_a0
        have f65 : (q_I d57 7 3 a0).toInt = (q_I δ 7 3 a0).toInt := congrArg Int32.toInt (by rw [e58]; exact rI_o (by decide))
        refine ok_ite (fun h66 => ?_) (fun h66 => ?_)
        · have c67 := o_le h66
          unfold J_X7_ahead_70
          exact ok_some (show CI ad h.1 δ0 d57 ∧ (kp [(7, 3), (7, 4)] δ d57 ∧ q_V d57 = q_V δ) from ⟨i59, ⟨kp_w (by decide) u60, v61⟩⟩)
        · have c68 := o_nle h66
          refine ok_at o28 ?_
          have t69 := ti_tn (q_I d57 7 3 a0)
          refine ok_gd (fun hc70 => ?_) ?_
          · rcases hc70 with hc70 | hc70
            · have c71 := o_lt hc70
              omega
            · omega
          unfold J_X7_ahead_70
          exact ok_some (show CI ad h.1 δ0 d57 ∧ (kp [(7, 3), (7, 4)] δ d57 ∧ q_V d57 = q_V δ) from ⟨i59, ⟨kp_w (by decide) u60, v61⟩⟩)
set_option maxHeartbeats 4000000 in
theorem k_X7_ahead {ad : List Nat} {h : hp} (L : Lay TLx ad h) {δ0 : dp} {N : Nat} (hN : 10000000 ≤ N) {a0 : Nat} (k_a0 : q_K h.1 a0 = 7) {δ : dp} (I : CI ad h.1 δ0 δ) : ok (D_X7_ahead N h.1 a0 δ) (fun r => CI ad h.1 δ0 r.2 ∧ (kp [(7, 3), (7, 4)] δ r.2 ∧ q_V r.2 = q_V δ)) := by
  unfold D_X7_ahead
  have f1 := cb_7_3 I k_a0
  refine ok_mono (kl_X7_ahead_0 L hN k_a0 _ δ I  (show 501 - (q_I δ 7 3 a0).toInt < _ by omega)) (fun r2 hr3 => ?_)
  obtain ⟨i4, ⟨u5, v6⟩⟩ := hr3
  have u7 := kp_t kp_r u5
  have v8 := v6.trans rfl
  have f9 := ti_b r2.1
  exact ⟨by assumption, ⟨kp_w (by decide) u7, v8⟩⟩
set_option maxHeartbeats 4000000 in
theorem k_X7_takeSign {ad : List Nat} {h : hp} (L : Lay TLx ad h) {δ0 : dp} {N : Nat} (hN : 10000000 ≤ N) {a0 : Nat} {x1 : Int32} (k_a0 : q_K h.1 a0 = 7) {δ : dp} (I : CI ad h.1 δ0 δ) : ok (D_X7_takeSign N h.1 a0 x1 δ) (fun r => CI ad h.1 δ0 r.2 ∧ (kp [(7, 3), (7, 4)] δ r.2 ∧ q_V r.2 = q_V δ) ∧ bo (r.1)) := by
  unfold D_X7_takeSign
  refine ok_bind (k_X7_ahead L hN (a0 := a0) k_a0 I) (fun r1 hr2 => ?_)
  obtain ⟨i3, ⟨u4, v5⟩⟩ := hr2
  have u6 := kp_t kp_r u4
  have v7 := v5.trans rfl
  have f8 := ti_b r1.1
  have f9 := ti_b x1
  refine ok_ite (fun h10 => ?_) (fun h10 => ?_)
  · have c11 := o_eq h10
    unfold J_X7_takeSign_13
    have f12 : (1 : Int32).toInt = 1 := rfl
    have f13 : (0 : Int32).toInt = 0 := rfl
    refine ok_ite (fun h14 => ?_) (fun h14 => ?_)
    · have c15 := o_eq h14
      unfold J_X7_takeSign_28
      refine ok_gp (by decide) ?_
      exact ok_some (show CI ad h.1 δ0 r1.2 ∧ (kp [(7, 3), (7, 4)] δ r1.2 ∧ q_V r1.2 = q_V δ) ∧ bo ((1 : Int32)) from ⟨i3, ⟨kp_w (by decide) u6, v7⟩, bo_1⟩)
    · have c16 := o_ne h14
      have f20 := cb_7_3 i3 k_a0
      obtain ⟨q21, f22, f23, f24⟩ := ti_add (q_I r1.2 7 3 a0) (1 : Int32)
      refine ok_bdv (fun d17 e18 => ?_)
      have i19 : CI ad h.1 δ0 d17 := by rw [e18]; exact cs_7_3 L i3 k_a0 (by omega) (by omega)
      have u25 := kp_I u6 e18
      have v26 : q_V d17 = q_V δ := (show q_V d17 = q_V r1.2 by rw [e18]; rfl).trans v7
      unfold J_X7_takeSign_28
      refine ok_gp (by decide) ?_
      exact ok_some (show CI ad h.1 δ0 d17 ∧ (kp [(7, 3), (7, 4)] δ d17 ∧ q_V d17 = q_V δ) ∧ bo ((1 : Int32)) from ⟨i19, ⟨kp_w (by decide) u25, v26⟩, bo_1⟩)
  · have c27 := o_ne h10
    unfold J_X7_takeSign_13
    have f28 : (0 : Int32).toInt = 0 := rfl
    have f29 : (0 : Int32).toInt = 0 := rfl
    refine ok_ite (fun h30 => ?_) (fun h30 => ?_)
    · have c31 := o_eq h30
      unfold J_X7_takeSign_28
      refine ok_gp (by decide) ?_
      exact ok_some (show CI ad h.1 δ0 r1.2 ∧ (kp [(7, 3), (7, 4)] δ r1.2 ∧ q_V r1.2 = q_V δ) ∧ bo ((0 : Int32)) from ⟨i3, ⟨kp_w (by decide) u6, v7⟩, bo_0⟩)
    · have c32 := o_ne h30
      have f36 := cb_7_3 i3 k_a0
      have f37 : (1 : Int32).toInt = 1 := rfl
      obtain ⟨q38, f39, f40, f41⟩ := ti_add (q_I r1.2 7 3 a0) (1 : Int32)
      refine ok_bdv (fun d33 e34 => ?_)
      have i35 : CI ad h.1 δ0 d33 := by rw [e34]; exact cs_7_3 L i3 k_a0 (by omega) (by omega)
      have u42 := kp_I u6 e34
      have v43 : q_V d33 = q_V δ := (show q_V d33 = q_V r1.2 by rw [e34]; rfl).trans v7
      unfold J_X7_takeSign_28
      refine ok_gp (by decide) ?_
      exact ok_some (show CI ad h.1 δ0 d33 ∧ (kp [(7, 3), (7, 4)] δ d33 ∧ q_V d33 = q_V δ) ∧ bo ((0 : Int32)) from ⟨i35, ⟨kp_w (by decide) u42, v43⟩, bo_0⟩)
set_option maxHeartbeats 4000000 in
theorem k_X7_needSign {ad : List Nat} {h : hp} (L : Lay TLx ad h) {δ0 : dp} {N : Nat} (hN : 10000000 ≤ N) {a0 : Nat} {x1 : Int32} (k_a0 : q_K h.1 a0 = 7) {δ : dp} (I : CI ad h.1 δ0 δ) : ok (D_X7_needSign N h.1 a0 x1 δ) (fun r => CI ad h.1 δ0 r ∧ (kp [(7, 3), (7, 4), (7, 5), (7, 6)] δ r ∧ q_V r = q_V δ) ∧ (q_I δ 7 5 a0).toInt ≠ 0 → (q_I r 7 5 a0).toInt ≠ 0) := by
  unfold D_X7_needSign
  refine ok_bind (k_X7_ahead L hN (a0 := a0) k_a0 I) (fun r1 hr2 => ?_)
  obtain ⟨i3, ⟨u4, v5⟩⟩ := hr2
  have u6 := kp_t kp_r u4
  have v7 := v5.trans rfl
  have f8 := ti_b r1.1
  have f9 := ti_b x1
  refine ok_ite (fun h10 => ?_) (fun h10 => ?_)
  · have c11 := o_eq h10
    have f15 := cb_7_3 i3 k_a0
    have f16 : (1 : Int32).toInt = 1 := rfl
    obtain ⟨q17, f18, f19, f20⟩ := ti_add (q_I r1.2 7 3 a0) (1 : Int32)
    refine ok_bdv (fun d12 e13 => ?_)
    have i14 : CI ad h.1 δ0 d12 := by rw [e13]; exact cs_7_3 L i3 k_a0 (by omega) (by omega)
    have u21 := kp_I u6 e13
    have v22 : q_V d12 = q_V δ := (show q_V d12 = q_V r1.2 by rw [e13]; rfl).trans v7
    unfold J_X7_needSign_26
    have f23 := ti_b (q_I δ 7 5 a0)
    have f24 := ti_b (q_I d12 7 5 a0)
    have f25 : (q_I d12 7 5 a0).toInt = (q_I r1.2 7 5 a0).toInt := congrArg Int32.toInt (by rw [e13]; exact rI_o (by decide))
    have f26 := ti_b (q_I r1.2 7 5 a0)
    have f27 : (q_I r1.2 7 5 a0).toInt = (q_I δ 7 5 a0).toInt := congrArg Int32.toInt (u4 7 5 a0 (by decide))
    exact ok_some (show CI ad h.1 δ0 d12 ∧ (kp [(7, 3), (7, 4), (7, 5), (7, 6)] δ d12 ∧ q_V d12 = q_V δ) ∧ (q_I δ 7 5 a0).toInt ≠ 0 → (q_I d12 7 5 a0).toInt ≠ 0 from ⟨i14, ⟨kp_w (by decide) u21, v22⟩, by first | omega | assumption⟩)
  · have c28 := o_ne h10
    have f31 : (1 : Int32).toInt = 1 := rfl
    refine ok_bind (k_X7_refuse L hN (a0 := a0) (x1 := (1 : Int32)) k_a0 (show ((1 : Int32)).toInt ≠ 0 by first | omega | assumption) i3) (fun r29 hr30 => ?_)
    obtain ⟨i32, ⟨u34, v35⟩, p33⟩ := hr30
    have u36 := kp_t u6 u34
    have v37 := v35.trans v7
    unfold J_X7_needSign_26
    have f38 := ti_b (q_I δ 7 5 a0)
    have f39 := ti_b (q_I r29 7 5 a0)
    exact ok_some (show CI ad h.1 δ0 r29 ∧ (kp [(7, 3), (7, 4), (7, 5), (7, 6)] δ r29 ∧ q_V r29 = q_V δ) ∧ (q_I δ 7 5 a0).toInt ≠ 0 → (q_I r29 7 5 a0).toInt ≠ 0 from ⟨i32, ⟨kp_w (by decide) u36, v37⟩, by first | omega | assumption⟩)
set_option maxHeartbeats 4000000 in
theorem kl_X7_readWord_5 {ad : List Nat} {h : hp} (L : Lay TLx ad h) {δ0 : dp} {N : Nat} (hN : 10000000 ≤ N) {a0 : Nat} (k_a0 : q_K h.1 a0 = 7) : ∀ (n : Nat) (δ : dp), CI ad h.1 δ0 δ → 501 - (q_I δ 7 3 a0).toInt < (n : Int) → ok (L_X7_readWord_5 N h.1 a0 n δ) (fun r => CI ad h.1 δ0 r ∧ (kp [(7, 3), (7, 4)] δ r ∧ q_V r = q_V δ)) := by
  intro n
  induction n with
  | zero =>
    intro δ I hm
    have f1 := cb_7_3 I k_a0
    exfalso; omega
  | succ n ih =>
    intro δ I hm
    unfold L_X7_readWord_5
    have f1 := cb_7_3 I k_a0
    have f2 := cb_7_2 I k_a0
    refine ok_ite (fun h3 => ?_) (fun h3 => ?_)
    · have c4 := o_le h3
      unfold J_X7_readWord_57
      exact ok_some (show CI ad h.1 δ0 δ ∧ (kp [(7, 3), (7, 4)] δ δ ∧ q_V δ = q_V δ) from ⟨I, ⟨kp_w (by decide) kp_r, rfl⟩⟩)
    · have c5 := o_nle h3
      obtain ⟨b6, o7, k8, n9, w10⟩ := gO_7_0 L k_a0
      refine ok_at o7 ?_
      have f11 : (0 : Int32).toInt = 0 := rfl
      have t12 := ti_tn (q_I δ 7 3 a0)
      refine ok_gd (fun hc13 => ?_) ?_
      · rcases hc13 with hc13 | hc13
        · have c14 := o_lt hc13
          omega
        · omega
      refine ok_ite (fun h15 => ?_) (fun h15 => ?_)
      · unfold J_X7_readWord_57
        exact ok_some (show CI ad h.1 δ0 δ ∧ (kp [(7, 3), (7, 4)] δ δ ∧ q_V δ = q_V δ) from ⟨I, ⟨kp_w (by decide) kp_r, rfl⟩⟩)
      · refine ok_at o7 ?_
        refine ok_gd (fun hc16 => ?_) ?_
        · rcases hc16 with hc16 | hc16
          · have c17 := o_lt hc16
            omega
          · omega
        refine ok_ite (fun h18 => ?_) (fun h18 => ?_)
        · unfold J_X7_readWord_57
          exact ok_some (show CI ad h.1 δ0 δ ∧ (kp [(7, 3), (7, 4)] δ δ ∧ q_V δ = q_V δ) from ⟨I, ⟨kp_w (by decide) kp_r, rfl⟩⟩)
        · have f22 : (1 : Int32).toInt = 1 := rfl
          obtain ⟨q23, f24, f25, f26⟩ := ti_add (q_I δ 7 3 a0) (1 : Int32)
          refine ok_bdv (fun d19 e20 => ?_)
          have i21 : CI ad h.1 δ0 d19 := by rw [e20]; exact cs_7_3 L I k_a0 (by omega) (by omega)
          have u27 := kp_I kp_r e20
          have v28 : q_V d19 = q_V δ := (show q_V d19 = q_V δ by rw [e20]; rfl).trans rfl
          have f29 := cb_7_3 i21 k_a0
          have f30 : (q_I d19 7 3 a0).toInt = (((q_I δ 7 3 a0) + (1 : Int32)) : Int32).toInt := congrArg Int32.toInt (by rw [e20]; exact rI_s)
          refine ok_mono (ih d19 i21  (show 501 - (q_I d19 7 3 a0).toInt < _ by omega)) (fun r31 hr32 => ?_)
          obtain ⟨i33, ⟨u34, v35⟩⟩ := hr32
          have u36 := kp_t u27 u34
          have v37 := v35.trans v28
          exact ⟨by assumption, ⟨kp_w (by decide) u36, v37⟩⟩
set_option maxHeartbeats 4000000 in
theorem k_X7_readWord {ad : List Nat} {h : hp} (L : Lay TLx ad h) {δ0 : dp} {N : Nat} (hN : 10000000 ≤ N) {a0 : Nat} (k_a0 : q_K h.1 a0 = 7) {δ : dp} (I : CI ad h.1 δ0 δ) : ok (D_X7_readWord N h.1 a0 δ) (fun r => CI ad h.1 δ0 r ∧ (kp [(7, 3), (7, 4)] δ r ∧ q_V r = q_V δ)) := by
  unfold D_X7_readWord
  refine ok_bind (k_X7_ahead L hN (a0 := a0) k_a0 I) (fun r1 hr2 => ?_)
  obtain ⟨i3, ⟨u4, v5⟩⟩ := hr2
  have u6 := kp_t kp_r u4
  have v7 := v5.trans rfl
  have f8 := ti_b r1.1
  have f9 := cb_7_3 i3 k_a0
  refine ok_mono (kl_X7_readWord_5 L hN k_a0 _ r1.2 i3  (show 501 - (q_I r1.2 7 3 a0).toInt < _ by omega)) (fun r10 hr11 => ?_)
  obtain ⟨i12, ⟨u13, v14⟩⟩ := hr11
  have u15 := kp_t u6 u13
  have v16 := v14.trans v7
  exact ⟨by assumption, ⟨kp_w (by decide) u15, v16⟩⟩
set_option maxHeartbeats 4000000 in
theorem kl_X7_wordIs_20 {ad : List Nat} {h : hp} (L : Lay TLx ad h) {δ0 : dp} {N : Nat} (hN : 10000000 ≤ N) {a0 : Nat} {a1 : Nat} (k_a0 : q_K h.1 a0 = 7) : ∀ (n : Nat) (x2v : Int32) (δ : dp), CI ad h.1 δ0 δ → 0 ≤ (x2v).toInt → (x2v).toInt ≤ (tx_n a1 : Int) → (q_I δ 7 3 a0).toInt - (q_I δ 7 4 a0).toInt = (tx_n a1 : Int) → a1 < 16 → (tx_n a1 : Int) - (x2v).toInt < (n : Int) → ok (L_X7_wordIs_20 N h.1 a0 a1 n x2v δ) (fun r => r.2 = δ ∧ bo (r.1)) := by
  intro n
  induction n with
  | zero =>
    intro x2v δ I j0 j1 j2 j3 hm
    have f1 := cb_7_3 I k_a0
    have f2 := cb_7_4 I k_a0
    have f3 := ti_b x2v
    exfalso; omega
  | succ n ih =>
    intro x2v δ I j0 j1 j2 j3 hm
    unfold L_X7_wordIs_20
    have f1 := cb_7_3 I k_a0
    have f2 := cb_7_4 I k_a0
    have f3 := ti_b x2v
    refine ok_bind (k_J0_length_8abf5 L hN (a0 := a1) (show a1 < 16 by first | omega | assumption) I) (fun r4 hr5 => ?_)
    obtain ⟨i6, p7⟩ := hr5
    try simp only [i6]
    have f8 := ti_b r4.1
    refine ok_ite (fun h9 => ?_) (fun h9 => ?_)
    · have c10 := o_le h9
      refine ok_gp (by decide) ?_
      have f11 : (1 : Int32).toInt = 1 := rfl
      exact ok_some (show δ = δ ∧ bo ((1 : Int32)) from ⟨rfl, bo_1⟩)
    · have c12 := o_nle h9
      obtain ⟨b13, o14, k15, n16, w17⟩ := gO_7_0 L k_a0
      refine ok_at o14 ?_
      obtain ⟨q18, f19, f20, f21⟩ := ti_add (q_I δ 7 4 a0) x2v
      have f22 : (0 : Int32).toInt = 0 := rfl
      have t23 := ti_tn ((q_I δ 7 4 a0) + x2v)
      refine ok_gd (fun hc24 => ?_) ?_
      · rcases hc24 with hc24 | hc24
        · have c25 := o_lt hc24
          omega
        · omega
      refine ok_bind (k_J0_charAt_5068e L hN (a0 := a1) (x1 := x2v) (show a1 < 16 by first | omega | assumption) (show 0 ≤ (x2v).toInt by first | omega | assumption) (show (x2v).toInt < (tx_n a1 : Int) by first | omega | assumption) I) (fun r26 hr27 => ?_)
      have i28 := hr27
      try simp only [i28]
      have f29 := ti_b r26.1
      refine ok_ite (fun h30 => ?_) (fun h30 => ?_)
      · have f33 : (1 : Int32).toInt = 1 := rfl
        obtain ⟨q34, f35, f36, f37⟩ := ti_add x2v (1 : Int32)
        refine ok_biv (fun vx31 e32 => ?_)
        have f38 := congrArg Int32.toInt e32
        refine ok_mono (ih vx31 δ I (show 0 ≤ (vx31).toInt by first | omega | assumption) (show (vx31).toInt ≤ (tx_n a1 : Int) by first | omega | assumption) (show (q_I δ 7 3 a0).toInt - (q_I δ 7 4 a0).toInt = (tx_n a1 : Int) by first | omega | assumption) (show a1 < 16 by first | omega | assumption) (show (tx_n a1 : Int) - (vx31).toInt < _ by omega)) (fun r39 hr40 => ?_)
        obtain ⟨i41, p42⟩ := hr40
        try simp only [i41]
        have f43 := bo_t p42
        have f44 := ti_b r39.1
        exact ⟨by assumption, by first | omega | assumption⟩
      · refine ok_gp (by decide) ?_
        exact ok_some (show δ = δ ∧ bo ((0 : Int32)) from ⟨rfl, bo_0⟩)
set_option maxHeartbeats 4000000 in
theorem k_X7_wordIs {ad : List Nat} {h : hp} (L : Lay TLx ad h) {δ0 : dp} {N : Nat} (hN : 10000000 ≤ N) {a0 : Nat} {a1 : Nat} (k_a0 : q_K h.1 a0 = 7) {δ : dp} (z0 : a1 < 16) (I : CI ad h.1 δ0 δ) : ok (D_X7_wordIs N h.1 a0 a1 δ) (fun r => r.2 = δ ∧ bo (r.1)) := by
  unfold D_X7_wordIs
  refine ok_bind (k_J0_length_8abf5 L hN (a0 := a1) (show a1 < 16 by first | omega | assumption) I) (fun r1 hr2 => ?_)
  obtain ⟨i3, p4⟩ := hr2
  try simp only [i3]
  have f5 := ti_b r1.1
  have f6 := cb_7_3 I k_a0
  have f7 := cb_7_4 I k_a0
  obtain ⟨q8, f9, f10, f11⟩ := ti_sub (q_I δ 7 3 a0) (q_I δ 7 4 a0)
  refine ok_ite (fun h12 => ?_) (fun h12 => ?_)
  · have c13 := o_eq h12
    have f14 : (0 : Int32).toInt = 0 := rfl
    refine ok_mono (kl_X7_wordIs_20 L hN k_a0 _ (0 : Int32) δ I (show 0 ≤ ((0 : Int32)).toInt by first | omega | assumption) (show ((0 : Int32)).toInt ≤ (tx_n a1 : Int) by first | omega | assumption) (show (q_I δ 7 3 a0).toInt - (q_I δ 7 4 a0).toInt = (tx_n a1 : Int) by first | omega | assumption) (show a1 < 16 by first | omega | assumption) (show (tx_n a1 : Int) - ((0 : Int32)).toInt < _ by omega)) (fun r15 hr16 => ?_)
    obtain ⟨i17, p18⟩ := hr16
    try simp only [i17]
    have f19 := bo_t p18
    have f20 := ti_b r15.1
    exact ⟨by assumption, by first | omega | assumption⟩
  · have c21 := o_ne h12
    refine ok_gp (by decide) ?_
    have f22 : (0 : Int32).toInt = 0 := rfl
    exact ok_some (show δ = δ ∧ bo ((0 : Int32)) from ⟨rfl, bo_0⟩)
set_option maxHeartbeats 4000000 in
theorem kl_X7_readNumber_7 {ad : List Nat} {h : hp} (L : Lay TLx ad h) {δ0 : dp} {N : Nat} (hN : 10000000 ≤ N) {a0 : Nat} {x1 : Int32} {x2 : Int32} (k_a0 : q_K h.1 a0 = 7) : ∀ (n : Nat) (x3v : Int32) (δ : dp), CI ad h.1 δ0 δ → 0 ≤ (x3v).toInt → (x3v).toInt ≤ 1000000 → 501 - (q_I δ 7 3 a0).toInt < (n : Int) → ok (L_X7_readNumber_7 N h.1 a0 x1 x2 n x3v δ) (fun r => CI ad h.1 δ0 r.2 ∧ (kp [(7, 3), (7, 4), (7, 5), (7, 6)] δ r.2 ∧ q_V r.2 = q_V δ) ∧ 0 ≤ (r.1).toInt ∧ (r.1).toInt ≤ 1000000 ∧ (q_I δ 7 5 a0).toInt ≠ 0 → (q_I r.2 7 5 a0).toInt ≠ 0 ∧ (q_I r.2 7 5 a0).toInt = 0 → (x1).toInt ≤ (r.1).toInt ∧ (r.1).toInt ≤ (x2).toInt) := by
  intro n
  induction n with
  | zero =>
    intro x3v δ I j0 j1 hm
    have f1 := cb_7_3 I k_a0
    have f2 := ti_b x3v
    exfalso; omega
  | succ n ih =>
    intro x3v δ I j0 j1 hm
    unfold L_X7_readNumber_7
    have f1 := cb_7_3 I k_a0
    have f2 := ti_b x3v
    have f3 := cb_7_2 I k_a0
    refine ok_ite (fun h4 => ?_) (fun h4 => ?_)
    · have c5 := o_le h4
      unfold J_X7_readNumber_82
      have f6 := cb_7_4 I k_a0
      refine ok_ite (fun h7 => ?_) (fun h7 => ?_)
      · have c8 := o_eq h7
        have f11 : (1 : Int32).toInt = 1 := rfl
        refine ok_bind (k_X7_refuse L hN (a0 := a0) (x1 := (1 : Int32)) k_a0 (show ((1 : Int32)).toInt ≠ 0 by first | omega | assumption) I) (fun r9 hr10 => ?_)
        obtain ⟨i12, ⟨u14, v15⟩, p13⟩ := hr10
        have u16 := kp_t kp_r u14
        have v17 := v15.trans rfl
        unfold J_X7_readNumber_116
        have f18 := ti_b (q_I δ 7 5 a0)
        have f19 := ti_b (q_I r9 7 5 a0)
        have f20 := ti_b x1
        have f21 := ti_b x2
        exact ok_some (show CI ad h.1 δ0 r9 ∧ (kp [(7, 3), (7, 4), (7, 5), (7, 6)] δ r9 ∧ q_V r9 = q_V δ) ∧ 0 ≤ (x3v).toInt ∧ (x3v).toInt ≤ 1000000 ∧ (q_I δ 7 5 a0).toInt ≠ 0 → (q_I r9 7 5 a0).toInt ≠ 0 ∧ (q_I r9 7 5 a0).toInt = 0 → (x1).toInt ≤ (x3v).toInt ∧ (x3v).toInt ≤ (x2).toInt from ⟨i12, ⟨kp_w (by decide) u16, v17⟩, by first | omega | assumption, by first | omega | assumption, by first | omega | assumption, by first | omega | assumption⟩)
      · have c22 := o_ne h7
        have f23 := ti_b x1
        refine ok_ite (fun h24 => ?_) (fun h24 => ?_)
        · have c25 := o_lt h24
          unfold J_X7_readNumber_111
          have f28 : (2 : Int32).toInt = 2 := rfl
          refine ok_bind (k_X7_refuse L hN (a0 := a0) (x1 := (2 : Int32)) k_a0 (show ((2 : Int32)).toInt ≠ 0 by first | omega | assumption) I) (fun r26 hr27 => ?_)
          obtain ⟨i29, ⟨u31, v32⟩, p30⟩ := hr27
          have u33 := kp_t kp_r u31
          have v34 := v32.trans rfl
          unfold J_X7_readNumber_116
          have f35 := ti_b (q_I δ 7 5 a0)
          have f36 := ti_b (q_I r26 7 5 a0)
          have f37 := ti_b x2
          exact ok_some (show CI ad h.1 δ0 r26 ∧ (kp [(7, 3), (7, 4), (7, 5), (7, 6)] δ r26 ∧ q_V r26 = q_V δ) ∧ 0 ≤ (x3v).toInt ∧ (x3v).toInt ≤ 1000000 ∧ (q_I δ 7 5 a0).toInt ≠ 0 → (q_I r26 7 5 a0).toInt ≠ 0 ∧ (q_I r26 7 5 a0).toInt = 0 → (x1).toInt ≤ (x3v).toInt ∧ (x3v).toInt ≤ (x2).toInt from ⟨i29, ⟨kp_w (by decide) u33, v34⟩, by first | omega | assumption, by first | omega | assumption, by first | omega | assumption, by first | omega | assumption⟩)
        · have c38 := o_nlt h24
          have f39 := ti_b x2
          refine ok_ite (fun h40 => ?_) (fun h40 => ?_)
          · have c41 := o_le h40
            unfold J_X7_readNumber_116
            have f42 := ti_b (q_I δ 7 5 a0)
            exact ok_some (show CI ad h.1 δ0 δ ∧ (kp [(7, 3), (7, 4), (7, 5), (7, 6)] δ δ ∧ q_V δ = q_V δ) ∧ 0 ≤ (x3v).toInt ∧ (x3v).toInt ≤ 1000000 ∧ (q_I δ 7 5 a0).toInt ≠ 0 → (q_I δ 7 5 a0).toInt ≠ 0 ∧ (q_I δ 7 5 a0).toInt = 0 → (x1).toInt ≤ (x3v).toInt ∧ (x3v).toInt ≤ (x2).toInt from ⟨I, ⟨kp_w (by decide) kp_r, rfl⟩, by first | omega | assumption, by first | omega | assumption, by first | omega | assumption, by first | omega | assumption⟩)
          · have c43 := o_nle h40
            unfold J_X7_readNumber_111
            have f46 : (2 : Int32).toInt = 2 := rfl
            refine ok_bind (k_X7_refuse L hN (a0 := a0) (x1 := (2 : Int32)) k_a0 (show ((2 : Int32)).toInt ≠ 0 by first | omega | assumption) I) (fun r44 hr45 => ?_)
            obtain ⟨i47, ⟨u49, v50⟩, p48⟩ := hr45
            have u51 := kp_t kp_r u49
            have v52 := v50.trans rfl
            unfold J_X7_readNumber_116
            have f53 := ti_b (q_I δ 7 5 a0)
            have f54 := ti_b (q_I r44 7 5 a0)
            exact ok_some (show CI ad h.1 δ0 r44 ∧ (kp [(7, 3), (7, 4), (7, 5), (7, 6)] δ r44 ∧ q_V r44 = q_V δ) ∧ 0 ≤ (x3v).toInt ∧ (x3v).toInt ≤ 1000000 ∧ (q_I δ 7 5 a0).toInt ≠ 0 → (q_I r44 7 5 a0).toInt ≠ 0 ∧ (q_I r44 7 5 a0).toInt = 0 → (x1).toInt ≤ (x3v).toInt ∧ (x3v).toInt ≤ (x2).toInt from ⟨i47, ⟨kp_w (by decide) u51, v52⟩, by first | omega | assumption, by first | omega | assumption, by first | omega | assumption, by first | omega | assumption⟩)
    · have c55 := o_nle h4
      obtain ⟨b56, o57, k58, n59, w60⟩ := gO_7_0 L k_a0
      refine ok_at o57 ?_
      have f61 : (0 : Int32).toInt = 0 := rfl
      have t62 := ti_tn (q_I δ 7 3 a0)
      refine ok_gd (fun hc63 => ?_) ?_
      · rcases hc63 with hc63 | hc63
        · have c64 := o_lt hc63
          omega
        · omega
      refine ok_ite (fun h65 => ?_) (fun h65 => ?_)
      · unfold J_X7_readNumber_82
        have f66 := cb_7_4 I k_a0
        refine ok_ite (fun h67 => ?_) (fun h67 => ?_)
        · have c68 := o_eq h67
          have f71 : (1 : Int32).toInt = 1 := rfl
          refine ok_bind (k_X7_refuse L hN (a0 := a0) (x1 := (1 : Int32)) k_a0 (show ((1 : Int32)).toInt ≠ 0 by first | omega | assumption) I) (fun r69 hr70 => ?_)
          obtain ⟨i72, ⟨u74, v75⟩, p73⟩ := hr70
          have u76 := kp_t kp_r u74
          have v77 := v75.trans rfl
          unfold J_X7_readNumber_116
          have f78 := ti_b (q_I δ 7 5 a0)
          have f79 := ti_b (q_I r69 7 5 a0)
          have f80 := ti_b x1
          have f81 := ti_b x2
          exact ok_some (show CI ad h.1 δ0 r69 ∧ (kp [(7, 3), (7, 4), (7, 5), (7, 6)] δ r69 ∧ q_V r69 = q_V δ) ∧ 0 ≤ (x3v).toInt ∧ (x3v).toInt ≤ 1000000 ∧ (q_I δ 7 5 a0).toInt ≠ 0 → (q_I r69 7 5 a0).toInt ≠ 0 ∧ (q_I r69 7 5 a0).toInt = 0 → (x1).toInt ≤ (x3v).toInt ∧ (x3v).toInt ≤ (x2).toInt from ⟨i72, ⟨kp_w (by decide) u76, v77⟩, by first | omega | assumption, by first | omega | assumption, by first | omega | assumption, by first | omega | assumption⟩)
        · have c82 := o_ne h67
          have f83 := ti_b x1
          refine ok_ite (fun h84 => ?_) (fun h84 => ?_)
          · have c85 := o_lt h84
            unfold J_X7_readNumber_111
            have f88 : (2 : Int32).toInt = 2 := rfl
            refine ok_bind (k_X7_refuse L hN (a0 := a0) (x1 := (2 : Int32)) k_a0 (show ((2 : Int32)).toInt ≠ 0 by first | omega | assumption) I) (fun r86 hr87 => ?_)
            obtain ⟨i89, ⟨u91, v92⟩, p90⟩ := hr87
            have u93 := kp_t kp_r u91
            have v94 := v92.trans rfl
            unfold J_X7_readNumber_116
            have f95 := ti_b (q_I δ 7 5 a0)
            have f96 := ti_b (q_I r86 7 5 a0)
            have f97 := ti_b x2
            exact ok_some (show CI ad h.1 δ0 r86 ∧ (kp [(7, 3), (7, 4), (7, 5), (7, 6)] δ r86 ∧ q_V r86 = q_V δ) ∧ 0 ≤ (x3v).toInt ∧ (x3v).toInt ≤ 1000000 ∧ (q_I δ 7 5 a0).toInt ≠ 0 → (q_I r86 7 5 a0).toInt ≠ 0 ∧ (q_I r86 7 5 a0).toInt = 0 → (x1).toInt ≤ (x3v).toInt ∧ (x3v).toInt ≤ (x2).toInt from ⟨i89, ⟨kp_w (by decide) u93, v94⟩, by first | omega | assumption, by first | omega | assumption, by first | omega | assumption, by first | omega | assumption⟩)
          · have c98 := o_nlt h84
            have f99 := ti_b x2
            refine ok_ite (fun h100 => ?_) (fun h100 => ?_)
            · have c101 := o_le h100
              unfold J_X7_readNumber_116
              have f102 := ti_b (q_I δ 7 5 a0)
              exact ok_some (show CI ad h.1 δ0 δ ∧ (kp [(7, 3), (7, 4), (7, 5), (7, 6)] δ δ ∧ q_V δ = q_V δ) ∧ 0 ≤ (x3v).toInt ∧ (x3v).toInt ≤ 1000000 ∧ (q_I δ 7 5 a0).toInt ≠ 0 → (q_I δ 7 5 a0).toInt ≠ 0 ∧ (q_I δ 7 5 a0).toInt = 0 → (x1).toInt ≤ (x3v).toInt ∧ (x3v).toInt ≤ (x2).toInt from ⟨I, ⟨kp_w (by decide) kp_r, rfl⟩, by first | omega | assumption, by first | omega | assumption, by first | omega | assumption, by first | omega | assumption⟩)
            · have c103 := o_nle h100
              unfold J_X7_readNumber_111
              have f106 : (2 : Int32).toInt = 2 := rfl
              refine ok_bind (k_X7_refuse L hN (a0 := a0) (x1 := (2 : Int32)) k_a0 (show ((2 : Int32)).toInt ≠ 0 by first | omega | assumption) I) (fun r104 hr105 => ?_)
              obtain ⟨i107, ⟨u109, v110⟩, p108⟩ := hr105
              have u111 := kp_t kp_r u109
              have v112 := v110.trans rfl
              unfold J_X7_readNumber_116
              have f113 := ti_b (q_I δ 7 5 a0)
              have f114 := ti_b (q_I r104 7 5 a0)
              exact ok_some (show CI ad h.1 δ0 r104 ∧ (kp [(7, 3), (7, 4), (7, 5), (7, 6)] δ r104 ∧ q_V r104 = q_V δ) ∧ 0 ≤ (x3v).toInt ∧ (x3v).toInt ≤ 1000000 ∧ (q_I δ 7 5 a0).toInt ≠ 0 → (q_I r104 7 5 a0).toInt ≠ 0 ∧ (q_I r104 7 5 a0).toInt = 0 → (x1).toInt ≤ (x3v).toInt ∧ (x3v).toInt ≤ (x2).toInt from ⟨i107, ⟨kp_w (by decide) u111, v112⟩, by first | omega | assumption, by first | omega | assumption, by first | omega | assumption, by first | omega | assumption⟩)
      · refine ok_at o57 ?_
        refine ok_gd (fun hc115 => ?_) ?_
        · rcases hc115 with hc115 | hc115
          · have c116 := o_lt hc115
            omega
          · omega
        refine ok_ite (fun h117 => ?_) (fun h117 => ?_)
        · unfold J_X7_readNumber_82
          have f118 := cb_7_4 I k_a0
          refine ok_ite (fun h119 => ?_) (fun h119 => ?_)
          · have c120 := o_eq h119
            have f123 : (1 : Int32).toInt = 1 := rfl
            refine ok_bind (k_X7_refuse L hN (a0 := a0) (x1 := (1 : Int32)) k_a0 (show ((1 : Int32)).toInt ≠ 0 by first | omega | assumption) I) (fun r121 hr122 => ?_)
            obtain ⟨i124, ⟨u126, v127⟩, p125⟩ := hr122
            have u128 := kp_t kp_r u126
            have v129 := v127.trans rfl
            unfold J_X7_readNumber_116
            have f130 := ti_b (q_I δ 7 5 a0)
            have f131 := ti_b (q_I r121 7 5 a0)
            have f132 := ti_b x1
            have f133 := ti_b x2
            exact ok_some (show CI ad h.1 δ0 r121 ∧ (kp [(7, 3), (7, 4), (7, 5), (7, 6)] δ r121 ∧ q_V r121 = q_V δ) ∧ 0 ≤ (x3v).toInt ∧ (x3v).toInt ≤ 1000000 ∧ (q_I δ 7 5 a0).toInt ≠ 0 → (q_I r121 7 5 a0).toInt ≠ 0 ∧ (q_I r121 7 5 a0).toInt = 0 → (x1).toInt ≤ (x3v).toInt ∧ (x3v).toInt ≤ (x2).toInt from ⟨i124, ⟨kp_w (by decide) u128, v129⟩, by first | omega | assumption, by first | omega | assumption, by first | omega | assumption, by first | omega | assumption⟩)
          · have c134 := o_ne h119
            have f135 := ti_b x1
            refine ok_ite (fun h136 => ?_) (fun h136 => ?_)
            · have c137 := o_lt h136
              unfold J_X7_readNumber_111
              have f140 : (2 : Int32).toInt = 2 := rfl
              refine ok_bind (k_X7_refuse L hN (a0 := a0) (x1 := (2 : Int32)) k_a0 (show ((2 : Int32)).toInt ≠ 0 by first | omega | assumption) I) (fun r138 hr139 => ?_)
              obtain ⟨i141, ⟨u143, v144⟩, p142⟩ := hr139
              have u145 := kp_t kp_r u143
              have v146 := v144.trans rfl
              unfold J_X7_readNumber_116
              have f147 := ti_b (q_I δ 7 5 a0)
              have f148 := ti_b (q_I r138 7 5 a0)
              have f149 := ti_b x2
              exact ok_some (show CI ad h.1 δ0 r138 ∧ (kp [(7, 3), (7, 4), (7, 5), (7, 6)] δ r138 ∧ q_V r138 = q_V δ) ∧ 0 ≤ (x3v).toInt ∧ (x3v).toInt ≤ 1000000 ∧ (q_I δ 7 5 a0).toInt ≠ 0 → (q_I r138 7 5 a0).toInt ≠ 0 ∧ (q_I r138 7 5 a0).toInt = 0 → (x1).toInt ≤ (x3v).toInt ∧ (x3v).toInt ≤ (x2).toInt from ⟨i141, ⟨kp_w (by decide) u145, v146⟩, by first | omega | assumption, by first | omega | assumption, by first | omega | assumption, by first | omega | assumption⟩)
            · have c150 := o_nlt h136
              have f151 := ti_b x2
              refine ok_ite (fun h152 => ?_) (fun h152 => ?_)
              · have c153 := o_le h152
                unfold J_X7_readNumber_116
                have f154 := ti_b (q_I δ 7 5 a0)
                exact ok_some (show CI ad h.1 δ0 δ ∧ (kp [(7, 3), (7, 4), (7, 5), (7, 6)] δ δ ∧ q_V δ = q_V δ) ∧ 0 ≤ (x3v).toInt ∧ (x3v).toInt ≤ 1000000 ∧ (q_I δ 7 5 a0).toInt ≠ 0 → (q_I δ 7 5 a0).toInt ≠ 0 ∧ (q_I δ 7 5 a0).toInt = 0 → (x1).toInt ≤ (x3v).toInt ∧ (x3v).toInt ≤ (x2).toInt from ⟨I, ⟨kp_w (by decide) kp_r, rfl⟩, by first | omega | assumption, by first | omega | assumption, by first | omega | assumption, by first | omega | assumption⟩)
              · have c155 := o_nle h152
                unfold J_X7_readNumber_111
                have f158 : (2 : Int32).toInt = 2 := rfl
                refine ok_bind (k_X7_refuse L hN (a0 := a0) (x1 := (2 : Int32)) k_a0 (show ((2 : Int32)).toInt ≠ 0 by first | omega | assumption) I) (fun r156 hr157 => ?_)
                obtain ⟨i159, ⟨u161, v162⟩, p160⟩ := hr157
                have u163 := kp_t kp_r u161
                have v164 := v162.trans rfl
                unfold J_X7_readNumber_116
                have f165 := ti_b (q_I δ 7 5 a0)
                have f166 := ti_b (q_I r156 7 5 a0)
                exact ok_some (show CI ad h.1 δ0 r156 ∧ (kp [(7, 3), (7, 4), (7, 5), (7, 6)] δ r156 ∧ q_V r156 = q_V δ) ∧ 0 ≤ (x3v).toInt ∧ (x3v).toInt ≤ 1000000 ∧ (q_I δ 7 5 a0).toInt ≠ 0 → (q_I r156 7 5 a0).toInt ≠ 0 ∧ (q_I r156 7 5 a0).toInt = 0 → (x1).toInt ≤ (x3v).toInt ∧ (x3v).toInt ≤ (x2).toInt from ⟨i159, ⟨kp_w (by decide) u163, v164⟩, by first | omega | assumption, by first | omega | assumption, by first | omega | assumption, by first | omega | assumption⟩)
        · refine ok_at o57 ?_
          refine ok_gd (fun hc167 => ?_) ?_
          · rcases hc167 with hc167 | hc167
            · have c168 := o_lt hc167
              omega
            · omega
          refine ok_bind (k_J9_min_7cf53 L hN (x0 := (((x3v * (10 : Int32)) + (q_R δ b56 (q_I δ 7 3 a0).toNatClampNeg)) - (48 : Int32))) (x1 := (1000000 : Int32))  I) (fun r169 hr170 => ?_)
          obtain ⟨i171, p172, p173, p174⟩ := hr170
          try simp only [i171]
          have f175 := ti_b r169.1
          have f179 : (1 : Int32).toInt = 1 := rfl
          obtain ⟨q180, f181, f182, f183⟩ := ti_add (q_I δ 7 3 a0) (1 : Int32)
          refine ok_bdv (fun d176 e177 => ?_)
          have i178 : CI ad h.1 δ0 d176 := by rw [e177]; exact cs_7_3 L I k_a0 (by omega) (by omega)
          have u184 := kp_I kp_r e177
          have v185 : q_V d176 = q_V δ := (show q_V d176 = q_V δ by rw [e177]; rfl).trans rfl
          have f186 := cb_7_3 i178 k_a0
          have f187 : (q_I d176 7 3 a0).toInt = (((q_I δ 7 3 a0) + (1 : Int32)) : Int32).toInt := congrArg Int32.toInt (by rw [e177]; exact rI_s)
          refine ok_mono (ih r169.1 d176 i178 (show 0 ≤ (r169.1).toInt by first | omega | assumption) (show (r169.1).toInt ≤ 1000000 by first | omega | assumption) (show 501 - (q_I d176 7 3 a0).toInt < _ by omega)) (fun r188 hr189 => ?_)
          obtain ⟨i190, ⟨u195, v196⟩, p191, p192, p193, p194⟩ := hr189
          have u197 := kp_t u184 u195
          have v198 := v196.trans v185
          have f199 := ti_b r188.1
          have f200 := ti_b (q_I δ 7 5 a0)
          have f201 := ti_b (q_I r188.2 7 5 a0)
          have f202 := ti_b x1
          have f203 := ti_b x2
          exact ⟨by assumption, ⟨kp_w (by decide) u197, v198⟩, by first | omega | assumption, by first | omega | assumption, by first | omega | assumption, by first | omega | assumption⟩
set_option maxHeartbeats 4000000 in
theorem k_X7_readNumber {ad : List Nat} {h : hp} (L : Lay TLx ad h) {δ0 : dp} {N : Nat} (hN : 10000000 ≤ N) {a0 : Nat} {x1 : Int32} {x2 : Int32} (k_a0 : q_K h.1 a0 = 7) {δ : dp} (I : CI ad h.1 δ0 δ) : ok (D_X7_readNumber N h.1 a0 x1 x2 δ) (fun r => CI ad h.1 δ0 r.2 ∧ (kp [(7, 3), (7, 4), (7, 5), (7, 6)] δ r.2 ∧ q_V r.2 = q_V δ) ∧ 0 ≤ (r.1).toInt ∧ (r.1).toInt ≤ 1000000 ∧ (q_I δ 7 5 a0).toInt ≠ 0 → (q_I r.2 7 5 a0).toInt ≠ 0 ∧ (q_I r.2 7 5 a0).toInt = 0 → (x1).toInt ≤ (r.1).toInt ∧ (r.1).toInt ≤ (x2).toInt) := by
  unfold D_X7_readNumber
  refine ok_bind (k_X7_ahead L hN (a0 := a0) k_a0 I) (fun r1 hr2 => ?_)
  obtain ⟨i3, ⟨u4, v5⟩⟩ := hr2
  have u6 := kp_t kp_r u4
  have v7 := v5.trans rfl
  have f8 := ti_b r1.1
  have f9 : (0 : Int32).toInt = 0 := rfl
  have f10 := cb_7_3 i3 k_a0
  refine ok_mono (kl_X7_readNumber_7 L hN k_a0 _ (0 : Int32) r1.2 i3 (show 0 ≤ ((0 : Int32)).toInt by first | omega | assumption) (show ((0 : Int32)).toInt ≤ 1000000 by first | omega | assumption) (show 501 - (q_I r1.2 7 3 a0).toInt < _ by omega)) (fun r11 hr12 => ?_)
  obtain ⟨i13, ⟨u18, v19⟩, p14, p15, p16, p17⟩ := hr12
  have u20 := kp_t u6 u18
  have v21 := v19.trans v7
  have f22 := ti_b r11.1
  have f23 := ti_b (q_I δ 7 5 a0)
  have f24 := ti_b (q_I r11.2 7 5 a0)
  have f25 := ti_b x1
  have f26 := ti_b x2
  exact ⟨by assumption, ⟨kp_w (by decide) u20, v21⟩, by first | omega | assumption, by first | omega | assumption, by first | omega | assumption, by first | omega | assumption⟩
